set_option maxHeartbeats 4000000 in
set_option maxRecDepth 100000 in
/-- the reference: mask() -/
theorem c_mmask (l : Launch) (dC : Nat → ClassId) (dI : Nat → Nat → Nat) (g0 a0 b0 : Nat) (ja jb : ClassId) (k n : Nat) (fc fv : Nat → Int64) (cl su th : Int32)  (hn1 : 1 ≤ n) (hn2 : n ≤ 64) : Met l yX1_mask wsX1_mask ({ frames := 0, cells := 0, slots := 0, locals := 0 }) (va_Pc [.ref g0] (fun U => va_P (dC, dI) vwCl [(g0, .inr (1, [.ref a0, .ref b0, .int (nI k), .int (nI n), .int cl, .int su, .int th])), (a0, .inl (ja, 512, .inr (.inl fc))), (b0, .inl (jb, 512, .inr (.inl fv)))] U.heap ∧ va_K (dC, dI) vwCl [(ja, .long), (jb, .long)] U)) (vp_Sl (fun r : Int64 => r = pt_mk n)) 0 0 (fun _ => False) := by
  refine Met.ofW (cc := cX1_mask) (maxL := 1) (ret := (some .long)) (by decide) rfl ?_
  intro p e s m args below meth c s₁ B hml hv
  obtain ⟨ha, hP, hK⟩ := hv
  have hx := B.exec
  have hb := B.bytes
  have hr := B.returns
  have hts := atoms_spec (ws := wsX1_mask) B.pre
  have hown : s.vm.findClass RX1 = some m.cls := findClass_of_methodNamed B.named
  have hlocks := B.notSynchronized
  have hl := lv_entry ([.ref g0]) (n := 1) (Nat.le_of_ble_eq_true rfl)
  refine W.eq (show entryFrame m args 1 = entryFrame m ([.ref g0] : List Value).toArray 1 by rw [ha]) ?_
  rw [lg_entry_eq]
  generalize (lg_sl ([.ref g0]) ++ List.replicate (1 - (lg_sl ([.ref g0])).length) Slot.unset).toArray = ls at hl ⊢
  have hl : lv_has ls 1 [(0, .ref g0)] := hl
  generalize hQ : MQ below (vp_Sl (fun r : Int64 => r = pt_mk n)) args s 0 0 (fun _ => False) = Q
  refine lv_aload_n hx hb dX1_mask_0 rfl (lv_at hl 0 rfl) ?_
  refine va_get (D := (dC, dI)) (ci := 1) (v := .int (nI n)) (C := RX1) (T := TX1) (N := 7) hx hb hts (fun w h => List.mem_cons_of_mem _ (pt_wsX1 w h)) hown hK hP 0 rfl rfl 3 (by decide) (hts _ (List.mem_cons_of_mem _ pw164)) (fun _ h9 => h9) rfl dX1_mask_1 ?_
  refine lv_bipush (v := 64) hx hb dX1_mask_4 (by decide) ?_
  refine lv_icmp_ne (tgt := 15) hx hb dX1_mask_6 (by decide) (fun h1 => ?_) (fun h1 => ?_)
  · refine lv_lconst (v := 1) hx hb dX1_mask_15 (by decide) ?_
    refine lv_aload_n hx hb dX1_mask_16 rfl (lv_at hl 0 rfl) ?_
    refine va_get (D := (dC, dI)) (ci := 1) (v := .int (nI n)) (C := RX1) (T := TX1) (N := 7) hx hb hts (fun w h => List.mem_cons_of_mem _ (pt_wsX1 w h)) hown hK hP 0 rfl rfl 3 (by decide) (hts _ (List.mem_cons_of_mem _ pw164)) (fun _ h9 => h9) rfl dX1_mask_17 ?_
    refine lv_lshl (v := pt_shl 1 (nI n)) hx hb dX1_mask_20 rfl ?_
    refine lv_lconst (v := 1) hx hb dX1_mask_21 (by decide) ?_
    refine lv_lsub hx hb dX1_mask_22 ?_
    rw [← hQ]
    exact W.lret (v := (pt_shl 1 (nI n)) - 1) hx hb hr (fun t ht hW => ⟨(pt_shl 1 (nI n)) - 1, rfl, by rw [← pt_mk_ref n (by omega) hn1, if_neg h1], ht⟩) t_nil dX1_mask_23
  · refine lv_ldc2 (v := (-1)) hx hb hown (hts _ (List.mem_cons_of_mem _ pw193)) dX1_mask_9 ?_
    refine lv_goto (tgt := 23) hx hb dX1_mask_12 (by decide) ?_
    rw [← hQ]
    exact W.lret (v := (-1)) hx hb hr (fun t ht hW => ⟨(-1), rfl, by rw [← pt_mk_ref n (by omega) hn1, if_pos h1], ht⟩) t_nil dX1_mask_23
set_option maxHeartbeats 4000000 in
set_option maxRecDepth 100000 in
/-- the reference: bits(v) -/
theorem c_bits (l : Launch) (dC : Nat → ClassId) (dI : Nat → Nat → Nat) (v : Int64)  : Met l yX1_bits wsX1_bits ({ frames := 0, cells := 0, slots := 0, locals := 0 }) (va_Pc [.long v] (fun U => va_P (dC, dI) vwCl [] U.heap ∧ va_K (dC, dI) vwCl [] U)) (vp_Si (fun r : Int32 => r = pt_bits v)) 0 0 (fun _ => False) := by
  refine Met.ofW (cc := cX1_bits) (maxL := 4) (ret := (some .int)) (by decide) rfl ?_
  intro p e s m args below meth c s₁ B hml hv
  obtain ⟨ha, hP, hK⟩ := hv
  have hx := B.exec
  have hb := B.bytes
  have hr := B.returns
  have hts := atoms_spec (ws := wsX1_bits) B.pre
  have hown : s.vm.findClass RX1 = some m.cls := findClass_of_methodNamed B.named
  have hlocks := B.notSynchronized
  have hl := lv_entry ([.long v]) (n := 4) (Nat.le_of_ble_eq_true rfl)
  refine W.eq (show entryFrame m args 4 = entryFrame m ([.long v] : List Value).toArray 4 by rw [ha]) ?_
  rw [lg_entry_eq]
  generalize (lg_sl ([.long v]) ++ List.replicate (4 - (lg_sl ([.long v])).length) Slot.unset).toArray = ls at hl ⊢
  have hl : lv_has ls 4 [(0, .long v)] := hl
  generalize hQ : MQ below (vp_Si (fun r : Int32 => r = pt_bits v)) args s 0 0 (fun _ => False) = Q
  refine lv_iconst (v := 0) hx hb dX1_bits_0 (by decide) ?_
  refine lv_istore_n (lv' := [(2, .int 0), (0, .long v)]) hx hb dX1_bits_1 rfl hl (by decide) rfl (fun ls hl => ?_)
  refine lv_iconst (v := 0) hx hb dX1_bits_2 (by decide) ?_
  refine lv_istore_n (lv' := [(3, .int 0), (2, .int 0), (0, .long v)]) hx hb dX1_bits_3 rfl hl (by decide) rfl (fun ls hl => ?_)
  have loop : ∀ (d i : Nat) (ls : Array Slot), 64 - i = d → i ≤ 64 → lv_has ls 4 [(3, .int (nI i)), (2, .int (pt_cnt v i)), (0, .long v)] → W p l e (headSpec wsX1_bits ({ frames := 0, cells := 0, slots := 0, locals := 0 })).room s m args below meth c s.heap [] 0 0 Q (F0 m 4 ls []) := by
    intro d
    induction d with
    | zero =>
      intro i ls hd hi hl
      have hi2 : i = 64 := by omega
      refine lv_iload_n hx hb dX1_bits_4 rfl (lv_at hl 0 rfl) ?_
      refine lv_bipush (v := 64) hx hb dX1_bits_5 (by decide) ?_
      refine lv_icmp_ge (tgt := 25) hx hb dX1_bits_7 (by decide) (fun h1 => ?_) (fun h1 => absurd (nI_le (a := 64) (by omega) (by omega)) h1)
      refine lv_iload_n hx hb dX1_bits_25 rfl (lv_at hl 1 rfl) ?_
      rw [← hQ]
      exact W.iret (v := pt_cnt v i) hx hb hr (fun t ht hW => ⟨pt_cnt v i, rfl, by rw [hi2]; rfl, ht⟩) t_nil dX1_bits_26
    | succ d ih =>
      intro i ls hd hi hl
      refine lv_iload_n hx hb dX1_bits_4 rfl (lv_at hl 0 rfl) ?_
      refine lv_bipush (v := 64) hx hb dX1_bits_5 (by decide) ?_
      refine lv_icmp_ge (tgt := 25) hx hb dX1_bits_7 (by decide) (fun h1 => absurd h1 (nI_ge (b := 64) (by omega) (by omega))) (fun h1 => ?_)
      refine lv_iload_n hx hb dX1_bits_10 rfl (lv_at hl 1 rfl) ?_
      refine lv_lload_n hx hb dX1_bits_11 rfl (lv_at hl 2 rfl) ?_
      refine lv_iload_n hx hb dX1_bits_12 rfl (lv_at hl 0 rfl) ?_
      refine lv_lushr (v := pt_ushr v (nI i)) hx hb dX1_bits_13 rfl ?_
      refine lv_lconst (v := 1) hx hb dX1_bits_14 (by decide) ?_
      refine lv_land hx hb dX1_bits_15 ?_
      refine lv_l2i (v := ((pt_ushr v (nI i)) &&& 1).toInt32) hx hb dX1_bits_16 rfl ?_
      refine lv_iadd hx hb dX1_bits_17 ?_
      refine W.eq (g2 := F0 m 18 ls [.int (pt_cnt v (i + 1))]) rfl ?_
      refine lv_istore_n (lv' := [(2, .int (pt_cnt v (i + 1))), (3, .int (nI i)), (0, .long v)]) hx hb dX1_bits_18 rfl hl (by decide) rfl (fun ls hl => ?_)
      refine lv_iinc (v := nI (i + 1)) (lv' := [(3, .int (nI (i + 1))), (2, .int (pt_cnt v (i + 1))), (0, .long v)]) hx hb dX1_bits_19 hl (k := 1) rfl (by rw [nI_succ]; rfl) (by decide) rfl (fun ls hl => ?_)
      refine lv_goto (tgt := 4) hx hb dX1_bits_22 (by decide) ?_
      exact ih (i + 1) ls (by omega) (by omega) (lv_sub hl [0, 1, 2] rfl)
  exact loop 64 0 ls (by omega) (by omega) (lv_sub hl [0, 1, 2] rfl)
set_option maxHeartbeats 4000000 in
set_option maxRecDepth 100000 in
/-- the reference: power(n) -/
theorem c_power (l : Launch) (dC : Nat → ClassId) (dI : Nat → Nat → Nat) (x : Int32)  : Met l yX1_power wsX1_power ({ frames := 0, cells := 0, slots := 0, locals := 0 }) (va_Pc [.int x] (fun U => va_P (dC, dI) vwCl [] U.heap ∧ va_K (dC, dI) vwCl [] U)) (vp_Sl (fun r : Int64 => r = if x = 64 then (0 : Int64) else pt_shl 1 x)) 0 0 (fun _ => False) := by
  refine Met.ofW (cc := cX1_power) (maxL := 1) (ret := (some .long)) (by decide) rfl ?_
  intro p e s m args below meth c s₁ B hml hv
  obtain ⟨ha, hP, hK⟩ := hv
  have hx := B.exec
  have hb := B.bytes
  have hr := B.returns
  have hts := atoms_spec (ws := wsX1_power) B.pre
  have hown : s.vm.findClass RX1 = some m.cls := findClass_of_methodNamed B.named
  have hlocks := B.notSynchronized
  have hl := lv_entry ([.int x]) (n := 1) (Nat.le_of_ble_eq_true rfl)
  refine W.eq (show entryFrame m args 1 = entryFrame m ([.int x] : List Value).toArray 1 by rw [ha]) ?_
  rw [lg_entry_eq]
  generalize (lg_sl ([.int x]) ++ List.replicate (1 - (lg_sl ([.int x])).length) Slot.unset).toArray = ls at hl ⊢
  have hl : lv_has ls 1 [(0, .int x)] := hl
  generalize hQ : MQ below (vp_Sl (fun r : Int64 => r = if x = 64 then (0 : Int64) else pt_shl 1 x)) args s 0 0 (fun _ => False) = Q
  refine lv_iload_n hx hb dX1_power_0 rfl (lv_at hl 0 rfl) ?_
  refine lv_bipush (v := 64) hx hb dX1_power_1 (by decide) ?_
  refine lv_icmp_ne (tgt := 10) hx hb dX1_power_3 (by decide) (fun h1 => ?_) (fun h1 => ?_)
  · refine lv_lconst (v := 1) hx hb dX1_power_10 (by decide) ?_
    refine lv_iload_n hx hb dX1_power_11 rfl (lv_at hl 0 rfl) ?_
    refine lv_lshl (v := pt_shl 1 x) hx hb dX1_power_12 rfl ?_
    rw [← hQ]
    exact W.lret (v := pt_shl 1 x) hx hb hr (fun t ht hW => ⟨pt_shl 1 x, rfl, (if_neg h1).symm, ht⟩) t_nil dX1_power_13
  · refine lv_lconst (v := 0) hx hb dX1_power_6 (by decide) ?_
    refine lv_goto (tgt := 13) hx hb dX1_power_7 (by decide) ?_
    rw [← hQ]
    exact W.lret (v := 0) hx hb hr (fun t ht hW => ⟨0, rfl, (if_pos h1).symm, ht⟩) t_nil dX1_power_13
set_option maxHeartbeats 4000000 in
set_option maxRecDepth 100000 in
/-- the reference: wrong(c, w) -/
theorem c_wrong (l : Launch) (dC : Nat → ClassId) (dI : Nat → Nat → Nat) (g0 a0 b0 : Nat) (ja jb : ClassId) (k n : Nat) (fc fv : Nat → Int64) (cl su th : Int32) (a b : Int64)  (hn1 : 1 ≤ n) (hn2 : n ≤ 64) : Met l yX1_wrong wsX1_wrong ({ frames := 1, cells := 0, slots := 0, locals := 20 }) (va_Pc [.ref g0, .long a, .long b] (fun U => va_P (dC, dI) vwCl [(g0, .inr (1, [.ref a0, .ref b0, .int (nI k), .int (nI n), .int cl, .int su, .int th])), (a0, .inl (ja, 512, .inr (.inl fc))), (b0, .inl (jb, 512, .inr (.inl fv)))] U.heap ∧ va_K (dC, dI) vwCl [(ja, .long), (jb, .long)] U)) (vp_Si (fun r : Int32 => (r = 1 ∧ pt_stray n a b) ∨ (r = 0 ∧ ¬ pt_stray n a b))) 0 0 (fun _ => False) := by
  refine Met.ofW (cc := cX1_wrong) (maxL := 5) (ret := (some .boolean)) (by decide) rfl ?_
  intro p e s m args below meth c s₁ B hml hv
  obtain ⟨ha, hP, hK⟩ := hv
  have hx := B.exec
  have hb := B.bytes
  have hr := B.returns
  have hts := atoms_spec (ws := wsX1_wrong) B.pre
  have hown : s.vm.findClass RX1 = some m.cls := findClass_of_methodNamed B.named
  have hlocks := B.notSynchronized
  have hl := lv_entry ([.ref g0, .long a, .long b]) (n := 5) (Nat.le_of_ble_eq_true rfl)
  refine W.eq (show entryFrame m args 5 = entryFrame m ([.ref g0, .long a, .long b] : List Value).toArray 5 by rw [ha]) ?_
  rw [lg_entry_eq]
  generalize (lg_sl ([.ref g0, .long a, .long b]) ++ List.replicate (5 - (lg_sl ([.ref g0, .long a, .long b])).length) Slot.unset).toArray = ls at hl ⊢
  have hl : lv_has ls 5 [(0, .ref g0), (1, .long a), (3, .long b)] := hl
  generalize hQ : MQ below (vp_Si (fun r : Int32 => (r = 1 ∧ pt_stray n a b) ∨ (r = 0 ∧ ¬ pt_stray n a b))) args s 0 0 (fun _ => False) = Q
  refine lv_lload_n hx hb dX1_wrong_0 rfl (lv_at hl 2 rfl) ?_
  refine lv_lload_n hx hb dX1_wrong_1 rfl (lv_at hl 1 rfl) ?_
  refine lv_ldc2 (v := (-1)) hx hb hown (hts _ (List.mem_cons_of_mem _ pw193)) dX1_wrong_2 ?_
  refine lv_lxor hx hb dX1_wrong_5 ?_
  refine lv_land hx hb dX1_wrong_6 ?_
  refine lv_aload_n hx hb dX1_wrong_7 rfl (lv_at hl 0 rfl) ?_
  refine vp_callSl (W.runV (As := []) (rest := [.long (b &&& (a ^^^ (-1)))]) ⟨hx, hb, hml, hown, hts⟩ (c_mmask l dC dI g0 a0 b0 ja jb k n fc fv cl su th hn1 hn2) (cwV 0 hts (pt_gV pw194 pw195 pw11 pw18 pw196) rfl rfl rfl (by decide +kernel) ⟨Nat.le_of_ble_eq_true rfl, Nat.le_of_ble_eq_true rfl⟩) ⟨fun a U g mk q => by obtain ⟨q0, qP, qK⟩ := q; exact ⟨q0, qP, va_K.moved (u := U) (U := U.calling g mk a) (Vm.Alike.refl U.vm) qK⟩, va_recv hK hP (ci := 1) (q0 := 0) rfl rfl, fun U hU hW => ⟨rfl, by rw [hU]; exact hP, va_K.moved hW.alike hK⟩⟩ rfl rfl hl.1 rfl (lv_room (Nat.le_of_ble_eq_true rfl)) dX1_wrong_8 ⟨Nat.zero_le _, Nat.zero_le _⟩) (fun r1 hw => ?_)
  subst hw
  refine lv_land hx hb dX1_wrong_11 ?_
  refine lv_lconst (v := 0) hx hb dX1_wrong_12 (by decide) ?_
  refine W.lcmp hx hb dX1_wrong_13 ?_
  refine lv_if_eq (tgt := 21) hx hb dX1_wrong_14 (by decide) (fun h1 => ?_) (fun h1 => ?_)
  · refine lv_iconst (v := 0) hx hb dX1_wrong_21 (by decide) ?_
    rw [← hQ]
    exact W.zret (v := 0) hx hb hr narrow_b0 (fun t ht hW => ⟨0, rfl, Or.inr ⟨rfl, fun z => z (pt_cmp0.mp h1)⟩, ht⟩) t_nil dX1_wrong_22
  · refine lv_iconst (v := 1) hx hb dX1_wrong_17 (by decide) ?_
    refine lv_goto (tgt := 22) hx hb dX1_wrong_18 (by decide) ?_
    rw [← hQ]
    exact W.zret (v := 1) hx hb hr narrow_b1 (fun t ht hW => ⟨1, rfl, Or.inl ⟨rfl, fun z => h1 (pt_cmp0.mpr z)⟩, ht⟩) t_nil dX1_wrong_22
set_option maxHeartbeats 4000000 in
set_option maxRecDepth 100000 in
/-- the reference: meet(i, c, w) -/
theorem c_meet (l : Launch) (dC : Nat → ClassId) (dI : Nat → Nat → Nat) (g0 a0 b0 : Nat) (ja jb : ClassId) (k n : Nat) (fc fv : Nat → Int64) (cl su th : Int32) (i : Nat) (a b : Int64) (hi : i < 512) (hn1 : 1 ≤ n) (hn2 : n ≤ 64) : Met l yX1_meet wsX1_meet ({ frames := 1, cells := 0, slots := 0, locals := 20 }) (va_Pc [.ref g0, .int (nI i), .long a, .long b] (fun U => va_P (dC, dI) vwCl [(g0, .inr (1, [.ref a0, .ref b0, .int (nI k), .int (nI n), .int cl, .int su, .int th])), (a0, .inl (ja, 512, .inr (.inl fc))), (b0, .inl (jb, 512, .inr (.inl fv)))] U.heap ∧ va_K (dC, dI) vwCl [(ja, .long), (jb, .long)] U)) (vp_Si (fun r : Int32 => (r = 1 ∧ pt_sh (fc i) (fv i) (a &&& pt_mk n) (b &&& pt_mk n)) ∨ (r = 0 ∧ ¬ pt_sh (fc i) (fv i) (a &&& pt_mk n) (b &&& pt_mk n)))) 0 0 (fun _ => False) := by
  refine Met.ofW (cc := cX1_meet) (maxL := 6) (ret := (some .boolean)) (by decide) rfl ?_
  intro p e s m args below meth c s₁ B hml hv
  obtain ⟨ha, hP, hK⟩ := hv
  have hx := B.exec
  have hb := B.bytes
  have hr := B.returns
  have hts := atoms_spec (ws := wsX1_meet) B.pre
  have hown : s.vm.findClass RX1 = some m.cls := findClass_of_methodNamed B.named
  have hlocks := B.notSynchronized
  have hl := lv_entry ([.ref g0, .int (nI i), .long a, .long b]) (n := 6) (Nat.le_of_ble_eq_true rfl)
  refine W.eq (show entryFrame m args 6 = entryFrame m ([.ref g0, .int (nI i), .long a, .long b] : List Value).toArray 6 by rw [ha]) ?_
  rw [lg_entry_eq]
  generalize (lg_sl ([.ref g0, .int (nI i), .long a, .long b]) ++ List.replicate (6 - (lg_sl ([.ref g0, .int (nI i), .long a, .long b])).length) Slot.unset).toArray = ls at hl ⊢
  have hl : lv_has ls 6 [(0, .ref g0), (1, .int (nI i)), (2, .long a), (4, .long b)] := hl
  generalize hQ : MQ below (vp_Si (fun r : Int32 => (r = 1 ∧ pt_sh (fc i) (fv i) (a &&& pt_mk n) (b &&& pt_mk n)) ∨ (r = 0 ∧ ¬ pt_sh (fc i) (fv i) (a &&& pt_mk n) (b &&& pt_mk n)))) args s 0 0 (fun _ => False) = Q
  refine lv_aload_n hx hb dX1_meet_0 rfl (lv_at hl 0 rfl) ?_
  refine va_get (D := (dC, dI)) (ci := 1) (v := .ref b0) (C := RX1) (T := TX1) (N := 7) hx hb hts (fun w h => List.mem_cons_of_mem _ (pt_wsX1 w h)) hown hK hP 0 rfl rfl 1 (by decide) (hts _ (List.mem_cons_of_mem _ pw162)) (fun _ h9 => h9) rfl dX1_meet_1 ?_
  refine lv_iload_n hx hb dX1_meet_4 rfl (lv_at hl 1 rfl) ?_
  refine va_lald hx hb hK hP 2 1 rfl rfl (vp_in_nI hi (by decide)) dX1_meet_5 ?_
  rw [nI_clamp (by omega)]
  refine lv_lload hx hb dX1_meet_6 (lv_at hl 3 rfl) ?_
  refine lv_lxor hx hb dX1_meet_8 ?_
  refine lv_aload_n hx hb dX1_meet_9 rfl (lv_at hl 0 rfl) ?_
  refine va_get (D := (dC, dI)) (ci := 1) (v := .ref a0) (C := RX1) (T := TX1) (N := 7) hx hb hts (fun w h => List.mem_cons_of_mem _ (pt_wsX1 w h)) hown hK hP 0 rfl rfl 0 (by decide) (hts _ (List.mem_cons_of_mem _ pw161)) (fun _ h9 => h9) rfl dX1_meet_10 ?_
  refine lv_iload_n hx hb dX1_meet_13 rfl (lv_at hl 1 rfl) ?_
  refine va_lald hx hb hK hP 1 0 rfl rfl (vp_in_nI hi (by decide)) dX1_meet_14 ?_
  rw [nI_clamp (by omega)]
  refine lv_land hx hb dX1_meet_15 ?_
  refine lv_lload_n hx hb dX1_meet_16 rfl (lv_at hl 2 rfl) ?_
  refine lv_land hx hb dX1_meet_17 ?_
  refine lv_aload_n hx hb dX1_meet_18 rfl (lv_at hl 0 rfl) ?_
  refine vp_callSl (W.runV (As := []) (rest := [.long ((((fv i) ^^^ b) &&& (fc i)) &&& a)]) ⟨hx, hb, hml, hown, hts⟩ (c_mmask l dC dI g0 a0 b0 ja jb k n fc fv cl su th hn1 hn2) (cwV 0 hts (pt_gV pw194 pw195 pw11 pw18 pw196) rfl rfl rfl (by decide +kernel) ⟨Nat.le_of_ble_eq_true rfl, Nat.le_of_ble_eq_true rfl⟩) ⟨fun a U g mk q => by obtain ⟨q0, qP, qK⟩ := q; exact ⟨q0, qP, va_K.moved (u := U) (U := U.calling g mk a) (Vm.Alike.refl U.vm) qK⟩, va_recv hK hP (ci := 1) (q0 := 0) rfl rfl, fun U hU hW => ⟨rfl, by rw [hU]; exact hP, va_K.moved hW.alike hK⟩⟩ rfl rfl hl.1 rfl (lv_room (Nat.le_of_ble_eq_true rfl)) dX1_meet_19 ⟨Nat.zero_le _, Nat.zero_le _⟩) (fun r1 hw => ?_)
  subst hw
  refine lv_land hx hb dX1_meet_22 ?_
  refine lv_lconst (v := 0) hx hb dX1_meet_23 (by decide) ?_
  refine W.lcmp hx hb dX1_meet_24 ?_
  refine lv_if_ne (tgt := 32) hx hb dX1_meet_25 (by decide) (fun h1 => ?_) (fun h1 => ?_)
  · refine lv_iconst (v := 0) hx hb dX1_meet_32 (by decide) ?_
    rw [← hQ]
    exact W.zret (v := 0) hx hb hr narrow_b0 (fun t ht hW => ⟨0, rfl, Or.inr ⟨rfl, fun z => h1 (pt_cmp0.mpr ((pt_sh_ref _ _ _ _ _).mpr z))⟩, ht⟩) t_nil dX1_meet_33
  · refine lv_iconst (v := 1) hx hb dX1_meet_28 (by decide) ?_
    refine lv_goto (tgt := 33) hx hb dX1_meet_29 (by decide) ?_
    rw [← hQ]
    exact W.zret (v := 1) hx hb hr narrow_b1 (fun t ht hW => ⟨1, rfl, Or.inl ⟨rfl, (pt_sh_ref _ _ _ _ _).mp (pt_cmp0.mp h1)⟩, ht⟩) t_nil dX1_meet_33
set_option maxHeartbeats 4000000 in
set_option maxRecDepth 100000 in
/-- first -/
theorem c_first (l : Launch) (dC : Nat → ClassId) (dI : Nat → Nat → Nat) (g0 a0 b0 : Nat) (ja jb : ClassId) (k n : Nat) (fc fv : Nat → Int64) (cl su th : Int32) (a b : Int64) (hk : k ≤ 512) (hn1 : 1 ≤ n) (hn2 : n ≤ 64) : Met l yX1_first wsX1_first ({ frames := 2, cells := 0, slots := 0, locals := 45 }) (va_Pc [.ref g0, .long a, .long b] (fun U => va_P (dC, dI) vwCl [(g0, .inr (1, [.ref a0, .ref b0, .int (nI k), .int (nI n), .int cl, .int su, .int th])), (a0, .inl (ja, 512, .inr (.inl fc))), (b0, .inl (jb, 512, .inr (.inl fv)))] U.heap ∧ va_K (dC, dI) vwCl [(ja, .long), (jb, .long)] U)) (vp_Si (fun r : Int32 => pt_F (fun j => pt_sh (fc j) (fv j) (a &&& pt_mk n) (b &&& pt_mk n)) k r)) 0 0 (fun _ => False) := by
  refine Met.ofW (cc := cX1_first) (maxL := 6) (ret := (some .int)) (by decide) rfl ?_
  intro p e s m args below meth c s₁ B hml hv
  obtain ⟨ha, hP, hK⟩ := hv
  have hx := B.exec
  have hb := B.bytes
  have hr := B.returns
  have hts := atoms_spec (ws := wsX1_first) B.pre
  have hown : s.vm.findClass RX1 = some m.cls := findClass_of_methodNamed B.named
  have hlocks := B.notSynchronized
  have hl := lv_entry ([.ref g0, .long a, .long b]) (n := 6) (Nat.le_of_ble_eq_true rfl)
  refine W.eq (show entryFrame m args 6 = entryFrame m ([.ref g0, .long a, .long b] : List Value).toArray 6 by rw [ha]) ?_
  rw [lg_entry_eq]
  generalize (lg_sl ([.ref g0, .long a, .long b]) ++ List.replicate (6 - (lg_sl ([.ref g0, .long a, .long b])).length) Slot.unset).toArray = ls at hl ⊢
  have hl : lv_has ls 6 [(0, .ref g0), (1, .long a), (3, .long b)] := hl
  generalize hQ : MQ below (vp_Si (fun r : Int32 => pt_F (fun j => pt_sh (fc j) (fv j) (a &&& pt_mk n) (b &&& pt_mk n)) k r)) args s 0 0 (fun _ => False) = Q
  refine lv_iconst (v := 0) hx hb dX1_first_0 (by decide) ?_
  refine lv_istore (lv' := [(5, .int 0), (0, .ref g0), (1, .long a), (3, .long b)]) hx hb dX1_first_1 hl (by decide) rfl (fun ls hl => ?_)
  have loop : ∀ (d i : Nat) (ls : Array Slot), k - i = d → i ≤ k → (∀ j, j < i → ¬ pt_sh (fc j) (fv j) (a &&& pt_mk n) (b &&& pt_mk n)) → lv_has ls 6 [(5, .int (nI i)), (0, .ref g0), (1, .long a), (3, .long b)] → W p l e (headSpec wsX1_first ({ frames := 2, cells := 0, slots := 0, locals := 45 })).room s m args below meth c s.heap [] 0 0 Q (F0 m 3 ls []) := by
    intro d
    induction d with
    | zero =>
      intro i ls hd hik hno hl
      refine lv_iload hx hb dX1_first_3 (lv_at hl 0 rfl) ?_
      refine lv_aload_n hx hb dX1_first_5 rfl (lv_at hl 1 rfl) ?_
      refine va_get (D := (dC, dI)) (ci := 1) (v := .int (nI k)) (C := RX1) (T := TX1) (N := 7) hx hb hts (fun w h => List.mem_cons_of_mem _ (pt_wsX1 w h)) hown hK hP 0 rfl rfl 2 (by decide) (hts _ (List.mem_cons_of_mem _ pw163)) (fun _ h9 => h9) rfl dX1_first_6 ?_
      refine lv_icmp_ge (tgt := 32) hx hb dX1_first_9 (by decide) (fun h1 => ?_) (fun h1 => absurd (nI_le (by omega) (by omega)) h1)
      refine lv_iconst (v := (-1)) hx hb dX1_first_32 (by decide) ?_
      rw [← hQ]
      exact W.iret (v := (-1)) hx hb hr (fun t ht hW => ⟨(-1), rfl, Or.inl ⟨rfl, fun j hj => hno j (by omega)⟩, ht⟩) t_nil dX1_first_33
    | succ d ih =>
      intro i ls hd hik hno hl
      refine lv_iload hx hb dX1_first_3 (lv_at hl 0 rfl) ?_
      refine lv_aload_n hx hb dX1_first_5 rfl (lv_at hl 1 rfl) ?_
      refine va_get (D := (dC, dI)) (ci := 1) (v := .int (nI k)) (C := RX1) (T := TX1) (N := 7) hx hb hts (fun w h => List.mem_cons_of_mem _ (pt_wsX1 w h)) hown hK hP 0 rfl rfl 2 (by decide) (hts _ (List.mem_cons_of_mem _ pw163)) (fun _ h9 => h9) rfl dX1_first_6 ?_
      refine lv_icmp_ge (tgt := 32) hx hb dX1_first_9 (by decide) (fun h1 => absurd h1 (nI_ge (by omega) (by omega))) (fun h1 => ?_)
      refine lv_aload_n hx hb dX1_first_12 rfl (lv_at hl 1 rfl) ?_
      refine lv_iload hx hb dX1_first_13 (lv_at hl 0 rfl) ?_
      refine lv_lload_n hx hb dX1_first_15 rfl (lv_at hl 2 rfl) ?_
      refine lv_lload_n hx hb dX1_first_16 rfl (lv_at hl 3 rfl) ?_
      refine vp_callSi (W.runV (As := [.int (nI i), .long a, .long b]) (rest := []) ⟨hx, hb, hml, hown, hts⟩ (c_meet l dC dI g0 a0 b0 ja jb k n fc fv cl su th i a b (by omega) hn1 hn2) (cwV 3 hts (pt_gV pw200 pw201 pw13 pw18 pw202) rfl rfl rfl (by decide +kernel) ⟨Nat.le_of_ble_eq_true rfl, Nat.le_of_ble_eq_true rfl⟩) ⟨fun a U g mk q => by obtain ⟨q0, qP, qK⟩ := q; exact ⟨q0, qP, va_K.moved (u := U) (U := U.calling g mk a) (Vm.Alike.refl U.vm) qK⟩, va_recv hK hP (ci := 1) (q0 := 0) rfl rfl, fun U hU hW => ⟨rfl, by rw [hU]; exact hP, va_K.moved hW.alike hK⟩⟩ rfl rfl hl.1 rfl (lv_room (Nat.le_of_ble_eq_true rfl)) dX1_first_17 ⟨Nat.zero_le _, Nat.zero_le _⟩) (fun r1 hw => ?_)
      rcases hw with ⟨rfl, hs⟩ | ⟨rfl, hs⟩
      · refine lv_if_eq (tgt := 26) hx hb dX1_first_20 (by decide) (fun h2 => absurd h2 (by decide)) (fun h2 => ?_)
        refine lv_iload hx hb dX1_first_23 (lv_at hl 0 rfl) ?_
        rw [← hQ]
        exact W.iret (v := nI i) hx hb hr (fun t ht hW => ⟨nI i, rfl, Or.inr ⟨i, by omega, hs, hno, rfl⟩, ht⟩) t_nil dX1_first_25
      · refine lv_if_eq (tgt := 26) hx hb dX1_first_20 (by decide) (fun h2 => ?_) (fun h2 => absurd rfl h2)
        refine lv_iinc (v := nI (i + 1)) (lv' := [(5, .int (nI (i + 1))), (0, .ref g0), (1, .long a), (3, .long b)]) hx hb dX1_first_26 hl (k := 0) rfl (by rw [nI_succ]; rfl) (by decide) rfl (fun ls hl => ?_)
        refine lv_goto (tgt := 3) hx hb dX1_first_29 (by decide) ?_
        exact ih (i + 1) ls (by omega) (by omega) (lt_s hno hs) (lv_sub hl [0, 1, 2, 3] rfl)
  exact loop k 0 ls (by omega) (by omega) lt_0 (lv_sub hl [0, 1, 2, 3] rfl)
set_option maxHeartbeats 4000000 in
set_option maxRecDepth 100000 in
/-- the reference: none(c, w) -/
theorem c_none (l : Launch) (dC : Nat → ClassId) (dI : Nat → Nat → Nat) (g0 a0 b0 : Nat) (ja jb : ClassId) (k n : Nat) (fc fv : Nat → Int64) (cl su th : Int32) (a b : Int64) (hI : pt_I k n fc fv) : Met l yX1_none wsX1_none ({ frames := 2, cells := 0, slots := 0, locals := 45 }) (va_Pc [.ref g0, .long a, .long b] (fun U => va_P (dC, dI) vwCl [(g0, .inr (1, [.ref a0, .ref b0, .int (nI k), .int (nI n), .int cl, .int su, .int th])), (a0, .inl (ja, 512, .inr (.inl fc))), (b0, .inl (jb, 512, .inr (.inl fv)))] U.heap ∧ va_K (dC, dI) vwCl [(ja, .long), (jb, .long)] U)) (vp_Sl (fun r : Int64 => r = pt_fw n fc fv (a &&& pt_mk n) (b &&& pt_mk n) k)) 0 0 (fun _ => False) := by
  refine Met.ofW (cc := cX1_none) (maxL := 8) (ret := (some .long)) (by decide) rfl ?_
  intro p e s m args below meth c s₁ B hml hv
  obtain ⟨ha, hP, hK⟩ := hv
  have hx := B.exec
  have hb := B.bytes
  have hr := B.returns
  have hts := atoms_spec (ws := wsX1_none) B.pre
  have hown : s.vm.findClass RX1 = some m.cls := findClass_of_methodNamed B.named
  have hlocks := B.notSynchronized
  have hl := lv_entry ([.ref g0, .long a, .long b]) (n := 8) (Nat.le_of_ble_eq_true rfl)
  refine W.eq (show entryFrame m args 8 = entryFrame m ([.ref g0, .long a, .long b] : List Value).toArray 8 by rw [ha]) ?_
  rw [lg_entry_eq]
  generalize (lg_sl ([.ref g0, .long a, .long b]) ++ List.replicate (8 - (lg_sl ([.ref g0, .long a, .long b])).length) Slot.unset).toArray = ls at hl ⊢
  have hl : lv_has ls 8 [(0, .ref g0), (1, .long a), (3, .long b)] := hl
  generalize hQ : MQ below (vp_Sl (fun r : Int64 => r = pt_fw n fc fv (a &&& pt_mk n) (b &&& pt_mk n) k)) args s 0 0 (fun _ => False) = Q
  have hn1 := hI.2.1
  have hn2 := hI.2.2.1
  have hk := hI.1
  refine lv_aload_n hx hb dX1_none_0 rfl (lv_at hl 0 rfl) ?_
  refine va_get (D := (dC, dI)) (ci := 1) (v := .int (nI n)) (C := RX1) (T := TX1) (N := 7) hx hb hts (fun w h => List.mem_cons_of_mem _ (pt_wsX1 w h)) hown hK hP 0 rfl rfl 3 (by decide) (hts _ (List.mem_cons_of_mem _ pw164)) (fun _ h9 => h9) rfl dX1_none_1 ?_
  refine lv_lload_n hx hb dX1_none_4 rfl (lv_at hl 1 rfl) ?_
  refine lv_aload_n hx hb dX1_none_5 rfl (lv_at hl 0 rfl) ?_
  refine vp_callSl (W.runV (As := []) (rest := [.long a, .int (nI n)]) ⟨hx, hb, hml, hown, hts⟩ (c_mmask l dC dI g0 a0 b0 ja jb k n fc fv cl su th hn1 hn2) (cwV 0 hts (pt_gV pw194 pw195 pw11 pw18 pw196) rfl rfl rfl (by decide +kernel) ⟨Nat.le_of_ble_eq_true rfl, Nat.le_of_ble_eq_true rfl⟩) ⟨fun a U g mk q => by obtain ⟨q0, qP, qK⟩ := q; exact ⟨q0, qP, va_K.moved (u := U) (U := U.calling g mk a) (Vm.Alike.refl U.vm) qK⟩, va_recv hK hP (ci := 1) (q0 := 0) rfl rfl, fun U hU hW => ⟨rfl, by rw [hU]; exact hP, va_K.moved hW.alike hK⟩⟩ rfl rfl hl.1 rfl (lv_room (Nat.le_of_ble_eq_true rfl)) dX1_none_6 ⟨Nat.zero_le _, Nat.zero_le _⟩) (fun r1 hw => ?_)
  subst hw
  refine lv_land hx hb dX1_none_9 ?_
  refine vp_callSi (W.runS (As := [.long (a &&& (pt_mk n))]) (rest := [.int (nI n)]) ⟨hx, hb, hml, hown, hts⟩ (c_bits l dC dI (a &&& pt_mk n)) (va_cwS 1 hts (pt_gS pw229 pw230 pw18 pw231) rfl rfl rfl (by decide +kernel) ⟨Nat.le_of_ble_eq_true rfl, Nat.le_of_ble_eq_true rfl⟩) ⟨fun a U g mk q => by obtain ⟨q0, qP, qK⟩ := q; exact ⟨q0, qP, va_K.moved (u := U) (U := U.calling g mk a) (Vm.Alike.refl U.vm) qK⟩, fun U hU hW => ⟨rfl, by rw [hU]; exact (hP.sub (ws' := ([] : va_W)) [] rfl), va_K.moved hW.alike (hK.sub (tys' := []) [] rfl)⟩⟩ rfl rfl hl.1 rfl (lv_room (Nat.le_of_ble_eq_true rfl)) dX1_none_10 ⟨Nat.zero_le _, Nat.zero_le _⟩) (fun r2 hw => ?_)
  subst hw
  refine lv_isub hx hb dX1_none_13 ?_
  refine vp_callSl (W.runS (As := [.int ((nI n) - (pt_bits (a &&& pt_mk n)))]) (rest := []) ⟨hx, hb, hml, hown, hts⟩ (c_power l dC dI (nI n - pt_bits (a &&& pt_mk n))) (va_cwS 1 hts (pt_gS pw232 pw233 pw18 pw234) rfl rfl rfl (by decide +kernel) ⟨Nat.le_of_ble_eq_true rfl, Nat.le_of_ble_eq_true rfl⟩) ⟨fun a U g mk q => by obtain ⟨q0, qP, qK⟩ := q; exact ⟨q0, qP, va_K.moved (u := U) (U := U.calling g mk a) (Vm.Alike.refl U.vm) qK⟩, fun U hU hW => ⟨rfl, by rw [hU]; exact (hP.sub (ws' := ([] : va_W)) [] rfl), va_K.moved hW.alike (hK.sub (tys' := []) [] rfl)⟩⟩ rfl rfl hl.1 rfl (lv_room (Nat.le_of_ble_eq_true rfl)) dX1_none_14 ⟨Nat.zero_le _, Nat.zero_le _⟩) (fun r3 hw => ?_)
  rw [pt_words_ref hn2] at hw
  subst hw
  refine lv_lstore (lv' := [(5, .long (pt_words n (a &&& pt_mk n))), (0, .ref g0), (1, .long a), (3, .long b)]) hx hb dX1_none_17 hl (by decide) rfl (fun ls hl => ?_)
  refine lv_iconst (v := 0) hx hb dX1_none_19 (by decide) ?_
  refine lv_istore (lv' := [(7, .int 0), (5, .long (pt_words n (a &&& pt_mk n))), (0, .ref g0), (1, .long a), (3, .long b)]) hx hb dX1_none_20 hl (by decide) rfl (fun ls hl => ?_)
  have loop : ∀ (d i : Nat) (ls : Array Slot), k - i = d → i ≤ k → lv_has ls 8 [(7, .int (nI i)), (5, .long (pt_fw n fc fv (a &&& pt_mk n) (b &&& pt_mk n) i)), (0, .ref g0), (1, .long a), (3, .long b)] → W p l e (headSpec wsX1_none ({ frames := 2, cells := 0, slots := 0, locals := 45 })).room s m args below meth c s.heap [] 0 0 Q (F0 m 22 ls []) := by
    intro d
    induction d with
    | zero =>
      intro i ls hd hik hl
      have hik2 : i = k := by omega
      refine lv_iload hx hb dX1_none_22 (lv_at hl 0 rfl) ?_
      refine lv_aload_n hx hb dX1_none_24 rfl (lv_at hl 2 rfl) ?_
      refine va_get (D := (dC, dI)) (ci := 1) (v := .int (nI k)) (C := RX1) (T := TX1) (N := 7) hx hb hts (fun w h => List.mem_cons_of_mem _ (pt_wsX1 w h)) hown hK hP 0 rfl rfl 2 (by decide) (hts _ (List.mem_cons_of_mem _ pw163)) (fun _ h9 => h9) rfl dX1_none_25 ?_
      refine lv_icmp_ge (tgt := 78) hx hb dX1_none_28 (by decide) (fun h1 => ?_) (fun h1 => absurd (nI_le (by omega) (by omega)) h1)
      refine lv_lload hx hb dX1_none_78 (lv_at hl 1 rfl) ?_
      rw [← hQ]
      exact W.lret (v := pt_fw n fc fv (a &&& pt_mk n) (b &&& pt_mk n) i) hx hb hr (fun t ht hW => ⟨pt_fw n fc fv (a &&& pt_mk n) (b &&& pt_mk n) i, rfl, by rw [hik2], ht⟩) t_nil dX1_none_80
    | succ d ih =>
      intro i ls hd hik hl
      refine lv_iload hx hb dX1_none_22 (lv_at hl 0 rfl) ?_
      refine lv_aload_n hx hb dX1_none_24 rfl (lv_at hl 2 rfl) ?_
      refine va_get (D := (dC, dI)) (ci := 1) (v := .int (nI k)) (C := RX1) (T := TX1) (N := 7) hx hb hts (fun w h => List.mem_cons_of_mem _ (pt_wsX1 w h)) hown hK hP 0 rfl rfl 2 (by decide) (hts _ (List.mem_cons_of_mem _ pw163)) (fun _ h9 => h9) rfl dX1_none_25 ?_
      refine lv_icmp_ge (tgt := 78) hx hb dX1_none_28 (by decide) (fun h1 => absurd h1 (nI_ge (by omega) (by omega))) (fun h1 => ?_)
      refine lv_aload_n hx hb dX1_none_31 rfl (lv_at hl 2 rfl) ?_
      refine lv_iload hx hb dX1_none_32 (lv_at hl 0 rfl) ?_
      refine lv_lload_n hx hb dX1_none_34 rfl (lv_at hl 3 rfl) ?_
      refine lv_lload_n hx hb dX1_none_35 rfl (lv_at hl 4 rfl) ?_
      refine vp_callSi (W.runV (As := [.int (nI i), .long a, .long b]) (rest := []) ⟨hx, hb, hml, hown, hts⟩ (c_meet l dC dI g0 a0 b0 ja jb k n fc fv cl su th i a b (by omega) hn1 hn2) (cwV 3 hts (pt_gV pw200 pw201 pw13 pw18 pw202) rfl rfl rfl (by decide +kernel) ⟨Nat.le_of_ble_eq_true rfl, Nat.le_of_ble_eq_true rfl⟩) ⟨fun a U g mk q => by obtain ⟨q0, qP, qK⟩ := q; exact ⟨q0, qP, va_K.moved (u := U) (U := U.calling g mk a) (Vm.Alike.refl U.vm) qK⟩, va_recv hK hP (ci := 1) (q0 := 0) rfl rfl, fun U hU hW => ⟨rfl, by rw [hU]; exact hP, va_K.moved hW.alike hK⟩⟩ rfl rfl hl.1 rfl (lv_room (Nat.le_of_ble_eq_true rfl)) dX1_none_36 ⟨Nat.zero_le _, Nat.zero_le _⟩) (fun r4 hw => ?_)
      rcases hw with ⟨rfl, hs⟩ | ⟨rfl, hs⟩
      · refine lv_if_eq (tgt := 72) hx hb dX1_none_39 (by decide) (fun h2 => absurd h2 (by decide)) (fun h2 => ?_)
        refine lv_lload hx hb dX1_none_42 (lv_at hl 1 rfl) ?_
        refine lv_aload_n hx hb dX1_none_44 rfl (lv_at hl 2 rfl) ?_
        refine va_get (D := (dC, dI)) (ci := 1) (v := .int (nI n)) (C := RX1) (T := TX1) (N := 7) hx hb hts (fun w h => List.mem_cons_of_mem _ (pt_wsX1 w h)) hown hK hP 0 rfl rfl 3 (by decide) (hts _ (List.mem_cons_of_mem _ pw164)) (fun _ h9 => h9) rfl dX1_none_45 ?_
        refine lv_lload_n hx hb dX1_none_48 rfl (lv_at hl 3 rfl) ?_
        refine lv_aload_n hx hb dX1_none_49 rfl (lv_at hl 2 rfl) ?_
        refine va_get (D := (dC, dI)) (ci := 1) (v := .ref a0) (C := RX1) (T := TX1) (N := 7) hx hb hts (fun w h => List.mem_cons_of_mem _ (pt_wsX1 w h)) hown hK hP 0 rfl rfl 0 (by decide) (hts _ (List.mem_cons_of_mem _ pw161)) (fun _ h9 => h9) rfl dX1_none_50 ?_
        refine lv_iload hx hb dX1_none_53 (lv_at hl 0 rfl) ?_
        refine va_lald hx hb hK hP 1 0 rfl rfl (vp_in_nI (by omega) (by decide)) dX1_none_55 ?_
        rw [nI_clamp (by omega)]
        refine lv_lor hx hb dX1_none_56 ?_
        refine lv_aload_n hx hb dX1_none_57 rfl (lv_at hl 2 rfl) ?_
        refine vp_callSl (W.runV (As := []) (rest := [.long (a ||| (fc i)), .int (nI n), .long (pt_fw n fc fv (a &&& pt_mk n) (b &&& pt_mk n) i)]) ⟨hx, hb, hml, hown, hts⟩ (c_mmask l dC dI g0 a0 b0 ja jb k n fc fv cl su th hn1 hn2) (cwV 0 hts (pt_gV pw194 pw195 pw11 pw18 pw196) rfl rfl rfl (by decide +kernel) ⟨Nat.le_of_ble_eq_true rfl, Nat.le_of_ble_eq_true rfl⟩) ⟨fun a U g mk q => by obtain ⟨q0, qP, qK⟩ := q; exact ⟨q0, qP, va_K.moved (u := U) (U := U.calling g mk a) (Vm.Alike.refl U.vm) qK⟩, va_recv hK hP (ci := 1) (q0 := 0) rfl rfl, fun U hU hW => ⟨rfl, by rw [hU]; exact hP, va_K.moved hW.alike hK⟩⟩ rfl rfl hl.1 rfl (lv_room (Nat.le_of_ble_eq_true rfl)) dX1_none_58 ⟨Nat.zero_le _, Nat.zero_le _⟩) (fun r5 hw => ?_)
        subst hw
        refine lv_land hx hb dX1_none_61 ?_
        refine vp_callSi (W.runS (As := [.long ((a ||| (fc i)) &&& (pt_mk n))]) (rest := [.int (nI n), .long (pt_fw n fc fv (a &&& pt_mk n) (b &&& pt_mk n) i)]) ⟨hx, hb, hml, hown, hts⟩ (c_bits l dC dI ((a ||| fc i) &&& pt_mk n)) (va_cwS 1 hts (pt_gS pw229 pw230 pw18 pw231) rfl rfl rfl (by decide +kernel) ⟨Nat.le_of_ble_eq_true rfl, Nat.le_of_ble_eq_true rfl⟩) ⟨fun a U g mk q => by obtain ⟨q0, qP, qK⟩ := q; exact ⟨q0, qP, va_K.moved (u := U) (U := U.calling g mk a) (Vm.Alike.refl U.vm) qK⟩, fun U hU hW => ⟨rfl, by rw [hU]; exact (hP.sub (ws' := ([] : va_W)) [] rfl), va_K.moved hW.alike (hK.sub (tys' := []) [] rfl)⟩⟩ rfl rfl hl.1 rfl (lv_room (Nat.le_of_ble_eq_true rfl)) dX1_none_62 ⟨Nat.zero_le _, Nat.zero_le _⟩) (fun r6 hw => ?_)
        rw [pt_or_ref (hI.2.2.2.1 i (by omega))] at hw
        subst hw
        refine lv_isub hx hb dX1_none_65 ?_
        refine vp_callSl (W.runS (As := [.int ((nI n) - (pt_bits (fc i ||| (a &&& pt_mk n))))]) (rest := [.long (pt_fw n fc fv (a &&& pt_mk n) (b &&& pt_mk n) i)]) ⟨hx, hb, hml, hown, hts⟩ (c_power l dC dI (nI n - pt_bits (fc i ||| (a &&& pt_mk n)))) (va_cwS 1 hts (pt_gS pw232 pw233 pw18 pw234) rfl rfl rfl (by decide +kernel) ⟨Nat.le_of_ble_eq_true rfl, Nat.le_of_ble_eq_true rfl⟩) ⟨fun a U g mk q => by obtain ⟨q0, qP, qK⟩ := q; exact ⟨q0, qP, va_K.moved (u := U) (U := U.calling g mk a) (Vm.Alike.refl U.vm) qK⟩, fun U hU hW => ⟨rfl, by rw [hU]; exact (hP.sub (ws' := ([] : va_W)) [] rfl), va_K.moved hW.alike (hK.sub (tys' := []) [] rfl)⟩⟩ rfl rfl hl.1 rfl (lv_room (Nat.le_of_ble_eq_true rfl)) dX1_none_66 ⟨Nat.zero_le _, Nat.zero_le _⟩) (fun r7 hw => ?_)
        rw [pt_words_ref hn2] at hw
        subst hw
        refine lv_lsub hx hb dX1_none_69 ?_
        rw [← pt_fw_yes hs]
        refine lv_lstore (lv' := [(5, .long (pt_fw n fc fv (a &&& pt_mk n) (b &&& pt_mk n) (i + 1))), (7, .int (nI i)), (0, .ref g0), (1, .long a), (3, .long b)]) hx hb dX1_none_70 hl (by decide) rfl (fun ls hl => ?_)
        refine lv_iinc (v := nI (i + 1)) (lv' := [(7, .int (nI (i + 1))), (5, .long (pt_fw n fc fv (a &&& pt_mk n) (b &&& pt_mk n) (i + 1))), (0, .ref g0), (1, .long a), (3, .long b)]) hx hb dX1_none_72 hl (k := 1) rfl (by rw [nI_succ]; rfl) (by decide) rfl (fun ls hl => ?_)
        refine lv_goto (tgt := 22) hx hb dX1_none_75 (by decide) ?_
        exact ih (i + 1) ls (by omega) (by omega) (lv_sub hl [0, 1, 2, 3, 4] rfl)
      · refine lv_if_eq (tgt := 72) hx hb dX1_none_39 (by decide) (fun h2 => ?_) (fun h2 => absurd rfl h2)
        refine lv_iinc (v := nI (i + 1)) (lv' := [(7, .int (nI (i + 1))), (5, .long (pt_fw n fc fv (a &&& pt_mk n) (b &&& pt_mk n) i)), (0, .ref g0), (1, .long a), (3, .long b)]) hx hb dX1_none_72 hl (k := 0) rfl (by rw [nI_succ]; rfl) (by decide) rfl (fun ls hl => ?_)
        refine lv_goto (tgt := 22) hx hb dX1_none_75 (by decide) ?_
        rw [← pt_fw_no hs] at hl
        exact ih (i + 1) ls (by omega) (by omega) (lv_sub hl [0, 1, 2, 3, 4] rfl)
  exact loop k 0 ls (by omega) (by omega) (lv_sub hl [0, 1, 2, 3, 4] rfl)
set_option maxHeartbeats 4000000 in
set_option maxRecDepth 100000 in
/-- the reference: some(c, w) -/
theorem c_some (l : Launch) (dC : Nat → ClassId) (dI : Nat → Nat → Nat) (g0 a0 b0 : Nat) (ja jb : ClassId) (k n : Nat) (fc fv : Nat → Int64) (cl su th : Int32) (a b : Int64) (hI : pt_I k n fc fv) (hb0 : ¬ pt_bits (a &&& pt_mk n) = 0) : Met l yX1_some wsX1_some ({ frames := 3, cells := 0, slots := 0, locals := 72 }) (va_Pc [.ref g0, .long a, .long b] (fun U => va_P (dC, dI) vwCl [(g0, .inr (1, [.ref a0, .ref b0, .int (nI k), .int (nI n), .int cl, .int su, .int th])), (a0, .inl (ja, 512, .inr (.inl fc))), (b0, .inl (jb, 512, .inr (.inl fv)))] U.heap ∧ va_K (dC, dI) vwCl [(ja, .long), (jb, .long)] U)) (vp_Si (fun r : Int32 => (r = 1 ∧ ¬ pt_fw n fc fv (a &&& pt_mk n) (b &&& pt_mk n) k = 0) ∨ (r = 0 ∧ pt_fw n fc fv (a &&& pt_mk n) (b &&& pt_mk n) k = 0))) 0 0 (fun _ => False) := by
  refine Met.ofW (cc := cX1_some) (maxL := 5) (ret := (some .boolean)) (by decide) rfl ?_
  intro p e s m args below meth c s₁ B hml hv
  obtain ⟨ha, hP, hK⟩ := hv
  have hx := B.exec
  have hb := B.bytes
  have hr := B.returns
  have hts := atoms_spec (ws := wsX1_some) B.pre
  have hown : s.vm.findClass RX1 = some m.cls := findClass_of_methodNamed B.named
  have hlocks := B.notSynchronized
  have hl := lv_entry ([.ref g0, .long a, .long b]) (n := 5) (Nat.le_of_ble_eq_true rfl)
  refine W.eq (show entryFrame m args 5 = entryFrame m ([.ref g0, .long a, .long b] : List Value).toArray 5 by rw [ha]) ?_
  rw [lg_entry_eq]
  generalize (lg_sl ([.ref g0, .long a, .long b]) ++ List.replicate (5 - (lg_sl ([.ref g0, .long a, .long b])).length) Slot.unset).toArray = ls at hl ⊢
  have hl : lv_has ls 5 [(0, .ref g0), (1, .long a), (3, .long b)] := hl
  generalize hQ : MQ below (vp_Si (fun r : Int32 => (r = 1 ∧ ¬ pt_fw n fc fv (a &&& pt_mk n) (b &&& pt_mk n) k = 0) ∨ (r = 0 ∧ pt_fw n fc fv (a &&& pt_mk n) (b &&& pt_mk n) k = 0))) args s 0 0 (fun _ => False) = Q
  have hn1 := hI.2.1
  have hn2 := hI.2.2.1
  refine lv_aload_n hx hb dX1_some_0 rfl (lv_at hl 0 rfl) ?_
  refine lv_lload_n hx hb dX1_some_1 rfl (lv_at hl 1 rfl) ?_
  refine lv_lload_n hx hb dX1_some_2 rfl (lv_at hl 2 rfl) ?_
  refine vp_callSl (W.runV (As := [.long a, .long b]) (rest := []) ⟨hx, hb, hml, hown, hts⟩ (c_none l dC dI g0 a0 b0 ja jb k n fc fv cl su th a b hI) (cwV 2 hts (pt_gV pw226 pw227 pw14 pw18 pw228) rfl rfl rfl (by decide +kernel) ⟨Nat.le_of_ble_eq_true rfl, Nat.le_of_ble_eq_true rfl⟩) ⟨fun a U g mk q => by obtain ⟨q0, qP, qK⟩ := q; exact ⟨q0, qP, va_K.moved (u := U) (U := U.calling g mk a) (Vm.Alike.refl U.vm) qK⟩, va_recv hK hP (ci := 1) (q0 := 0) rfl rfl, fun U hU hW => ⟨rfl, by rw [hU]; exact hP, va_K.moved hW.alike hK⟩⟩ rfl rfl hl.1 rfl (lv_room (Nat.le_of_ble_eq_true rfl)) dX1_some_3 ⟨Nat.zero_le _, Nat.zero_le _⟩) (fun r1 hw => ?_)
  subst hw
  refine lv_lconst (v := 0) hx hb dX1_some_6 (by decide) ?_
  refine W.lcmp hx hb dX1_some_7 ?_
  refine lv_if_ne (tgt := 39) hx hb dX1_some_8 (by decide) (fun h1 => ?_) (fun h1 => ?_)
  · refine lv_iconst (v := 1) hx hb dX1_some_39 (by decide) ?_
    refine lv_goto (tgt := 44) hx hb dX1_some_40 (by decide) ?_
    rw [← hQ]
    exact W.zret (v := 1) hx hb hr narrow_b1 (fun t ht hW => ⟨1, rfl, Or.inl ⟨rfl, fun z => h1 (pt_cmp0.mpr z)⟩, ht⟩) t_nil dX1_some_44
  · refine lv_lload_n hx hb dX1_some_11 rfl (lv_at hl 1 rfl) ?_
    refine lv_aload_n hx hb dX1_some_12 rfl (lv_at hl 0 rfl) ?_
    refine vp_callSl (W.runV (As := []) (rest := [.long a]) ⟨hx, hb, hml, hown, hts⟩ (c_mmask l dC dI g0 a0 b0 ja jb k n fc fv cl su th hn1 hn2) (cwV 0 hts (pt_gV pw194 pw195 pw11 pw18 pw196) rfl rfl rfl (by decide +kernel) ⟨Nat.le_of_ble_eq_true rfl, Nat.le_of_ble_eq_true rfl⟩) ⟨fun a U g mk q => by obtain ⟨q0, qP, qK⟩ := q; exact ⟨q0, qP, va_K.moved (u := U) (U := U.calling g mk a) (Vm.Alike.refl U.vm) qK⟩, va_recv hK hP (ci := 1) (q0 := 0) rfl rfl, fun U hU hW => ⟨rfl, by rw [hU]; exact hP, va_K.moved hW.alike hK⟩⟩ rfl rfl hl.1 rfl (lv_room (Nat.le_of_ble_eq_true rfl)) dX1_some_13 ⟨Nat.zero_le _, Nat.zero_le _⟩) (fun r2 hw => ?_)
    subst hw
    refine lv_land hx hb dX1_some_16 ?_
    refine vp_callSi (W.runS (As := [.long (a &&& (pt_mk n))]) (rest := []) ⟨hx, hb, hml, hown, hts⟩ (c_bits l dC dI (a &&& pt_mk n)) (va_cwS 1 hts (pt_gS pw229 pw230 pw18 pw231) rfl rfl rfl (by decide +kernel) ⟨Nat.le_of_ble_eq_true rfl, Nat.le_of_ble_eq_true rfl⟩) ⟨fun a U g mk q => by obtain ⟨q0, qP, qK⟩ := q; exact ⟨q0, qP, va_K.moved (u := U) (U := U.calling g mk a) (Vm.Alike.refl U.vm) qK⟩, fun U hU hW => ⟨rfl, by rw [hU]; exact (hP.sub (ws' := ([] : va_W)) [] rfl), va_K.moved hW.alike (hK.sub (tys' := []) [] rfl)⟩⟩ rfl rfl hl.1 rfl (lv_room (Nat.le_of_ble_eq_true rfl)) dX1_some_17 ⟨Nat.zero_le _, Nat.zero_le _⟩) (fun r3 hw => ?_)
    subst hw
    refine lv_if_ne (tgt := 43) hx hb dX1_some_20 (by decide) (fun h2 => ?_) (fun h2 => absurd h2 hb0)
    refine lv_iconst (v := 0) hx hb dX1_some_43 (by decide) ?_
    rw [← hQ]
    exact W.zret (v := 0) hx hb hr narrow_b0 (fun t ht hW => ⟨0, rfl, Or.inr ⟨rfl, pt_cmp0.mp h1⟩, ht⟩) t_nil dX1_some_44
set_option maxHeartbeats 4000000 in
set_option maxRecDepth 100000 in
/-- the reference: thrown() -/
theorem c_thrown (l : Launch) (dC : Nat → ClassId) (dI : Nat → Nat → Nat) (g0 a0 b0 : Nat) (ja jb : ClassId) (k n : Nat) (fc fv : Nat → Int64) (cl su th : Int32)  : Met l yX1_thrown wsX1_thrown ({ frames := 0, cells := 0, slots := 0, locals := 0 }) (va_Pc [.ref g0] (fun U => va_P (dC, dI) vwCl [(g0, .inr (1, [.ref a0, .ref b0, .int (nI k), .int (nI n), .int cl, .int su, .int th])), (a0, .inl (ja, 512, .inr (.inl fc))), (b0, .inl (jb, 512, .inr (.inl fv)))] U.heap ∧ va_K (dC, dI) vwCl [(ja, .long), (jb, .long)] U)) (vp_Si (fun r : Int32 => r = th)) 0 0 (fun _ => False) := by
  refine Met.ofW (cc := cX1_thrown) (maxL := 1) (ret := (some .int)) (by decide) rfl ?_
  intro p e s m args below meth c s₁ B hml hv
  obtain ⟨ha, hP, hK⟩ := hv
  have hx := B.exec
  have hb := B.bytes
  have hr := B.returns
  have hts := atoms_spec (ws := wsX1_thrown) B.pre
  have hown : s.vm.findClass RX1 = some m.cls := findClass_of_methodNamed B.named
  have hlocks := B.notSynchronized
  have hl := lv_entry ([.ref g0]) (n := 1) (Nat.le_of_ble_eq_true rfl)
  refine W.eq (show entryFrame m args 1 = entryFrame m ([.ref g0] : List Value).toArray 1 by rw [ha]) ?_
  rw [lg_entry_eq]
  generalize (lg_sl ([.ref g0]) ++ List.replicate (1 - (lg_sl ([.ref g0])).length) Slot.unset).toArray = ls at hl ⊢
  have hl : lv_has ls 1 [(0, .ref g0)] := hl
  generalize hQ : MQ below (vp_Si (fun r : Int32 => r = th)) args s 0 0 (fun _ => False) = Q
  refine lv_aload_n hx hb dX1_thrown_0 rfl (lv_at hl 0 rfl) ?_
  refine va_get (D := (dC, dI)) (ci := 1) (v := .int th) (C := RX1) (T := TX1) (N := 7) hx hb hts (fun w h => List.mem_cons_of_mem _ (pt_wsX1 w h)) hown hK hP 0 rfl rfl 6 (by decide) (hts _ (List.mem_cons_of_mem _ pw167)) (fun _ h9 => h9) rfl dX1_thrown_1 ?_
  rw [← hQ]
  exact W.iret (v := th) hx hb hr (fun t ht hW => ⟨th, rfl, rfl, ht⟩) t_nil dX1_thrown_4
