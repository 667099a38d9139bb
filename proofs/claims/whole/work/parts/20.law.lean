/-! THE CLAIM OUT OF ONE WALK OF THE LAW'S BODY. Your part is whole_start (and what it stands on); all else here is the same for every law, but numbers. -/
def R_law : String := "PatternTreeLaw"
def lw_P (b : Addr) (xs : List Int32) (args : Array Value) (s : State) : Prop := args = #[.ref b] ∧ s.IntsAt b xs ∧ xs.length ≤ 2560 ∧ (Jvm.Cond.and given_1 narrow_1).before args s = true
def lw_Q (_ : Array Value) (s : State) (o : Outcome) (t : State) : Prop := o = .returned (some (.int 1)) ∧ Framed s o t [] 1039 10303
def lw_Z (below : List Frame) (a : Array Value) (s : State) : State → Prop := fun t => ∃ o, t.status = .running ∧ Ended t below o ∧ lw_Q a s o t
/-- the law's own end, with 1 on the stack, nothing written that was there before, its room as the claim has it -/
theorem lw_ret {p : Program} {l : Launch} {e : Env} {s : State} {m : MethodId} {below : List Frame} {meth : Method} {c : Code} {b : Nat} (hx : p.tables.exec = Jvm.exec) (hb : c.code = code) (hr : meth.sig.returnType = ret) (hlocks : meth.locks = false) {pc : Nat} {H : Heap} {ls : Array Slot} (hdg : decode code pc = .ok (.ireturn, 1)) : W p l e room_1 s m #[Value.ref b] below meth c H [] 1039 10303 (lw_Z below #[Value.ref b] s) (F0 m pc ls [.int 1]) := by
  intro T hT X
  obtain ⟨fs, hret, hrun, hended, hW, hframe⟩ := X.leave (v := some (.int 1)) (hlocks := hlocks) (fun h => by rw [hr] at h; cases h)
  have hmeth' : T.vm.method? m = some meth := X.method'
  refine ⟨T.setFrames fs, ?_, .returned (some (.int 1)), hrun, hended, rfl, ⟨_, rfl⟩, hW, hframe⟩
  jvm_step X.here [X.here.top, hx, hb, hdg, hmeth', hr, ret, narrow_b1]
  (try refine ⟨rfl, ?_⟩); (try refine ⟨rfl, ?_⟩)
  first | (intro acts; rw [hret _ acts rfl rfl rfl]) | rw [hret _ _ rfl rfl rfl]
  exact Steps.refl _
/-- what holds at the law's entry: the machine, the code, the tables' words (any of lw_tbl by 'hts w (by decide +kernel)'), the script of L ints xs at the cell b, what the Statement gives of the start (any of its parts by flat_of_before) -/
def lw_At (p : Program) (s : State) (m : MethodId) (meth : Method) (c : Code) (b L : Nat) (xs : Nat → Int32) : Prop :=
  p.tables.exec = Jvm.exec ∧ c.code = code ∧ meth.sig.returnType = ret ∧ c.maxLocals = 8 ∧ s.vm.findClass R_law = some m.cls ∧ (∀ w ∈ lw_tbl, w.before #[Value.ref b] s = true) ∧ va_X b L xs s s.heap ∧ b < s.heap.size ∧ meth.locks = false ∧ (Jvm.Cond.and given_1 narrow_1).before #[Value.ref b] s = true
set_option maxHeartbeats 4000000 in
set_option maxRecDepth 100000 in
/-- from the entry, for every script of at most 2560 ints, the law comes to its end with true -/
theorem whole_start {p : Program} {e : Env} {s : State} {m : MethodId} {below : List Frame} {meth : Method} {c : Code} (l : Launch) (hl9 : l.stackTraces = false) {b L : Nat} {xs : Nat → Int32} (hL : L ≤ 2560) (C0 : lw_At p s m meth c b L xs) : W p l e room_1 s m #[Value.ref b] below meth c s.heap [] 0 0 (lw_Z below #[Value.ref b] s) (entryFrame m ([Value.ref b] : List Value).toArray 8) := by
  obtain ⟨hx, hb, hr, hml, hown, hts0, hX, hbl, hlocks, hgv⟩ := C0
  have h0X := pt_X_start hts0 hgv
  have hext0 := pt_ext_rf s
  obtain ⟨dC, dI, hK⟩ := pt_K_start hts0
  have hts : ∀ w ∈ Cond.initialized RL :: pt_all, w.before #[Value.ref b] s = true := fun w hw => by
    rcases List.mem_cons.mp hw with rfl | h
    · exact hts0 _ (pt_all_in _ pw16).1
    · exact hts0 w (pt_all_in w h).1
  have hown : s.vm.findClass RL = some m.cls := hown
  have hl := lv_entry ([.ref b]) (n := 8) (Nat.le_of_ble_eq_true rfl)
  rw [lg_entry_eq]
  generalize (lg_sl ([.ref b]) ++ List.replicate (8 - (lg_sl ([.ref b])).length) Slot.unset).toArray = ls at hl ⊢
  have hl : lv_has ls 8 [(0, .ref b)] := hl
  obtain ⟨A, hAe⟩ : ∃ A : Nat → Prop, A = fun q => s.heap.size ≤ q := ⟨_, rfl⟩
  have hAs : ∀ q : Nat, A q → s.heap.size ≤ q := fun q h => by rw [hAe] at h; exact h
  have hA : ∀ q : Nat, s.heap.size ≤ q → A q := fun q h => by rw [hAe]; exact h
  have hbA : ¬ A b := fun h => absurd hbl (Nat.not_lt.mpr (hAs b h))
  have hP : va_P (dC, dI) vwCl [] s.heap := fun k q h => by simp at h
  have hD : va_D A ([] : va_W) := ⟨fun i j p q h => by simp at h, fun k q h => by simp at h⟩
  have hS : va_S A s.heap s.heap [] := va_S.rf
  generalize hQ : lw_Z below #[Value.ref b] s = Q
  refine va_new (ci := 0) (fs := [.null, .null, .int 0, .int 0, .long 0, .int 0, .int 0]) (C := RX0) (T := TX0) (N := 7) hx hb hts (fun w h => List.mem_cons_of_mem _ (pt_wsX0 w h)) tyX0 tyX0_ok hown (hts _ (List.mem_cons_of_mem _ pw20)) (hts _ (List.mem_cons_of_mem _ pw21)) (hts _ (List.mem_cons_of_mem _ pw17)) hK hP hD hS hA rfl (fun j hj => by rcases (show j = 0 ∨ j = 1 ∨ j = 2 ∨ j = 3 ∨ j = 4 ∨ j = 5 ∨ j = 6 by omega) with rfl | rfl | rfl | rfl | rfl | rfl | rfl <;> rfl) (by show _ ≤ 1039; omega) (by show _ ≤ 10303; omega) dL_law_0 (fun h0 H hP hD hS => ?_)
  have hP : va_P (dC, dI) vwCl [(h0, .inr (0, [.null, .null, .int 0, .int 0, .long 0, .int 0, .int 0]))] H := hP
  have hD : va_D A [(h0, .inr (0, [.null, .null, .int 0, .int 0, .long 0, .int 0, .int 0]))] := hD
  refine lv_dup hx hb dL_law_3 rfl ?_
  have hPc := hP.sub (ws' := [(h0, .inr (0, [.null, .null, .int 0, .int 0, .long 0, .int 0, .int 0]))]) [0] rfl
  have hDc := hD.sub (ws' := [(h0, .inr (0, [.null, .null, .int 0, .int 0, .long 0, .int 0, .int 0]))]) [0] (by decide) rfl
  have hKc := hK.sub (tys' := []) [] rfl
  have hFc := va_free (wc := [(h0, .inr (0, [.null, .null, .int 0, .int 0, .long 0, .int 0, .int 0]))]) hD hS hA [0] rfl
  refine va_callv (va_runI (As := []) (rest := [.ref h0]) ⟨hx, hb, hml, hown, hts⟩ (c_init l dC dI h0 H.size ) (cwI 0 hts (pt_gI pw24) rfl rfl rfl (hts _ (List.mem_cons_of_mem _ pw17)) (hts _ (List.mem_cons_of_mem _ pw22)) (hts _ (List.mem_cons_of_mem _ pw23)) rfl (by decide +kernel) ⟨Nat.le_of_ble_eq_true rfl, Nat.le_of_ble_eq_true rfl⟩) ⟨fun a U g mk q => by obtain ⟨q0, q1, qP, qK, qD⟩ := q; exact ⟨q0, q1, qP, va_K.moved (u := U) (U := U.calling g mk a) (Vm.Alike.refl U.vm) qK, qD⟩, fun U hU hW => ⟨rfl, by rw [hU], by rw [hU]; exact hPc, va_K.moved hW.alike hKc, hDc.weaken (fun _ _ _ _ => trivial)⟩⟩ rfl rfl hl.1 rfl (lv_room (Nat.le_of_ble_eq_true rfl)) dL_law_4 ⟨by show _ ≤ 1039; omega, by show _ ≤ 10303; omega⟩) hS (fun q _ h => hFc q h) hFc (fun  u t H1 locs ht hvm hw hB hz1 hk1 hS => ?_)
  obtain ⟨c0, w0, kc, kw⟩ := u
  obtain ⟨hP1, hK1, hD1⟩ := hB
  rw [ht] at hP1
  obtain ⟨hP, hD⟩ := va_join (wr := ([] : va_W)) (w1 := [(h0, .inr (0, [.ref c0, .ref w0, .int 0, .int 32, .long (pt_mk 32), .int (-1), .int 0])), (c0, .inl (kc, 512, .inr (.inl (fun _ => 0)))), (w0, .inl (kw, 512, .inr (.inl (fun _ => 0))))]) hP hD [0] [] rfl rfl (by decide) (by decide) hk1 hFc hP1 hD1
  generalize H1 = H at hP hS ⊢
  have hP : va_P (dC, dI) vwCl [(h0, .inr (0, [.ref c0, .ref w0, .int 0, .int 32, .long (pt_mk 32), .int (-1), .int 0])), (c0, .inl (kc, 512, .inr (.inl (fun _ => 0)))), (w0, .inl (kw, 512, .inr (.inl (fun _ => 0))))] H := hP
  have hD : va_D A [(h0, .inr (0, [.ref c0, .ref w0, .int 0, .int 32, .long (pt_mk 32), .int (-1), .int 0])), (c0, .inl (kc, 512, .inr (.inl (fun _ => 0)))), (w0, .inl (kw, 512, .inr (.inl (fun _ => 0))))] := hD
  have hK1 := va_K.moved hvm.symm hK1
  have hK := hK.app hK1
  have hK : va_K (dC, dI) vwCl [(kc, .long), (kw, .long)] s := hK
  refine lv_astore_n (lv' := [(1, .ref h0), (0, .ref b)]) hx hb dL_law_7 rfl hl (by decide) rfl (fun ls hl => ?_)
  refine va_new (ci := 1) (fs := [.null, .null, .int 0, .int 0, .int 0, .int 0, .int 0]) (C := RX1) (T := TX1) (N := 7) hx hb hts (fun w h => List.mem_cons_of_mem _ (pt_wsX1 w h)) tyX1 tyX1_ok hown (hts _ (List.mem_cons_of_mem _ pw155)) (hts _ (List.mem_cons_of_mem _ pw156)) (hts _ (List.mem_cons_of_mem _ pw18)) hK hP hD hS hA rfl (fun j hj => by rcases (show j = 0 ∨ j = 1 ∨ j = 2 ∨ j = 3 ∨ j = 4 ∨ j = 5 ∨ j = 6 by omega) with rfl | rfl | rfl | rfl | rfl | rfl | rfl <;> rfl) (by show _ ≤ 1039; omega) (by show _ ≤ 10303; omega) dL_law_8 (fun g0 H hP hD hS => ?_)
  have hP : va_P (dC, dI) vwCl [(h0, .inr (0, [.ref c0, .ref w0, .int 0, .int 32, .long (pt_mk 32), .int (-1), .int 0])), (c0, .inl (kc, 512, .inr (.inl (fun _ => 0)))), (w0, .inl (kw, 512, .inr (.inl (fun _ => 0)))), (g0, .inr (1, [.null, .null, .int 0, .int 0, .int 0, .int 0, .int 0]))] H := hP
  have hD : va_D A [(h0, .inr (0, [.ref c0, .ref w0, .int 0, .int 32, .long (pt_mk 32), .int (-1), .int 0])), (c0, .inl (kc, 512, .inr (.inl (fun _ => 0)))), (w0, .inl (kw, 512, .inr (.inl (fun _ => 0)))), (g0, .inr (1, [.null, .null, .int 0, .int 0, .int 0, .int 0, .int 0]))] := hD
  refine lv_dup hx hb dL_law_11 rfl ?_
  have hPc := hP.sub (ws' := [(g0, .inr (1, [.null, .null, .int 0, .int 0, .int 0, .int 0, .int 0]))]) [3] rfl
  have hDc := hD.sub (ws' := [(g0, .inr (1, [.null, .null, .int 0, .int 0, .int 0, .int 0, .int 0]))]) [3] (by decide) rfl
  have hKc := hK.sub (tys' := []) [] rfl
  have hFc := va_free (wc := [(g0, .inr (1, [.null, .null, .int 0, .int 0, .int 0, .int 0, .int 0]))]) hD hS hA [3] rfl
  refine va_callv (va_runI (As := []) (rest := [.ref g0]) ⟨hx, hb, hml, hown, hts⟩ (c_minit l dC dI g0 H.size ) (cwI 0 hts (pt_gI pw159) rfl rfl rfl (hts _ (List.mem_cons_of_mem _ pw18)) (hts _ (List.mem_cons_of_mem _ pw157)) (hts _ (List.mem_cons_of_mem _ pw158)) rfl (by decide +kernel) ⟨Nat.le_of_ble_eq_true rfl, Nat.le_of_ble_eq_true rfl⟩) ⟨fun a U g mk q => by obtain ⟨q0, q1, qP, qK, qD⟩ := q; exact ⟨q0, q1, qP, va_K.moved (u := U) (U := U.calling g mk a) (Vm.Alike.refl U.vm) qK, qD⟩, fun U hU hW => ⟨rfl, by rw [hU], by rw [hU]; exact hPc, va_K.moved hW.alike hKc, hDc.weaken (fun _ _ _ _ => trivial)⟩⟩ rfl rfl hl.1 rfl (lv_room (Nat.le_of_ble_eq_true rfl)) dL_law_12 ⟨by show _ ≤ 1039; omega, by show _ ≤ 10303; omega⟩) hS (fun q _ h => hFc q h) hFc (fun  u t H1 locs ht hvm hw hB hz1 hk1 hS => ?_)
  obtain ⟨a0, b0, ja, jb⟩ := u
  obtain ⟨hP1, hK1, hD1⟩ := hB
  rw [ht] at hP1
  obtain ⟨hP, hD⟩ := va_join (wr := [(h0, .inr (0, [.ref c0, .ref w0, .int 0, .int 32, .long (pt_mk 32), .int (-1), .int 0])), (c0, .inl (kc, 512, .inr (.inl (fun _ => 0)))), (w0, .inl (kw, 512, .inr (.inl (fun _ => 0))))]) (w1 := [(g0, .inr (1, [.ref a0, .ref b0, .int 0, .int 32, .int (-1), .int 0, .int 0])), (a0, .inl (ja, 512, .inr (.inl (fun _ => 0)))), (b0, .inl (jb, 512, .inr (.inl (fun _ => 0))))]) hP hD [3] [0, 1, 2] rfl rfl (by decide) (by decide) hk1 hFc hP1 hD1
  generalize H1 = H at hP hS ⊢
  have hP : va_P (dC, dI) vwCl [(h0, .inr (0, [.ref c0, .ref w0, .int 0, .int 32, .long (pt_mk 32), .int (-1), .int 0])), (c0, .inl (kc, 512, .inr (.inl (fun _ => 0)))), (w0, .inl (kw, 512, .inr (.inl (fun _ => 0)))), (g0, .inr (1, [.ref a0, .ref b0, .int 0, .int 32, .int (-1), .int 0, .int 0])), (a0, .inl (ja, 512, .inr (.inl (fun _ => 0)))), (b0, .inl (jb, 512, .inr (.inl (fun _ => 0))))] H := hP
  have hD : va_D A [(h0, .inr (0, [.ref c0, .ref w0, .int 0, .int 32, .long (pt_mk 32), .int (-1), .int 0])), (c0, .inl (kc, 512, .inr (.inl (fun _ => 0)))), (w0, .inl (kw, 512, .inr (.inl (fun _ => 0)))), (g0, .inr (1, [.ref a0, .ref b0, .int 0, .int 32, .int (-1), .int 0, .int 0])), (a0, .inl (ja, 512, .inr (.inl (fun _ => 0)))), (b0, .inl (jb, 512, .inr (.inl (fun _ => 0))))] := hD
  have hK1 := va_K.moved hvm.symm hK1
  have hK := hK.app hK1
  have hK : va_K (dC, dI) vwCl [(kc, .long), (kw, .long), (ja, .long), (jb, .long)] s := hK
  refine lv_astore_n (lv' := [(2, .ref g0), (1, .ref h0), (0, .ref b)]) hx hb dL_law_15 rfl hl (by decide) rfl (fun ls hl => ?_)
  refine lv_iconst (v := 1) hx hb dL_law_16 (by decide) ?_
  refine va_newa (atype := .long) (N' := 1) (a0 := (1, .inr (.inl (fun _ => 0)))) (ty := .long) (n := 1) hx hb (hts _ (List.mem_cons_of_mem _ pw46)) rfl hK hP hD hS hA (fun _ => rfl) (by decide) (by decide) (by decide) (by show _ ≤ 1039; omega) (by show _ ≤ 10303; omega) dL_law_17 (fun o0 ko H hK hP hD hS => ?_)
  have hP : va_P (dC, dI) vwCl [(h0, .inr (0, [.ref c0, .ref w0, .int 0, .int 32, .long (pt_mk 32), .int (-1), .int 0])), (c0, .inl (kc, 512, .inr (.inl (fun _ => 0)))), (w0, .inl (kw, 512, .inr (.inl (fun _ => 0)))), (g0, .inr (1, [.ref a0, .ref b0, .int 0, .int 32, .int (-1), .int 0, .int 0])), (a0, .inl (ja, 512, .inr (.inl (fun _ => 0)))), (b0, .inl (jb, 512, .inr (.inl (fun _ => 0)))), (o0, .inl (ko, 1, .inr (.inl (fun _ => 0))))] H := hP
  have hD : va_D A [(h0, .inr (0, [.ref c0, .ref w0, .int 0, .int 32, .long (pt_mk 32), .int (-1), .int 0])), (c0, .inl (kc, 512, .inr (.inl (fun _ => 0)))), (w0, .inl (kw, 512, .inr (.inl (fun _ => 0)))), (g0, .inr (1, [.ref a0, .ref b0, .int 0, .int 32, .int (-1), .int 0, .int 0])), (a0, .inl (ja, 512, .inr (.inl (fun _ => 0)))), (b0, .inl (jb, 512, .inr (.inl (fun _ => 0)))), (o0, .inl (ko, 1, .inr (.inl (fun _ => 0))))] := hD
  have hK : va_K (dC, dI) vwCl [(kc, .long), (kw, .long), (ja, .long), (jb, .long), (ko, .long)] s := hK
  refine lv_astore_n (lv' := [(3, .ref o0), (2, .ref g0), (1, .ref h0), (0, .ref b)]) hx hb dL_law_19 rfl hl (by decide) rfl (fun ls hl => ?_)
  refine lv_iconst (v := 0) hx hb dL_law_20 (by decide) ?_
  refine lv_istore (lv' := [(4, .int 0), (3, .ref o0), (2, .ref g0), (1, .ref h0), (0, .ref b)]) hx hb dL_law_21 hl (by decide) rfl (fun ls hl => ?_)
  have loop : ∀ (d j : Nat), L / 5 - j = d → 5 * j ≤ L → ∀ (k n : Nat) (fc fv : Nat → Int64) (cl su th : Int32) (fo : Nat → Int64) (H : Heap) (locs : List Loc) (ls : Array Slot), pt_I k n fc fv → va_P (dC, dI) vwCl [(h0, .inr (0, [.ref c0, .ref w0, .int (nI k), .int (nI n), .long (pt_mk n), .int cl, .int su])), (c0, .inl (kc, 512, .inr (.inl fc))), (w0, .inl (kw, 512, .inr (.inl fv))), (g0, .inr (1, [.ref a0, .ref b0, .int (nI k), .int (nI n), .int cl, .int su, .int th])), (a0, .inl (ja, 512, .inr (.inl fc))), (b0, .inl (jb, 512, .inr (.inl fv))), (o0, .inl (ko, 1, .inr (.inl fo)))] H → va_D A [(h0, .inr (0, [.ref c0, .ref w0, .int (nI k), .int (nI n), .long (pt_mk n), .int cl, .int su])), (c0, .inl (kc, 512, .inr (.inl fc))), (w0, .inl (kw, 512, .inr (.inl fv))), (g0, .inr (1, [.ref a0, .ref b0, .int (nI k), .int (nI n), .int cl, .int su, .int th])), (a0, .inl (ja, 512, .inr (.inl fc))), (b0, .inl (jb, 512, .inr (.inl fv))), (o0, .inl (ko, 1, .inr (.inl fo)))] → va_S A s.heap H locs → lv_has ls 8 [(4, .int (nI (5 * j))), (3, .ref o0), (2, .ref g0), (1, .ref h0), (0, .ref b)] → W p l e room_1 s m #[Value.ref b] below meth c H locs (7 + j) (2063 + 6 * j) Q (F0 m 23 ls []) := by
    intro d
    induction d with
    | zero =>
      intro j hd hj k n fc fv cl su th fo H locs ls hI hP hD hS hl
      refine lv_iload hx hb dL_law_23 (lv_at hl 0 rfl) ?_
      refine lv_aload_n hx hb dL_law_25 rfl (lv_at hl 4 rfl) ?_
      refine va_slen hx hb hX hbl hbA hS dL_law_26 ?_
      refine lv_iconst (v := 5) hx hb dL_law_27 (by decide) ?_
      refine lv_isub hx hb dL_law_28 ?_
      refine lv_icmp_gt (tgt := 889) hx hb dL_law_29 (by decide) (fun h1 => ?_) (fun h1 => absurd ((pt_end hL hj).mpr (by omega)) h1)
      refine lv_iconst (v := 1) hx hb dL_law_889 (by decide) ?_
      rw [← hQ]
      refine va_forget (fun q hq => hAs _ (hS.2.2 q hq)) ?_
      refine W.widen (k := 1039) (n := 10303) (by omega) (by omega) ?_
      exact lw_ret hx hb hr hlocks dL_law_890
    | succ d ih =>
      intro j hd hj k n fc fv cl su th fo H locs ls hI hP hD hS hl
      refine lv_iload hx hb dL_law_23 (lv_at hl 0 rfl) ?_
      refine lv_aload_n hx hb dL_law_25 rfl (lv_at hl 4 rfl) ?_
      refine va_slen hx hb hX hbl hbA hS dL_law_26 ?_
      refine lv_iconst (v := 5) hx hb dL_law_27 (by decide) ?_
      refine lv_isub hx hb dL_law_28 ?_
      refine lv_icmp_gt (tgt := 889) hx hb dL_law_29 (by decide) (fun h1 => absurd h1 (fun z => absurd (show 5 * j + 5 ≤ L by omega) ((pt_end hL hj).mp z))) (fun h1 => ?_)
      have hj5 : 5 * j + 5 ≤ L := Classical.not_not.mp (fun z => h1 ((pt_end hL hj).mpr z))
      have kk := ih (j + 1) (by omega) (by omega)
      refine lv_aload_n hx hb dL_law_32 rfl (lv_at hl 4 rfl) ?_
      refine lv_iload hx hb dL_law_33 (lv_at hl 0 rfl) ?_
      refine va_sld hx hb hX hbl hbA hS (vp_in_nI (by omega) (by omega)) dL_law_35 ?_
      rw [nI_clamp (by omega)]
      refine lv_bipush (v := 15) hx hb dL_law_36 (by decide) ?_
      refine lv_iand hx hb dL_law_38 ?_
      refine lv_topi (fun x ex => ?_)
      by_cases c0 : x = 0
      · refine lv_tableIn (off := 53) (tgt := 92) hx hb dL_law_39 (by rw [c0]; decide) (by rw [c0]; decide) (by rw [c0]; decide) (by decide) ?_
        exact lw_case_clear l hl9 dC dI hAs hA hx hb hml hown hts hX hbl hbA h0X hext0 hK hL hj5 hI hP hD hS hl kk
      by_cases c1 : x = 1
      · refine lv_tableIn (off := 89) (tgt := 128) hx hb dL_law_39 (by rw [c1]; decide) (by rw [c1]; decide) (by rw [c1]; decide) (by decide) ?_
        exact lw_case_add l hl9 dC dI hAs hA hx hb hml hown hts hX hbl hbA h0X hext0 hK hL hj5 hI hP hD hS hl kk
      by_cases c2 : x = 2
      · refine lv_tableIn (off := 221) (tgt := 260) hx hb dL_law_39 (by rw [c2]; decide) (by rw [c2]; decide) (by rw [c2]; decide) (by decide) ?_
        exact lw_case_signs l hl9 dC dI hAs hA hx hb hml hown hts hX hbl hbA h0X hext0 hK hL hj5 hI hP hD hS hl kk
      by_cases c3 : x = 3
      · refine lv_tableIn (off := 309) (tgt := 348) hx hb dL_law_39 (by rw [c3]; decide) (by rw [c3]; decide) (by rw [c3]; decide) (by decide) ?_
        exact lw_case_drop l hl9 dC dI hAs hA hx hb hml hown hts hX hbl hbA h0X hext0 hK hL hj5 hI hP hD hS hl kk
      by_cases c4 : x = 4
      · refine lv_tableIn (off := 345) (tgt := 384) hx hb dL_law_39 (by rw [c4]; decide) (by rw [c4]; decide) (by rw [c4]; decide) (by decide) ?_
        exact lw_case_decode l hl9 dC dI hAs hA hx hb hml hown hts hX hbl hbA h0X hext0 hK hL hj5 hI hP hD hS hl kk
      by_cases c5 : x = 5
      · refine lv_tableIn (off := 402) (tgt := 441) hx hb dL_law_39 (by rw [c5]; decide) (by rw [c5]; decide) (by rw [c5]; decide) (by decide) ?_
        exact lw_case_meets l hl9 dC dI hAs hA hx hb hml hown hts hX hbl hbA h0X hext0 hK hL hj5 hI hP hD hS hl kk
      by_cases c6 : x = 6
      · refine lv_tableIn (off := 534) (tgt := 573) hx hb dL_law_39 (by rw [c6]; decide) (by rw [c6]; decide) (by rw [c6]; decide) (by decide) ?_
        exact lw_case_free l hl9 dC dI hAs hA hx hb hml hown hts hX hbl hbA h0X hext0 hK hL hj5 hI hP hD hS hl kk
      by_cases c7 : x = 7
      · refine lv_tableIn (off := 665) (tgt := 704) hx hb dL_law_39 (by rw [c7]; decide) (by rw [c7]; decide) (by rw [c7]; decide) (by decide) ?_
        exact lw_case_next l hl9 dC dI hAs hA hx hb hml hown hts hX hbl hbA h0X hext0 hK hL hj5 hI hP hD hS hl kk
      by_cases c8 : x = 8
      · refine lv_tableIn (off := 752) (tgt := 791) hx hb dL_law_39 (by rw [c8]; decide) (by rw [c8]; decide) (by rw [c8]; decide) (by decide) ?_
        exact lw_case_told l hl9 dC dI hAs hA hx hb hml hown hts hX hbl hbA h0X hext0 hK hL hj5 hI hP hD hS hl kk
      by_cases c9 : x = 9
      · refine lv_tableIn (off := 819) (tgt := 858) hx hb dL_law_39 (by rw [c9]; decide) (by rw [c9]; decide) (by rw [c9]; decide) (by decide) ?_
        exact lw_case_count l hl9 dC dI hAs hA hx hb hml hown hts hX hbl hbA h0X hext0 hK hL hj5 hI hP hD hS hl kk
      have q0 := lv_neT c0 (show (0 : Int32).toInt = 0 by decide)
      have q1 := lv_neT c1 (show (1 : Int32).toInt = 1 by decide)
      have q2 := lv_neT c2 (show (2 : Int32).toInt = 2 by decide)
      have q3 := lv_neT c3 (show (3 : Int32).toInt = 3 by decide)
      have q4 := lv_neT c4 (show (4 : Int32).toInt = 4 by decide)
      have q5 := lv_neT c5 (show (5 : Int32).toInt = 5 by decide)
      have q6 := lv_neT c6 (show (6 : Int32).toInt = 6 by decide)
      have q7 := lv_neT c7 (show (7 : Int32).toInt = 7 by decide)
      have q8 := lv_neT c8 (show (8 : Int32).toInt = 8 by decide)
      have q9 := lv_neT c9 (show (9 : Int32).toInt = 9 by decide)
      refine lv_tableOut (tgt := 883) hx hb dL_law_39 (by omega) (by decide) ?_
      refine lv_iinc (v := nI (5 * (j + 1))) (lv' := [(4, .int (nI (5 * (j + 1)))), (3, .ref o0), (2, .ref g0), (1, .ref h0), (0, .ref b)]) hx hb dL_law_883 hl (k := 0) rfl (show nI (5 * j) + nI 5 = nI (5 * j + 5) from nI_add _ _) (by decide) rfl (fun ls hl => ?_)
      refine lv_goto (tgt := 23) hx hb dL_law_886 (by decide) ?_
      refine W.widen (k := 7 + (j + 1)) (n := 2063 + 6 * (j + 1)) (by omega) (by omega) ?_
      exact kk k n fc fv cl su th fo H _ ls hI hP hD hS (lv_sub hl [0, 1, 2, 3, 4] rfl)
  exact loop (L / 5 - 0) 0 rfl (by omega) 0 32 (fun _ => 0) (fun _ => 0) (-1) 0 0 (fun _ => 0) H _ ls (pt_I_0 (by decide) (by decide)) hP hD hS hl
set_option maxHeartbeats 4000000 in
theorem lw_walk (l : Launch) (hl9 : l.stackTraces = false) (b : Addr) (xs : List Int32) : MetFree l x (headSpec (Jvm.Cond.code x code maxLocals ret :: tables_1) room_1) (lw_P b xs) (fun _ _ _ _ _ => True) lw_Q := by
  refine MetFree.of_bodyS (code := code) (maxLocals := maxLocals) (ret := ret) (by decide) ?_ ?_
  · intro args s m h hn
    obtain ⟨meth, c, h1, h2, h3, h4, h5, h6, -, -⟩ := Cond.code_spec hn (atoms_spec (ws := Jvm.Cond.code x code maxLocals ret :: tables_1) h _ List.mem_cons_self)
    exact ⟨meth, c, h1, h2, h3, h4, h5, h6⟩
  · intro p e s m args below meth c s₁ B hml0 hP _
    obtain ⟨rfl, hx, hbd, hgv⟩ := hP
    obtain ⟨scr, harrAt, hlist, hof, hsmall⟩ := hx
    obtain ⟨hcb, hkn, -, -⟩ := State.arrayAt?_spec harrAt
    have hown : s.vm.findClass R_law = some m.cls := findClass_of_methodNamed B.named
    have hts0 : ∀ c ∈ (Jvm.Cond.code x code maxLocals ret :: tables_1), c.before #[Value.ref b] s = true := atoms_spec (ws := Jvm.Cond.code x code maxLocals ret :: tables_1) B.pre
    have hts : ∀ w ∈ lw_tbl, w.before #[Value.ref b] s = true := k2_hts_sels lw_privs (fun w hw => hts0 w (List.mem_cons_of_mem _ hw)) lw_privs_ok
    have hml : c.maxLocals = 8 := B.maxLocals_eq (hts0 _ List.mem_cons_self)
    have X₀ : Stand p l e room_1 s m #[Value.ref b] below meth c s₁ [] 0 0 := Stand.of_body B
    have hh0 : s₁.heap = s.heap := by rw [B.state]; rfl
    have hsz : scr.slots.size = xs.length := by rw [← Array.length_toList, hlist, List.length_map]
    have hval : ∀ j : Nat, j < xs.length → scr.slots[j]? = some (.int (xs.getD j 0)) := fun j hj => by
      rw [← Array.getElem?_toList, hlist]
      simp [hj]
    have hbl : b < s.heap.size := (Array.getElem?_eq_some_iff.mp hcb).1
    have hX : va_X b xs.length (fun j => xs.getD j 0) s s.heap := ⟨scr, hcb, hof, hkn, hsz, hval⟩
    have K : W p l e room_1 s m #[Value.ref b] below meth c s₁.heap [] 0 0 (lw_Z below #[Value.ref b] s) (entryFrame m ([Value.ref b] : List Value).toArray 8) := by
      rw [hh0]
      exact whole_start l hl9 hbd ⟨B.exec, B.bytes, B.returns, hml, hown, hts, hX, hbl, B.notSynchronized, hgv⟩
    obtain ⟨t, a1, o, b1, b2, b3⟩ := K s₁ rfl X₀
    exact ⟨t, o, a1, b1, b2, b3⟩
theorem lw_pre_spec {args : Array Value} {s : State} (h : (Jvm.Cond.and given_1 narrow_1).before args s = true) (hr : rest_1_c.before args s = true) : ∃ (b : Addr) (xs : List Int32), lw_P b xs args s := by
  have hs := flat_of_before _ h
  have hq := flat_of_before _ hr
  have hc : (Cond.count 1).before args s = true := hs _ (by decide +kernel)
  have harr : (Cond.arrayOf (.arg 0) .int).before args s = true := hs _ (by decide +kernel)
  have hle : (Cond.le (.length (.arg 0)) (.int 2560)).before args s = true := hs _ (by decide +kernel)
  have hlen : (Cond.isInt (.length (.arg 0))).before args s = true := hq _ (by decide +kernel)
  have hall : (Cond.all (.arg 0) (.isInt (.elem (.arg 0) (.index 0)))).before args s = true := hq _ (by decide +kernel)
  obtain ⟨b, xs, hb, hx⟩ := State.ints_of_pre rfl harr hlen hall
  have hsm : xs.length < 2 ^ 31 := hx.choose_spec.2.2.2
  have hev : (Term.length (.arg 0)).eval args s none [] s = some (.int xs.length.toInt32) := hx.length_eval hb
  have hv := Cond.le_ints hev (show (Term.int 2560).eval args s none [] s = some (.int 2560) from rfl)
  have hd : xs.length.toInt32 ≤ 2560 := by
    simpa [Cond.before, Cond.holds, hv] using hle
  have hN : xs.length ≤ 2560 := (Int32.ofNat_le_ofNat hsm (by decide)).mp (show Int32.ofNat xs.length ≤ Int32.ofNat 2560 from hd)
  exact ⟨b, xs, Cond.one_arg hc (show args[0]? = some (.ref b) from hb), hx, hN, h⟩
theorem lw_comes (l : Launch) (hl9 : l.stackTraces = false) : Comes l x (Jvm.Cond.code x code maxLocals ret :: tables_1) room_1 (fun tb e args s => Calls_1 tb e args s ∧ rest_1 tb e args s ∧ Pre_1 tb e args s)
    (fun _ _ args s o t => lw_Q args s o t) := by
  intro p e ha hc hk s m args below hf hfit hheap happ hpre
  obtain ⟨b, xs, hP⟩ := lw_pre_spec hpre.2.2 hpre.2.1
  obtain ⟨k, o, h1, h2, h3, hQ⟩ := lw_walk l hl9 b xs p e ha hc hk s m args below hf ((Spec.applies_iff_loose hf).mp happ).1 hP trivial
  exact ⟨k, o, h1, h2, h3, hQ⟩
theorem lw_frame {s t : State} {o : Outcome} {args : Array Value} (h : Framed s o t [] 1039 10303) :
    Framed s o t (fieldLocs frame_1_writes args s ++ arrayLocs frame_1_arrays args s ++ staticLocs frame_1_statics s) 1039 10303 := h
theorem lw_limb (L : Cond) (hL : ∀ (args : Array Value) (s t : State), L.after args s (.returned (some (.int 1))) t = true) :
    ArmFor flags0 classFile x code maxLocals ret World_1 tables_1 room_1 Calls_1 rest_1 Pre_1
      (fun tb e a s o t => postC L tb e a s o t ∧ Framed s o t (fieldLocs frame_1_writes a s ++ arrayLocs frame_1_arrays a s ++ staticLocs frame_1_statics s) 1039 10303) := by
  intro l hfl _ _ p e ha hc hk s m args below hf hfit hheap happ hpre
  obtain ⟨k, o, h1, h2, h3, rfl, hF⟩ := lw_comes l (pt_l9 hfl) p e ha hc hk s m args below hf hfit hheap happ hpre
  exact ⟨k, _, h1, h2, h3, hL args s _, lw_frame hF⟩
theorem i_vc : Claimed_1_1 ∧ Claimed_1_2 := ⟨lw_limb limb_1_1 (fun args s t => by simp [limb_1_1, Cond.after, Cond.holds, Cond.value]), lw_limb limb_1_2 (fun args s t => Cond.after_iff.mpr (by
  first | (rw [show limb_1_2 = Cond.eq .result (.int 1) from rfl, Cond.eq_ints (x := 1) (y := 1) rfl rfl]; simp; done) | (simp [limb_1_2, Cond.value, Term.eval]; done)))⟩
