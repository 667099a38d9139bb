/-! What the law's entry gives: the words of the throws, the classes, the launch without stack traces. -/
set_option maxRecDepth 20000 in
theorem pt_xw_tbl : ∀ w ∈ pt_xw, w ∈ lw_tbl ∨ w = .isRef (.static Bundle.tN "UNASSIGNED_STACK" Bundle.steD) ∨ w = .isRef (.static Bundle.tN "SUPPRESSED_SENTINEL" Bundle.listD) := by decide +kernel
set_option maxRecDepth 20000 in
theorem pt_str_tbl : ∀ q ∈ pt_strs, Cond.stringRef RX0 q.1 q.2 ∈ lw_tbl := by decide +kernel
theorem pt_nc_of {E nm : String} {a : Array Value} {s : State} (h : (Cond.not (.castable E nm)).before a s = true) : pt_nc E nm s := by
  simp only [Cond.before, Cond.holds, Cond.value] at h
  cases h1 : s.vm.findClass E with
  | none => simp [h1] at h
  | some x =>
    cases h2 : s.vm.findClass nm with
    | none => simp [h1, h2] at h
    | some y =>
      refine ⟨x, y, h1, h2, ?_⟩
      simpa [h1, h2] using h
theorem pt_ext_rf (s : State) : pt_ext s s := ⟨State.WarmedH.refl s, Nat.le_refl _, fun _ _ => rfl⟩
set_option maxRecDepth 20000 in
theorem pt_X_start {a : Array Value} {s : State} (hts : ∀ w ∈ lw_tbl, w.before a s = true) (hgv : (Jvm.Cond.and given_1 narrow_1).before a s = true) : pt_X s := by
  have hs := flat_of_before _ hgv
  have hxt := pt_ext_rf s
  have hl1 : (Cond.laysStatic Bundle.tN "UNASSIGNED_STACK" Bundle.steD).before a s = true := hts _ (by decide +kernel)
  have hl2 : (Cond.laysStatic Bundle.tN "SUPPRESSED_SENTINEL" Bundle.listD).before a s = true := hts _ (by decide +kernel)
  have hi1 : (Cond.isRef (.static Bundle.tN "UNASSIGNED_STACK" Bundle.steD)).before a s = true := hs _ (by decide +kernel)
  have hi2 : (Cond.isRef (.static Bundle.tN "SUPPRESSED_SENTINEL" Bundle.listD)).before a s = true := hs _ (by decide +kernel)
  refine ⟨fun w hw => ?_, fun k tx h => ?_, fun E nm h => ?_⟩
  · rcases pt_xw_all w hw with h1 | h1
    · rcases pt_xw_tbl w hw with h2 | rfl | rfl
      · exact pt_tw_at hxt.1 h1 (hts w h2)
      · exact (pt_stat_ext hxt hl1).2 hi1
      · exact (pt_stat_ext hxt hl2).2 hi2
    · simp only [pt_hw, List.mem_cons, List.not_mem_nil, or_false] at h1
      rcases h1 with rfl | rfl | rfl | rfl
      · exact (pt_stat_ext hxt hl1).1
      · exact (pt_stat_ext hxt hl2).1
      · exact (pt_stat_ext hxt hl1).2 hi1
      · exact (pt_stat_ext hxt hl2).2 hi2
  · have h1 : (Cond.stringRef RX0 k tx).before a s = true := hts _ (pt_str_tbl (k, tx) h)
    have hcur : ∃ cur, s.vm.findClass RX0 = some cur := by
      have h2 := h1
      simp only [Cond.before, Cond.holds, Cond.value] at h2
      cases hc : s.vm.findClass RX0 with
      | none => simp [hc] at h2
      | some cur => exact ⟨cur, rfl⟩
    obtain ⟨cur, hcur⟩ := hcur
    obtain ⟨_, _, _, q, -, -, -, -, -, he⟩ := Cond.stringRef_spec hcur h1
    exact ⟨q, vk_R.of h1 he⟩
  · simp only [pt_ncs, List.mem_cons, Prod.mk.injEq, List.not_mem_nil, or_false] at h
    rcases h with ⟨rfl, rfl⟩ | ⟨rfl, rfl⟩
    · exact pt_nc_of (hs (.not (.castable "java/lang/IllegalStateException" "java/lang/IllegalArgumentException")) (by decide +kernel))
    · exact pt_nc_of (hs (.not (.castable "java/util/NoSuchElementException" "java/lang/IllegalArgumentException")) (by decide +kernel))
theorem pt_K_start {a : Array Value} {s : State} (hts : ∀ w ∈ lw_tbl, w.before a s = true) : ∃ (dC : Nat → ClassId) (dI : Nat → Nat → Nat), va_K (dC, dI) vwCl [] s := by
  obtain ⟨c0, i0, h0⟩ := u_known (C := RX0) (T := TX0) (N := 7) (n := 7) hts (fun w h => (pt_all_in w (pt_wsX0 w h)).1) (hts _ (pt_all_in _ pw21).1)
  obtain ⟨c1, i1, h1⟩ := u_known (C := RX1) (T := TX1) (N := 7) (n := 7) hts (fun w h => (pt_all_in w (pt_wsX1 w h)).1) (hts _ (pt_all_in _ pw156).1)
  refine ⟨fun c => if c = 0 then c0 else c1, fun c => if c = 0 then i0 else i1, fun c q hq => ?_, fun k q h => by simp at h⟩
  match c with
  | 0 => cases hq; exact h0
  | 1 => cases hq; exact h1
  | n + 2 => simp at hq
theorem pt_l9 {l : Launch} (h : l.flags = flags0) : l.stackTraces = false := by
  unfold Launch.stackTraces
  rw [h]
  decide +kernel
theorem pt_end {L j : Nat} (hL : L ≤ 2560) (hj : 5 * j ≤ L) : (Int32.ofNat L - 5 < nI (5 * j)) ↔ ¬ 5 * j + 5 ≤ L := by
  by_cases h5 : 5 ≤ L
  · rw [show Int32.ofNat L - 5 = nI (L - 5) from pk_sub (b := 5) h5]
    constructor
    · exact fun h z => nI_nlt (a := L - 5) (b := 5 * j) (by omega) (by omega) h
    · exact fun h => nI_lt (by omega) (by omega)
  · have hj0 : j = 0 := by omega
    subst hj0
    have hL5 : L = 0 ∨ L = 1 ∨ L = 2 ∨ L = 3 ∨ L = 4 := by omega
    rcases hL5 with rfl | rfl | rfl | rfl | rfl <;> decide
