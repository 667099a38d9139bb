/-! What each call does, to the class and to the reference alike: number thrown, answer, rows behind it. -/
abbrev pt_st : Type := Nat × Nat × (Nat → Int64) × (Nat → Int64) × Int32 × Int32
def pt_Rclear (k n : Nat) (fc fv : Nat → Int64) (cl su : Int32) (x t : Int32) (u : pt_st) : Prop :=
  ((x < 1 ∨ ¬ x ≤ 64) ∧ t = 1 ∧ u = (k, n, fc, fv, cl, su)) ∨ ∃ a : Nat, 1 ≤ a ∧ a ≤ 64 ∧ x = nI a ∧ t = 0 ∧ u = (0, a, fc, fv, cl, su)
def pt_Rapp (k n : Nat) (fc fv : Nat → Int64) (cl su : Int32) (a b : Int64) (t : Int32) (o : Int64) (u : pt_st) : Prop :=
  (k = 512 ∧ t = 2 ∧ u = (k, n, fc, fv, -1, su)) ∨
  (k < 512 ∧ ∃ r : Int32, pt_F (fun j => pt_sh (fc j) (fv j) a b) k r ∧ ¬ r = -1 ∧ t = 2 ∧ u = (k, n, fc, fv, r, su)) ∨
  (k < 512 ∧ (∀ j, j < k → ¬ pt_sh (fc j) (fv j) a b) ∧ t = 0 ∧ o = (nI k).toInt64 ∧ u = (k + 1, n, vp_updL fc k a, vp_updL fv k b, cl, su))
def pt_Radd (k n : Nat) (fc fv : Nat → Int64) (cl su : Int32) (a b : Int64) (t : Int32) (o : Int64) (u : pt_st) : Prop :=
  (pt_stray n a b ∧ t = 1 ∧ u = (k, n, fc, fv, cl, su)) ∨ (¬ pt_stray n a b ∧ pt_Rapp k n fc fv cl su (a &&& pt_mk n) (b &&& pt_mk n) t o u)
def pt_Rsigns (k n : Nat) (fc fv : Nat → Int64) (cl su : Int32) (x : Int64) (t : Int32) (o : Int64) (u : pt_st) : Prop :=
  (x < 0 ∧ t = 1 ∧ u = (k, n, fc, fv, cl, su)) ∨ ∃ D : Nat, D < 2 ^ 63 ∧ x = lN D ∧ pt_Rapp k n fc fv cl su (pt_sc D 40 &&& pt_mk n) (pt_sw D 40 &&& pt_mk n) t o u
def pt_Rdrop (k n : Nat) (fc fv : Nat → Int64) (cl su : Int32) (x t : Int32) (u : pt_st) : Prop :=
  ((x < 0 ∨ ¬ x < nI k) ∧ t = 1 ∧ u = (k, n, fc, fv, cl, su)) ∨ ∃ i : Nat, i < k ∧ x = nI i ∧ t = 0 ∧ u = (k - 1, n, pt_mv fc i k, pt_mv fv i k, cl, su)
def pt_Rmeets (k n : Nat) (fc fv : Nat → Int64) (a b : Int64) (t : Int32) (o : Int64) : Prop :=
  (pt_stray n a b ∧ t = 1) ∨ (¬ pt_stray n a b ∧ t = 0 ∧ ∃ r : Int32, pt_F (fun j => pt_sh (fc j) (fv j) (a &&& pt_mk n) (b &&& pt_mk n)) k r ∧ o = r.toInt64)
def pt_Rfree (k n : Nat) (fc fv : Nat → Int64) (a b : Int64) (t : Int32) (o : Int64) : Prop :=
  (pt_stray n a b ∧ t = 1) ∨ (¬ pt_stray n a b ∧ t = 0 ∧ o = pt_fw n fc fv (a &&& pt_mk n) (b &&& pt_mk n) k)
def pt_Rnext (k n : Nat) (fc fv : Nat → Int64) (a : Int64) (t : Int32) (o : Int64) : Prop :=
  ((∀ j, j < k → ¬ pt_sh (fc j) (fv j) (pt_mk n) (a &&& pt_mk n)) ∧ t = 0 ∧ o = a &&& pt_mk n) ∨
  ((¬ ∀ j, j < k → ¬ pt_sh (fc j) (fv j) (pt_mk n) (a &&& pt_mk n)) ∧
    ((∃ i : Nat, i < n ∧ pt_N k n fc fv (a &&& pt_mk n) i ∧ (∀ j, j < i → ¬ pt_N k n fc fv (a &&& pt_mk n) j) ∧ t = 0 ∧ o = pt_lf k n fc fv i (pt_rs n (a &&& pt_mk n) i)) ∨
     ((∀ j, j < n → ¬ pt_N k n fc fv (a &&& pt_mk n) j) ∧ t = 1)))
def pt_Rtold (k n : Nat) (fc fv : Nat → Int64) (y x t : Int32) (o : Int64) : Prop :=
  ((x < 0 ∨ ¬ x ≤ 2) ∧ t = 1) ∨ (¬ x < 0 ∧ x ≤ 2 ∧ (y < 0 ∨ ¬ y < nI k) ∧ t = 2) ∨
  ∃ i : Nat, i < k ∧ y = nI i ∧ ¬ x < 0 ∧ x ≤ 2 ∧ t = 0 ∧ o = (if x = 0 then fc i else if x = 1 then fv i else (nI n - pt_bits (fc i)).toInt64)
theorem pt_Rclear_det {k n : Nat} {fc fv : Nat → Int64} {cl su x t t' : Int32} {u u' : pt_st} (h : pt_Rclear k n fc fv cl su x t u) (h' : pt_Rclear k n fc fv cl su x t' u') : t = t' ∧ u = u' := by
  have no : ∀ a : Nat, 1 ≤ a → a ≤ 64 → ¬ (nI a < 1 ∨ ¬ nI a ≤ 64) := fun a h1 h2 z => z.elim (fun z => nI_nlt (b := 1) h1 (by omega) z) (fun z => z (nI_le (b := 64) h2 (by decide)))
  rcases h with ⟨hb, rfl, rfl⟩ | ⟨a, h1, h2, rfl, rfl, rfl⟩
  · rcases h' with ⟨-, rfl, rfl⟩ | ⟨a', g1, g2, rfl, -, -⟩
    · exact ⟨rfl, rfl⟩
    · exact absurd hb (no a' g1 g2)
  · rcases h' with ⟨hb, -, -⟩ | ⟨a', g1, g2, e, rfl, rfl⟩
    · exact absurd hb (no a h1 h2)
    · have e := (nI_eq (by omega) (by omega)).mp e
      subst e
      exact ⟨rfl, rfl⟩
theorem pt_Rapp_det {k n : Nat} {fc fv : Nat → Int64} {cl su : Int32} {a b : Int64} {t t' : Int32} {o o' : Int64} {u u' : pt_st} (hk : k ≤ 512) (h : pt_Rapp k n fc fv cl su a b t o u) (h' : pt_Rapp k n fc fv cl su a b t' o' u') : t = t' ∧ u = u' ∧ (t = 0 → o = o') := by
  rcases h with ⟨e1, rfl, rfl⟩ | ⟨e1, r, hF, hr, rfl, rfl⟩ | ⟨e1, hno, rfl, rfl, rfl⟩
  · rcases h' with ⟨-, rfl, rfl⟩ | ⟨g, -⟩ | ⟨g, -⟩
    · exact ⟨rfl, rfl, fun z => absurd z (by decide)⟩
    · omega
    · omega
  · rcases h' with ⟨g, -⟩ | ⟨-, r', hF', -, rfl, rfl⟩ | ⟨-, hno', -⟩
    · omega
    · rw [pt_F_unique (fun _ _ => Iff.rfl) hF hF']
      exact ⟨rfl, rfl, fun z => absurd z (by decide)⟩
    · exact absurd ((pt_F_none hk hF).mpr hno') hr
  · rcases h' with ⟨g, -⟩ | ⟨-, r', hF', hr', -⟩ | ⟨-, -, rfl, rfl, rfl⟩
    · omega
    · exact absurd ((pt_F_none hk hF').mpr hno) hr'
    · exact ⟨rfl, rfl, fun _ => rfl⟩
theorem pt_Radd_det {k n : Nat} {fc fv : Nat → Int64} {cl su : Int32} {a b : Int64} {t t' : Int32} {o o' : Int64} {u u' : pt_st} (hk : k ≤ 512) (h : pt_Radd k n fc fv cl su a b t o u) (h' : pt_Radd k n fc fv cl su a b t' o' u') : t = t' ∧ u = u' ∧ (t = 0 → o = o') := by
  rcases h with ⟨hs, rfl, rfl⟩ | ⟨hs, h⟩
  · rcases h' with ⟨-, rfl, rfl⟩ | ⟨hs', -⟩
    · exact ⟨rfl, rfl, fun z => absurd z (by decide)⟩
    · exact absurd hs hs'
  · rcases h' with ⟨hs', -⟩ | ⟨-, h'⟩
    · exact absurd hs' hs
    · exact pt_Rapp_det hk h h'
theorem pt_Rsigns_det {k n : Nat} {fc fv : Nat → Int64} {cl su : Int32} {x : Int64} {t t' : Int32} {o o' : Int64} {u u' : pt_st} (hk : k ≤ 512) (h : pt_Rsigns k n fc fv cl su x t o u) (h' : pt_Rsigns k n fc fv cl su x t' o' u') : t = t' ∧ u = u' ∧ (t = 0 → o = o') := by
  have no : ∀ D : Nat, D < 2 ^ 63 → ¬ lN D < 0 := fun D hD z => absurd ((pk_lLT (b := 0) hD (by decide)).mp z) (Nat.not_lt_zero _)
  rcases h with ⟨hs, rfl, rfl⟩ | ⟨D, hD, rfl, h⟩
  · rcases h' with ⟨-, rfl, rfl⟩ | ⟨D, hD, rfl, -⟩
    · exact ⟨rfl, rfl, fun z => absurd z (by decide)⟩
    · exact absurd hs (no D hD)
  · rcases h' with ⟨hs', -⟩ | ⟨D', hD', e, h'⟩
    · exact absurd hs' (no D hD)
    · have e := (pk_lEQ hD hD').mp e
      subst e
      exact pt_Rapp_det hk h h'
theorem pt_Rdrop_det {k n : Nat} {fc fv : Nat → Int64} {cl su x t t' : Int32} {u u' : pt_st} (hk : k ≤ 512) (h : pt_Rdrop k n fc fv cl su x t u) (h' : pt_Rdrop k n fc fv cl su x t' u') : t = t' ∧ u = u' := by
  have no : ∀ i : Nat, i < k → ¬ (nI i < 0 ∨ ¬ nI i < nI k) := fun i h1 z => z.elim (fun z => nI_pos (by omega) z) (fun z => z (nI_lt h1 (by omega)))
  rcases h with ⟨hb, rfl, rfl⟩ | ⟨i, h1, rfl, rfl, rfl⟩
  · rcases h' with ⟨-, rfl, rfl⟩ | ⟨i, g1, rfl, -, -⟩
    · exact ⟨rfl, rfl⟩
    · exact absurd hb (no i g1)
  · rcases h' with ⟨hb, -, -⟩ | ⟨i', g1, e, rfl, rfl⟩
    · exact absurd hb (no i h1)
    · have e := (nI_eq (by omega) (by omega)).mp e
      subst e
      exact ⟨rfl, rfl⟩
theorem pt_Rmeets_det {k n : Nat} {fc fv : Nat → Int64} {a b : Int64} {t t' : Int32} {o o' : Int64} (h : pt_Rmeets k n fc fv a b t o) (h' : pt_Rmeets k n fc fv a b t' o') : t = t' ∧ (t = 0 → o = o') := by
  rcases h with ⟨hs, rfl⟩ | ⟨hs, rfl, r, hF, rfl⟩
  · rcases h' with ⟨-, rfl⟩ | ⟨hs', -⟩
    · exact ⟨rfl, fun z => absurd z (by decide)⟩
    · exact absurd hs hs'
  · rcases h' with ⟨hs', -⟩ | ⟨-, rfl, r', hF', rfl⟩
    · exact absurd hs' hs
    · exact ⟨rfl, fun _ => by rw [pt_F_unique (fun _ _ => Iff.rfl) hF hF']⟩
theorem pt_Rfree_det {k n : Nat} {fc fv : Nat → Int64} {a b : Int64} {t t' : Int32} {o o' : Int64} (h : pt_Rfree k n fc fv a b t o) (h' : pt_Rfree k n fc fv a b t' o') : t = t' ∧ (t = 0 → o = o') := by
  rcases h with ⟨hs, rfl⟩ | ⟨hs, rfl, rfl⟩
  · rcases h' with ⟨-, rfl⟩ | ⟨hs', -⟩
    · exact ⟨rfl, fun z => absurd z (by decide)⟩
    · exact absurd hs hs'
  · rcases h' with ⟨hs', -⟩ | ⟨-, rfl, rfl⟩
    · exact absurd hs' hs
    · exact ⟨rfl, fun _ => rfl⟩
theorem pt_Rnext_det {k n : Nat} {fc fv : Nat → Int64} {a : Int64} {t t' : Int32} {o o' : Int64} (h : pt_Rnext k n fc fv a t o) (h' : pt_Rnext k n fc fv a t' o') : t = t' ∧ (t = 0 → o = o') := by
  rcases h with ⟨hf, rfl, rfl⟩ | ⟨hf, ⟨i, hi, hN, hm, rfl, rfl⟩ | ⟨hN, rfl⟩⟩
  · rcases h' with ⟨-, rfl, rfl⟩ | ⟨hf', -⟩
    · exact ⟨rfl, fun _ => rfl⟩
    · exact absurd hf hf'
  · rcases h' with ⟨hf', -⟩ | ⟨-, ⟨i', hi', hN', hm', rfl, rfl⟩ | ⟨hN', -⟩⟩
    · exact absurd hf' hf
    · rcases Nat.lt_trichotomy i i' with z | z | z
      · exact absurd hN (hm' i z)
      · subst z; exact ⟨rfl, fun _ => rfl⟩
      · exact absurd hN' (hm i' z)
    · exact absurd hN (hN' i hi)
  · rcases h' with ⟨hf', -⟩ | ⟨-, ⟨i', hi', hN', hm', rfl, rfl⟩ | ⟨hN', rfl⟩⟩
    · exact absurd hf' hf
    · exact absurd hN' (hN i' hi')
    · exact ⟨rfl, fun z => absurd z (by decide)⟩
theorem pt_Rtold_det {k n : Nat} {fc fv : Nat → Int64} {y x t t' : Int32} {o o' : Int64} (hk : k ≤ 512) (h : pt_Rtold k n fc fv y x t o) (h' : pt_Rtold k n fc fv y x t' o') : t = t' ∧ (t = 0 → o = o') := by
  have nx : ¬ x < 0 → x ≤ 2 → ¬ (x < 0 ∨ ¬ x ≤ 2) := fun h1 h2 z => z.elim h1 (fun z => z h2)
  have no : ∀ i : Nat, i < k → ¬ (nI i < 0 ∨ ¬ nI i < nI k) := fun i h1 z => z.elim (fun z => nI_pos (by omega) z) (fun z => z (nI_lt h1 (by omega)))
  rcases h with ⟨hb, rfl⟩ | ⟨h1, h2, ha, rfl⟩ | ⟨i, hi, rfl, h1, h2, rfl, rfl⟩
  · rcases h' with ⟨-, rfl⟩ | ⟨g1, g2, -, -⟩ | ⟨i, -, -, g1, g2, -, -⟩
    · exact ⟨rfl, fun z => absurd z (by decide)⟩
    · exact absurd hb (nx g1 g2)
    · exact absurd hb (nx g1 g2)
  · rcases h' with ⟨hb, -⟩ | ⟨-, -, -, rfl⟩ | ⟨i, hi, rfl, -, -, -, -⟩
    · exact absurd hb (nx h1 h2)
    · exact ⟨rfl, fun z => absurd z (by decide)⟩
    · exact absurd ha (no i hi)
  · rcases h' with ⟨hb, -⟩ | ⟨-, -, ha, -⟩ | ⟨i', hi', e, -, -, rfl, rfl⟩
    · exact absurd hb (nx h1 h2)
    · exact absurd ha (no i hi)
    · have e := (nI_eq (by omega) (by omega)).mp e
      subst e
      exact ⟨rfl, fun _ => rfl⟩
/-- the rows stay as they must -/
abbrev pt_Iu (u : pt_st) : Prop := pt_I u.1 u.2.1 u.2.2.1 u.2.2.2.1
theorem pt_Rclear_I {k n : Nat} {fc fv : Nat → Int64} {cl su x t : Int32} {u : pt_st} (hI : pt_I k n fc fv) (h : pt_Rclear k n fc fv cl su x t u) : pt_Iu u := by
  rcases h with ⟨-, -, rfl⟩ | ⟨a, h1, h2, -, -, rfl⟩
  · exact hI
  · exact pt_I_0 h1 h2
theorem pt_Rapp_I {k n : Nat} {fc fv : Nat → Int64} {cl su : Int32} {a b : Int64} {t : Int32} {o : Int64} {u : pt_st} (hI : pt_I k n fc fv) (hab : ¬ pt_stray n a b) (h : pt_Rapp k n fc fv cl su (a &&& pt_mk n) (b &&& pt_mk n) t o u) : pt_Iu u := by
  rcases h with ⟨-, -, rfl⟩ | ⟨-, r, -, -, -, rfl⟩ | ⟨hk, hno, -, -, rfl⟩
  · exact hI
  · exact hI
  · exact pt_I_add hI hk (Classical.not_not.mp hab) hno
theorem pt_Radd_I {k n : Nat} {fc fv : Nat → Int64} {cl su : Int32} {a b : Int64} {t : Int32} {o : Int64} {u : pt_st} (hI : pt_I k n fc fv) (h : pt_Radd k n fc fv cl su a b t o u) : pt_Iu u := by
  rcases h with ⟨-, -, rfl⟩ | ⟨hs, h⟩
  · exact hI
  · exact pt_Rapp_I hI hs h
theorem pt_signs_fit (D i n : Nat) (hi : i ≤ 40) : ¬ pt_stray n (pt_sc D i) (pt_sw D i) := by
  unfold pt_stray
  rw [pt_sw_sc D i hi]
  intro z
  exact z (by apply pt_b_ext; intro j _; rw [pt_b_and, pt_b_0]; rfl)
theorem pt_Rsigns_I {k n : Nat} {fc fv : Nat → Int64} {cl su : Int32} {x : Int64} {t : Int32} {o : Int64} {u : pt_st} (hI : pt_I k n fc fv) (h : pt_Rsigns k n fc fv cl su x t o u) : pt_Iu u := by
  rcases h with ⟨-, -, rfl⟩ | ⟨D, -, -, h⟩
  · exact hI
  · exact pt_Rapp_I hI (pt_signs_fit D 40 n (Nat.le_refl _)) h
theorem pt_Rdrop_I {k n : Nat} {fc fv : Nat → Int64} {cl su x t : Int32} {u : pt_st} (hI : pt_I k n fc fv) (h : pt_Rdrop k n fc fv cl su x t u) : pt_Iu u := by
  rcases h with ⟨-, -, rfl⟩ | ⟨i, hi, -, -, rfl⟩
  · exact hI
  · exact pt_I_drop hI hi
theorem pt_Rsigns_of {k n : Nat} {fc fv : Nat → Int64} {cl su : Int32} {D M : Nat} {t : Int32} {o : Int64} {u : pt_st} (hn1 : 1 ≤ n) (hn2 : n ≤ 64) (hM : M = pt_sn n) (h : pt_Radd k n fc fv cl su (pt_sc D M) (pt_sw D M) t o u) :
    pt_Rapp k n fc fv cl su (pt_sc D 40 &&& pt_mk n) (pt_sw D 40 &&& pt_mk n) t o u := by
  rcases h with ⟨hs, -⟩ | ⟨-, h⟩
  · exact absurd hs (pt_signs_fit D M n (by rw [hM]; unfold pt_sn; split <;> omega))
  · obtain ⟨e1, e2⟩ := pt_signs (d := D) hn1 hn2
    rw [hM, e1, e2] at h
    exact h
