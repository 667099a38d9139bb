/-! Pure: bits of longs; masks; what the class and the reference ask of a row; the search for the first; the count of free words; the next free word. -/
def pt_b (x : Int64) (i : Nat) : Bool := x.toBitVec.getLsbD i
theorem pt_b_ext {x y : Int64} (h : ∀ i, i < 64 → pt_b x i = pt_b y i) : x = y := Int64.toBitVec_inj.mp (BitVec.eq_of_getLsbD_eq h)
theorem pt_b_and (x y : Int64) (i : Nat) : pt_b (x &&& y) i = (pt_b x i && pt_b y i) := by simp [pt_b]
theorem pt_b_or (x y : Int64) (i : Nat) : pt_b (x ||| y) i = (pt_b x i || pt_b y i) := by simp [pt_b]
theorem pt_b_xor (x y : Int64) (i : Nat) : pt_b (x ^^^ y) i = (pt_b x i ^^ pt_b y i) := by simp [pt_b]
theorem pt_b_0 (i : Nat) : pt_b 0 i = false := by
  have : (0 : Int64).toBitVec = 0#64 := by decide
  simp [pt_b, this]
theorem pt_b_m1 {i : Nat} (h : i < 64) : pt_b (-1) i = true := by
  have : (-1 : Int64).toBitVec = BitVec.allOnes 64 := by decide
  rw [pt_b, this, BitVec.getLsbD_allOnes, decide_eq_true h]
theorem pt_b_eq0 {x : Int64} : x = 0 ↔ ∀ i, i < 64 → pt_b x i = false :=
  ⟨fun h i _ => by rw [h]; exact pt_b_0 i, fun h => pt_b_ext fun i hi => by rw [h i hi, pt_b_0]⟩
theorem pt_bit_bv : ∀ p, p < 64 → (pt_shl 1 (nI p)).toBitVec = BitVec.twoPow 64 p := by decide +kernel
theorem pt_from_bv : ∀ p, p < 64 → (pt_shl (-1) (nI p)).toBitVec = BitVec.allOnes 64 <<< p := by decide +kernel
/-- the lowest n bits, as the class has them -/
def pt_mk (n : Nat) : Int64 := pt_ushr (-1) (64 - nI n)
theorem pt_mk_bv : ∀ n, n < 65 → 1 ≤ n → (pt_mk n).toBitVec = BitVec.allOnes 64 >>> (64 - n) := by decide +kernel
/-- .. and as the reference has them -/
theorem pt_mk_ref : ∀ n, n < 65 → 1 ≤ n → (if nI n = 64 then (-1 : Int64) else pt_shl 1 (nI n) - 1) = pt_mk n := by decide +kernel
theorem pt_b_bit {p : Nat} (hp : p < 64) (i : Nat) : pt_b (pt_shl 1 (nI p)) i = decide (p = i) := by
  rw [pt_b, pt_bit_bv p hp, BitVec.getLsbD_twoPow]
  simp [hp]
theorem pt_b_from {p : Nat} (hp : p < 64) {i : Nat} (hi : i < 64) : pt_b (pt_shl (-1) (nI p)) i = decide (p ≤ i) := by
  rw [pt_b, pt_from_bv p hp, BitVec.getLsbD_shiftLeft, BitVec.getLsbD_allOnes, decide_eq_true hi, decide_eq_true (show i - p < 64 by omega)]
  by_cases h : p ≤ i
  · rw [decide_eq_true h, decide_eq_false (show ¬ i < p by omega)]; rfl
  · rw [decide_eq_false h, decide_eq_true (show i < p by omega)]; rfl
theorem pt_b_mk {n : Nat} (h1 : 1 ≤ n) (h2 : n ≤ 64) (i : Nat) : pt_b (pt_mk n) i = decide (i < n) := by
  rw [pt_b, pt_mk_bv n (by omega) h1, BitVec.getLsbD_ushiftRight, BitVec.getLsbD_allOnes]
  by_cases h : i < n
  · rw [decide_eq_true h, decide_eq_true (show 64 - n + i < 64 by omega)]
  · rw [decide_eq_false h, decide_eq_false (show ¬ 64 - n + i < 64 by omega)]
theorem pt_b_u (x : Int64) (i : Nat) : pt_b x i = decide (pt_u x / 2 ^ i % 2 = 1) := by
  show x.toBitVec.toNat.testBit i = _
  rw [Nat.testBit_eq_decide_div_mod_eq]
  rfl
theorem pt_T_ge {b : Nat → Nat} {i : Nat} : ∀ k, i < k → b i ≤ pt_T b k
  | 0, h => by omega
  | k + 1, h => by
    show b i ≤ pt_T b k + b k
    by_cases e : i = k
    · rw [e]; omega
    · have := pt_T_ge (b := b) k (show i < k by omega)
      omega
/-- a long with a bit has bits to count -/
theorem pt_bits_ne {x : Int64} {i : Nat} (hi : i < 64) (h : pt_b x i = true) : ¬ pt_bits x = 0 := by
  rw [← pt_bc_bits, (pt_bc_T x).1]
  have hle := (pt_bc_T x).2
  have hge := pt_T_ge (b := fun i => pt_u x / 2 ^ i % 2) 64 hi
  rw [pt_b_u] at h
  have h : pt_u x / 2 ^ i % 2 = 1 := of_decide_eq_true h
  have hge : pt_u x / 2 ^ i % 2 ≤ pt_T (fun i => pt_u x / 2 ^ i % 2) 64 := hge
  exact nI_ne0 (by omega) (by omega)
/-- how many words have these bits told: 2 to the number of the open ones (2^64 as 0) -/
def pt_words (n : Nat) (c : Int64) : Int64 := if (64 : Int32) ≤ nI n - pt_bits c then 0 else pt_shl 1 (nI n - pt_bits c)
theorem pt_words_ref {n : Nat} (h : n ≤ 64) (c : Int64) : (if nI n - pt_bits c = 64 then (0 : Int64) else pt_shl 1 (nI n - pt_bits c)) = pt_words n c := by
  obtain ⟨k, hk, e⟩ := pt_bits_N c
  unfold pt_words
  rw [e]
  by_cases hkn : k ≤ n
  · rw [pk_sub hkn]
    by_cases e2 : n - k = 64
    · rw [e2, if_pos (show nI 64 = 64 from rfl), if_pos (show (64 : Int32) ≤ nI 64 from Int32.le_refl _)]
    · rw [if_neg (show ¬ nI (n - k) = (64 : Int32) from fun z => e2 ((nI_eq (by omega) (by omega)).mp (show nI (n - k) = nI 64 from z))), if_neg (show ¬ (64 : Int32) ≤ nI (n - k) from nI_ge (b := 64) (by omega) (by omega))]
  · have hn : (nI n - nI k).toInt = (n : Int) - k := pk_sub_toInt (by omega) (by omega)
    have h64 : (64 : Int32).toInt = 64 := by decide
    rw [if_neg, if_neg]
    · rw [Int32.le_iff_toInt_le, hn, h64]; omega
    · intro z
      have z2 := congrArg Int32.toInt z
      rw [hn] at z2
      have : (64 : Int32).toInt = 64 := by decide
      rw [this] at z2
      omega
/-- the row (care a, want b) shares a word with (c, w): no bit that both tell, and tell differently -/
def pt_sh (a b c w : Int64) : Prop := (a &&& c) &&& (b ^^^ w) = 0
theorem pt_sh_ref (a b c w m : Int64) : (((b ^^^ w) &&& a) &&& c) &&& m = 0 ↔ pt_sh a b (c &&& m) (w &&& m) := by
  have e : (((b ^^^ w) &&& a) &&& c) &&& m = (a &&& (c &&& m)) &&& (b ^^^ (w &&& m)) := by
    apply pt_b_ext
    intro i _
    simp only [pt_b_and, pt_b_xor]
    cases pt_b a i <;> cases pt_b b i <;> cases pt_b c i <;> cases pt_b w i <;> cases pt_b m i <;> rfl
  unfold pt_sh
  rw [e]
/-- a compare of longs that is 0 -/
theorem pt_cmp0 {x y : Int64} : lg_cmp x y = 0 ↔ x = y := lg_cmp_eq x y
/-- want is 1 where care isn't -/
def pt_stray (n : Nat) (c w : Int64) : Prop := ¬ w &&& (c ^^^ (-1)) &&& pt_mk n = 0
theorem pt_or_ref {a x m : Int64} (h : a &&& m = a) : (x ||| a) &&& m = a ||| (x &&& m) := by
  apply pt_b_ext
  intro i _
  have z := congrArg (fun y => pt_b y i) h
  simp only [pt_b_and, pt_b_or] at z ⊢
  revert z
  cases pt_b a i <;> cases pt_b x i <;> cases pt_b m i <;> decide
/-- decode: of a row inside its mask, want inside care -/
theorem pt_sh_dec {a b m : Int64} (w : Int64) (h1 : a &&& m = a) (h2 : b &&& a = b) : pt_sh a b m (w &&& m) ↔ w &&& a = b := by
  unfold pt_sh
  rw [pt_b_eq0]
  constructor
  · intro h
    apply pt_b_ext
    intro i hi
    have e := h i hi
    have e1 := congrArg (fun x => pt_b x i) h1
    have e2 := congrArg (fun x => pt_b x i) h2
    simp only [pt_b_and, pt_b_xor] at e e1 e2 ⊢
    revert e e1 e2
    cases pt_b a i <;> cases pt_b b i <;> cases pt_b w i <;> cases pt_b m i <;> decide
  · intro h i hi
    have e := congrArg (fun x => pt_b x i) h
    have e1 := congrArg (fun x => pt_b x i) h1
    simp only [pt_b_and, pt_b_xor] at e e1 ⊢
    revert e e1
    cases pt_b a i <;> cases pt_b b i <;> cases pt_b w i <;> cases pt_b m i <;> decide
/-- two rows that a word is of both share it -/
theorem pt_sh_two {a b a' b' m w : Int64} (h1 : a &&& m = a) (h : pt_sh a b m w) (h' : pt_sh a' b' m w) : (a &&& a') &&& (b ^^^ b') = 0 := by
  rw [pt_b_eq0]
  intro i hi
  have e := pt_b_eq0.mp h i hi
  have e' := pt_b_eq0.mp h' i hi
  have e1 := congrArg (fun x => pt_b x i) h1
  simp only [pt_b_and, pt_b_xor] at e e' e1 ⊢
  revert e e' e1
  cases pt_b a i <;> cases pt_b b i <;> cases pt_b a' i <;> cases pt_b b' i <;> cases pt_b w i <;> cases pt_b m i <;> decide
/-- r is the first of 0 .. n-1 of which P holds, -1 if of none -/
def pt_F (P : Nat → Prop) (n : Nat) (r : Int32) : Prop := (r = -1 ∧ ∀ j, j < n → ¬ P j) ∨ ∃ i, i < n ∧ P i ∧ (∀ j, j < i → ¬ P j) ∧ r = nI i
theorem pt_F_unique {P Q : Nat → Prop} {n : Nat} {r r' : Int32} (hPQ : ∀ j, j < n → (P j ↔ Q j)) (h : pt_F P n r) (h' : pt_F Q n r') : r = r' := by
  rcases h with ⟨e, h⟩ | ⟨i, hi, hp, hm, e⟩
  · rcases h' with ⟨e', -⟩ | ⟨i', hi', hp', -, -⟩
    · rw [e, e']
    · exact absurd ((hPQ i' hi').mpr hp') (h i' hi')
  · rcases h' with ⟨-, h'⟩ | ⟨i', hi', hp', hm', e'⟩
    · exact absurd ((hPQ i hi).mp hp) (h' i hi)
    · rcases Nat.lt_trichotomy i i' with z | z | z
      · exact absurd ((hPQ i hi).mp hp) (hm' i z)
      · rw [e, e', z]
      · exact absurd ((hPQ i' hi').mpr hp') (hm i' z)
theorem pt_F_neg {P : Nat → Prop} {n : Nat} {r : Int32} (hn : n ≤ 512) (h : pt_F P n r) : r < 0 ↔ r = -1 := by
  rcases h with ⟨e, -⟩ | ⟨i, hi, -, -, e⟩
  · rw [e]; decide
  · constructor
    · intro z; rw [e] at z; exact absurd z (nI_pos (by omega))
    · intro z; rw [z]; decide
theorem pt_F_none {P : Nat → Prop} {n : Nat} {r : Int32} (hn : n ≤ 512) (h : pt_F P n r) : r = -1 ↔ ∀ j, j < n → ¬ P j := by
  rcases h with ⟨e, h⟩ | ⟨i, hi, hp, -, e⟩
  · exact ⟨fun _ => h, fun _ => e⟩
  · constructor
    · intro z
      rw [e] at z
      have := nI_pos (n := i) (by omega)
      rw [z] at this
      exact absurd (by decide) this
    · intro z; exact absurd hp (z i hi)
/-- the free words of (c, w), after i rows -/
noncomputable def pt_fw (n : Nat) (fc fv : Nat → Int64) (c w : Int64) : Nat → Int64
  | 0 => pt_words n c
  | i + 1 => @ite _ (pt_sh (fc i) (fv i) c w) (Classical.propDecidable _) (pt_fw n fc fv c w i - pt_words n (fc i ||| c)) (pt_fw n fc fv c w i)
theorem pt_fw_yes {n : Nat} {fc fv : Nat → Int64} {c w : Int64} {i : Nat} (h : pt_sh (fc i) (fv i) c w) : pt_fw n fc fv c w (i + 1) = pt_fw n fc fv c w i - pt_words n (fc i ||| c) := if_pos h
theorem pt_fw_no {n : Nat} {fc fv : Nat → Int64} {c w : Int64} {i : Nat} (h : ¬ pt_sh (fc i) (fv i) c w) : pt_fw n fc fv c w (i + 1) = pt_fw n fc fv c w i := if_neg h
/-- what is always so of the rows -/
def pt_I (k n : Nat) (fc fv : Nat → Int64) : Prop :=
  k ≤ 512 ∧ 1 ≤ n ∧ n ≤ 64 ∧ (∀ j, j < k → fc j &&& pt_mk n = fc j) ∧ (∀ j, j < k → fv j &&& fc j = fv j) ∧ ∀ i j, i < j → j < k → ¬ (fc i &&& fc j) &&& (fv i ^^^ fv j) = 0
theorem pt_I_0 {fc fv : Nat → Int64} {n : Nat} (h1 : 1 ≤ n) (h2 : n ≤ 64) : pt_I 0 n fc fv :=
  ⟨by omega, h1, h2, fun j h => by omega, fun j h => by omega, fun i j _ h => by omega⟩
theorem pt_mk_and {n : Nat} (c : Int64) : (c &&& pt_mk n) &&& pt_mk n = c &&& pt_mk n := by
  rw [Int64.and_assoc, Int64.and_self]
theorem pt_I_add {k n : Nat} {fc fv : Nat → Int64} {c w : Int64} (h : pt_I k n fc fv) (hk : k < 512) (hw : w &&& (c ^^^ (-1)) &&& pt_mk n = 0)
    (hn : ∀ j, j < k → ¬ pt_sh (fc j) (fv j) (c &&& pt_mk n) (w &&& pt_mk n)) : pt_I (k + 1) n (vp_updL fc k (c &&& pt_mk n)) (vp_updL fv k (w &&& pt_mk n)) := by
  obtain ⟨-, h1, h2, h3, h4, h5⟩ := h
  refine ⟨by omega, h1, h2, fun j hj => ?_, fun j hj => ?_, fun i j hij hj => ?_⟩
  · by_cases e : j = k
    · rw [e, pk_uLs, pt_mk_and]
    · rw [pk_uLn e]; exact h3 j (by omega)
  · by_cases e : j = k
    · rw [e, pk_uLs, pk_uLs]
      apply pt_b_ext
      intro i hi
      have z := pt_b_eq0.mp hw i hi
      simp only [pt_b_and, pt_b_xor, pt_b_m1 hi] at z ⊢
      revert z
      cases pt_b w i <;> cases pt_b c i <;> cases pt_b (pt_mk n) i <;> decide
    · rw [pk_uLn e, pk_uLn e]; exact h4 j (by omega)
  · rw [pk_uLn (show i ≠ k by omega), pk_uLn (show i ≠ k by omega)]
    by_cases e : j = k
    · rw [e, pk_uLs, pk_uLs]; exact hn i (by omega)
    · rw [pk_uLn e, pk_uLn e]; exact h5 i j hij (by omega)
/-- the rows after row i has gone: those behind it up to (not with) t moved up -/
def pt_mv (f : Nat → Int64) (i t : Nat) : Nat → Int64 := fun j => if i ≤ j ∧ j + 1 < t then f (j + 1) else f j
theorem pt_mv_0 (f : Nat → Int64) (i : Nat) : pt_mv f i (i + 1) = f := by
  funext j
  unfold pt_mv
  rw [if_neg (by omega)]
theorem pt_mv_s (f : Nat → Int64) {i t : Nat} (h : i < t) : vp_updL (pt_mv f i t) (t - 1) (pt_mv f i t t) = pt_mv f i (t + 1) := by
  funext j
  unfold vp_updL pt_mv
  rw [if_neg (show ¬ (i ≤ t ∧ t + 1 < t) by omega)]
  by_cases e : j = t - 1
  · rw [if_pos e, if_pos (by omega), show j + 1 = t by omega]
  · rw [if_neg e]
    by_cases e2 : i ≤ j ∧ j + 1 < t
    · rw [if_pos e2, if_pos (by omega)]
    · rw [if_neg e2, if_neg (by omega)]
theorem pt_mv_in {f : Nat → Int64} {i k j : Nat} (hj : j < k - 1) : pt_mv f i k j = f (if i ≤ j then j + 1 else j) := by
  unfold pt_mv
  by_cases e : i ≤ j
  · rw [if_pos e, if_pos ⟨e, by omega⟩]
  · rw [if_neg e, if_neg (by omega)]
theorem pt_I_drop {k n : Nat} {fc fv : Nat → Int64} {i : Nat} (h : pt_I k n fc fv) (hi : i < k) : pt_I (k - 1) n (pt_mv fc i k) (pt_mv fv i k) := by
  obtain ⟨h0, h1, h2, h3, h4, h5⟩ := h
  have g : ∀ j, j < k - 1 → (if i ≤ j then j + 1 else j) < k := fun j hj => by split <;> omega
  refine ⟨by omega, h1, h2, fun j hj => ?_, fun j hj => ?_, fun a b hab hb => ?_⟩
  · rw [pt_mv_in hj]; exact h3 _ (g j hj)
  · rw [pt_mv_in hj, pt_mv_in hj]; exact h4 _ (g j hj)
  · rw [pt_mv_in hb, pt_mv_in hb, pt_mv_in (show a < k - 1 by omega), pt_mv_in (show a < k - 1 by omega)]
    refine h5 _ _ ?_ (g b hb)
    split <;> split <;> omega
/-- one word: what the reference counts for it is 1, less one for each row that it is of -/
theorem pt_words_mk {n : Nat} (h1 : 1 ≤ n) (h2 : n ≤ 64) : pt_words n (pt_mk n) = 1 := by
  have : ∀ n, n < 65 → 1 ≤ n → pt_words n (pt_mk n) = 1 := by decide +kernel
  exact this n (by omega) h1
theorem pt_one_le {k n : Nat} {fc fv : Nat → Int64} {w : Int64} (h : pt_I k n fc fv) : ∀ i, i ≤ k →
    (pt_fw n fc fv (pt_mk n) w i = 1 ∧ ∀ j, j < i → ¬ pt_sh (fc j) (fv j) (pt_mk n) w) ∨ (pt_fw n fc fv (pt_mk n) w i = 0 ∧ ∃ j, j < i ∧ pt_sh (fc j) (fv j) (pt_mk n) w)
  | 0, _ => Or.inl ⟨pt_words_mk h.2.1 h.2.2.1, fun j hj => by omega⟩
  | i + 1, hi => by
    have e : fc i ||| pt_mk n = pt_mk n := by
      have h3 := h.2.2.2.1 i (by omega)
      apply pt_b_ext
      intro b _
      have z := congrArg (fun x => pt_b x b) h3
      simp only [pt_b_and, pt_b_or] at z ⊢
      revert z
      cases pt_b (fc i) b <;> cases pt_b (pt_mk n) b <;> decide
    rcases pt_one_le h i (by omega) with ⟨e1, q1⟩ | ⟨e1, j, hj, q1⟩
    · by_cases s : pt_sh (fc i) (fv i) (pt_mk n) w
      · refine Or.inr ⟨?_, i, by omega, s⟩
        rw [pt_fw_yes s, e1, e, pt_words_mk h.2.1 h.2.2.1]
        decide
      · refine Or.inl ⟨by rw [pt_fw_no s, e1], fun j hj => ?_⟩
        by_cases z : j = i
        · rw [z]; exact s
        · exact q1 j (by omega)
    · by_cases s : pt_sh (fc i) (fv i) (pt_mk n) w
      · exact absurd (pt_sh_two (h.2.2.2.1 j (by omega)) q1 s) (h.2.2.2.2.2 j i hj (by omega))
      · exact Or.inr ⟨by rw [pt_fw_no s, e1], j, by omega, q1⟩
theorem pt_one {k n : Nat} {fc fv : Nat → Int64} {w : Int64} (h : pt_I k n fc fv) : pt_fw n fc fv (pt_mk n) w k = 0 ↔ ¬ ∀ j, j < k → ¬ pt_sh (fc j) (fv j) (pt_mk n) w := by
  rcases pt_one_le (w := w) h k (Nat.le_refl _) with ⟨e1, q1⟩ | ⟨e1, j, hj, q1⟩
  · rw [e1]
    exact ⟨fun z => absurd z (by decide), fun z => absurd q1 z⟩
  · exact ⟨fun _ z => z j hj q1, fun _ => e1⟩
/-- the bits from at on -/
def pt_up (n at_ : Nat) : Int64 := pt_mk n &&& pt_shl (-1) (nI at_)
def pt_rs (n : Nat) (w : Int64) (at_ : Nat) : Int64 := (w ||| pt_shl 1 (nI at_)) &&& pt_up n at_
/-- at this bit the word can be raised -/
def pt_N (k n : Nat) (fc fv : Nat → Int64) (w : Int64) (at_ : Nat) : Prop := pt_ushr w (nI at_) &&& 1 = 0 ∧ ¬ pt_fw n fc fv (pt_up n at_) (pt_rs n w at_) k = 0
/-- the bits below q settled -/
noncomputable def pt_lf (k n : Nat) (fc fv : Nat → Int64) : Nat → Int64 → Int64
  | 0, x => x
  | q + 1, x => pt_lf k n fc fv q (@ite _ (pt_fw n fc fv (pt_up n q) x k = 0) (Classical.propDecidable _) (x ||| pt_shl 1 (nI q)) x)
theorem pt_lf_yes {k n : Nat} {fc fv : Nat → Int64} {q : Nat} {x : Int64} (h : pt_fw n fc fv (pt_up n q) x k = 0) : pt_lf k n fc fv (q + 1) x = pt_lf k n fc fv q (x ||| pt_shl 1 (nI q)) := by
  show pt_lf k n fc fv q (@ite _ _ (Classical.propDecidable _) _ _) = _
  rw [if_pos h]
theorem pt_lf_no {k n : Nat} {fc fv : Nat → Int64} {q : Nat} {x : Int64} (h : ¬ pt_fw n fc fv (pt_up n q) x k = 0) : pt_lf k n fc fv (q + 1) x = pt_lf k n fc fv q x := by
  show pt_lf k n fc fv q (@ite _ _ (Classical.propDecidable _) _ _) = _
  rw [if_neg h]
theorem pt_up_mk {n p : Nat} : pt_up n p &&& pt_mk n = pt_up n p := by
  unfold pt_up
  apply pt_b_ext
  intro i _
  simp only [pt_b_and]
  cases pt_b (pt_mk n) i <;> cases pt_b (pt_shl (-1) (nI p)) i <;> rfl
theorem pt_b_up {n p i : Nat} (h1 : 1 ≤ n) (h2 : n ≤ 64) (hp : p < 64) (hi : i < 64) : pt_b (pt_up n p) i = (decide (i < n) && decide (p ≤ i)) := by
  unfold pt_up
  rw [pt_b_and, pt_b_mk h1 h2, pt_b_from hp hi]
/-- the reference's bits from p on -/
theorem pt_up_ref : ∀ p, p < 64 → (pt_shl 1 (nI p) - 1) ^^^ (-1) = pt_shl (-1) (nI p) := by decide +kernel
theorem pt_rs_ref {n p : Nat} (w : Int64) (h1 : 1 ≤ n) (h2 : n ≤ 64) (hp : p < n) : (w &&& pt_up n p) ||| pt_shl 1 (nI p) = pt_rs n w p := by
  unfold pt_rs
  apply pt_b_ext
  intro i hi
  simp only [pt_b_and, pt_b_or, pt_b_bit (show p < 64 by omega), pt_b_up h1 h2 (show p < 64 by omega) hi]
  by_cases e : p = i
  · rw [decide_eq_true e, decide_eq_true (show i < n by omega), decide_eq_true (show p ≤ i by omega)]
    cases pt_b w i <;> rfl
  · rw [decide_eq_false e]
    cases pt_b w i <;> cases decide (i < n) <;> cases decide (p ≤ i) <;> rfl
theorem pt_up_step {n q : Nat} (h1 : 1 ≤ n) (h2 : n ≤ 64) (hq : q + 1 < n) : pt_up n (q + 1) ||| pt_shl 1 (nI q) = pt_up n q := by
  apply pt_b_ext
  intro i hi
  simp only [pt_b_or, pt_b_bit (show q < 64 by omega), pt_b_up h1 h2 (show q + 1 < 64 by omega) hi, pt_b_up h1 h2 (show q < 64 by omega) hi]
  by_cases e : q = i
  · rw [decide_eq_true e, decide_eq_true (show i < n by omega), decide_eq_true (show q ≤ i by omega)]
    cases decide (q + 1 ≤ i) <;> rfl
  · rw [decide_eq_false e]
    by_cases e2 : q ≤ i
    · rw [decide_eq_true e2, decide_eq_true (show q + 1 ≤ i by omega)]
      cases decide (i < n) <;> rfl
    · rw [decide_eq_false e2, decide_eq_false (show ¬ q + 1 ≤ i by omega)]
      cases decide (i < n) <;> rfl
/-- bit p of w is 0, said in two ways -/
theorem pt_bit_ref (w : Int64) {p : Nat} (hp : p < 64) : w &&& pt_shl 1 (nI p) = 0 ↔ pt_ushr w (nI p) &&& 1 = 0 := by
  have e2 : pt_ushr w (nI p) &&& 1 = lN (pt_u w / 2 ^ p % 2) := by
    apply pt_u_inj
    have e1 : pt_u (1 : Int64) = 2 ^ 1 - 1 := by decide
    rw [pt_u_and, pt_u_shr w hp, e1, Nat.and_two_pow_sub_one_eq_mod, pt_u_lN (by omega)]
  have e3 : pt_ushr w (nI p) &&& 1 = 0 ↔ pt_b w p = false := by
    rw [e2, pt_b_u]
    constructor
    · intro z
      have z := congrArg pt_u z
      rw [pt_u_lN (by omega)] at z
      have z : pt_u w / 2 ^ p % 2 = 0 := z
      rw [z]; rfl
    · intro z
      have z := of_decide_eq_false z
      have z : pt_u w / 2 ^ p % 2 = 0 := by omega
      rw [z]; rfl
  rw [e3, pt_b_eq0]
  constructor
  · intro h
    have z := h p hp
    rw [pt_b_and, pt_b_bit hp, decide_eq_true rfl, Bool.and_true] at z
    exact z
  · intro h i hi
    rw [pt_b_and, pt_b_bit hp]
    by_cases e : p = i
    · rw [← e, h]; rfl
    · rw [decide_eq_false e, Bool.and_false]
/-- 'some' of the reference, of bits inside the mask that are not none, is: there are free words -/
theorem pt_bits_up {n p : Nat} (h1 : 1 ≤ n) (h2 : n ≤ 64) (hp : p < n) : ¬ pt_bits (pt_up n p) = 0 := by
  refine pt_bits_ne (i := p) (by omega) ?_
  rw [pt_b_up h1 h2 (by omega) (by omega), decide_eq_true hp, decide_eq_true (Nat.le_refl _)]
  rfl
theorem pt_bits_mk {n : Nat} (h1 : 1 ≤ n) (h2 : n ≤ 64) : ¬ pt_bits (pt_mk n) = 0 := by
  refine pt_bits_ne (i := 0) (by omega) ?_
  rw [pt_b_mk h1 h2, decide_eq_true (show 0 < n by omega)]
/-- signs: care and want after i of the digits of d -/
def pt_sc (d : Nat) : Nat → Int64
  | 0 => 0
  | i + 1 => if d / 3 ^ i % 3 = 2 then pt_sc d i else pt_sc d i ||| pt_shl 1 (nI i)
def pt_sw (d : Nat) : Nat → Int64
  | 0 => 0
  | i + 1 => if d / 3 ^ i % 3 = 1 then pt_sw d i ||| pt_shl 1 (nI i) else pt_sw d i
theorem pt_hi_mk {n i : Nat} (x : Int64) (h1 : 1 ≤ n) (h2 : n ≤ 64) (hi : n ≤ i) (hi2 : i < 64) : (x ||| pt_shl 1 (nI i)) &&& pt_mk n = x &&& pt_mk n := by
  apply pt_b_ext
  intro j hj
  simp only [pt_b_and, pt_b_or, pt_b_bit hi2, pt_b_mk h1 h2]
  by_cases e : i = j
  · rw [decide_eq_false (show ¬ j < n by omega), Bool.and_false, Bool.and_false]
  · rw [decide_eq_false e, Bool.or_false]
theorem pt_sc_mk {d n : Nat} (h1 : 1 ≤ n) (h2 : n ≤ 64) : ∀ i, i ≤ 40 → n ≤ i → pt_sc d i &&& pt_mk n = pt_sc d n &&& pt_mk n ∧ pt_sw d i &&& pt_mk n = pt_sw d n &&& pt_mk n
  | 0, _, h => by omega
  | i + 1, hi, h => by
    by_cases e : n = i + 1
    · rw [e]; exact ⟨rfl, rfl⟩
    · obtain ⟨a, b⟩ := pt_sc_mk (d := d) h1 h2 i (by omega) (by omega)
      have hs := fun x => pt_hi_mk x h1 h2 (show n ≤ i by omega) (by omega)
      constructor
      · show (if d / 3 ^ i % 3 = 2 then pt_sc d i else pt_sc d i ||| pt_shl 1 (nI i)) &&& pt_mk n = _
        split
        · exact a
        · rw [hs]; exact a
      · show (if d / 3 ^ i % 3 = 1 then pt_sw d i ||| pt_shl 1 (nI i) else pt_sw d i) &&& pt_mk n = _
        split
        · rw [hs]; exact b
        · exact b
/-- as many digits as the reference takes -/
def pt_sn (n : Nat) : Nat := if n < 40 then n else 40
theorem pt_signs {d n : Nat} (h1 : 1 ≤ n) (h2 : n ≤ 64) : pt_sc d (pt_sn n) &&& pt_mk n = pt_sc d 40 &&& pt_mk n ∧ pt_sw d (pt_sn n) &&& pt_mk n = pt_sw d 40 &&& pt_mk n := by
  unfold pt_sn
  split
  · obtain ⟨a, b⟩ := pt_sc_mk (d := d) h1 h2 40 (Nat.le_refl _) (by omega)
    exact ⟨a.symm, b.symm⟩
  · exact ⟨rfl, rfl⟩
theorem pt_sw_sc (d : Nat) : ∀ i, i ≤ 40 → pt_sw d i &&& (pt_sc d i ^^^ (-1)) = 0
  | 0, _ => show (0 : Int64) &&& (0 ^^^ (-1)) = 0 by decide
  | i + 1, hi => by
    have ih := pt_b_eq0.mp (pt_sw_sc d i (by omega))
    rw [pt_b_eq0]
    intro j hj
    have z := ih j hj
    show pt_b ((if d / 3 ^ i % 3 = 1 then pt_sw d i ||| pt_shl 1 (nI i) else pt_sw d i) &&& ((if d / 3 ^ i % 3 = 2 then pt_sc d i else pt_sc d i ||| pt_shl 1 (nI i)) ^^^ (-1))) j = false
    by_cases e1 : d / 3 ^ i % 3 = 1
    · rw [if_pos e1, if_neg (by omega)]
      simp only [pt_b_and, pt_b_or, pt_b_xor, pt_b_m1 hj] at z ⊢
      revert z
      cases pt_b (pt_sw d i) j <;> cases pt_b (pt_sc d i) j <;> cases pt_b (pt_shl 1 (nI i)) j <;> decide
    · rw [if_neg e1]
      split
      · exact z
      · simp only [pt_b_and, pt_b_or, pt_b_xor, pt_b_m1 hj] at z ⊢
        revert z
        cases pt_b (pt_sw d i) j <;> cases pt_b (pt_sc d i) j <;> cases pt_b (pt_shl 1 (nI i)) j <;> decide
theorem pt_F_hit {P : Nat → Prop} {i : Nat} (h : pt_F P i (-1)) (hs : P i) (hi : i ≤ 512) : pt_F P (i + 1) (nI i) := by
  rcases h with ⟨-, h⟩ | ⟨i0, hi0, -, -, e⟩
  · exact Or.inr ⟨i, Nat.lt_succ_self _, hs, h, rfl⟩
  · have z := nI_pos (n := i0) (by omega)
    rw [← e] at z
    exact absurd (by decide) z
theorem pt_F_miss {P : Nat → Prop} {i : Nat} {r : Int32} (h : pt_F P i r) (hs : ¬ P i) : pt_F P (i + 1) r := by
  rcases h with ⟨e, h⟩ | ⟨i0, hi0, hp, hm, e⟩
  · refine Or.inl ⟨e, fun j hj => ?_⟩
    by_cases z : j = i
    · rw [z]; exact hs
    · exact h j (by omega)
  · exact Or.inr ⟨i0, by omega, hp, hm, e⟩
theorem pt_I_two {k n : Nat} {fc fv : Nat → Int64} {w : Int64} {i : Nat} {r : Int32} (hI : pt_I k n fc fv) (hi : i < k) (hF : pt_F (fun j => pt_sh (fc j) (fv j) (pt_mk n) w) i r) (hr : ¬ r = -1) : ¬ pt_sh (fc i) (fv i) (pt_mk n) w := by
  rcases hF with ⟨e, -⟩ | ⟨i0, hi0, hp, -, -⟩
  · exact absurd e hr
  · intro hs
    exact hI.2.2.2.2.2 i0 i hi0 hi (pt_sh_two (hI.2.2.2.1 i0 (by omega)) hp hs)
theorem pt_len {x : Int32} (h1 : ¬ x < 1) (h2 : x ≤ 64) : ∃ a : Nat, 1 ≤ a ∧ a ≤ 64 ∧ x = nI a := by
  have h0 : ¬ x < 0 := fun z => h1 (by rw [Int32.lt_iff_toInt_lt] at z ⊢; have e1 : (1 : Int32).toInt = 1 := by decide
                                       have e0 : (0 : Int32).toInt = 0 := by decide
                                       omega)
  obtain ⟨a, ha, e⟩ := nI_of2 (M := 64) (n := 64) (by decide) h0 h2
  refine ⟨a, ?_, ha, e⟩
  rcases Nat.eq_zero_or_pos a with z | z
  · rw [e, z] at h1; exact absurd (by decide) h1
  · exact z
theorem pt_at {x : Int32} {k : Nat} (hk : k ≤ 512) (h1 : ¬ x < 0) (h2 : x < nI k) : ∃ i : Nat, i < k ∧ x = nI i := by
  obtain ⟨j, hj, e⟩ := nI_of h1
  rw [e] at h2
  exact ⟨j, (nI_ltI hj (by omega)).mp h2, e⟩
theorem pt_nI_ne {i : Nat} (h : i ≤ 512) : ¬ nI i = -1 := fun z => by
  have := nI_pos (n := i) (by omega)
  rw [z] at this
  exact this (by decide)
theorem pt_rs_mk {n p : Nat} {w : Int64} : pt_rs n w p &&& pt_mk n = pt_rs n w p := by
  unfold pt_rs
  rw [Int64.and_assoc, pt_up_mk]
theorem pt_or_mk {n q : Nat} {y : Int64} (hy : y &&& pt_mk n = y) (h1 : 1 ≤ n) (h2 : n ≤ 64) (hq : q < n) : (y ||| pt_shl 1 (nI q)) &&& pt_mk n = y ||| pt_shl 1 (nI q) := by
  apply pt_b_ext
  intro i hi
  have z := congrArg (fun x => pt_b x i) hy
  simp only [pt_b_and, pt_b_or, pt_b_bit (show q < 64 by omega), pt_b_mk h1 h2] at z ⊢
  by_cases e : q = i
  · rw [decide_eq_true e, decide_eq_true (show i < n by omega)]
    cases pt_b y i <;> rfl
  · rw [decide_eq_false e, Bool.or_false]; exact z
theorem pt_one_yes {k n : Nat} {fc fv : Nat → Int64} {w : Int64} (h : pt_I k n fc fv) (hs : ¬ pt_fw n fc fv (pt_mk n) w k = 0) : ∀ j, j < k → ¬ pt_sh (fc j) (fv j) (pt_mk n) w :=
  Classical.byContradiction fun z => hs ((pt_one h).mpr z)
theorem pt_d2ge {m : Nat} (h : 0 ≤ lg_cmp (lN (m % 3)) 2) : m % 3 = 2 := by
  have h := (lg_cmp_ge _ _).mp h
  have h := (pk_lLE (a := 2) (b := m % 3) (by decide) (by omega)).mp h
  omega
theorem pt_d2is {m : Nat} (h : m % 3 = 2) : 0 ≤ lg_cmp (lN (m % 3)) 2 := (lg_cmp_ge _ _).mpr (by rw [h]; exact Int64.le_refl _)
theorem pt_least_or (P : Nat → Prop) : ∀ n : Nat, (∃ i : Nat, i < n ∧ P i ∧ ∀ j, j < i → ¬ P j) ∨ ∀ j, j < n → ¬ P j
  | 0 => Or.inr fun j h => by omega
  | n + 1 => by
    rcases pt_least_or P n with ⟨i, h1, h2, h3⟩ | h
    · exact Or.inl ⟨i, by omega, h2, h3⟩
    · by_cases hp : P n
      · exact Or.inl ⟨n, Nat.lt_succ_self _, hp, h⟩
      · refine Or.inr fun j hj => ?_
        by_cases e : j = n
        · rw [e]; exact hp
        · exact h j (by omega)
theorem pt_F_all (P : Nat → Prop) (n : Nat) : ∃ r : Int32, pt_F P n r := by
  rcases pt_least_or P n with ⟨i, h1, h2, h3⟩ | h
  · exact ⟨nI i, Or.inr ⟨i, h1, h2, h3, rfl⟩⟩
  · exact ⟨-1, Or.inl ⟨rfl, h⟩⟩
