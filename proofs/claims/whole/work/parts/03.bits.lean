/-! Pure: shifts of longs by name; sums of digits; Long.bitCount's steps add up the bits. -/
def pt_shl (x : Int64) (y : Int32) : Int64 := x <<< (y.toInt64 &&& 63)
def pt_ushr (x : Int64) (y : Int32) : Int64 := (x.toUInt64 >>> (y.toInt64.toUInt64 &&& Int64.toUInt64 63)).toInt64
def pt_u (x : Int64) : Nat := x.toUInt64.toNat
theorem pt_u_lt (x : Int64) : pt_u x < 18446744073709551616 := x.toUInt64.toNat_lt
theorem pt_u_inj {x y : Int64} (h : pt_u x = pt_u y) : x = y := congrArg UInt64.toInt64 (UInt64.toNat_inj.mp h)
theorem pt_u_lN {n : Nat} (h : n < 18446744073709551616) : pt_u (lN n) = n := Nat.mod_eq_of_lt h
theorem pt_u_of (x : Int64) : x = lN (pt_u x) := pt_u_inj (pt_u_lN (pt_u_lt x)).symm
theorem pt_u_add (x y : Int64) : pt_u (x + y) = (pt_u x + pt_u y) % 18446744073709551616 := by
  show (x.toUInt64 + y.toUInt64).toNat = _
  exact UInt64.toNat_add _ _
theorem pt_u_sub {x y : Int64} (h : pt_u y ≤ pt_u x) : pt_u (x - y) = pt_u x - pt_u y := by
  have e : pt_u (x - y) = (18446744073709551616 - pt_u y + pt_u x) % 18446744073709551616 := by
    show (x.toUInt64 - y.toUInt64).toNat = _
    exact UInt64.toNat_sub _ _
  have h1 := pt_u_lt x
  omega
theorem pt_u_and (x y : Int64) : pt_u (x &&& y) = pt_u x &&& pt_u y := by
  show (x.toUInt64 &&& y.toUInt64).toNat = _
  exact UInt64.toNat_and _ _
theorem pt_u_shr (x : Int64) {k : Nat} (hk : k < 64) : pt_u (pt_ushr x (nI k)) = pt_u x / 2 ^ k := by
  have h : ((nI k).toInt64.toUInt64 &&& Int64.toUInt64 63).toNat % 64 = k := by
    rw [nI_l (by omega), UInt64.toNat_and]
    have e : (lN k).toUInt64.toNat = k % 2 ^ 64 := rfl
    have e2 : (Int64.toUInt64 63).toNat = 2 ^ 6 - 1 := by decide
    rw [e, e2, Nat.and_two_pow_sub_one_eq_mod]
    omega
  show (x.toUInt64 >>> ((nI k).toInt64.toUInt64 &&& Int64.toUInt64 63)).toNat = _
  rw [UInt64.toNat_shiftRight, Nat.shiftRight_eq_div_pow, h]
  rfl
/-- the number whose digits to the base B are f 0, f 1, .. (k of them) -/
def pt_S (B : Nat) : Nat → (Nat → Nat) → Nat
  | 0, _ => 0
  | k + 1, f => f 0 + B * pt_S B k (fun j => f (j + 1))
theorem pt_S_congr {B : Nat} : ∀ (k : Nat) (f g : Nat → Nat), (∀ j, f j = g j) → pt_S B k f = pt_S B k g
  | 0, _, _, _ => rfl
  | k + 1, f, g, h => by
    have ih := pt_S_congr (B := B) k (fun j => f (j + 1)) (fun j => g (j + 1)) (fun j => h (j + 1))
    show f 0 + B * pt_S B k (fun j => f (j + 1)) = g 0 + B * pt_S B k (fun j => g (j + 1))
    rw [ih, h 0]
theorem pt_S_digits (B : Nat) : ∀ (k n : Nat), n < B ^ k → pt_S B k (fun j => n / B ^ j % B) = n
  | 0, n, h => by
    have : n = 0 := by simpa using h
    rw [this]; rfl
  | k + 1, n, h => by
    have hlt : n / B < B ^ k := Nat.div_lt_of_lt_mul (by rw [Nat.pow_succ'] at h; exact h)
    have ih := pt_S_digits B k (n / B) hlt
    have e : pt_S B k (fun j => n / B ^ (j + 1) % B) = pt_S B k (fun j => n / B / B ^ j % B) := pt_S_congr k _ _ (fun j => by rw [Nat.div_div_eq_div_mul, Nat.pow_succ'])
    show n / B ^ 0 % B + B * pt_S B k (fun j => n / B ^ (j + 1) % B) = n
    rw [e, ih, Nat.pow_zero, Nat.div_one]
    exact Nat.mod_add_div n B
theorem pt_S_lt (B : Nat) : ∀ (k : Nat) (f : Nat → Nat), (∀ j, f j < B) → pt_S B k f < B ^ k
  | 0, _, _ => by simp [pt_S]
  | k + 1, f, h => by
    have ih := pt_S_lt B k (fun j => f (j + 1)) (fun j => h (j + 1))
    have h0 := h 0
    show f 0 + B * pt_S B k (fun j => f (j + 1)) < B ^ (k + 1)
    generalize pt_S B k (fun j => f (j + 1)) = R at ih ⊢
    have m := Nat.mul_le_mul_left B (show R + 1 ≤ B ^ k from ih)
    rw [Nat.mul_add, Nat.mul_one] at m
    rw [Nat.pow_succ']
    omega
theorem pt_S_add (B : Nat) : ∀ (k : Nat) (f g : Nat → Nat), pt_S B k f + pt_S B k g = pt_S B k (fun j => f j + g j)
  | 0, _, _ => rfl
  | k + 1, f, g => by
    have ih := pt_S_add B k (fun j => f (j + 1)) (fun j => g (j + 1))
    show f 0 + B * pt_S B k (fun j => f (j + 1)) + (g 0 + B * pt_S B k (fun j => g (j + 1))) = f 0 + g 0 + B * pt_S B k (fun j => f (j + 1) + g (j + 1))
    rw [← ih, Nat.mul_add]
    omega
theorem pt_S_sub (B k : Nat) (f g : Nat → Nat) (h : ∀ j, g j ≤ f j) : pt_S B k g ≤ pt_S B k f ∧ pt_S B k f - pt_S B k g = pt_S B k (fun j => f j - g j) := by
  have e := pt_S_add B k (fun j => f j - g j) g
  have e2 : pt_S B k (fun j => f j - g j + g j) = pt_S B k f := pt_S_congr k _ _ (fun j => Nat.sub_add_cancel (h j))
  rw [e2] at e
  omega
theorem pt_S_tail (B : Nat) : ∀ (k : Nat) (f : Nat → Nat), f k = 0 → pt_S B (k + 1) f = pt_S B k f
  | 0, f, h => by
    show f 0 + B * 0 = 0
    rw [h]; rfl
  | k + 1, f, h => by
    have ih := pt_S_tail B k (fun j => f (j + 1)) h
    show f 0 + B * pt_S B (k + 1) (fun j => f (j + 1)) = f 0 + B * pt_S B k (fun j => f (j + 1))
    rw [ih]
theorem pt_S_div {B : Nat} (k : Nat) (f : Nat → Nat) (hB : 0 < B) (h0 : f 0 < B) (hk : f k = 0) : pt_S B k f / B = pt_S B k (fun j => f (j + 1)) := by
  have e := pt_S_tail B k f hk
  have e2 : pt_S B (k + 1) f = f 0 + B * pt_S B k (fun j => f (j + 1)) := rfl
  rw [← e, e2, Nat.add_mul_div_left _ _ hB, Nat.div_eq_of_lt h0, Nat.zero_add]
theorem pt_and_split {w P L c x y : Nat} (hP : 2 ^ w = P) (hL : L < P) (hc : c < P) : (L + P * x) &&& (c + P * y) = (L &&& c) + P * (x &&& y) := by
  subst hP
  rw [Nat.add_comm L, Nat.add_comm c, Nat.add_comm (L &&& c)]
  apply Nat.eq_of_testBit_eq
  intro j
  rw [Nat.testBit_and, Nat.testBit_two_pow_mul_add _ hL, Nat.testBit_two_pow_mul_add _ hc, Nat.testBit_two_pow_mul_add _ (Nat.and_lt_two_pow _ hc)]
  split <;> simp
theorem pt_S_hi4 : ∀ (k : Nat) (f : Nat → Nat), (∀ j, f j < 4) → (pt_S 4 k f / 2) &&& pt_S 4 k (fun _ => 1) = pt_S 4 k (fun j => f j / 2)
  | 0, _, _ => by simp [pt_S]
  | k + 1, f, h => by
    have ih := pt_S_hi4 k (fun j => f (j + 1)) (fun j => h (j + 1))
    have h0 := h 0
    show ((f 0 + 4 * pt_S 4 k (fun j => f (j + 1))) / 2) &&& (1 + 4 * pt_S 4 k (fun _ => 1)) = f 0 / 2 + 4 * pt_S 4 k (fun j => f (j + 1) / 2)
    rw [← ih]
    generalize pt_S 4 k (fun j => f (j + 1)) = R
    generalize pt_S 4 k (fun _ => 1) = M
    have e1 : (f 0 + 4 * R) / 2 = (f 0 / 2 + 2 * (R % 2)) + 4 * (R / 2) := by omega
    have e3 : (f 0 / 2 + 2 * (R % 2)) &&& 1 = (f 0 / 2 + 2 * (R % 2)) % 2 := Nat.and_two_pow_sub_one_eq_mod _ 1
    rw [e1, pt_and_split (w := 2) rfl (by omega) (by omega), e3]
    omega
theorem pt_S_hi16 : ∀ (k : Nat) (f : Nat → Nat), (∀ j, f j < 16) → (pt_S 16 k f / 4) &&& pt_S 16 k (fun _ => 3) = pt_S 16 k (fun j => f j / 4)
  | 0, _, _ => by simp [pt_S]
  | k + 1, f, h => by
    have ih := pt_S_hi16 k (fun j => f (j + 1)) (fun j => h (j + 1))
    have h0 := h 0
    show ((f 0 + 16 * pt_S 16 k (fun j => f (j + 1))) / 4) &&& (3 + 16 * pt_S 16 k (fun _ => 3)) = f 0 / 4 + 16 * pt_S 16 k (fun j => f (j + 1) / 4)
    rw [← ih]
    generalize pt_S 16 k (fun j => f (j + 1)) = R
    generalize pt_S 16 k (fun _ => 3) = M
    have e1 : (f 0 + 16 * R) / 4 = (f 0 / 4 + 4 * (R % 4)) + 16 * (R / 4) := by omega
    have e3 : (f 0 / 4 + 4 * (R % 4)) &&& 3 = (f 0 / 4 + 4 * (R % 4)) % 4 := Nat.and_two_pow_sub_one_eq_mod _ 2
    rw [e1, pt_and_split (w := 4) rfl (by omega) (by omega), e3]
    omega
theorem pt_S_lo16 : ∀ (k : Nat) (f : Nat → Nat), (∀ j, f j < 16) → pt_S 16 k f &&& pt_S 16 k (fun _ => 3) = pt_S 16 k (fun j => f j % 4)
  | 0, _, _ => by simp [pt_S]
  | k + 1, f, h => by
    have ih := pt_S_lo16 k (fun j => f (j + 1)) (fun j => h (j + 1))
    have h0 := h 0
    show (f 0 + 16 * pt_S 16 k (fun j => f (j + 1))) &&& (3 + 16 * pt_S 16 k (fun _ => 3)) = f 0 % 4 + 16 * pt_S 16 k (fun j => f (j + 1) % 4)
    have e3 : f 0 &&& 3 = f 0 % 4 := Nat.and_two_pow_sub_one_eq_mod _ 2
    rw [pt_and_split (w := 4) rfl h0 (by omega), e3, ih]
theorem pt_S_lo256 : ∀ (k : Nat) (f : Nat → Nat), (∀ j, f j < 256) → pt_S 256 k f &&& pt_S 256 k (fun _ => 15) = pt_S 256 k (fun j => f j % 16)
  | 0, _, _ => by simp [pt_S]
  | k + 1, f, h => by
    have ih := pt_S_lo256 k (fun j => f (j + 1)) (fun j => h (j + 1))
    have h0 := h 0
    show (f 0 + 256 * pt_S 256 k (fun j => f (j + 1))) &&& (15 + 256 * pt_S 256 k (fun _ => 15)) = f 0 % 16 + 256 * pt_S 256 k (fun j => f (j + 1) % 16)
    have e3 : f 0 &&& 15 = f 0 % 16 := Nat.and_two_pow_sub_one_eq_mod _ 4
    rw [pt_and_split (w := 8) rfl h0 (by omega), e3, ih]
theorem pt_S_pair16 : ∀ (k : Nat) (f : Nat → Nat), pt_S 4 (2 * k) f = pt_S 16 k (fun j => f (2 * j) + 4 * f (2 * j + 1))
  | 0, _ => rfl
  | k + 1, f => by
    have ih := pt_S_pair16 k (fun j => f (j + 2))
    have e : pt_S 4 (2 * (k + 1)) f = f 0 + 4 * (f 1 + 4 * pt_S 4 (2 * k) (fun j => f (j + 2))) := rfl
    have e2 : pt_S 16 (k + 1) (fun j => f (2 * j) + 4 * f (2 * j + 1)) = f 0 + 4 * f 1 + 16 * pt_S 16 k (fun j => f (2 * j + 2) + 4 * f (2 * j + 1 + 2)) := rfl
    rw [e, e2, ih]
    omega
theorem pt_S_pair256 : ∀ (k : Nat) (f : Nat → Nat), pt_S 16 (2 * k) f = pt_S 256 k (fun j => f (2 * j) + 16 * f (2 * j + 1))
  | 0, _ => rfl
  | k + 1, f => by
    have ih := pt_S_pair256 k (fun j => f (j + 2))
    have e : pt_S 16 (2 * (k + 1)) f = f 0 + 16 * (f 1 + 16 * pt_S 16 (2 * k) (fun j => f (j + 2))) := rfl
    have e2 : pt_S 256 (k + 1) (fun j => f (2 * j) + 16 * f (2 * j + 1)) = f 0 + 16 * f 1 + 256 * pt_S 256 k (fun j => f (2 * j + 2) + 16 * f (2 * j + 1 + 2)) := rfl
    rw [e, e2, ih]
    omega
/-- the sum of the first k -/
def pt_T (b : Nat → Nat) : Nat → Nat
  | 0 => 0
  | k + 1 => pt_T b k + b k
theorem pt_T_pair (b : Nat → Nat) : ∀ k, pt_T b (2 * k) = pt_T (fun j => b (2 * j) + b (2 * j + 1)) k
  | 0 => rfl
  | k + 1 => by
    have ih := pt_T_pair b k
    have e : pt_T b (2 * (k + 1)) = pt_T b (2 * k) + b (2 * k) + b (2 * k + 1) := rfl
    have e2 : pt_T (fun j => b (2 * j) + b (2 * j + 1)) (k + 1) = pt_T (fun j => b (2 * j) + b (2 * j + 1)) k + (b (2 * k) + b (2 * k + 1)) := rfl
    rw [e, e2, ih, Nat.add_assoc]
theorem pt_T_congr {b c : Nat → Nat} (h : ∀ j, b j = c j) : ∀ k, pt_T b k = pt_T c k
  | 0 => rfl
  | k + 1 => by
    show pt_T b k + b k = pt_T c k + c k
    rw [pt_T_congr h k, h k]
theorem pt_T_le {b : Nat → Nat} {m : Nat} (h : ∀ j, b j ≤ m) : ∀ k, pt_T b k ≤ m * k
  | 0 => Nat.le_refl _
  | k + 1 => by
    have ih := pt_T_le h k
    have h0 := h k
    show pt_T b k + b k ≤ m * (k + 1)
    rw [Nat.mul_add, Nat.mul_one]
    omega
/-- the digits at each stage, from the bits b: two of them, four, eight -/
def pt_d2 (b : Nat → Nat) (j : Nat) : Nat := b (2 * j) + b (2 * j + 1)
theorem pt_stage1 {n : Nat} (h : n < 18446744073709551616) :
    (n / 2 &&& 6148914691236517205) ≤ n ∧ n - (n / 2 &&& 6148914691236517205) = pt_S 4 32 (pt_d2 (fun i => n / 2 ^ i % 2)) := by
  have e0 : pt_S 4 32 (fun j => n / 4 ^ j % 4) = n := pt_S_digits 4 32 n (by exact h)
  have e1 := pt_S_hi4 32 (fun j => n / 4 ^ j % 4) (fun j => Nat.mod_lt _ (by decide))
  have em : pt_S 4 32 (fun _ => 2 - 1) = 6148914691236517205 := by decide
  have em' : pt_S 4 32 (fun _ => 1) = 6148914691236517205 := em
  rw [e0, em'] at e1
  obtain ⟨h1, h2⟩ := pt_S_sub 4 32 (fun j => n / 4 ^ j % 4) (fun j => n / 4 ^ j % 4 / 2) (fun j => Nat.div_le_self _ _)
  rw [e0] at h1 h2
  rw [e1]
  refine ⟨h1, h2.trans (pt_S_congr 32 _ _ (fun j => ?_))⟩
  show n / 4 ^ j % 4 - n / 4 ^ j % 4 / 2 = n / 2 ^ (2 * j) % 2 + n / 2 ^ (2 * j + 1) % 2
  have p4 : 4 ^ j = 2 ^ (2 * j) := by rw [Nat.pow_mul]
  rw [p4, Nat.pow_succ, ← Nat.div_div_eq_div_mul]
  omega
theorem pt_stage2 (c : Nat → Nat) (hc : ∀ j, c j ≤ 2) :
    (pt_S 4 32 c &&& 3689348814741910323) + (pt_S 4 32 c / 4 &&& 3689348814741910323) = pt_S 16 16 (pt_d2 c) := by
  have e0 := pt_S_pair16 16 c
  have e0' : pt_S 4 32 c = pt_S 16 16 (fun j => c (2 * j) + 4 * c (2 * j + 1)) := e0
  have hb : ∀ j, c (2 * j) + 4 * c (2 * j + 1) < 16 := fun j => by
    have := hc (2 * j)
    have := hc (2 * j + 1)
    omega
  have e1 := pt_S_lo16 16 (fun j => c (2 * j) + 4 * c (2 * j + 1)) hb
  have e2 := pt_S_hi16 16 (fun j => c (2 * j) + 4 * c (2 * j + 1)) hb
  have em : pt_S 16 16 (fun _ => 3) = 3689348814741910323 := by decide
  rw [em] at e1 e2
  rw [e0', e1, e2, pt_S_add]
  refine pt_S_congr 16 _ _ (fun j => ?_)
  show (c (2 * j) + 4 * c (2 * j + 1)) % 4 + (c (2 * j) + 4 * c (2 * j + 1)) / 4 = c (2 * j) + c (2 * j + 1)
  have := hc (2 * j)
  omega
theorem pt_stage3 (d : Nat → Nat) (hd : ∀ j, d j ≤ 4) (h16 : d 16 = 0) :
    pt_S 16 16 d + pt_S 16 16 d / 16 < 18446744073709551616 ∧ ((pt_S 16 16 d + pt_S 16 16 d / 16) &&& 1085102592571150095) = pt_S 256 8 (pt_d2 d) := by
  have e1 : pt_S 16 16 d / 16 = pt_S 16 16 (fun j => d (j + 1)) := pt_S_div 16 d (by decide) (by have := hd 0; omega) h16
  have hs : ∀ j, d j + d (j + 1) < 16 := fun j => by
    have := hd j
    have := hd (j + 1)
    omega
  have e2 : pt_S 16 16 (fun j => d j + d (j + 1)) = pt_S 256 8 (fun j => d (2 * j) + d (2 * j + 1) + 16 * (d (2 * j + 1) + d (2 * j + 1 + 1))) := pt_S_pair256 8 (fun j => d j + d (j + 1))
  have hlt := pt_S_lt 16 16 (fun j => d j + d (j + 1)) hs
  have e3 := pt_S_lo256 8 (fun j => d (2 * j) + d (2 * j + 1) + 16 * (d (2 * j + 1) + d (2 * j + 1 + 1))) (fun j => by
    have := hs (2 * j)
    have := hs (2 * j + 1)
    omega)
  have em : pt_S 256 8 (fun _ => 15) = 1085102592571150095 := by decide
  rw [em] at e3
  rw [e1, pt_S_add]
  refine ⟨hlt, ?_⟩
  rw [e2, e3]
  refine pt_S_congr 8 _ _ (fun j => ?_)
  show (d (2 * j) + d (2 * j + 1) + 16 * (d (2 * j + 1) + d (2 * j + 1 + 1))) % 16 = d (2 * j) + d (2 * j + 1)
  have := hs (2 * j)
  omega
theorem pt_stage4 (p : Nat → Nat) (hp : ∀ j, p j ≤ 8) (h8 : ∀ j, p (8 + j) = 0) :
    pt_S 256 8 p + pt_S 256 8 p / 2 ^ 8 < 18446744073709551616 ∧
    pt_S 256 8 p + pt_S 256 8 p / 2 ^ 8 + (pt_S 256 8 p + pt_S 256 8 p / 2 ^ 8) / 2 ^ 16 < 18446744073709551616 ∧
    ∃ t, pt_S 256 8 p + pt_S 256 8 p / 2 ^ 8 + (pt_S 256 8 p + pt_S 256 8 p / 2 ^ 8) / 2 ^ 16 + (pt_S 256 8 p + pt_S 256 8 p / 2 ^ 8 + (pt_S 256 8 p + pt_S 256 8 p / 2 ^ 8) / 2 ^ 16) / 2 ^ 32 = pt_S 256 8 t ∧ (∀ j, t j ≤ 64) ∧ t 0 = pt_T p 8 := by
  have z : ∀ j, 8 ≤ j → p j = 0 := fun j h => by
    have := h8 (j - 8)
    rwa [show 8 + (j - 8) = j by omega] at this
  have sh : ∀ (f : Nat → Nat), (∀ j, f j < 256) → (∀ j, 8 ≤ j → f j = 0) → pt_S 256 8 f / 256 = pt_S 256 8 (fun j => f (j + 1)) := fun f h1 h2 => pt_S_div 8 f (by decide) (h1 0) (h2 8 (by omega))
  have a1 : pt_S 256 8 p / 2 ^ 8 = pt_S 256 8 (fun j => p (j + 1)) := sh p (fun j => by have := hp j; omega) z
  rw [a1, pt_S_add]
  have hq : ∀ j, p j + p (j + 1) ≤ 16 := fun j => by
    have := hp j
    have := hp (j + 1)
    omega
  have zq : ∀ j, 8 ≤ j → p j + p (j + 1) = 0 := fun j h => by rw [z j h, z (j + 1) (by omega)]
  have l1 := pt_S_lt 256 8 (fun j => p j + p (j + 1)) (fun j => by have := hq j; omega)
  have a2 : pt_S 256 8 (fun j => p j + p (j + 1)) / 2 ^ 16 = pt_S 256 8 (fun j => p (j + 2) + p (j + 3)) := by
    rw [show (2 : Nat) ^ 16 = 256 * 256 from rfl, ← Nat.div_div_eq_div_mul, sh _ (fun j => by have := hq j; omega) zq]
    exact sh (fun j => p (j + 1) + p (j + 1 + 1)) (fun j => by have := hq (j + 1); omega) (fun j h => zq (j + 1) (by omega))
  rw [a2, pt_S_add]
  have hr : ∀ j, p j + p (j + 1) + (p (j + 2) + p (j + 3)) ≤ 32 := fun j => by
    have h1 : p j + p (j + 1) ≤ 16 := hq j
    have h2 : p (j + 2) + p (j + 3) ≤ 16 := hq (j + 2)
    omega
  have zr : ∀ j, 8 ≤ j → p j + p (j + 1) + (p (j + 2) + p (j + 3)) = 0 := fun j h => by rw [z j h, z (j + 1) (by omega), z (j + 2) (by omega), z (j + 3) (by omega)]
  have l2 := pt_S_lt 256 8 (fun j => p j + p (j + 1) + (p (j + 2) + p (j + 3))) (fun j => by have := hr j; omega)
  have a3 : pt_S 256 8 (fun j => p j + p (j + 1) + (p (j + 2) + p (j + 3))) / 2 ^ 32 = pt_S 256 8 (fun j => p (j + 4) + p (j + 5) + (p (j + 6) + p (j + 7))) := by
    rw [show (2 : Nat) ^ 32 = 256 * 256 * 256 * 256 from rfl, ← Nat.div_div_eq_div_mul, ← Nat.div_div_eq_div_mul, ← Nat.div_div_eq_div_mul, sh _ (fun j => by have := hr j; omega) zr]
    rw [sh (fun j => p (j + 1) + p (j + 1 + 1) + (p (j + 1 + 2) + p (j + 1 + 3))) (fun j => by have := hr (j + 1); omega) (fun j h => zr (j + 1) (by omega))]
    rw [sh (fun j => p (j + 1 + 1) + p (j + 1 + 1 + 1) + (p (j + 1 + 1 + 2) + p (j + 1 + 1 + 3))) (fun j => by have := hr (j + 1 + 1); omega) (fun j h => zr (j + 1 + 1) (by omega))]
    exact sh (fun j => p (j + 1 + 1 + 1) + p (j + 1 + 1 + 1 + 1) + (p (j + 1 + 1 + 1 + 2) + p (j + 1 + 1 + 1 + 3))) (fun j => by have := hr (j + 1 + 1 + 1); omega) (fun j h => zr (j + 1 + 1 + 1) (by omega))
  rw [a3, pt_S_add]
  refine ⟨l1, l2, _, rfl, fun j => ?_, ?_⟩
  · have h1 : p j + p (j + 1) + (p (j + 2) + p (j + 3)) ≤ 32 := hr j
    have h2 : p (j + 4) + p (j + 5) + (p (j + 6) + p (j + 7)) ≤ 32 := hr (j + 4)
    show p j + p (j + 1) + (p (j + 2) + p (j + 3)) + (p (j + 4) + p (j + 5) + (p (j + 6) + p (j + 7))) ≤ 64
    omega
  · show p 0 + p 1 + (p 2 + p 3) + (p 4 + p 5 + (p 6 + p 7)) = 0 + p 0 + p 1 + p 2 + p 3 + p 4 + p 5 + p 6 + p 7
    omega
/-- Long.bitCount's steps, as the machine has them -/
def pt_c1 (x : Int64) : Int64 := x - (pt_ushr x 1 &&& 6148914691236517205)
def pt_c2 (x : Int64) : Int64 := (x &&& 3689348814741910323) + (pt_ushr x 2 &&& 3689348814741910323)
def pt_c3 (x : Int64) : Int64 := (x + pt_ushr x 4) &&& 1085102592571150095
def pt_c4 (x : Int64) : Int64 := x + pt_ushr x 8
def pt_c5 (x : Int64) : Int64 := x + pt_ushr x 16
def pt_c6 (x : Int64) : Int64 := x + pt_ushr x 32
def pt_bc (x : Int64) : Int32 := (pt_c6 (pt_c5 (pt_c4 (pt_c3 (pt_c2 (pt_c1 x)))))).toInt32 &&& 127
/-- the reference's count of bits, after k of them -/
def pt_cnt (v : Int64) : Nat → Int32
  | 0 => 0
  | k + 1 => pt_cnt v k + (pt_ushr v (nI k) &&& 1).toInt32
def pt_bits (v : Int64) : Int32 := pt_cnt v 64
theorem pt_cnt_T (v : Int64) : ∀ k, k ≤ 64 → pt_cnt v k = nI (pt_T (fun i => pt_u v / 2 ^ i % 2) k)
  | 0, _ => rfl
  | k + 1, h => by
    have ih := pt_cnt_T v k (by omega)
    have e : pt_ushr v (nI k) &&& 1 = lN (pt_u v / 2 ^ k % 2) := by
      apply pt_u_inj
      have e1 : pt_u (1 : Int64) = 2 ^ 1 - 1 := by decide
      rw [pt_u_and, pt_u_shr v (by omega), e1, Nat.and_two_pow_sub_one_eq_mod, pt_u_lN (by omega)]
    show pt_cnt v k + (pt_ushr v (nI k) &&& 1).toInt32 = nI (pt_T (fun i => pt_u v / 2 ^ i % 2) k + pt_u v / 2 ^ k % 2)
    rw [ih, e, lN_i, nI_add]
theorem pt_d2_le {b : Nat → Nat} {m m2 : Nat} (h : ∀ j, b j ≤ m) (e : m + m ≤ m2) : ∀ j, pt_d2 b j ≤ m2 := fun j => Nat.le_trans (Nat.add_le_add (h (2 * j)) (h (2 * j + 1))) e
theorem pt_d2_z {b : Nat → Nat} {m m2 : Nat} (h : ∀ j, m2 ≤ j → b j = 0) (e : m2 ≤ 2 * m) : ∀ j, m ≤ j → pt_d2 b j = 0 := fun j hj => by
  show b (2 * j) + b (2 * j + 1) = 0
  rw [h _ (by omega), h _ (by omega)]
theorem pt_fin {t r m : Nat} (h : t ≤ 64) (e : m = t + 256 * r) : m % 2 ^ 32 % 2 ^ 7 = t := by omega
set_option maxHeartbeats 4000000 in
set_option maxRecDepth 20000 in
theorem pt_bc_T (v : Int64) : pt_bc v = nI (pt_T (fun i => pt_u v / 2 ^ i % 2) 64) ∧ pt_T (fun i => pt_u v / 2 ^ i % 2) 64 ≤ 64 := by
  have hv := pt_u_lt v
  generalize hb : (fun i => pt_u v / 2 ^ i % 2) = b
  have hb1 : ∀ i, b i ≤ 1 := fun i => by
    rw [← hb]
    show pt_u v / 2 ^ i % 2 ≤ 1
    omega
  have hb0 : ∀ i, 64 ≤ i → b i = 0 := fun i hi => by
    rw [← hb]
    show pt_u v / 2 ^ i % 2 = 0
    have : 2 ^ 64 ≤ 2 ^ i := Nat.pow_le_pow_right (by decide) hi
    rw [Nat.div_eq_of_lt (by omega)]
  -- 1
  have m5 : pt_u (6148914691236517205 : Int64) = 6148914691236517205 := by decide +kernel
  have m3 : pt_u (3689348814741910323 : Int64) = 3689348814741910323 := by decide +kernel
  have mf : pt_u (1085102592571150095 : Int64) = 1085102592571150095 := by decide +kernel
  obtain ⟨s1, s1'⟩ := pt_stage1 hv
  rw [hb] at s1'
  have u1 : pt_u (pt_c1 v) = pt_S 4 32 (pt_d2 b) := by
    have e : pt_u (pt_ushr v 1 &&& 6148914691236517205) = pt_u v / 2 &&& 6148914691236517205 := by
      rw [pt_u_and, m5]
      exact congrArg (· &&& 6148914691236517205) (pt_u_shr v (k := 1) (by decide))
    show pt_u (v - (pt_ushr v 1 &&& 6148914691236517205)) = _
    rw [pt_u_sub (by rw [e]; exact s1), e]
    exact s1'
  have hc2 : ∀ j, pt_d2 b j ≤ 2 := pt_d2_le hb1 (by decide)
  have hd4 : ∀ j, pt_d2 (pt_d2 b) j ≤ 4 := pt_d2_le hc2 (by decide)
  have hp8 : ∀ j, pt_d2 (pt_d2 (pt_d2 b)) j ≤ 8 := pt_d2_le hd4 (by decide)
  have zc : ∀ j, 32 ≤ j → pt_d2 b j = 0 := pt_d2_z hb0 (by decide)
  have zd : ∀ j, 16 ≤ j → pt_d2 (pt_d2 b) j = 0 := pt_d2_z zc (by decide)
  have zp : ∀ j, pt_d2 (pt_d2 (pt_d2 b)) (8 + j) = 0 := fun j => pt_d2_z zd (m := 8) (by decide) _ (Nat.le_add_right _ _)
  -- 2
  have s2 := pt_stage2 (pt_d2 b) hc2
  have l2 := pt_S_lt 16 16 (pt_d2 (pt_d2 b)) (fun j => Nat.lt_of_le_of_lt (hd4 j) (by decide))
  have u2 : pt_u (pt_c2 (pt_c1 v)) = pt_S 16 16 (pt_d2 (pt_d2 b)) := by
    have e : pt_u (pt_ushr (pt_c1 v) 2) = pt_S 4 32 (pt_d2 b) / 4 := by
      rw [← u1]
      exact pt_u_shr (pt_c1 v) (k := 2) (by decide)
    show pt_u ((pt_c1 v &&& 3689348814741910323) + (pt_ushr (pt_c1 v) 2 &&& 3689348814741910323)) = _
    rw [pt_u_add, pt_u_and, pt_u_and, m3, u1, e, s2]
    exact Nat.mod_eq_of_lt l2
  -- 3
  obtain ⟨l3, s3⟩ := pt_stage3 (pt_d2 (pt_d2 b)) hd4 (zd 16 (Nat.le_refl _))
  have u3 : pt_u (pt_c3 (pt_c2 (pt_c1 v))) = pt_S 256 8 (pt_d2 (pt_d2 (pt_d2 b))) := by
    have e : pt_u (pt_ushr (pt_c2 (pt_c1 v)) 4) = pt_S 16 16 (pt_d2 (pt_d2 b)) / 16 := by
      rw [← u2]
      exact pt_u_shr (pt_c2 (pt_c1 v)) (k := 4) (by decide)
    show pt_u ((pt_c2 (pt_c1 v) + pt_ushr (pt_c2 (pt_c1 v)) 4) &&& 1085102592571150095) = _
    rw [pt_u_and, pt_u_add, mf, u2, e, Nat.mod_eq_of_lt l3]
    exact s3
  -- 4, 5, 6
  obtain ⟨l4, l5, t, s6, ht, ht0⟩ := pt_stage4 (pt_d2 (pt_d2 (pt_d2 b))) hp8 zp
  generalize hX : pt_S 256 8 (pt_d2 (pt_d2 (pt_d2 b))) = X at u3 l4 l5 s6
  have u4 : pt_u (pt_c4 (pt_c3 (pt_c2 (pt_c1 v)))) = X + X / 2 ^ 8 := by
    have e : pt_u (pt_ushr (pt_c3 (pt_c2 (pt_c1 v))) 8) = X / 2 ^ 8 := by
      rw [← u3]
      exact pt_u_shr _ (k := 8) (by decide)
    show pt_u (pt_c3 (pt_c2 (pt_c1 v)) + pt_ushr (pt_c3 (pt_c2 (pt_c1 v))) 8) = _
    rw [pt_u_add, u3, e, Nat.mod_eq_of_lt l4]
  generalize hY : X + X / 2 ^ 8 = Y at u4 l4 l5 s6
  have u5 : pt_u (pt_c5 (pt_c4 (pt_c3 (pt_c2 (pt_c1 v))))) = Y + Y / 2 ^ 16 := by
    have e : pt_u (pt_ushr (pt_c4 (pt_c3 (pt_c2 (pt_c1 v)))) 16) = Y / 2 ^ 16 := by
      rw [← u4]
      exact pt_u_shr _ (k := 16) (by decide)
    show pt_u (pt_c4 (pt_c3 (pt_c2 (pt_c1 v))) + pt_ushr (pt_c4 (pt_c3 (pt_c2 (pt_c1 v)))) 16) = _
    rw [pt_u_add, u4, e, Nat.mod_eq_of_lt l5]
  generalize hZ : Y + Y / 2 ^ 16 = Z at u5 l5 s6
  have l6 := pt_S_lt 256 8 t (fun j => Nat.lt_of_le_of_lt (ht j) (by decide))
  have u6 : pt_u (pt_c6 (pt_c5 (pt_c4 (pt_c3 (pt_c2 (pt_c1 v)))))) = pt_S 256 8 t := by
    have e : pt_u (pt_ushr (pt_c5 (pt_c4 (pt_c3 (pt_c2 (pt_c1 v))))) 32) = Z / 2 ^ 32 := by
      rw [← u5]
      exact pt_u_shr _ (k := 32) (by decide)
    show pt_u (pt_c5 (pt_c4 (pt_c3 (pt_c2 (pt_c1 v)))) + pt_ushr (pt_c5 (pt_c4 (pt_c3 (pt_c2 (pt_c1 v))))) 32) = _
    rw [pt_u_add, u5, e, s6]
    exact Nat.mod_eq_of_lt l6
  have hT : pt_T b 64 = pt_T (pt_d2 (pt_d2 (pt_d2 b))) 8 := (pt_T_pair b 32).trans ((pt_T_pair (pt_d2 b) 16).trans (pt_T_pair (pt_d2 (pt_d2 b)) 8))
  have hle : pt_T b 64 ≤ 1 * 64 := pt_T_le hb1 64
  refine ⟨?_, hle⟩
  have e6 : pt_c6 (pt_c5 (pt_c4 (pt_c3 (pt_c2 (pt_c1 v))))) = lN (pt_S 256 8 t) := by rw [← u6]; exact pt_u_of _
  have eS : pt_S 256 8 t = t 0 + 256 * pt_S 256 7 (fun j => t (j + 1)) := rfl
  show (pt_c6 (pt_c5 (pt_c4 (pt_c3 (pt_c2 (pt_c1 v)))))).toInt32 &&& 127 = _
  rw [e6, lN_i, pk_and (nI (pt_S 256 8 t)) (m := 127) 7 (by decide)]
  have e7 : (nI (pt_S 256 8 t)).toBitVec.toNat = pt_S 256 8 t % 2 ^ 32 := rfl
  rw [e7, hT, ← ht0]
  exact congrArg nI (pt_fin (ht 0) eS)
theorem pt_bc_bits (v : Int64) : pt_bc v = pt_bits v := by
  rw [(pt_bc_T v).1]
  exact (pt_cnt_T v 64 (Nat.le_refl _)).symm
theorem pt_bits_N (v : Int64) : ∃ k, k ≤ 64 ∧ pt_bits v = nI k := ⟨_, (pt_bc_T v).2, by rw [← pt_bc_bits]; exact (pt_bc_T v).1⟩
