theorem fb_rng (x : Int32) : -2147483648 ≤ x.toInt ∧ x.toInt < 2147483648 := by
  have h1 := Int32.le_toInt x
  have h2 := Int32.toInt_lt x
  omega
theorem fb_bmod {z : Int} (h1 : -2147483648 ≤ z) (h2 : z < 2147483648) : z.bmod (2 ^ 32) = z := by
  rw [Int.bmod_eq_of_le (by omega) (by omega)]
theorem fb_addI {x y : Int32} (h1 : -2147483648 ≤ x.toInt + y.toInt) (h2 : x.toInt + y.toInt < 2147483648) : (x + y).toInt = x.toInt + y.toInt := by
  rw [Int32.toInt_add, fb_bmod h1 h2]
theorem fb_subI {x y : Int32} (h1 : -2147483648 ≤ x.toInt - y.toInt) (h2 : x.toInt - y.toInt < 2147483648) : (x - y).toInt = x.toInt - y.toInt := by
  rw [Int32.toInt_sub, fb_bmod h1 h2]
theorem fb_mulI {x y : Int32} (h1 : -2147483648 ≤ x.toInt * y.toInt) (h2 : x.toInt * y.toInt < 2147483648) : (x * y).toInt = x.toInt * y.toInt := by
  rw [Int32.toInt_mul, fb_bmod h1 h2]
theorem fb_negI {x : Int32} (h : x.toInt ≠ -2147483648) : (-x).toInt = -x.toInt := by
  have := fb_rng x
  rw [Int32.toInt_neg, fb_bmod (by omega) (by omega)]
theorem fb_ofI {z : Int} (h1 : -2147483648 ≤ z) (h2 : z < 2147483648) : (Int32.ofInt z).toInt = z := by
  rw [Int32.toInt_ofInt, fb_bmod h1 h2]
theorem fb_asI (x : Int32) : Int32.ofInt x.toInt = x := Int32.ofInt_toInt x
theorem fb_rngL (x : Int64) : -9223372036854775808 ≤ x.toInt ∧ x.toInt < 9223372036854775808 := by
  have h1 := Int64.le_toInt x
  have h2 := Int64.toInt_lt x
  omega
theorem fb_bmodL {z : Int} (h1 : -9223372036854775808 ≤ z) (h2 : z < 9223372036854775808) : z.bmod (2 ^ 64) = z := by
  rw [Int.bmod_eq_of_le (by omega) (by omega)]
theorem fb_addL {x y : Int64} (h1 : -9223372036854775808 ≤ x.toInt + y.toInt) (h2 : x.toInt + y.toInt < 9223372036854775808) : (x + y).toInt = x.toInt + y.toInt := by
  rw [Int64.toInt_add, fb_bmodL h1 h2]
theorem fb_subL {x y : Int64} (h1 : -9223372036854775808 ≤ x.toInt - y.toInt) (h2 : x.toInt - y.toInt < 9223372036854775808) : (x - y).toInt = x.toInt - y.toInt := by
  rw [Int64.toInt_sub, fb_bmodL h1 h2]
theorem fb_mulL {x y : Int64} (h1 : -9223372036854775808 ≤ x.toInt * y.toInt) (h2 : x.toInt * y.toInt < 9223372036854775808) : (x * y).toInt = x.toInt * y.toInt := by
  rw [Int64.toInt_mul, fb_bmodL h1 h2]
/-! ===== cuts of what is narrow already ===== -/
theorem fb_byte {x : Int32} (h1 : -128 ≤ x.toInt) (h2 : x.toInt < 128) : x.toInt8.toInt32 = x := by
  apply Int32.toInt_inj.1
  rw [Int8.toInt_toInt32, Int32.toInt_toInt8, Int.bmod_eq_of_le (by omega) (by omega)]
theorem fb_short {x : Int32} (h1 : -32768 ≤ x.toInt) (h2 : x.toInt < 32768) : x.toInt16.toInt32 = x := by
  apply Int32.toInt_inj.1
  rw [Int16.toInt_toInt32, Int32.toInt_toInt16, Int.bmod_eq_of_le (by omega) (by omega)]
theorem fb_byte_rng (x : Int32) : -128 ≤ x.toInt8.toInt32.toInt ∧ x.toInt8.toInt32.toInt < 128 := by
  rw [Int8.toInt_toInt32]
  have h1 := Int8.le_toInt x.toInt8
  have h2 := Int8.toInt_lt x.toInt8
  omega
theorem fb_short_rng (x : Int32) : -32768 ≤ x.toInt16.toInt32.toInt ∧ x.toInt16.toInt32.toInt < 32768 := by
  rw [Int16.toInt_toInt32]
  have h1 := Int16.le_toInt x.toInt16
  have h2 := Int16.toInt_lt x.toInt16
  omega
theorem fb_byte_twice (x : Int32) : x.toInt8.toInt32.toInt8.toInt32 = x.toInt8.toInt32 := fb_byte (fb_byte_rng x).1 (fb_byte_rng x).2
theorem fb_short_twice (x : Int32) : x.toInt16.toInt32.toInt16.toInt32 = x.toInt16.toInt32 := fb_short (fb_short_rng x).1 (fb_short_rng x).2
/-! ===== plain facts of my own: absolute values, common divisors, fractions compared ===== -/
def lA (a : Int64) : Nat := a.toInt.natAbs
theorem lA_abs {a : Int64} (h : lA a < 2 ^ 63) : (if 0 < a then a else -a) = lN (lA a) := by
  apply (c_int64 _ _).mpr
  rw [pk_lT h]
  unfold lA at h ⊢
  have h0 : (0 : Int64).toInt = 0 := rfl
  by_cases hp : 0 < a
  · rw [if_pos hp]
    rw [Int64.lt_iff_toInt_lt, h0] at hp
    omega
  · rw [if_neg hp]
    rw [Int64.lt_iff_toInt_lt, h0] at hp
    rw [Int64.toInt_neg, fb_bmodL (by omega) (by omega)]
    omega
theorem lA_0 {b : Int64} (h : ¬ b = 0) : 0 < lA b := by
  have h0 : (0 : Int64).toInt = 0 := rfl
  have h1 : ¬ b.toInt = 0 := fun e => h ((c_int64 b 0).mpr (e.trans h0.symm))
  unfold lA
  omega
theorem gd_pos {a b : Int64} (h : ¬ b = 0) : 0 < Nat.gcd (lA a) (lA b) := Nat.gcd_pos_of_pos_right _ (lA_0 h)
theorem gd_lt {a b : Int64} (h : ¬ b = 0) (hb : lA b < 2 ^ 63) : Nat.gcd (lA a) (lA b) < 2 ^ 63 := Nat.lt_of_le_of_lt (Nat.gcd_le_right _ (lA_0 h)) hb
theorem gd_ne {a b : Int64} (h : ¬ b = 0) (hb : lA b < 2 ^ 63) : ¬ lN (Nat.gcd (lA a) (lA b)) = 0 := fun e => absurd ((pk_lEQ (b := 0) (gd_lt h hb) (by decide)).mp e) (Nat.ne_of_gt (gd_pos h))
theorem l_neg0 {a : Int64} (h : ¬ a = 0) : ¬ -a = 0 := fun e => h (by
  have h2 : -(-a) = -(0 : Int64) := congrArg (fun z => -z) e
  rw [Int64.neg_neg] at h2
  exact h2)
def gdL (a b : Int64) : Int64 := if b < 0 then -lN (Nat.gcd (lA a) (lA b)) else lN (Nat.gcd (lA a) (lA b))
def prL (a b : Int64) (w : Int32) : Int64 := if w = 0 then a / gdL a b else b / gdL a b
theorem cq_lt {a b c d : Nat} (hb : 0 < b) (hd : 0 < d) (h : a / b < c / d) : a * d < c * b := by
  have h1 : a < b * (a / b + 1) := Nat.lt_mul_div_succ a hb
  have h2 : b * (a / b + 1) ≤ b * (c / d) := Nat.mul_le_mul_left b h
  have h3 : a * d < b * (c / d) * d := Nat.mul_lt_mul_of_pos_right (Nat.lt_of_lt_of_le h1 h2) hd
  have h4 : c / d * d ≤ c := Nat.div_mul_le_self c d
  have h5 : b * (c / d) * d ≤ b * c := by rw [Nat.mul_assoc]; exact Nat.mul_le_mul_left b h4
  rw [Nat.mul_comm c b]
  exact Nat.lt_of_lt_of_le h3 h5
theorem cq_eq {a b c d : Nat} (h : a / b = c / d) : (a * d < c * b ↔ a % b * d < c % d * b) ∧ (a * d = c * b ↔ a % b * d = c % d * b) := by
  have h1 : a * d = b * (a / b) * d + a % b * d := by rw [← Nat.add_mul, Nat.div_add_mod]
  have h2 : c * b = d * (a / b) * b + c % d * b := by rw [h, ← Nat.add_mul, Nat.div_add_mod]
  have h3 : d * (a / b) * b = b * (a / b) * d := by rw [Nat.mul_comm (d * (a / b)) b, Nat.mul_comm d, ← Nat.mul_assoc]
  rw [h1, h2, h3]
  constructor <;> constructor <;> omega
def cmpN (a b c d : Nat) : Int32 := if a * d < c * b then -1 else if a * d = c * b then nI 0 else nI 1
theorem inN {v : Int32} {k : Nat} (hk : k < 2 ^ 31) (h : ¬ v < nI 0 ∧ ¬ nI k < v) : ∃ i : Nat, i ≤ k ∧ v = nI i := by
  obtain ⟨j, hj, rfl⟩ := nI_of (x := v) h.1
  exact ⟨j, Nat.not_lt.mp (fun h2 => h.2 (nI_lt h2 hj)), rfl⟩
