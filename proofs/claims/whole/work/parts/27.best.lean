/-! ===== the reference, best: plain facts ===== -/
theorem l_nn {z : Int64} (h : 0 ≤ z.toInt) : z = lN (lA z) := by
  have hr := fb_rngL z
  apply (c_int64 _ _).mpr
  rw [pk_lT (by unfold lA; omega)]
  unfold lA
  omega
theorem i_sq (z : Int) : 0 ≤ z * z := by
  rcases Int.le_total 0 z with hz | hz
  · exact Int.mul_nonneg hz hz
  · exact Int.mul_nonneg_of_nonpos_of_nonpos hz hz
theorem hf_hp {A : MA} {u t : Nat} (h : hfA A u t) : hpA A u ∧ hpA A t := by
  constructor
  · apply Classical.byContradiction
    intro hn
    have h0 : plA A u 0 = 0 := Classical.byContradiction (fun e => hn (Or.inl e))
    have h1 : plA A u 1 = 0 := Classical.byContradiction (fun e => hn (Or.inr (Or.inl e)))
    have h2 : plA A u 2 = 0 := Classical.byContradiction (fun e => hn (Or.inr (Or.inr e)))
    have f : ∀ a, a < 3 → faA A u t a = 0 := by
      intro a ha
      have hh : a = 0 ∨ a = 1 ∨ a = 2 := by omega
      rcases hh with rfl | rfl | rfl
      · show plA A u 1 * plA A t 2 - plA A u 2 * plA A t 1 = 0
        rw [h1, h2, Int64.zero_mul, Int64.zero_mul]; rfl
      · show plA A u 2 * plA A t 0 - plA A u 0 * plA A t 2 = 0
        rw [h0, h2, Int64.zero_mul, Int64.zero_mul]; rfl
      · show plA A u 0 * plA A t 1 - plA A u 1 * plA A t 0 = 0
        rw [h0, h1, Int64.zero_mul, Int64.zero_mul]; rfl
    rcases h with h | h | h
    · exact h (f 0 (by decide))
    · exact h (f 1 (by decide))
    · exact h (f 2 (by decide))
  · apply Classical.byContradiction
    intro hn
    have h0 : plA A t 0 = 0 := Classical.byContradiction (fun e => hn (Or.inl e))
    have h1 : plA A t 1 = 0 := Classical.byContradiction (fun e => hn (Or.inr (Or.inl e)))
    have h2 : plA A t 2 = 0 := Classical.byContradiction (fun e => hn (Or.inr (Or.inr e)))
    have f : ∀ a, a < 3 → faA A u t a = 0 := by
      intro a ha
      have hh : a = 0 ∨ a = 1 ∨ a = 2 := by omega
      rcases hh with rfl | rfl | rfl
      · show plA A u 1 * plA A t 2 - plA A u 2 * plA A t 1 = 0
        rw [h1, h2, Int64.mul_zero, Int64.mul_zero]; rfl
      · show plA A u 2 * plA A t 0 - plA A u 0 * plA A t 2 = 0
        rw [h0, h2, Int64.mul_zero, Int64.mul_zero]; rfl
      · show plA A u 0 * plA A t 1 - plA A u 1 * plA A t 0 = 0
        rw [h0, h1, Int64.mul_zero, Int64.mul_zero]; rfl
    rcases h with h | h | h
    · exact h (f 0 (by decide))
    · exact h (f 1 (by decide))
    · exact h (f 2 (by decide))
def nuA (A : MA) (u t : Nat) : Nat := lA (scA A u t * scA A u t)
def deA (A : MA) (u t : Nat) : Nat := lA (scA A u u * scA A t t)
theorem nu_eq {A : MA} (hwy : ∀ j, j < 216 → ib 9 (A 11 j)) {u t : Nat} (hu : u < 24) (ht : t < 24) : scA A u t * scA A u t = lN (nuA A u t) := l_nn (by rw [(bd_mul (sc_bd hwy hu ht) (sc_bd hwy hu ht) (by decide)).1]; exact i_sq _)
theorem nu_lt {A : MA} (hwy : ∀ j, j < 216 → ib 9 (A 11 j)) {u t : Nat} (hu : u < 24) (ht : t < 24) : nuA A u t < 2 ^ 63 := Nat.lt_of_le_of_lt (bd_mul (sc_bd hwy hu ht) (sc_bd hwy hu ht) (by decide)).2 (by decide)
theorem de_lt {A : MA} (hwy : ∀ j, j < 216 → ib 9 (A 11 j)) {u t : Nat} (hu : u < 24) (ht : t < 24) : deA A u t < 2 ^ 63 := Nat.lt_of_le_of_lt (bd_mul (sc_bd hwy hu hu) (sc_bd hwy ht ht) (by decide)).2 (by decide)
theorem de_eq {A : MA} (hwy : ∀ j, j < 216 → ib 9 (A 11 j)) {u t : Nat} (hu : u < 24) (ht : t < 24) (h1 : hpA A u) (h2 : hpA A t) : scA A u u * scA A t t = lN (deA A u t) := l_nn (by rw [(bd_mul (sc_bd hwy hu hu) (sc_bd hwy ht ht) (by decide)).1]; exact Int.le_of_lt (Int.mul_pos (pl_0 hwy hu h1) (pl_0 hwy ht h2)))
theorem de_pos {A : MA} (hwy : ∀ j, j < 216 → ib 9 (A 11 j)) {u t : Nat} (hu : u < 24) (ht : t < 24) (h1 : hpA A u) (h2 : hpA A t) : 0 < deA A u t := lA_0 (sc_ne hwy hu ht h1 h2)
abbrev cdA (A : MA) (i u t : Nat) : Prop := ¬ u = t ∧ ¬ A 9 (4 * i + u) = nI 2 ∧ hfA A (4 * i + u) (4 * i + t) ∧ mtA A (4 * i + u) (4 * i + t) 0
def bsP (A : MA) (i u : Nat) (o : Option (Nat × Nat)) (t : Nat) : Option (Nat × Nat) := if cdA A i u t then (match o with
  | none => some (u, t)
  | some z => if cmpN (nuA A (4 * i + u) (4 * i + t)) (deA A (4 * i + u) (4 * i + t)) (nuA A (4 * i + z.1) (4 * i + z.2)) (deA A (4 * i + z.1) (4 * i + z.2)) < 0 then some (u, t) else some z) else o
def bsR (A : MA) (i c u : Nat) (o : Option (Nat × Nat)) : Option (Nat × Nat) := (List.range' 0 (c - 0)).foldl (bsP A i u) o
def bstA (A : MA) (i c : Nat) : Option (Nat × Nat) := (List.range' 0 (c - 0)).foldl (fun o u => bsR A i c u o) none
def bsI (o : Option (Nat × Nat)) : Int32 := match o with
  | none => -1
  | some z => nI (10 * z.1 + z.2)
def abv (A : MA) (i : Nat) (o : Option (Nat × Nat)) : Int64 := match o with
  | none => 0
  | some z => lN (nuA A (4 * i + z.1) (4 * i + z.2))
def und (A : MA) (i : Nat) (o : Option (Nat × Nat)) : Int64 := match o with
  | none => 1
  | some z => lN (deA A (4 * i + z.1) (4 * i + z.2))
def bsV (A : MA) (B : MB) (o : Option (Nat × Nat)) : OR := match o with
  | none => (lF 2, A, fnd B 2)
  | some z => (lN (10 * z.1 + z.2), A, B)
def op_best (A : MA) (B : MB) (t : Int32) : OR := if rg (nI 0) (nI 5) t then bsV A B (bstA A t.toNatClampNeg (ct A t.toNatClampNeg)) else (lF 1, A, fnd B 1)
