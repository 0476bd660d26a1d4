/-! ===== the class: bounds for the best pair (laid by program) ===== -/
/-! the best pair -/
theorem cv_1 {a b c t : Int} (ha : 0 ≤ a) (h1 : -9 ≤ t) (h2 : t ≤ 9) {M : Int} (hp : a * 81 + b * 9 + c ≤ M) (hm : a * 81 - b * 9 + c ≤ M) : a * (t * t) + b * t + c ≤ M := by
  have h3 : t * t ≤ 81 := by
    have h4 : 0 ≤ (9 - t) * (9 + t) := Int.mul_nonneg (by omega) (by omega)
    have h5 : (9 - t) * (9 + t) = 81 - t * t := by grind
    omega
  have h6 : a * (t * t) ≤ a * 81 := Int.mul_le_mul_of_nonneg_left h3 ha
  by_cases hb : 0 ≤ b
  · have h7 : b * t ≤ b * 9 := Int.mul_le_mul_of_nonneg_left h2 hb
    omega
  · have h7 : (-b) * (-t) ≤ (-b) * 9 := Int.mul_le_mul_of_nonneg_left (by omega) (by omega)
    have h8 : (-b) * (-t) = b * t := by grind
    have h9 : (-b) * 9 = -(b * 9) := by grind
    omega
def q3 (x y z u v w : Int) : Int := (y * w - z * v) * (y * w - z * v) + (z * u - x * w) * (z * u - x * w) + (x * v - y * u) * (x * v - y * u)
theorem sq_n (a : Int) : 0 ≤ a * a := i_sq a
theorem q_c (s1 s2 s3 : Int) (h1 : s1 = 9 ∨ s1 = -9) (h2 : s2 = 9 ∨ s2 = -9) (h3 : s3 = 9 ∨ s3 = -9) {u v w : Int} (hu : -9 ≤ u ∧ u ≤ 9) (hv : -9 ≤ v ∧ v ≤ 9) (hw : -9 ≤ w ∧ w ≤ 9) : q3 s1 s2 s3 u v w ≤ 52488 := by
  have key : ∀ x y z : Int, -9 ≤ x ∧ x ≤ 9 → -9 ≤ y ∧ y ≤ 9 → -9 ≤ z ∧ z ≤ 9 → (x - y) * (x - y) + (y - z) * (y - z) + (z - x) * (z - x) ≤ 648 := fun x y z hx hy hz => by
    have c1 : (x - y) * (x - y) + (y - z) * (y - z) + (z - x) * (z - x) = (2 * 1) * (x * x) + (-2 * y - 2 * z) * x + (2 * (y * y) + 2 * (z * z) - 2 * (y * z)) := by grind
    rw [c1]
    refine cv_1 (by decide) hx.1 hx.2 ?_ ?_
    · have c2 : 2 * 1 * 81 + (-2 * y - 2 * z) * 9 + (2 * (y * y) + 2 * (z * z) - 2 * (y * z)) = (2 * 1) * (y * y) + (-18 - 2 * z) * y + (162 - 18 * z + 2 * (z * z)) := by grind
      rw [c2]
      refine cv_1 (by decide) hy.1 hy.2 ?_ ?_
      · have c3 : 2 * 1 * 81 + (-18 - 2 * z) * 9 + (162 - 18 * z + 2 * (z * z)) = 2 * (z * z) + (-36) * z + 162 := by grind
        rw [c3]; exact cv_1 (by decide) hz.1 hz.2 (by decide) (by decide)
      · have c3 : 2 * 1 * 81 - (-18 - 2 * z) * 9 + (162 - 18 * z + 2 * (z * z)) = 2 * (z * z) + 0 * z + 486 := by grind
        rw [c3]; exact cv_1 (by decide) hz.1 hz.2 (by decide) (by decide)
    · have c2 : 2 * 1 * 81 - (-2 * y - 2 * z) * 9 + (2 * (y * y) + 2 * (z * z) - 2 * (y * z)) = (2 * 1) * (y * y) + (18 - 2 * z) * y + (162 + 18 * z + 2 * (z * z)) := by grind
      rw [c2]
      refine cv_1 (by decide) hy.1 hy.2 ?_ ?_
      · have c3 : 2 * 1 * 81 + (18 - 2 * z) * 9 + (162 + 18 * z + 2 * (z * z)) = 2 * (z * z) + 0 * z + 486 := by grind
        rw [c3]; exact cv_1 (by decide) hz.1 hz.2 (by decide) (by decide)
      · have c3 : 2 * 1 * 81 - (18 - 2 * z) * 9 + (162 + 18 * z + 2 * (z * z)) = 2 * (z * z) + 36 * z + 162 := by grind
        rw [c3]; exact cv_1 (by decide) hz.1 hz.2 (by decide) (by decide)
  have fin : ∀ x y z : Int, -9 ≤ x ∧ x ≤ 9 → -9 ≤ y ∧ y ≤ 9 → -9 ≤ z ∧ z ≤ 9 → 81 * ((x - y) * (x - y) + (y - z) * (y - z) + (z - x) * (z - x)) ≤ 52488 := fun x y z hx hy hz => by have := key x y z hx hy hz; omega
  rcases h1 with rfl | rfl <;> rcases h2 with rfl | rfl <;> rcases h3 with rfl | rfl
  · have := fin u v w hu hv hw; have e : q3 9 9 9 u v w = 81 * ((u - v) * (u - v) + (v - w) * (v - w) + (w - u) * (w - u)) := by unfold q3; grind
    omega
  · have := fin u v (-w) hu hv ⟨by omega, by omega⟩; have e : q3 9 9 (-9) u v w = 81 * ((u - v) * (u - v) + (v - -w) * (v - -w) + (-w - u) * (-w - u)) := by unfold q3; grind
    omega
  · have := fin u (-v) w hu ⟨by omega, by omega⟩ hw; have e : q3 9 (-9) 9 u v w = 81 * ((u - -v) * (u - -v) + (-v - w) * (-v - w) + (w - u) * (w - u)) := by unfold q3; grind
    omega
  · have := fin u (-v) (-w) hu ⟨by omega, by omega⟩ ⟨by omega, by omega⟩; have e : q3 9 (-9) (-9) u v w = 81 * ((u - -v) * (u - -v) + (-v - -w) * (-v - -w) + (-w - u) * (-w - u)) := by unfold q3; grind
    omega
  · have := fin (-u) v w ⟨by omega, by omega⟩ hv hw; have e : q3 (-9) 9 9 u v w = 81 * ((-u - v) * (-u - v) + (v - w) * (v - w) + (w - -u) * (w - -u)) := by unfold q3; grind
    omega
  · have := fin (-u) v (-w) ⟨by omega, by omega⟩ hv ⟨by omega, by omega⟩; have e : q3 (-9) 9 (-9) u v w = 81 * ((-u - v) * (-u - v) + (v - -w) * (v - -w) + (-w - -u) * (-w - -u)) := by unfold q3; grind
    omega
  · have := fin (-u) (-v) w ⟨by omega, by omega⟩ ⟨by omega, by omega⟩ hw; have e : q3 (-9) (-9) 9 u v w = 81 * ((-u - -v) * (-u - -v) + (-v - w) * (-v - w) + (w - -u) * (w - -u)) := by unfold q3; grind
    omega
  · have := fin u v w hu hv hw; have e : q3 (-9) (-9) (-9) u v w = 81 * ((u - v) * (u - v) + (v - w) * (v - w) + (w - u) * (w - u)) := by unfold q3; grind
    omega
theorem q_all {x y z u v w : Int} (hx : -9 ≤ x ∧ x ≤ 9) (hy : -9 ≤ y ∧ y ≤ 9) (hz : -9 ≤ z ∧ z ≤ 9) (hu : -9 ≤ u ∧ u ≤ 9) (hv : -9 ≤ v ∧ v ≤ 9) (hw : -9 ≤ w ∧ w ≤ 9) : q3 x y z u v w ≤ 52488 := by
  have f3 : ∀ s1 s2 : Int, (s1 = 9 ∨ s1 = -9) → (s2 = 9 ∨ s2 = -9) → q3 s1 s2 z u v w ≤ 52488 := fun s1 s2 h1 h2 => by
    have e : q3 s1 s2 z u v w = (u * u + v * v) * (z * z) + (-2 * (s2 * w * v) - 2 * (s1 * w * u)) * z + (s2 * w * (s2 * w) + s1 * w * (s1 * w) + (s1 * v - s2 * u) * (s1 * v - s2 * u)) := by unfold q3; grind
    rw [e]
    refine cv_1 (Int.add_nonneg (sq_n u) (sq_n v)) hz.1 hz.2 ?_ ?_
    · have := q_c s1 s2 9 h1 h2 (Or.inl rfl) hu hv hw
      have e2 : q3 s1 s2 9 u v w = (u * u + v * v) * 81 + (-2 * (s2 * w * v) - 2 * (s1 * w * u)) * 9 + (s2 * w * (s2 * w) + s1 * w * (s1 * w) + (s1 * v - s2 * u) * (s1 * v - s2 * u)) := by unfold q3; grind
      rw [← e2]; exact this
    · have := q_c s1 s2 (-9) h1 h2 (Or.inr rfl) hu hv hw
      have e2 : q3 s1 s2 (-9) u v w = (u * u + v * v) * 81 - (-2 * (s2 * w * v) - 2 * (s1 * w * u)) * 9 + (s2 * w * (s2 * w) + s1 * w * (s1 * w) + (s1 * v - s2 * u) * (s1 * v - s2 * u)) := by unfold q3; grind
      rw [← e2]; exact this
  have f2 : ∀ s1 : Int, (s1 = 9 ∨ s1 = -9) → q3 s1 y z u v w ≤ 52488 := fun s1 h1 => by
    have e : ∀ yy : Int, q3 s1 yy z u v w = (w * w + u * u) * (yy * yy) + (-2 * (w * z * v) - 2 * (s1 * v * u)) * yy + (z * v * (z * v) + (z * u - s1 * w) * (z * u - s1 * w) + s1 * v * (s1 * v)) := fun yy => by unfold q3; grind
    rw [e y]
    refine cv_1 (Int.add_nonneg (sq_n w) (sq_n u)) hy.1 hy.2 ?_ ?_
    · have := f3 s1 9 h1 (Or.inl rfl)
      rw [e 9] at this; exact this
    · have := f3 s1 (-9) h1 (Or.inr rfl)
      rw [e (-9)] at this
      have e2 : (w * w + u * u) * (-9 * -9) + (-2 * (w * z * v) - 2 * (s1 * v * u)) * -9 = (w * w + u * u) * 81 - (-2 * (w * z * v) - 2 * (s1 * v * u)) * 9 := by grind
      omega
  have e : ∀ xx : Int, q3 xx y z u v w = (w * w + v * v) * (xx * xx) + (-2 * (w * z * u) - 2 * (v * y * u)) * xx + ((y * w - z * v) * (y * w - z * v) + z * u * (z * u) + y * u * (y * u)) := fun xx => by unfold q3; grind
  rw [e x]
  refine cv_1 (Int.add_nonneg (sq_n w) (sq_n v)) hx.1 hx.2 ?_ ?_
  · have := f2 9 (Or.inl rfl)
    rw [e 9] at this; exact this
  · have := f2 (-9) (Or.inr rfl)
    rw [e (-9)] at this
    have e2 : (w * w + v * v) * (-9 * -9) + (-2 * (w * z * u) - 2 * (v * y * u)) * -9 = (w * w + v * v) * 81 - (-2 * (w * z * u) - 2 * (v * y * u)) * 9 := by grind
    omega
