/-! ===== the class: fractions scaled (laid by program) ===== -/
/-! fractions in lowest terms, scaled -/
theorem pr_I {x y : Int64} (hy : ¬ y = 0) (hx : lA x < 2 ^ 48) (hb : lA y < 2 ^ 48) : 0 < (Nat.gcd (lA x) (lA y) : Int) ∧ (if y < 0 then -y.toInt else y.toInt) = (Nat.gcd (lA x) (lA y) : Int) * (prL x y 1).toInt ∧ (if y < 0 then -x.toInt else x.toInt) = (Nat.gcd (lA x) (lA y) : Int) * (prL x y 0).toInt ∧ 0 < (prL x y 1).toInt ∧ lA (prL x y 0) ≤ lA x ∧ lA (prL x y 1) ≤ lA y := by
  have hg := gd_pos (a := x) hy
  have hg2 := gd48 (x := x) hy hb
  have d1 : (Nat.gcd (lA x) (lA y) : Int) ∣ x.toInt := Int.ofNat_dvd_left.mpr (Nat.gcd_dvd_left _ _)
  have d2 : (Nat.gcd (lA x) (lA y) : Int) ∣ y.toInt := Int.ofNat_dvd_left.mpr (Nat.gcd_dvd_right _ _)
  have hy0 := lA_0 hy
  have e0 : prL x y 0 = x / gdL x y := by unfold prL; rw [if_pos rfl]
  have e1 : prL x y 1 = y / gdL x y := by unfold prL; rw [if_neg (by decide)]
  rw [e0, e1]
  have key : ∀ w : Int64, lA w < 2 ^ 48 → (w / gdL x y).toInt = if y < 0 then -(w.toInt.tdiv (Nat.gcd (lA x) (lA y))) else w.toInt.tdiv (Nat.gcd (lA x) (lA y)) := fun w hw => by
    have hgt : (lN (Nat.gcd (lA x) (lA y))).toInt = (Nat.gcd (lA x) (lA y) : Int) := pk_lT (p48 hg2)
    have ha : (w.toInt.tdiv (Nat.gcd (lA x) (lA y))).natAbs ≤ w.toInt.natAbs := by rw [Int.natAbs_tdiv]; exact Nat.div_le_self _ _
    unfold lA at hw
    unfold gdL
    by_cases h : y < 0
    · rw [if_pos h, if_pos h, ← fr_n hg hg2 (by unfold lA; exact hw), Int64.toInt_mul, Int64.toInt_div, hgt, fb_bmodL (z := w.toInt.tdiv _) (by omega) (by omega)]
      have hm : (-1 : Int64).toInt = -1 := rfl
      rw [hm, fb_bmodL (by omega) (by omega)]
      omega
    · rw [if_neg h, if_neg h, Int64.toInt_div, hgt, fb_bmodL (by omega) (by omega)]
  have m1 := Int.mul_tdiv_cancel' d1
  have m2 := Int.mul_tdiv_cancel' d2
  have kx := key x hx
  have ky := key y hb
  have hyn : y < 0 ↔ y.toInt < 0 := by rw [Int64.lt_iff_toInt_lt]; exact Iff.rfl
  have hgi : 0 < (Nat.gcd (lA x) (lA y) : Int) := by omega
  have a1 : (x.toInt.tdiv (Nat.gcd (lA x) (lA y))).natAbs ≤ x.toInt.natAbs := by rw [Int.natAbs_tdiv]; exact Nat.div_le_self _ _
  have a2 : (y.toInt.tdiv (Nat.gcd (lA x) (lA y))).natAbs ≤ y.toInt.natAbs := by rw [Int.natAbs_tdiv]; exact Nat.div_le_self _ _
  generalize x.toInt.tdiv (Nat.gcd (lA x) (lA y)) = X at *
  generalize y.toInt.tdiv (Nat.gcd (lA x) (lA y)) = Y at *
  generalize (Nat.gcd (lA x) (lA y) : Int) = g at *
  unfold lA at hy0 ⊢
  rw [kx, ky]
  by_cases h : y < 0
  · rw [if_pos h, if_pos h, if_pos h, if_pos h, Int.mul_neg, Int.mul_neg, m1, m2]
    have h3 := hyn.mp h
    refine ⟨hgi, rfl, rfl, ?_, by omega, by omega⟩
    rcases Int.lt_trichotomy Y 0 with h4 | h4 | h4
    · omega
    · subst h4; rw [Int.mul_zero] at m2; omega
    · have := Int.mul_pos hgi h4; omega
  · rw [if_neg h, if_neg h, if_neg h, if_neg h, m1, m2]
    have h3 : ¬ y.toInt < 0 := fun h9 => h (hyn.mpr h9)
    refine ⟨hgi, rfl, rfl, ?_, by omega, by omega⟩
    rcases Int.lt_trichotomy Y 0 with h4 | h4 | h4
    · have := Int.mul_neg_of_pos_of_neg hgi h4; omega
    · subst h4; rw [Int.mul_zero] at m2; omega
    · exact h4
theorem sc_lt {g a b : Int} (hg : 0 < g) : g * a < g * b ↔ a < b := ⟨fun h => Int.lt_of_mul_lt_mul_left h (Int.le_of_lt hg), fun h => Int.mul_lt_mul_of_pos_left h hg⟩
/-- a fraction whose two numbers are both g-fold -/
theorem pr_sc {s u s1 u1 : Int64} {g : Int} (hg : 0 < g) (hu : 0 < u1.toInt) (es : s.toInt = g * s1.toInt) (eu : u.toInt = g * u1.toInt) (z : Int32) (hs : lA s < 2 ^ 48) (hub : lA u < 2 ^ 48) : prL s u z = prL s1 u1 z := by
  have hup : 0 < u.toInt := by rw [eu]; exact Int.mul_pos hg hu
  obtain ⟨n, rfl⟩ : ∃ n : Nat, g = n := ⟨g.toNat, by omega⟩
  have z0 : (0 : Int64).toInt = 0 := rfl
  have n1 : ¬ u < 0 := by rw [Int64.lt_iff_toInt_lt, z0]; omega
  have n2 : ¬ u1 < 0 := by rw [Int64.lt_iff_toInt_lt, z0]; omega
  have b1 : lA s = n * lA s1 := by unfold lA; rw [es, Int.natAbs_mul, Int.natAbs_natCast]
  have b2 : lA u = n * lA u1 := by unfold lA; rw [eu, Int.natAbs_mul, Int.natAbs_natCast]
  have hn : 0 < n := by omega
  have l1 : lA s1 ≤ lA s := by rw [b1]; exact Nat.le_mul_of_pos_left _ hn
  have l2 : lA u1 ≤ lA u := by rw [b2]; exact Nat.le_mul_of_pos_left _ hn
  have hu0 : ¬ u = 0 := fun e => by rw [e, z0] at hup; omega
  have hu10 : ¬ u1 = 0 := fun e => by rw [e, z0] at hu; omega
  have hG : Nat.gcd (lA s) (lA u) = n * Nat.gcd (lA s1) (lA u1) := by rw [b1, b2, Nat.gcd_mul_left]
  have g1 := gd_pos (a := s1) hu10
  have g48 := gd48 (x := s) hu0 hub
  have g481 := gd48 (x := s1) hu10 (Nat.lt_of_le_of_lt l2 hub)
  have key : ∀ (w w1 : Int64), w.toInt = (n : Int) * w1.toInt → lA w < 2 ^ 48 → w / lN (Nat.gcd (lA s) (lA u)) = w1 / lN (Nat.gcd (lA s1) (lA u1)) := fun w w1 e hw => by
    apply (c_int64 _ _).mpr
    have hw1 : lA w1 ≤ lA w := by unfold lA; rw [e, Int.natAbs_mul, Int.natAbs_natCast]; exact Nat.le_mul_of_pos_left _ hn
    have e3 : w.toInt.tdiv (Nat.gcd (lA s) (lA u) : Int) = w1.toInt.tdiv (Nat.gcd (lA s1) (lA u1) : Int) := by rw [e, hG, Int.natCast_mul]; exact Int.mul_tdiv_mul_of_pos _ _ (by omega)
    rw [Int64.toInt_div, Int64.toInt_div, pk_lT (p48 g48), pk_lT (p48 g481), e3]
  unfold prL gdL
  rw [if_neg n1, if_neg n2]
  by_cases hz : z = 0
  · rw [if_pos hz, if_pos hz]; exact key s s1 es hs
  · rw [if_neg hz, if_neg hz]; exact key u u1 eu hub
def muI (un he : Int) (k : Nat) : Int := if (if he - 10 * k * un < 0 then 0 else he - 10 * k * un) < 10 * un then (if he - 10 * k * un < 0 then 0 else he - 10 * k * un) else 10 * un
theorem mu_sc {g X Y : Int} (hg : 0 < g) (k : Nat) : muI (g * Y) (g * X) k = g * muI Y X k := by
  have e1 : g * X - 10 * k * (g * Y) = g * (X - 10 * k * Y) := by grind
  have e2 : 10 * (g * Y) = g * (10 * Y) := by grind
  have e0 : g * (0 : Int) = 0 := Int.mul_zero g
  unfold muI
  rw [e1, e2]
  generalize X - 10 * k * Y = D
  by_cases h : D < 0
  · have h2 : g * D < 0 := by rw [← e0]; exact (sc_lt hg).mpr h
    rw [if_pos h, if_pos h2]
    by_cases h3 : 0 < 10 * Y
    · have h4 : 0 < g * (10 * Y) := Int.mul_pos hg h3
      rw [if_pos h3, if_pos h4, e0]
    · have h4 : ¬ 0 < g * (10 * Y) := fun h5 => h3 ((sc_lt hg).mp (by rw [e0]; exact h5))
      rw [if_neg h3, if_neg h4]
  · have h2 : ¬ g * D < 0 := fun h5 => h ((sc_lt hg).mp (by rw [e0]; exact h5))
    rw [if_neg h, if_neg h2]
    by_cases h3 : D < 10 * Y
    · rw [if_pos h3, if_pos ((sc_lt hg).mpr h3)]
    · rw [if_neg h3, if_neg (fun h5 => h3 ((sc_lt hg).mp h5))]
theorem muA_I {un he : Int64} {k : Nat} (hk : k < 10) (hu : lA un ≤ 4374) (hh : lA he ≤ 1299078) : (muA un he k).toInt = muI un.toInt he.toInt k := by
  unfold lA at hu hh
  have z0 : (0 : Int64).toInt = 0 := rfl
  have t10 : (10 : Int64).toInt = 10 := rfl
  have hkt : (lN k).toInt = (k : Int) := pk_lT (by omega)
  have a1 : (10 * un).toInt = 10 * un.toInt := by rw [Int64.toInt_mul, t10, fb_bmodL (by omega) (by omega)]
  have a2 : (10 * lN k).toInt = 10 * (k : Int) := by rw [Int64.toInt_mul, t10, hkt, fb_bmodL (by omega) (by omega)]
  have bb : (10 * (k : Int) * un.toInt).natAbs ≤ 90 * 4374 := by rw [Int.natAbs_mul]; exact Nat.mul_le_mul (by omega) hu
  have a3 : (10 * lN k * un).toInt = 10 * (k : Int) * un.toInt := by rw [Int64.toInt_mul, a2, fb_bmodL (by omega) (by omega)]
  have a4 : (he - 10 * lN k * un).toInt = he.toInt - 10 * (k : Int) * un.toInt := by rw [Int64.toInt_sub, a3, fb_bmodL (by omega) (by omega)]
  unfold muA muI
  have c1 : (he - 10 * lN k * un < 0) ↔ (he.toInt - 10 * (k : Int) * un.toInt < 0) := by rw [Int64.lt_iff_toInt_lt, a4, z0]
  generalize he - 10 * lN k * un = d at *
  generalize he.toInt - 10 * (k : Int) * un.toInt = D at *
  by_cases h : d < 0
  · rw [if_pos h, if_pos (c1.mp h)]
    by_cases h3 : (0 : Int64) < 10 * un
    · rw [if_pos h3, if_pos (by rw [Int64.lt_iff_toInt_lt, z0, a1] at h3; exact h3)]; exact z0
    · rw [if_neg h3, if_neg (by rw [Int64.lt_iff_toInt_lt, z0, a1] at h3; exact h3)]; exact a1
  · rw [if_neg h, if_neg (fun h9 => h (c1.mpr h9))]
    by_cases h3 : d < 10 * un
    · rw [if_pos h3, if_pos (by rw [Int64.lt_iff_toInt_lt, a4, a1] at h3; exact h3)]; exact a4
    · rw [if_neg h3, if_neg (by rw [Int64.lt_iff_toInt_lt, a4, a1] at h3; exact h3)]; exact a1
theorem mu_cd (x y : Int64) (k : Nat) : muC x y k = muA y x k := by
  unfold muC muA
  rw [show lN k * (10 * y) = 10 * lN k * y by rw [← Int64.mul_assoc, Int64.mul_comm (lN k) 10]]
theorem df_ds {A : MA} {g : Nat → Int32} {un he : Int64} {y : Nat} (hg : ∀ j, j < 10 → g j = A 12 (2 * j + y)) : ∀ k, k ≤ 10 → dfK g he un k = dsK A un he y k
  | 0, _ => rfl
  | k + 1, h => by rw [dfK, dsK_s, df_ds hg k (by omega), mu_cd, hg k (by omega), Int64.mul_comm]
theorem ds_sc {A : MA} (hdr : ∀ j, j < 20 → ib 9 (A 12 j)) {un he u1 h1 : Int64} {y : Nat} {g : Int} (hy : y ≤ 1) (hg : 0 < g) (hu : lA un ≤ 4374) (hh : lA he ≤ 1299078) (h0 : ¬ un < 0) (hu1 : lA u1 ≤ 4374) (hh1 : lA h1 ≤ 1299078) (h01 : ¬ u1 < 0) (eu : un.toInt = g * u1.toInt) (eh : he.toInt = g * h1.toInt) : ∀ k, k ≤ 10 → (dsK A un he y k).toInt = g * (dsK A u1 h1 y k).toInt
  | 0, _ => by show (0 : Int64).toInt = g * (0 : Int64).toInt; rw [show (0 : Int64).toInt = 0 from rfl, Int.mul_zero]
  | k + 1, h => by
    have ih := ds_sc hdr hy hg hu hh h0 hu1 hh1 h01 eu eh k (by omega)
    have hw : lA (A 12 (2 * k + y)).toInt64 ≤ 9 := ib_l (hdr _ (by omega))
    have m1 := (bd_mul (mu_bd (he := he) (k := k) hu h0).1 hw (by decide)).1
    have m2 := (bd_mul (mu_bd (he := h1) (k := k) hu1 h01).1 hw (by decide)).1
    have s1 := (bd_add (ds_bd hdr (he := he) hy hu h0 k (by omega)) (bd_mul (mu_bd (he := he) (k := k) hu h0).1 hw (by decide)).2 (by omega)).1
    have s2 := (bd_add (ds_bd hdr (he := h1) hy hu1 h01 k (by omega)) (bd_mul (mu_bd (he := h1) (k := k) hu1 h01).1 hw (by decide)).2 (by omega)).1
    rw [dsK_s, dsK_s, s1, s2, m1, m2, ih, muA_I (by omega) hu hh, muA_I (by omega) hu1 hh1, eu, eh, mu_sc hg]
    generalize muI u1.toInt h1.toInt k = M
    generalize (A 12 (2 * k + y)).toInt64.toInt = w
    generalize (dsK A u1 h1 y k).toInt = d
    grind
theorem dr_all {A : MA} {B : MB} (hdr : ∀ j, j < 20 → ib 9 (A 12 j)) {x y : Int64} {g : Nat → Int32} {yy : Nat} {z : Int32} (hyy : yy ≤ 1) (hg : ∀ j, j < 10 → g j = A 12 (2 * j + yy)) (hy : ¬ y = 0) (hx : lA x ≤ 1299078) (hyb : lA y ≤ 4374) : (if y < 0 then dr3 A B (-y) (-x) yy z else dr3 A B y x yy z) = (if prL x y 0 < 0 then (lF 5, A, fnd B 5) else if prL x y 1 * 10 * 10 < prL x y 0 then (lF 5, A, fnd B 5) else (prL (dfK g (prL x y 0) (prL x y 1) 10) (prL x y 1) z, A, B)) ∧ lA (dfK g (prL x y 0) (prL x y 1) 10) < 2 ^ 48 ∧ lA (prL x y 1) < 2 ^ 48 ∧ ¬ prL x y 1 = 0 := by
  obtain ⟨p1, p2, p3, p4, p5, p6⟩ := pr_I hy (Nat.lt_of_le_of_lt hx (by decide)) (Nat.lt_of_le_of_lt hyb (by decide))
  have z0 : (0 : Int64).toInt = 0 := rfl
  obtain ⟨un, he, hun, hhe, e1, e2, e3, hd⟩ : ∃ un he : Int64, lA un ≤ 4374 ∧ lA he ≤ 1299078 ∧ un.toInt = (if y < 0 then -y.toInt else y.toInt) ∧ he.toInt = (if y < 0 then -x.toInt else x.toInt) ∧ ¬ un < 0 ∧ (if y < 0 then dr3 A B (-y) (-x) yy z else dr3 A B y x yy z) = dr3 A B un he yy z := by
    by_cases h : y < 0
    · rw [if_pos h, if_pos h, if_pos h]
      have n1 := lA_neg hyb (by decide)
      have n2 := lA_neg hx (by decide)
      exact ⟨-y, -x, n1.1, n2.1, n1.2, n2.2, l_ge_neg h hyb, rfl⟩
    · rw [if_neg h, if_neg h, if_neg h]
      exact ⟨y, x, hyb, hx, rfl, rfl, h, rfl⟩
  rw [hd]
  rw [← e1] at p2
  rw [← e2] at p3
  have hX : lA (prL x y 0) ≤ 1299078 := Nat.le_trans p5 hx
  have hY : lA (prL x y 1) ≤ 4374 := Nat.le_trans p6 hyb
  generalize prL x y 0 = X at *
  generalize prL x y 1 = Y at *
  generalize (Nat.gcd (lA x) (lA y) : Int) = G at *
  have hY0 : ¬ Y < 0 := by rw [Int64.lt_iff_toInt_lt, z0]; omega
  have hYn : ¬ Y = 0 := fun e => by rw [e, z0] at p4; omega
  have hsum := ds_sc hdr hyy p1 hun hhe e3 hY hX hY0 p2 p3 10 (by decide)
  have hdf : dfK g X Y 10 = dsK A Y X yy 10 := df_ds hg 10 (by decide)
  have b1 := ds_bd hdr (he := he) hyy hun e3 10 (by decide)
  have b2 := ds_bd hdr (he := X) hyy hY hY0 10 (by decide)
  rw [hdf]
  refine ⟨?_, Nat.lt_of_le_of_lt b2 (by decide), Nat.lt_of_le_of_lt hY (by decide), hYn⟩
  unfold dr3
  have c1 : he < 0 ↔ X < 0 := by
    rw [Int64.lt_iff_toInt_lt, Int64.lt_iff_toInt_lt, z0, p3]
    have := sc_lt (a := X.toInt) (b := 0) p1
    rw [Int.mul_zero] at this
    exact this
  have c2 : 100 * un < he ↔ Y * 10 * 10 < X := by
    have hY2 : lA Y ≤ 4374 := hY
    have q1 : (Y * 10 * 10).toInt = Y.toInt * 10 * 10 := by
      have t := bd_mul hY2 (show lA (10 : Int64) ≤ 10 by decide) (by decide)
      rw [(bd_mul t.2 (show lA (10 : Int64) ≤ 10 by decide) (by decide)).1, t.1]
      rfl
    have q2 : (100 * un).toInt = 100 * un.toInt := by rw [(bd_mul (show lA (100 : Int64) ≤ 100 by decide) hun (by decide)).1]; rfl
    rw [Int64.lt_iff_toInt_lt, Int64.lt_iff_toInt_lt, q1, q2, p2, p3]
    have := sc_lt (a := 100 * Y.toInt) (b := X.toInt) p1
    rw [show 100 * (G * Y.toInt) = G * (100 * Y.toInt) by grind, this]
    constructor <;> intro h <;> omega
  by_cases h1 : he < 0
  · rw [if_pos h1, if_pos (c1.mp h1)]
  · rw [if_neg h1, if_neg (fun h => h1 (c1.mpr h))]
    by_cases h2 : 100 * un < he
    · rw [if_pos h2, if_pos (c2.mp h2)]
    · rw [if_neg h2, if_neg (fun h => h2 (c2.mpr h)), pr_sc p1 p4 hsum p2 z (Nat.lt_of_le_of_lt b1 (by decide)) (Nat.lt_of_le_of_lt hun (by decide))]
theorem yA_1 (e : Int32) : yA e ≤ 1 := by unfold yA; split <;> decide
theorem yA_g {K : KK} {A : MA} (h : wnd K A) (e : Int32) : ∀ j, j < 10 → (if e = 0 then K 9 else K 10) j = A 12 (2 * j + yA e) := fun j hj => by
  unfold yA
  by_cases h0 : e = 0
  · rw [if_pos h0, if_pos h0]; exact (h j hj).1
  · rw [if_neg h0, if_neg h0]; exact (h j hj).2
set_option maxHeartbeats 4000000 in
set_option maxRecDepth 100000 in
theorem c_X11_drift {l : Launch} {D : va_G} {cA : Nat → ClassId} {f : HF} {sz : Nat} {ad : Nat → Nat} {K : KK} {G : GG} {A : MA} {B : MB} {N : Nat} {t k k2 e1 z : Int32}  (hc : co cA ad K G f) (hr9 : rp ad K G A B N f) (hN : N < 2 ^ 20) : Met l yX11_drift wsX11_drift ({ frames := 4, cells := 7, slots := 18, locals := 97 } : Room) (va_Pc [.ref (ad 0), .int t, .int k, .int k2, .int e1, .int z] (hB D cA f sz)) (va_Ql (fun r f1 => (op_drift A B t k k2 e1 z).1 = r ∧ ∃ K1 G1, co cA ad K1 G1 f1 ∧ rp ad K1 G1 (op_drift A B t k k2 e1 z).2.1 (op_drift A B t k k2 e1 z).2.2 (N + 1) f1) (hE D f sz) (hA f sz)) 7 18 (hA f sz) := by
  refine h_of (cc := cX11_drift) (maxL := 9) (ret := (some .long)) (by decide +kernel) rfl (Nat.le_of_ble_eq_true rfl) ?_
  intro p e s m below meth c ls C hr hlk hnm hw hl
  have hx := C.1.1
  have hb := C.1.2.1
  have hl : lv_has ls 9 [(0, .ref (ad 0)), (1, .int t), (2, .int k), (3, .int k2), (4, .int e1), (5, .int z)] := hl
  have lk0 : Cond.fieldLink RX11 296 "FallingLight$Fraction" "above" "J" ∈ wsX11_drift := by decide +kernel
  have lk1 : ∀ w ∈ u_ws RX0 TX0 2, w ∈ wsX11_drift := by decide +kernel
  have lk2 : Cond.fieldLink RX11 298 "FallingLight$Fraction" "below" "J" ∈ wsX11_drift := by decide +kernel
  have lk3 : Cond.constantLong RX11 277 (10) ∈ wsX11_drift := by decide +kernel
  have lk4 : Cond.fieldLink RX11 67 "FallingLight" "windX" "[I" ∈ wsX11_drift := by decide +kernel
  have lk5 : ∀ w ∈ u_ws RX11 TX11 11, w ∈ wsX11_drift := by decide +kernel
  have lk6 : Cond.fieldLink RX11 71 "FallingLight" "windY" "[I" ∈ wsX11_drift := by decide +kernel
  obtain ⟨hI, hF, hS, hT, hP, hRw, hTp, hWd, hTr, hMt⟩ := id hr9
  obtain ⟨-, -, -, hrs, hso, hwy, hst, hdr, hpx, hpy⟩ := id hI
  refine lv_aload_n hx hb dX11_drift_0 rfl (lv_at hl 0 rfl) ?_
  refine lv_iload_n hx hb dX11_drift_1 rfl (lv_at hl 1 rfl) ?_
  refine lv_iload_n hx hb dX11_drift_2 rfl (lv_at hl 2 rfl) ?_
  refine lv_iload_n hx hb dX11_drift_3 rfl (lv_at hl 3 rfl) ?_
  refine h_calli hw (h_runV (n := 3) (As := [.int t, .int k, .int k2]) (rest := []) C hw (c_X11_isPair (A := A) hc hS) gX11_drift_X11_isPair rfl rfl rfl (by decide +kernel) ⟨by decide, by decide⟩ bX11 (co.a0 hc) rfl hl.1 rfl (Nat.le_of_ble_eq_true rfl) dX11_drift_4 ⟨by first | decide | omega | (dsimp only; omega), by first | decide | omega | (dsimp only; omega)⟩) (fun r1 f2 H locs hp hw => ?_)
  obtain ⟨rfl, rfl⟩ := hp
  refine n_ifneB C (tgt := 16) dX11_drift_7 (by decide) (fun cq3 => ?_) (fun cq3 => ?_)
  · obtain ⟨i, j, nk, hi, hj, hn, h8, rfl, rfl⟩ := sgN hS.hsg cq3.1
    obtain ⟨j2, hj2, rfl⟩ : ∃ j2, j2 < nk ∧ k2 = nI j2 := by obtain ⟨i9, j9, n9, q1, q2, q3, q4, q5, q6⟩ := sgN hS.hsg cq3.2.1; have e1 := (nI_eq (by omega) (by omega)).mp q5; subst e1; have e2 := (nI_eq (by omega) (by omega)).mp (h8.symm.trans q4); exact ⟨j9, by omega, q6⟩
    have hat := atN hi (show j < 4 by omega)
    have hat2 := atN hi (show j2 < 4 by omega)
    refine lv_aload_n hx hb dX11_drift_16 rfl (lv_at hl 0 rfl) ?_
    refine lv_iload_n hx hb dX11_drift_17 rfl (lv_at hl 1 rfl) ?_
    refine lv_iload_n hx hb dX11_drift_18 rfl (lv_at hl 2 rfl) ?_
    refine h_callq hw (h_runV (n := 2) (As := [.int (nI i), .int (nI j)]) (rest := []) C hw (c_X11_sightOf (A := A) hc hS) gX11_drift_X11_sightOf rfl rfl rfl (by decide +kernel) ⟨by decide, by decide⟩ bX11 (co.a0 hc) rfl hl.1 rfl (Nat.le_of_ble_eq_true rfl) dX11_drift_19 ⟨by first | decide | omega | (dsimp only; omega), by first | decide | omega | (dsimp only; omega)⟩) (fun r4 f5 H locs hp hw => ?_)
    obtain ⟨hso6, rfl⟩ := hp
    obtain ⟨s1, hb0, hss1⟩ := hso6.1 i j nk hi (by omega) hn h8 rfl rfl
    subst hb0
    refine lv_astore (lv' := [(6, _), (0, _), (1, _), (2, _), (3, _), (4, _), (5, _)]) hx hb dX11_drift_22 hl (by decide) rfl (fun ls hl => ?_)
    refine lv_aload hx hb dX11_drift_24 (lv_at hl 0 rfl) ?_
    obtain ⟨bg1, en1, md1, pl1, ho1, -⟩ := id hss1
    refine h_calli hw (h_runS (n := 1) (As := [.ref s1]) (rest := []) C hw (c_X11_isBlurred ho1) gX11_drift_X11_isBlurred rfl rfl rfl (by decide +kernel) ⟨by decide, by decide⟩ rfl hl.1 rfl (Nat.le_of_ble_eq_true rfl) dX11_drift_26 ⟨by first | decide | omega | (dsimp only; omega), by first | decide | omega | (dsimp only; omega)⟩) (fun r7 f8 H locs hp hw => ?_)
    obtain ⟨rfl, rfl⟩ := hp
    refine n_ifeqB C (tgt := 38) dX11_drift_29 (by decide) (fun cq9 => ?_) (fun cq9 => ?_)
    · refine lv_aload_n hx hb dX11_drift_38 rfl (lv_at hl 1 rfl) ?_
      refine lv_aload hx hb dX11_drift_39 (lv_at hl 0 rfl) ?_
      refine lv_aload_n hx hb dX11_drift_41 rfl (lv_at hl 1 rfl) ?_
      refine lv_iload_n hx hb dX11_drift_42 rfl (lv_at hl 2 rfl) ?_
      refine lv_iload_n hx hb dX11_drift_43 rfl (lv_at hl 4 rfl) ?_
      refine h_callq hw (h_runV (n := 2) (As := [.int (nI i), .int (nI j2)]) (rest := [.ref s1, .ref (ad 0)]) C hw (c_X11_sightOf (A := A) hc hS) gX11_drift_X11_sightOf rfl rfl rfl (by decide +kernel) ⟨by decide, by decide⟩ bX11 (co.a0 hc) rfl hl.1 rfl (Nat.le_of_ble_eq_true rfl) dX11_drift_44 ⟨by first | decide | omega | (dsimp only; omega), by first | decide | omega | (dsimp only; omega)⟩) (fun r10 f11 H locs hp hw => ?_)
      obtain ⟨hso12, rfl⟩ := hp
      obtain ⟨s2, hb0, hss2⟩ := hso12.1 i j2 nk hi (by omega) hn h8 rfl rfl
      subst hb0
      refine lv_iconst (v := nI 1) hx hb dX11_drift_47 (by decide) ?_
      refine h_callq hw (h_runV (n := 3) (As := [.ref s1, .ref s2, .int (nI 1)]) (rest := []) C hw (c_X11_meetingOf (A := A) (u := (4 * i + j)) (t := (4 * i + j2)) hc hT hss1 hss2 (by omega) (by omega) hso hst) gX11_drift_X11_meetingOf rfl rfl rfl (by decide +kernel) ⟨by decide, by decide⟩ bX11 (co.a0 hc) rfl hl.1 rfl (Nat.le_of_ble_eq_true rfl) dX11_drift_48 ⟨by first | decide | omega | (dsimp only; omega), by first | decide | omega | (dsimp only; omega)⟩) (fun r13 f14 H locs hp hw => ?_)
      obtain ⟨le15, hme16⟩ := hp
      have k17 := le15 _ _ ho1
      have le18 := hle.tr (hle.rf f) le15
      have hc := hc.mono le15
      have hS := hS.up (kp_le le15) (fun _ _ => rfl) (fun _ _ => rfl)
      have hT := hT.up (kp_le le15) rfl
      have hss1 := hss1.up (kp_le le15)
      have hss2 := hss2.up (kp_le le15)
      have hme16 : meO A _ _ _ _ 1 := hme16
      refine lv_astoreQ (lv' := [(7, _), (6, _), (0, _), (1, _), (2, _), (3, _), (4, _), (5, _)]) hx hb dX11_drift_51 hl (by decide) rfl (fun ls hl => ?_)
      refine lv_aloadQ hx hb dX11_drift_53 (lv_at hl 0 rfl) ?_
      refine n_ifnonnull C (tgt := 64) dX11_drift_55 (by decide) (fun x19 cq20 => ?_) (fun cq20 => ?_)
      · subst cq20
        have hmt : mtA A (4 * i + j) (4 * i + j2) 1 := Decidable.not_not.mp (fun h9 => by have := (show meO A _ (some x19) _ _ _ from hme16).1 h9; cases this)
        obtain ⟨x8, y9, hx8, hmx, hmy9⟩ := hme16.2 hmt
        cases hx8
        have hpb := pt_bd hwy hst hso (u := 4 * i + j) (t := 4 * i + j2) (w := 1) (a := 2) (by omega) (by omega) (by decide) (by decide)
        have hlb := ln_bd hwy (u := 4 * i + j) (t := 4 * i + j2) (w := 1) (by omega) (by omega) (by decide)
        refine lv_aload hx hb dX11_drift_64 (lv_at hl 0 rfl) ?_
        refine lv_iconst (v := nI 2) hx hb dX11_drift_66 (by decide) ?_
        refine h_callq hw (h_runV (n := 1) (As := [.int (nI 2)]) (rest := []) C hw (c_X2_coordinate hmx hmy9 (by rw [al_i (w := ptA A (4 * i + j) (4 * i + j2) 1) (show 2 ≤ 2 by decide)]; exact Nat.lt_of_le_of_lt hpb (by decide)) (Nat.lt_of_le_of_lt hlb (by decide)) hmt.2) gX11_drift_X2_coordinate rfl rfl rfl (by decide +kernel) ⟨by decide, by decide⟩ bX2 hmx rfl hl.1 rfl (Nat.le_of_ble_eq_true rfl) dX11_drift_67 ⟨by first | decide | omega | (dsimp only; omega), by first | decide | omega | (dsimp only; omega)⟩) (fun r21 f22 H locs hp hw => ?_)
        obtain ⟨le23, q24, rfl, k25, hq26⟩ := hp
        have fr27 := hle_no le18 hq26
        have k28 := le23 _ _ k17
        have k29 := le23 _ _ hmx
        have k30 := le23 _ _ hmy9
        have le31 := hle.tr le18 le23
        have hc := hc.mono le23
        have hS := hS.up (kp_le le23) (fun _ _ => rfl) (fun _ _ => rfl)
        have hT := hT.up (kp_le le23) rfl
        have hss1 := hss1.up (kp_le le23)
        have hss2 := hss2.up (kp_le le23)
        have hme16 := hme16.up (kp_le le23)
        rw [al_i (w := ptA A (4 * i + j) (4 * i + j2) 1) (show 2 ≤ 2 by decide)] at k25
        refine lv_astore (lv' := [(8, _), (7, _), (6, _), (0, _), (1, _), (2, _), (3, _), (4, _), (5, _)]) hx hb dX11_drift_70 hl (by decide) rfl (fun ls hl => ?_)
        refine lv_aload hx hb dX11_drift_72 (lv_at hl 0 rfl) ?_
        refine h_get C hw bX0 k25 lk1 0 (by decide) lk0 (v := .long (prL (ptA A (4 * i + j) (4 * i + j2) 1 2) (lnA A (4 * i + j) (4 * i + j2) 1) 0)) rfl dX11_drift_74 ?_
        refine lv_lconst (v := 0) hx hb dX11_drift_77 (by decide) ?_
        refine W.lcmp hx hb dX11_drift_78 ?_
        refine l_iflt C (tgt := 104) dX11_drift_79 (by decide) (fun cq32 => ?_) (fun cq32 => ?_)
        · refine lv_aload_n hx hb dX11_drift_104 rfl (lv_at hl 3 rfl) ?_
          refine lv_iconst (v := nI 5) hx hb dX11_drift_105 (by decide) ?_
          refine h_calll hw (h_runV (n := 1) (As := [.int (nI 5)]) (rest := []) C hw (c_X11_finding hc (by omega)) gX11_drift_X11_finding rfl rfl rfl (by decide +kernel) ⟨by decide, by decide⟩ bX11 (co.a0 hc) rfl hl.1 rfl (Nat.le_of_ble_eq_true rfl) dX11_drift_106 ⟨by first | decide | omega | (dsimp only; omega), by first | decide | omega | (dsimp only; omega)⟩) (fun r33 f34 H locs hp hw => ?_)
          obtain ⟨rfl, K35, hc, eK36, kp37⟩ := hp
          refine W.widen (k := 7) (n := 18) (by first | decide | omega | (dsimp only; omega)) (by first | decide | omega | (dsimp only; omega)) ?_
          have hdr9 := (dr_all (A := A) (B := B) (g := if e1 = 0 then K 9 else K 10) (yy := yA e1) (z := z) hdr (yA_1 e1) (yA_g hWd e1) hmt.2 hpb hlb).1
          exact h_lret C hr hlk hw (cop (by simp only [op_drift, if_pos cq3, hat, hat2, if_neg cq9, if_pos hmt]; rw [hdr9, if_pos cq32]) hc (rp_fnd hr9 eK36 (kp.tr (kp_le le31) kp37) (by decide) hN)) dX11_drift_109
        · refine lv_aload hx hb dX11_drift_82 (lv_at hl 0 rfl) ?_
          refine h_get C hw bX0 k25 lk1 0 (by decide) lk0 (v := .long (prL (ptA A (4 * i + j) (4 * i + j2) 1 2) (lnA A (4 * i + j) (4 * i + j2) 1) 0)) rfl dX11_drift_84 ?_
          refine lv_aload hx hb dX11_drift_87 (lv_at hl 0 rfl) ?_
          refine h_get C hw bX0 k25 lk1 1 (by decide) lk2 (v := .long (prL (ptA A (4 * i + j) (4 * i + j2) 1 2) (lnA A (4 * i + j) (4 * i + j2) 1) 1)) rfl dX11_drift_89 ?_
          refine lv_ldc2 hx hb C.1.2.2.2.1 (C.1.2.2.2.2 _ lk3) dX11_drift_92 ?_
          refine lv_lmul hx hb dX11_drift_95 ?_
          refine lv_ldc2 hx hb C.1.2.2.2.1 (C.1.2.2.2.2 _ lk3) dX11_drift_96 ?_
          refine lv_lmul hx hb dX11_drift_99 ?_
          refine W.lcmp hx hb dX11_drift_100 ?_
          refine l_ifle C (tgt := 110) dX11_drift_101 (by decide) (fun cq38 => ?_) (fun cq38 => ?_)
          · refine lv_aload hx hb dX11_drift_110 (lv_at hl 0 rfl) ?_
            refine lv_iload hx hb dX11_drift_112 (lv_at hl 7 rfl) ?_
            refine lv_if_eq (tgt := 124) hx hb dX11_drift_114 (by decide) (fun cq39 => ?_) (fun cq39 => ?_)
            · refine lv_aload_n hx hb dX11_drift_124 rfl (lv_at hl 3 rfl) ?_
              refine h_get C hw bX11 (co.a0 hc) lk5 8 (by decide) lk4 (v := .ref (ad 9)) rfl dX11_drift_125 ?_
              refine h_callq hw (h_runS (n := 2) (As := [.ref q24, .ref (ad 9)]) (rest := []) C hw (c_X11_driftFrom k25 (co.a9 hc) (by have h9 := (dr_all (A := A) (B := B) (g := if e1 = 0 then K 9 else K 10) (yy := yA e1) (z := z) hdr (yA_1 e1) (yA_g hWd e1) hmt.2 hpb hlb).2.1; rw [if_pos cq39] at h9; exact h9) (dr_all (A := A) (B := B) (g := if e1 = 0 then K 9 else K 10) (yy := yA e1) (z := z) hdr (yA_1 e1) (yA_g hWd e1) hmt.2 hpb hlb).2.2.1 (dr_all (A := A) (B := B) (g := if e1 = 0 then K 9 else K 10) (yy := yA e1) (z := z) hdr (yA_1 e1) (yA_g hWd e1) hmt.2 hpb hlb).2.2.2) gX11_drift_X11_driftFrom rfl rfl rfl (by decide +kernel) ⟨by decide, by decide⟩ rfl hl.1 rfl (Nat.le_of_ble_eq_true rfl) dX11_drift_128 ⟨by first | decide | omega | (dsimp only; omega), by first | decide | omega | (dsimp only; omega)⟩) (fun r40 f41 H locs hp hw => ?_)
              obtain ⟨le42, q43, rfl, k44, hq45⟩ := hp
              have n46 := ne_new k25 hq45
              have fr47 := hle_no le31 hq45
              have k48 := le42 _ _ k28
              have k49 := le42 _ _ k29
              have k50 := le42 _ _ k30
              have k51 := le42 _ _ k25
              have le52 := hle.tr le31 le42
              have hc := hc.mono le42
              have hS := hS.up (kp_le le42) (fun _ _ => rfl) (fun _ _ => rfl)
              have hT := hT.up (kp_le le42) rfl
              have hss1 := hss1.up (kp_le le42)
              have hss2 := hss2.up (kp_le le42)
              have hme16 := hme16.up (kp_le le42)
              refine lv_iload hx hb dX11_drift_131 (lv_at hl 8 rfl) ?_
              refine h_calll hw (h_runV (n := 1) (As := [.int z]) (rest := []) C hw (c_X0_side k44) gX11_drift_X0_side rfl rfl rfl (by decide +kernel) ⟨by decide, by decide⟩ bX0 k44 rfl hl.1 rfl (Nat.le_of_ble_eq_true rfl) dX11_drift_133 ⟨by first | decide | omega | (dsimp only; omega), by first | decide | omega | (dsimp only; omega)⟩) (fun r53 f54 H locs hp hw => ?_)
              obtain ⟨rfl, rfl⟩ := hp
              refine W.widen (k := 7) (n := 18) (by first | decide | omega | (dsimp only; omega)) (by first | decide | omega | (dsimp only; omega)) ?_
              have hdr9 := (dr_all (A := A) (B := B) (g := if e1 = 0 then K 9 else K 10) (yy := yA e1) (z := z) hdr (yA_1 e1) (yA_g hWd e1) hmt.2 hpb hlb).1
              exact h_lret C hr hlk hw (cop (by simp only [op_drift, if_pos cq3, hat, hat2, if_neg cq9, if_pos hmt]; rw [hdr9, if_neg cq32, if_neg cq38, if_pos cq39, sd_pr]) hc (rp_le hr9 (kp_le le52))) dX11_drift_136
            · refine lv_aload_n hx hb dX11_drift_117 rfl (lv_at hl 3 rfl) ?_
              refine h_get C hw bX11 (co.a0 hc) lk5 9 (by decide) lk6 (v := .ref (ad 10)) rfl dX11_drift_118 ?_
              refine lv_goto (tgt := 128) hx hb dX11_drift_121 (by decide) ?_
              refine h_callq hw (h_runS (n := 2) (As := [.ref q24, .ref (ad 10)]) (rest := []) C hw (c_X11_driftFrom k25 (co.a10 hc) (by have h9 := (dr_all (A := A) (B := B) (g := if e1 = 0 then K 9 else K 10) (yy := yA e1) (z := z) hdr (yA_1 e1) (yA_g hWd e1) hmt.2 hpb hlb).2.1; rw [if_neg cq39] at h9; exact h9) (dr_all (A := A) (B := B) (g := if e1 = 0 then K 9 else K 10) (yy := yA e1) (z := z) hdr (yA_1 e1) (yA_g hWd e1) hmt.2 hpb hlb).2.2.1 (dr_all (A := A) (B := B) (g := if e1 = 0 then K 9 else K 10) (yy := yA e1) (z := z) hdr (yA_1 e1) (yA_g hWd e1) hmt.2 hpb hlb).2.2.2) gX11_drift_X11_driftFrom rfl rfl rfl (by decide +kernel) ⟨by decide, by decide⟩ rfl hl.1 rfl (Nat.le_of_ble_eq_true rfl) dX11_drift_128 ⟨by first | decide | omega | (dsimp only; omega), by first | decide | omega | (dsimp only; omega)⟩) (fun r55 f56 H locs hp hw => ?_)
              obtain ⟨le57, q58, rfl, k59, hq60⟩ := hp
              have n61 := ne_new k25 hq60
              have fr62 := hle_no le31 hq60
              have k63 := le57 _ _ k28
              have k64 := le57 _ _ k29
              have k65 := le57 _ _ k30
              have k66 := le57 _ _ k25
              have le67 := hle.tr le31 le57
              have hc := hc.mono le57
              have hS := hS.up (kp_le le57) (fun _ _ => rfl) (fun _ _ => rfl)
              have hT := hT.up (kp_le le57) rfl
              have hss1 := hss1.up (kp_le le57)
              have hss2 := hss2.up (kp_le le57)
              have hme16 := hme16.up (kp_le le57)
              refine lv_iload hx hb dX11_drift_131 (lv_at hl 8 rfl) ?_
              refine h_calll hw (h_runV (n := 1) (As := [.int z]) (rest := []) C hw (c_X0_side k59) gX11_drift_X0_side rfl rfl rfl (by decide +kernel) ⟨by decide, by decide⟩ bX0 k59 rfl hl.1 rfl (Nat.le_of_ble_eq_true rfl) dX11_drift_133 ⟨by first | decide | omega | (dsimp only; omega), by first | decide | omega | (dsimp only; omega)⟩) (fun r68 f69 H locs hp hw => ?_)
              obtain ⟨rfl, rfl⟩ := hp
              refine W.widen (k := 7) (n := 18) (by first | decide | omega | (dsimp only; omega)) (by first | decide | omega | (dsimp only; omega)) ?_
              have hdr9 := (dr_all (A := A) (B := B) (g := if e1 = 0 then K 9 else K 10) (yy := yA e1) (z := z) hdr (yA_1 e1) (yA_g hWd e1) hmt.2 hpb hlb).1
              exact h_lret C hr hlk hw (cop (by simp only [op_drift, if_pos cq3, hat, hat2, if_neg cq9, if_pos hmt]; rw [hdr9, if_neg cq32, if_neg cq38, if_neg cq39, sd_pr]) hc (rp_le hr9 (kp_le le67))) dX11_drift_136
          · refine lv_aload_n hx hb dX11_drift_104 rfl (lv_at hl 3 rfl) ?_
            refine lv_iconst (v := nI 5) hx hb dX11_drift_105 (by decide) ?_
            refine h_calll hw (h_runV (n := 1) (As := [.int (nI 5)]) (rest := []) C hw (c_X11_finding hc (by omega)) gX11_drift_X11_finding rfl rfl rfl (by decide +kernel) ⟨by decide, by decide⟩ bX11 (co.a0 hc) rfl hl.1 rfl (Nat.le_of_ble_eq_true rfl) dX11_drift_106 ⟨by first | decide | omega | (dsimp only; omega), by first | decide | omega | (dsimp only; omega)⟩) (fun r70 f71 H locs hp hw => ?_)
            obtain ⟨rfl, K72, hc, eK73, kp74⟩ := hp
            refine W.widen (k := 7) (n := 18) (by first | decide | omega | (dsimp only; omega)) (by first | decide | omega | (dsimp only; omega)) ?_
            have hdr9 := (dr_all (A := A) (B := B) (g := if e1 = 0 then K 9 else K 10) (yy := yA e1) (z := z) hdr (yA_1 e1) (yA_g hWd e1) hmt.2 hpb hlb).1
            exact h_lret C hr hlk hw (cop (by simp only [op_drift, if_pos cq3, hat, hat2, if_neg cq9, if_pos hmt]; rw [hdr9, if_neg cq32, if_pos cq38]) hc (rp_fnd hr9 eK73 (kp.tr (kp_le le31) kp74) (by decide) hN)) dX11_drift_109
      · subst cq20
        have hmt : ¬ mtA A (4 * i + j) (4 * i + j2) 1 := fun h9 => by obtain ⟨x8, y8, h7, -⟩ := (show meO A _ none _ _ _ from hme16).2 h9; cases h7
        refine lv_aload_n hx hb dX11_drift_58 rfl (lv_at hl 2 rfl) ?_
        refine lv_iconst (v := nI 2) hx hb dX11_drift_59 (by decide) ?_
        refine h_calll hw (h_runV (n := 1) (As := [.int (nI 2)]) (rest := []) C hw (c_X11_finding hc (by omega)) gX11_drift_X11_finding rfl rfl rfl (by decide +kernel) ⟨by decide, by decide⟩ bX11 (co.a0 hc) rfl hl.1 rfl (Nat.le_of_ble_eq_true rfl) dX11_drift_60 ⟨by first | decide | omega | (dsimp only; omega), by first | decide | omega | (dsimp only; omega)⟩) (fun r75 f76 H locs hp hw => ?_)
        obtain ⟨rfl, K77, hc, eK78, kp79⟩ := hp
        refine W.widen (k := 7) (n := 18) (by first | decide | omega | (dsimp only; omega)) (by first | decide | omega | (dsimp only; omega)) ?_
        exact h_lret C hr hlk hw (cop (by simp only [op_drift, if_pos cq3, hat, hat2, if_neg cq9, if_neg hmt]) hc (rp_fnd hr9 eK78 (kp.tr (kp_le le18) kp79) (by decide) hN)) dX11_drift_63
    · refine lv_aload_n hx hb dX11_drift_32 rfl (lv_at hl 1 rfl) ?_
      refine lv_iconst (v := nI 3) hx hb dX11_drift_33 (by decide) ?_
      refine h_calll hw (h_runV (n := 1) (As := [.int (nI 3)]) (rest := []) C hw (c_X11_finding hc (by omega)) gX11_drift_X11_finding rfl rfl rfl (by decide +kernel) ⟨by decide, by decide⟩ bX11 (co.a0 hc) rfl hl.1 rfl (Nat.le_of_ble_eq_true rfl) dX11_drift_34 ⟨by first | decide | omega | (dsimp only; omega), by first | decide | omega | (dsimp only; omega)⟩) (fun r80 f81 H locs hp hw => ?_)
      obtain ⟨rfl, K82, hc, eK83, kp84⟩ := hp
      refine W.widen (k := 7) (n := 18) (by first | decide | omega | (dsimp only; omega)) (by first | decide | omega | (dsimp only; omega)) ?_
      exact h_lret C hr hlk hw (cop (by simp only [op_drift, if_pos cq3, hat, hat2, if_pos cq9]) hc (rp_fnd hr9 eK83 (kp.tr (kp_le (hle.rf f)) kp84) (by decide) hN)) dX11_drift_37
  · refine lv_aload_n hx hb dX11_drift_10 rfl (lv_at hl 0 rfl) ?_
    refine lv_iconst (v := nI 1) hx hb dX11_drift_11 (by decide) ?_
    refine h_calll hw (h_runV (n := 1) (As := [.int (nI 1)]) (rest := []) C hw (c_X11_finding hc (by omega)) gX11_drift_X11_finding rfl rfl rfl (by decide +kernel) ⟨by decide, by decide⟩ bX11 (co.a0 hc) rfl hl.1 rfl (Nat.le_of_ble_eq_true rfl) dX11_drift_12 ⟨by first | decide | omega | (dsimp only; omega), by first | decide | omega | (dsimp only; omega)⟩) (fun r85 f86 H locs hp hw => ?_)
    obtain ⟨rfl, K87, hc, eK88, kp89⟩ := hp
    refine W.widen (k := 7) (n := 18) (by first | decide | omega | (dsimp only; omega)) (by first | decide | omega | (dsimp only; omega)) ?_
    exact h_lret C hr hlk hw (cop (by simp only [op_drift, if_neg cq3]) hc (rp_fnd hr9 eK88 (kp.tr (kp_le (hle.rf f)) kp89) (by decide) hN)) dX11_drift_15
