/-! ===== the class: a sight out of the tape (laid by program) ===== -/
theorem crO_put {f f1 : HF} {r : Option Nat} {w : Nat → Int64} {a : Nat} {x y : va_E} (h : crO f r w) (ha : f a = some x) (hk : kd x ≠ 10) (e : f1 = va_up f a (some y)) : crO f1 r w := by rw [e]; exact crO.put h ha hk
def smB (g : Nat → Int32) (o : Nat) : Nat → Bool
  | 0 => false
  | d + 1 => smB g o d || !(g (o + d) == 0)
theorem sm_t {g : Nat → Int32} {o d : Nat} (h : smB g o d = true ∨ ¬ g (o + d) = 0) : smB g o (d + 1) = true := by
  unfold smB
  rcases h with h | h
  · rw [h]; rfl
  · rw [Bool.or_eq_true]
    right
    rw [Bool.not_eq_true', beq_eq_false_iff_ne]
    exact h
theorem sm_f {g : Nat → Int32} {o d : Nat} (h : ¬ smB g o d = true) (h2 : g (o + d) = 0) : ¬ smB g o (d + 1) = true := by
  unfold smB
  rw [Bool.or_eq_true]
  rintro (h3 | h3)
  · exact h h3
  · rw [h2] at h3; exact absurd h3 (by decide)
abbrev wkG (g : Nat → Int32) (k : Nat) : Prop := (¬ g k = 0 ∨ ¬ g (k + 1) = 0 ∨ ¬ g (k + 2) = 0) ∧ rg (-9) (nI 9) (g k) ∧ rg (-9) (nI 9) (g (k + 1)) ∧ rg (-9) (nI 9) (g (k + 2))
theorem sm_3 {g : Nat → Int32} {o : Nat} : smB g o 3 = true ↔ (¬ g o = 0 ∨ ¬ g (o + 1) = 0 ∨ ¬ g (o + 2) = 0) := by
  simp only [smB, Bool.or_eq_true, Bool.not_eq_true', beq_eq_false_iff_ne, ne_eq, Nat.add_zero, Bool.false_eq_true, false_or, or_assoc]
theorem wk_n {g : Nat → Int32} {o d : Nat} (hd : d < 3) (h : ¬ rg (-9) (nI 9) (g (o + d))) : ¬ wkG g o := fun h1 => by
  have h2 : d = 0 ∨ d = 1 ∨ d = 2 := by omega
  rcases h2 with rfl | rfl | rfl
  · exact h h1.2.1
  · exact h h1.2.2.1
  · exact h h1.2.2.2
theorem wk_y {g : Nat → Int32} {o : Nat} (h : ∀ d, d < 3 → rg (-9) (nI 9) (g (o + d))) : bI (smB g o 3 = true) = bI (wkG g o) := bI_c (by
  rw [sm_3]
  exact ⟨fun h1 => ⟨h1, h 0 (by decide), h 1 (by decide), h 2 (by decide)⟩, fun h1 => h1.1⟩)
def sbT (A : MA) (B : MB) (tn i c : Nat) (k u : Int32) : OR := if k = nI 1 then (if tn = 9 then sg3 A B 9 3 i c k u else (lF 5, A, fnd B 5)) else (if tn = 6 then sg3 A B 6 2 i c k u else (lF 5, A, fnd B 5))
theorem wk_eq {K : KK} {A : MA} {w : Nat} (h : ∀ j, j < 9 → K 27 j = A 14 j) (hw : w < 3) : wkG (K 27) (3 * w) ↔ wok A (3 * w) := by
  unfold wkG wok
  rw [h (3 * w) (by omega), h (3 * w + 1) (by omega), h (3 * w + 2) (by omega)]
theorem l_ne0 {v : Int32} (h : ¬ v = 0) : ¬ v.toInt64 = 0 := fun e => h (by
  apply (c_int32 _ _).mpr
  have := congrArg Int64.toInt e
  rw [Int32.toInt_toInt64] at this
  exact this)
theorem wy14 {K : KK} {A : MA} {f : HF} {b q : Nat} (h : ∀ j, j < 9 → K 27 j = A 14 j) (hq : q < 3) (hb : f b = some (eO 10 [.long (K 27 (3 * q + 0)).toInt64, .long (K 27 (3 * q + 1)).toInt64, .long (K 27 (3 * q + 2)).toInt64])) : wyO f b (fun a => (A 14 (3 * q + a)).toInt64) := by
  show f b = some (eO 10 [.long (A 14 (3 * q + 0)).toInt64, .long (A 14 (3 * q + 1)).toInt64, .long (A 14 (3 * q + 2)).toInt64])
  rw [← h (3 * q + 0) (by omega), ← h (3 * q + 1) (by omega), ← h (3 * q + 2) (by omega)]
  exact hb
theorem crs14 {K : KK} {A : MA} (h : ∀ j, j < 9 → K 27 j = A 14 j) : crs (fun a => (K 27 (3 * 0 + a)).toInt64) (fun a => (K 27 (3 * 1 + a)).toInt64) = crs (fun a => (A 14 (3 * 0 + a)).toInt64) (fun a => (A 14 (3 * 1 + a)).toInt64) := by
  funext a
  have m1 := Nat.mod_lt (a + 1) (show 0 < 3 by decide)
  have m2 := Nat.mod_lt (a + 2) (show 0 < 3 by decide)
  show (K 27 (3 * 0 + (a + 1) % 3)).toInt64 * (K 27 (3 * 1 + (a + 2) % 3)).toInt64 - (K 27 (3 * 0 + (a + 2) % 3)).toInt64 * (K 27 (3 * 1 + (a + 1) % 3)).toInt64 = (A 14 (3 * 0 + (a + 1) % 3)).toInt64 * (A 14 (3 * 1 + (a + 2) % 3)).toInt64 - (A 14 (3 * 0 + (a + 2) % 3)).toInt64 * (A 14 (3 * 1 + (a + 1) % 3)).toInt64
  rw [h _ (by omega), h _ (by omega), h _ (by omega), h _ (by omega)]
theorem nz14 {K : KK} {A : MA} {q : Nat} (h : ∀ j, j < 9 → K 27 j = A 14 j) (hq : q < 3) (hn : nz (fun a => (A 14 (3 * q + a)).toInt64)) : nz (fun a => (K 27 (3 * q + a)).toInt64) := by
  show ¬ (K 27 (3 * q + 0)).toInt64 = 0 ∨ ¬ (K 27 (3 * q + 1)).toInt64 = 0 ∨ ¬ (K 27 (3 * q + 2)).toInt64 = 0
  rw [h (3 * q + 0) (by omega), h (3 * q + 1) (by omega), h (3 * q + 2) (by omega)]
  exact hn
theorem wok_nz {A : MA} {o : Nat} (h : wok A o) : nz (fun a => (A 14 (o + a)).toInt64) := by
  rcases h.1 with h1 | h1 | h1
  · exact Or.inl (l_ne0 h1)
  · exact Or.inr (Or.inl (l_ne0 h1))
  · exact Or.inr (Or.inr (l_ne0 h1))
theorem wy_new {A : MA} {p n i c : Nat} {k u : Int32} {w a : Nat} (hn : 3 * w + a < n) : wyA (sgS A p n i c k u) p w a = (A 14 (3 * w + a)).toInt64 := by
  unfold wyA sgS stP wyS
  rw [va_up_ne _ _ (by decide), va_up_self, if_pos (by omega), va_up_ne _ _ (by decide), va_up_ne _ _ (by decide)]
  congr 2
  omega
theorem sg_slots {A : MA} {p n i c : Nat} {k u : Int32} : sgS A p n i c k u 9 = upd (A 9) p k ∧ sgS A p n i c k u 10 = upd (A 10) p u ∧ sgS A p n i c k u 8 = upd (A 8) i (nI (c + 1)) ∧ sgS A p n i c k u 11 = (fun j => if 9 * p ≤ j ∧ j < 9 * p + n then A 14 (j - 9 * p) else A 11 j) := by
  unfold sgS stP wyS
  refine ⟨?_, ?_, ?_, ?_⟩
  · rw [va_up_ne _ _ (by decide), va_up_ne _ _ (by decide), va_up_ne _ _ (by decide), va_up_self]
  · rw [va_up_ne _ _ (by decide), va_up_ne _ _ (by decide), va_up_self, va_up_ne _ _ (by decide)]
  · rw [va_up_self, va_up_ne _ _ (by decide), va_up_ne _ _ (by decide), va_up_ne _ _ (by decide)]
  · rw [va_up_ne _ _ (by decide), va_up_self]
    funext j
    rw [va_up_ne _ _ (by decide), va_up_ne _ _ (by decide), va_up_ne _ _ (by decide), va_up_ne _ _ (by decide)]
theorem sgs_new {K K1 : KK} {G G1 : GG} {A : MA} {f f1 : HF} {i c n b bg en : Nat} {md pl : Option Nat} {k u : Int32} (h : sgs K G A f) (kf : kp f f1) (hi : i < 6) (h8 : A 8 i = nI c) (hc : c < 4) (hn : (k = nI 1 ∧ n = 9) ∨ (¬ k = nI 1 ∧ n = 6))
    (eK : ∀ j, j ≠ 28 + i → K1 j = K j) (eK2 : K1 (28 + i) 0 = nI (c + 1)) (eG : ∀ j, j ≠ 34 + i → G1 j = G j) (eG2 : G1 (34 + i) = va_up (G (34 + i)) c (some b))
    (hb : f1 b = some (eO 6 [.int k, .int u, .ref bg, .ref en, va_rf md, va_rf pl])) (h1 : wyO f1 bg (fun a => (A 14 (3 * 0 + a)).toInt64)) (h2 : wyO f1 en (fun a => (A 14 (3 * 1 + a)).toInt64)) (h3 : k = nI 1 → ∃ m1, md = some m1 ∧ wyO f1 m1 (fun a => (A 14 (3 * 2 + a)).toInt64)) (h4 : ¬ k = nI 1 → md = none) (h5 : crO f1 pl (crs (fun a => (A 14 (3 * 0 + a)).toInt64) (fun a => (A 14 (3 * 1 + a)).toInt64))) : sgs K1 G1 (sgS A (4 * i + c) n i c k u) f1 := by
  obtain ⟨s9, s10, s8, s11⟩ := sg_slots (A := A) (p := 4 * i + c) (n := n) (i := i) (c := c) (k := k) (u := u)
  have hn6 : 6 ≤ n ∧ n ≤ 9 := by rcases hn with ⟨-, h⟩ | ⟨-, h⟩ <;> omega
  have old : ∀ b2 t, t < 24 → t ≠ 4 * i + c → sgO A f b2 t → sgO (sgS A (4 * i + c) n i c k u) f1 b2 t := fun b2 t ht hne h6 => (h6.up kf).cg (by rw [s9, pk_un hne]) (by rw [s10, pk_un hne]) (fun j j1 j2 => by
    rw [s11]
    exact if_neg (by omega))
  intro j hj
  obtain ⟨m, g1, g2, g3, g4⟩ := h j hj
  by_cases e : j = i
  · subst e
    have e2 : m = c := (nI_eq (by omega) (by omega)).mp (g2.symm.trans h8)
    subst e2
    refine ⟨m + 1, by omega, by rw [s8, pk_us], eK2, fun k2 hk2 => ?_⟩
    by_cases e3 : k2 = m
    · subst e3
      refine ⟨b, by rw [eG2, va_up_self], bg, en, md, pl, ?_, ?_, ?_, ?_, ?_, ?_⟩
      · rw [s9, s10, pk_us, pk_us]; exact hb
      · unfold wyO; rw [wy_new (by omega), wy_new (by omega), wy_new (by omega)]; exact h1
      · unfold wyO; rw [wy_new (by omega), wy_new (by omega), wy_new (by omega)]; exact h2
      · rw [s9, pk_us]
        intro e4
        obtain ⟨m1, q1, q2⟩ := h3 e4
        have hn9 : n = 9 := by rcases hn with ⟨-, h⟩ | ⟨h, -⟩
                               · exact h
                               · exact absurd e4 h
        refine ⟨m1, q1, ?_⟩
        unfold wyO; rw [wy_new (by omega), wy_new (by omega), wy_new (by omega)]; exact q2
      · rw [s9, pk_us]; exact h4
      · have hp : plA (sgS A (4 * j + k2) n j k2 k u) (4 * j + k2) = crs (fun a => (A 14 (3 * 0 + a)).toInt64) (fun a => (A 14 (3 * 1 + a)).toInt64) := by
          funext a
          unfold plA crs
          have m1 := Nat.mod_lt (a + 1) (show 0 < 3 by decide)
          have m2 := Nat.mod_lt (a + 2) (show 0 < 3 by decide)
          rw [wy_new (by omega), wy_new (by omega), wy_new (by omega), wy_new (by omega)]
        rw [hp]; exact h5
    · obtain ⟨b2, q1, q2⟩ := g4 k2 (by omega)
      exact ⟨b2, by rw [eG2, va_up_ne _ _ e3]; exact q1, old b2 _ (by omega) (by omega) q2⟩
  · refine ⟨m, g1, by rw [s8, pk_un e]; exact g2, by rw [eK _ (by omega)]; exact g3, fun k2 hk2 => ?_⟩
    obtain ⟨b2, q1, q2⟩ := g4 k2 hk2
    exact ⟨b2, by rw [eG _ (by omega)]; exact q1, old b2 _ (by omega) (by omega) q2⟩
theorem inA_sg {A : MA} {p n n3 i c : Nat} {k u : Int32} (h : inA A) (hp : p < 24) (hu : rg (nI 0) (nI 3) u) (hn : n = 3 * n3) (hn3 : n3 ≤ 3) (hw : awA A n3) : inA (sgS A p n i c k u) := by
  obtain ⟨s9, s10, s8, s11⟩ := sg_slots (A := A) (p := p) (n := n) (i := i) (c := c) (k := k) (u := u)
  have hA : ∀ j, j ≠ 8 → j ≠ 9 → j ≠ 10 → j ≠ 11 → sgS A p n i c k u j = A j := fun j a0 a1 a2 a3 => by
    unfold sgS stP wyS
    rw [va_up_ne _ _ a0, va_up_ne _ _ a3, va_up_ne _ _ a2, va_up_ne _ _ a1]
  unfold inA
  rw [hA 0 (by decide) (by decide) (by decide) (by decide), hA 1 (by decide) (by decide) (by decide) (by decide), hA 13 (by decide) (by decide) (by decide) (by decide), hA 6 (by decide) (by decide) (by decide) (by decide), hA 7 (by decide) (by decide) (by decide) (by decide), hA 12 (by decide) (by decide) (by decide) (by decide), hA 2 (by decide) (by decide) (by decide) (by decide), hA 3 (by decide) (by decide) (by decide) (by decide), s10, s11]
  refine ⟨h.1, h.2.1, h.2.2.1, h.2.2.2.1, fun j hj => ?_, fun j hj => ?_, h.2.2.2.2.2.2⟩
  · by_cases e : j = p
    · subst e
      rw [pk_us]
      obtain ⟨v, hv, rfl⟩ := inN (by decide) hu
      exact ⟨v, by omega, rfl⟩
    · rw [pk_un e]; exact h.2.2.2.2.1 j hj
  · by_cases e : 9 * p ≤ j ∧ j < 9 * p + n
    · show ib 9 (if 9 * p ≤ j ∧ j < 9 * p + n then A 14 (j - 9 * p) else A 11 j)
      rw [if_pos e]
      have h1 := hw ((j - 9 * p) / 3) (by omega)
      have h2 : j - 9 * p = 3 * ((j - 9 * p) / 3) + (j - 9 * p) % 3 := (Nat.div_add_mod _ _).symm
      have h3 := Nat.mod_lt (j - 9 * p) (show 0 < 3 by decide)
      generalize (j - 9 * p) / 3 = q at h1 h2
      generalize (j - 9 * p) % 3 = r at h2 h3
      rw [h2]
      have h4 : r = 0 ∨ r = 1 ∨ r = 2 := by omega
      rcases h4 with rfl | rfl | rfl
      · exact ib_r9 h1.2.1
      · exact ib_r9 h1.2.2.1
      · exact ib_r9 h1.2.2.2
    · show ib 9 (if 9 * p ≤ j ∧ j < 9 * p + n then A 14 (j - 9 * p) else A 11 j)
      rw [if_neg e]; exact h.2.2.2.2.2.1 j hj
theorem rp_t0 {ad : Nat → Nat} {K K1 : KK} {G : GG} {A : MA} {B : MB} {N : Nat} {f f1 : HF} (h : rp ad K G A B N f) (k : kp f f1) (e : K1 = va_up K 6 (upd (K 6) 0 (nI 0))) : rp ad K1 G (stS A 13 (nI 0)) B N f1 := by
  have hn : ∀ j, j ≠ 6 → K1 j = K j := fun j hj => by rw [e, va_up_ne _ _ hj]
  have ha : ∀ j, j ≠ 13 → stS A 13 (nI 0) j = A j := fun j hj => va_up_ne _ _ hj
  refine ⟨inA_t0 h.1, fun q hq => ?_, h.2.2.1.cg k (fun i _ => hn _ (by omega)) (fun _ _ => rfl) (fun j _ _ => ha j (by omega)), h.2.2.2.1.cg k rfl (ha 7 (by omega)), h.2.2.2.2.1.cg (fun j _ => hn j (by omega)) (fun j _ => ha j (by omega)), h.2.2.2.2.2.1.cg (fun j _ _ => hn j (by omega)) (ha 5 (by omega)) (ha 6 (by omega)), ⟨?_, fun j hj => ?_⟩, h.2.2.2.2.2.2.2.1.cg (hn 9 (by omega)) (hn 10 (by omega)) (ha 12 (by omega)), h.2.2.2.2.2.2.2.2.1.cg k rfl rfl, h.2.2.2.2.2.2.2.2.2.cg (fun j _ => hn j (by omega)) (fun j _ => ha j (by omega))⟩
  · rw [hn 11 (by omega)]; exact h.2.1 q hq
  · rw [e, va_up_self]; unfold stS; rw [va_up_self]; exact pk_us
  · rw [hn 27 (by omega), ha 14 (by omega)]; exact h.2.2.2.2.2.2.1.2 j hj
theorem sg_comm (A : MA) (p n i c : Nat) (k u : Int32) : sgS (stS A 13 (nI 0)) p n i c k u = stS (sgS A p n i c k u) 13 (nI 0) := by
  funext j
  unfold sgS stP wyS stS
  by_cases h13 : j = 13
  · subst h13
    simp only [va_up_ne, va_up_self, ne_eq, reduceCtorEq, not_false_eq_true, Nat.reduceEqDiff]
  · rw [va_up_ne _ _ h13]
    by_cases h8 : j = 8
    · subst h8; simp only [va_up_ne, va_up_self, ne_eq, reduceCtorEq, not_false_eq_true, Nat.reduceEqDiff]
    · by_cases h11 : j = 11
      · subst h11; simp only [va_up_ne, va_up_self, ne_eq, reduceCtorEq, not_false_eq_true, Nat.reduceEqDiff]
      · by_cases h10 : j = 10
        · subst h10; simp only [va_up_ne, va_up_self, ne_eq, reduceCtorEq, not_false_eq_true, Nat.reduceEqDiff]
        · by_cases h9 : j = 9
          · subst h9; simp only [va_up_ne, va_up_self, ne_eq, reduceCtorEq, not_false_eq_true, Nat.reduceEqDiff]
          · rw [va_up_ne _ _ h8, va_up_ne _ _ h11, va_up_ne _ _ h10, va_up_ne _ _ h9, va_up_ne _ _ h13, va_up_ne _ _ h8, va_up_ne _ _ h11, va_up_ne _ _ h10, va_up_ne _ _ h9]
theorem sg3_0 (A : MA) (B : MB) (n n3 i c : Nat) (k u : Int32) : sg3 (stS A 13 (nI 0)) B n n3 i c k u = ((sg3 A B n n3 i c k u).1, stS (sg3 A B n n3 i c k u).2.1 13 (nI 0), (sg3 A B n n3 i c k u).2.2) := by
  have h14 : stS A 13 (nI 0) 14 = A 14 := va_up_ne _ _ (by decide)
  have hw : awA (stS A 13 (nI 0)) n3 ↔ awA A n3 := by unfold awA wok; rw [h14]
  unfold sg3
  by_cases h : awA A n3
  · rw [if_pos (hw.mpr h), if_pos h]
    by_cases h4 : c = 4
    · rw [if_pos h4, if_pos h4]
    · rw [if_neg h4, if_neg h4, sg_comm]
  · rw [if_neg (fun h9 => h (hw.mp h9)), if_neg h]
theorem sb_op (A : MA) (B : MB) (tn i c : Nat) (k u : Int32) : (if k = nI 1 then (if tn = 9 then sg3 (stS A 13 (nI 0)) B 9 3 i c k u else (lF 5, stS A 13 (nI 0), fnd B 5)) else (if tn = 6 then sg3 (stS A 13 (nI 0)) B 6 2 i c k u else (lF 5, stS A 13 (nI 0), fnd B 5))) = ((sbT A B tn i c k u).1, stS (sbT A B tn i c k u).2.1 13 (nI 0), (sbT A B tn i c k u).2.2) := by
  unfold sbT
  by_cases h : k = nI 1
  · rw [if_pos h, if_pos h]
    by_cases h9 : tn = 9
    · rw [if_pos h9, if_pos h9, sg3_0]
    · rw [if_neg h9, if_neg h9]
  · rw [if_neg h, if_neg h]
    by_cases h9 : tn = 6
    · rw [if_pos h9, if_pos h9, sg3_0]
    · rw [if_neg h9, if_neg h9]
set_option maxHeartbeats 4000000 in
set_option maxRecDepth 100000 in
theorem c_X7_holdsWay {l : Launch} {D : va_G} {cA : Nat → ClassId} {f : HF} {sz : Nat} {a na k : Nat} {v0 : Value} {g : Nat → Int32}  (h0 : f a = some (eO 7 [.ref na, v0])) (h1 : f na = some (eI cA 9 g)) (hk : k < 3) : Met l yX7_holdsWay wsX7_holdsWay ({ frames := 1, cells := 0, slots := 0, locals := 21 } : Room) (va_Pc [.ref a, .int (nI k)] (hB D cA f sz)) (va_Qi (fun r f1 => bI (wkG g (3 * k)) = r ∧ f = f1) (hE D f sz) (hA f sz)) 0 0 (hA f sz) := by
  refine h_of (cc := cX7_holdsWay) (maxL := 4) (ret := (some .boolean)) (by decide +kernel) rfl (Nat.le_of_ble_eq_true rfl) ?_
  intro p e s m below meth c ls C hr hlk hnm hw hl
  have hx := C.1.1
  have hb := C.1.2.1
  have hl : lv_has ls 4 [(0, .ref a), (1, .int (nI k))] := hl
  have lk0 : Cond.fieldLink RX7 9 "FallingLight$Tape" "numbers" "[I" ∈ wsX7_holdsWay := by decide +kernel
  have lk1 : ∀ w ∈ u_ws RX7 TX7 2, w ∈ wsX7_holdsWay := by decide +kernel
  have lk2 : Cond.static yX11_within ∈ wsX7_holdsWay := by decide +kernel
  have lk3 : Cond.initialized RX11 ∈ wsX7_holdsWay := by decide +kernel
  refine lv_iconst (v := nI 0) hx hb dX7_holdsWay_0 (by decide) ?_
  refine lv_istore_n (lv' := [(2, _), (0, _), (1, _)]) hx hb dX7_holdsWay_1 rfl hl (by decide) rfl (fun ls hl => ?_)
  refine lv_iconst (v := nI 3) hx hb dX7_holdsWay_2 (by decide) ?_
  refine lv_iload_n hx hb dX7_holdsWay_3 rfl (lv_at hl 2 rfl) ?_
  refine n_imul C dX7_holdsWay_4 ?_
  refine lv_istore_n (lv' := [(3, _), (2, _), (0, _), (1, _)]) hx hb dX7_holdsWay_5 rfl hl (by decide) rfl (fun ls hl => ?_)
  have lp6 : ∀ (n : Nat) (d : Nat) (H1 : Heap) (locs1 : List Loc) (ls1 : Array Slot), hW D (hA f sz) s.heap f H1 locs1 → lv_has ls1 4 [(0, .ref a), (1, .int (nI k)), (2, .int (bI (smB g (3 * k) d = true))), (3, .int (nI (3 * k + d)))] → (d ≤ 3) → (∀ e, e < d → rg (-9) (nI 9) (g (3 * k + e))) → 3 - d < n → W p l e ({ frames := 1, cells := 0, slots := 0, locals := 21 } : Room) s m ([.ref a, .int (nI k)]).toArray below meth c H1 locs1 0 0 (MQ below (va_Qi (fun r f1 => bI (wkG g (3 * k)) = r ∧ f = f1) (hE D f sz) (hA f sz)) ([.ref a, .int (nI k)]).toArray s 0 0 (hA f sz)) (F0 m 6 ls1 []) := by
    intro n
    induction n with
    | zero => intros; omega
    | succ n ih6 =>
      intro d H locs ls hw hl hd hall hmu
      refine lv_iload_n hx hb dX7_holdsWay_6 rfl (lv_at hl 3 rfl) ?_
      refine lv_iconst (v := nI 3) hx hb dX7_holdsWay_7 (by decide) ?_
      refine lv_iload_n hx hb dX7_holdsWay_8 rfl (lv_at hl 1 rfl) ?_
      refine n_imul C dX7_holdsWay_9 ?_
      refine lv_iconst (v := nI 3) hx hb dX7_holdsWay_10 (by decide) ?_
      refine n_iadd C dX7_holdsWay_11 ?_
      refine n_cge C (by omega) (by omega) (tgt := 56) dX7_holdsWay_12 (by decide) (fun cq1 => ?_) (fun cq1 => ?_)
      · have hd3 : d = 3 := by omega
        rw [hd3] at hl hall
        refine lv_iload_n hx hb dX7_holdsWay_56 rfl (lv_at hl 2 rfl) ?_
        exact h_zret C hr (bI_z _) hlk hw (⟨(wk_y hall).symm, rfl⟩) dX7_holdsWay_57
      · refine lv_aload_n hx hb dX7_holdsWay_15 rfl (lv_at hl 0 rfl) ?_
        refine h_get C hw bX7 h0 lk1 0 (by decide) lk0 (v := .ref na) rfl dX7_holdsWay_16 ?_
        refine lv_iload_n hx hb dX7_holdsWay_19 rfl (lv_at hl 3 rfl) ?_
        refine h_iald1 C hw (v := g (3 * k + d)) h1 rfl (show 3 * k + d < 9 from (by omega)) (by first | omega | decide) dX7_holdsWay_20 ?_
        refine lv_bipush (v := nI 9) hx hb dX7_holdsWay_21 (by decide) ?_
        refine h_calli hw (h_runSN (n := 2) (As := [.int (g (3 * k + d)), .int (nI 9)]) (rest := []) C hw (c_X11_within (show -(nI 9) = (-9 : Int32) from by decide)) gX7_holdsWay_X11_within_n19 rfl rfl rfl C.2.2.2.2 lk2 lk3 (by decide +kernel) ⟨by decide, by decide⟩ rfl hl.1 rfl (Nat.le_of_ble_eq_true rfl) dX7_holdsWay_23 ⟨by first | decide | omega, by first | decide | omega⟩) (fun r2 f3 H locs hp hw => ?_)
        obtain ⟨rfl, rfl⟩ := hp
        refine n_ifneB C (tgt := 31) dX7_holdsWay_26 (by decide) (fun cq4 => ?_) (fun cq4 => ?_)
        · have hrd := cq4
          refine lv_iload_n hx hb dX7_holdsWay_31 rfl (lv_at hl 2 rfl) ?_
          refine n_ifneB C (tgt := 44) dX7_holdsWay_32 (by decide) (fun cq5 => ?_) (fun cq5 => ?_)
          · refine lv_iconst (v := nI 1) hx hb dX7_holdsWay_44 (by decide) ?_
            refine W.eq (g2 := F0 m 45 ls [.int (bI (smB g (3 * k) (d + 1) = true))]) (by rw [bI_t (sm_t (Or.inl cq5))]) ?_
            refine lv_goto (tgt := 49) hx hb dX7_holdsWay_45 (by decide) ?_
            refine lv_istore_n (lv' := [(2, _), (0, _), (1, _), (3, _)]) hx hb dX7_holdsWay_49 rfl hl (by decide) rfl (fun ls hl => ?_)
            refine n_iinc C (lv' := [(3, _), (2, _), (0, _), (1, _)]) dX7_holdsWay_50 hl (k := 3) rfl (by decide) rfl (fun ls hl => ?_)
            refine lv_goto (tgt := 6) hx hb dX7_holdsWay_53 (by decide) ?_
            exact ih6 (d + 1) _ _ _ hw (lv_sub hl [2, 3, 1, 0] rfl) (by omega) (fun e he => (Nat.lt_succ_iff_lt_or_eq.mp he).elim (hall e) (fun e9 => by rw [e9]; exact hrd)) (by omega)
          · refine lv_aload_n hx hb dX7_holdsWay_35 rfl (lv_at hl 0 rfl) ?_
            refine h_get C hw bX7 h0 lk1 0 (by decide) lk0 (v := .ref na) rfl dX7_holdsWay_36 ?_
            refine lv_iload_n hx hb dX7_holdsWay_39 rfl (lv_at hl 3 rfl) ?_
            refine h_iald1 C hw (v := g (3 * k + d)) h1 rfl (show 3 * k + d < 9 from (by omega)) (by first | omega | decide) dX7_holdsWay_40 ?_
            refine lv_if_eq (tgt := 48) hx hb dX7_holdsWay_41 (by decide) (fun cq6 => ?_) (fun cq6 => ?_)
            · refine lv_iconst (v := nI 0) hx hb dX7_holdsWay_48 (by decide) ?_
              refine W.eq (g2 := F0 m 49 ls [.int (bI (smB g (3 * k) (d + 1) = true))]) (by rw [bI_f (sm_f cq5 cq6)]) ?_
              refine lv_istore_n (lv' := [(2, _), (0, _), (1, _), (3, _)]) hx hb dX7_holdsWay_49 rfl hl (by decide) rfl (fun ls hl => ?_)
              refine n_iinc C (lv' := [(3, _), (2, _), (0, _), (1, _)]) dX7_holdsWay_50 hl (k := 3) rfl (by decide) rfl (fun ls hl => ?_)
              refine lv_goto (tgt := 6) hx hb dX7_holdsWay_53 (by decide) ?_
              exact ih6 (d + 1) _ _ _ hw (lv_sub hl [2, 3, 1, 0] rfl) (by omega) (fun e he => (Nat.lt_succ_iff_lt_or_eq.mp he).elim (hall e) (fun e9 => by rw [e9]; exact hrd)) (by omega)
            · refine lv_iconst (v := nI 1) hx hb dX7_holdsWay_44 (by decide) ?_
              refine W.eq (g2 := F0 m 45 ls [.int (bI (smB g (3 * k) (d + 1) = true))]) (by rw [bI_t (sm_t (Or.inr cq6))]) ?_
              refine lv_goto (tgt := 49) hx hb dX7_holdsWay_45 (by decide) ?_
              refine lv_istore_n (lv' := [(2, _), (0, _), (1, _), (3, _)]) hx hb dX7_holdsWay_49 rfl hl (by decide) rfl (fun ls hl => ?_)
              refine n_iinc C (lv' := [(3, _), (2, _), (0, _), (1, _)]) dX7_holdsWay_50 hl (k := 3) rfl (by decide) rfl (fun ls hl => ?_)
              refine lv_goto (tgt := 6) hx hb dX7_holdsWay_53 (by decide) ?_
              exact ih6 (d + 1) _ _ _ hw (lv_sub hl [2, 3, 1, 0] rfl) (by omega) (fun e he => (Nat.lt_succ_iff_lt_or_eq.mp he).elim (hall e) (fun e9 => by rw [e9]; exact hrd)) (by omega)
        · refine lv_iconst (v := nI 0) hx hb dX7_holdsWay_29 (by decide) ?_
          exact h_zret C hr (by first | rfl | decide) hlk hw (⟨bI_f (wk_n (by omega) cq4), rfl⟩) dX7_holdsWay_30
  exact lp6 _ 0 _ _ _ hw (lv_sub hl [2, 3, 1, 0] rfl) (by omega) (fun e he => absurd he (by omega)) (Nat.lt_succ_self _)
set_option maxHeartbeats 4000000 in
set_option maxRecDepth 100000 in
theorem c_X7_wayAt {l : Launch} {D : va_G} {cA : Nat → ClassId} {f : HF} {sz : Nat} {a na k : Nat} {v0 : Value} {g : Nat → Int32}  (h0 : f a = some (eO 7 [.ref na, v0])) (h1 : f na = some (eI cA 9 g)) (hk : k < 3) : Met l yX7_wayAt wsX7_wayAt ({ frames := 2, cells := 1, slots := 3, locals := 46 } : Room) (va_Pc [.ref a, .int (nI k)] (hB D cA f sz)) (va_Qq (fun r f1 => hle f f1 ∧ ∃ q, r = some q ∧ f1 q = some (eO 10 [.long ((g (3 * k + 0)).toInt64), .long ((g (3 * k + 1)).toInt64), .long ((g (3 * k + 2)).toInt64)]) ∧ f q = none) (hE D f sz) (hA f sz)) 1 3 (hA f sz) := by
  refine h_of (cc := cX7_wayAt) (maxL := 2) (ret := (some (.object "FallingLight$Way"))) (by decide +kernel) rfl (Nat.le_of_ble_eq_true rfl) ?_
  intro p e s m below meth c ls C hr hlk hnm hw hl
  have hx := C.1.1
  have hb := C.1.2.1
  have hl : lv_has ls 2 [(0, .ref a), (1, .int (nI k))] := hl
  have lk0 : ∀ w ∈ u_ws RX10 TX10 3, w ∈ wsX7_wayAt := by decide +kernel
  have lk1 : Cond.classLink RX7 23 RX10 ∈ wsX7_wayAt := by decide +kernel
  have lk2 : Cond.instantiable RX10 3 ∈ wsX7_wayAt := by decide +kernel
  have lk3 : Cond.initialized RX10 ∈ wsX7_wayAt := by decide +kernel
  have lk4 : Cond.fieldLink RX7 9 "FallingLight$Tape" "numbers" "[I" ∈ wsX7_wayAt := by decide +kernel
  have lk5 : ∀ w ∈ u_ws RX7 TX7 2, w ∈ wsX7_wayAt := by decide +kernel
  have lk6 : Cond.methodLink RX7 25 yX10_init ∈ wsX7_wayAt := by decide +kernel
  have lk7 : Cond.instanceMethod yX10_init ∈ wsX7_wayAt := by decide +kernel
  refine h_new1 C hw bX10 lk0 lk1 lk2 lk3 dfX10 (by first | decide | omega | (dsimp only; omega)) (by first | decide | omega | (dsimp only; omega)) dX7_wayAt_0 (fun q1 f2 H hq4 e3 hw => ?_)
  have k5 := up_n e3 hq4 h0
  have k6 := up_n e3 hq4 h1
  have k7 : f2 q1 = some (eO 10 [.long 0, .long 0, .long 0]) := up_s e3
  have fr8 := hle_no (hle.rf f) hq4
  have le9 := hle_new (hle.rf f) hq4 e3
  refine lv_dup hx hb dX7_wayAt_3 rfl ?_
  refine lv_aload_n hx hb dX7_wayAt_4 rfl (lv_at hl 0 rfl) ?_
  refine h_get C hw bX7 k5 lk5 0 (by decide) lk4 (v := .ref na) rfl dX7_wayAt_5 ?_
  refine lv_iconst (v := nI 3) hx hb dX7_wayAt_8 (by decide) ?_
  refine lv_iload_n hx hb dX7_wayAt_9 rfl (lv_at hl 1 rfl) ?_
  refine n_imul C dX7_wayAt_10 ?_
  refine h_iald1 C hw (v := g (3 * k)) k6 rfl (show 3 * k < 9 from (by omega)) (by first | omega | decide) dX7_wayAt_11 ?_
  refine lv_i2l hx hb dX7_wayAt_12 rfl ?_
  refine lv_aload_n hx hb dX7_wayAt_13 rfl (lv_at hl 0 rfl) ?_
  refine h_get C hw bX7 k5 lk5 0 (by decide) lk4 (v := .ref na) rfl dX7_wayAt_14 ?_
  refine lv_iconst (v := nI 3) hx hb dX7_wayAt_17 (by decide) ?_
  refine lv_iload_n hx hb dX7_wayAt_18 rfl (lv_at hl 1 rfl) ?_
  refine n_imul C dX7_wayAt_19 ?_
  refine lv_iconst (v := nI 1) hx hb dX7_wayAt_20 (by decide) ?_
  refine n_iadd C dX7_wayAt_21 ?_
  refine h_iald1 C hw (v := g (3 * k + 1)) k6 rfl (show 3 * k + 1 < 9 from (by omega)) (by first | omega | decide) dX7_wayAt_22 ?_
  refine lv_i2l hx hb dX7_wayAt_23 rfl ?_
  refine lv_aload_n hx hb dX7_wayAt_24 rfl (lv_at hl 0 rfl) ?_
  refine h_get C hw bX7 k5 lk5 0 (by decide) lk4 (v := .ref na) rfl dX7_wayAt_25 ?_
  refine lv_iconst (v := nI 3) hx hb dX7_wayAt_28 (by decide) ?_
  refine lv_iload_n hx hb dX7_wayAt_29 rfl (lv_at hl 1 rfl) ?_
  refine n_imul C dX7_wayAt_30 ?_
  refine lv_iconst (v := nI 2) hx hb dX7_wayAt_31 (by decide) ?_
  refine n_iadd C dX7_wayAt_32 ?_
  refine h_iald1 C hw (v := g (3 * k + 2)) k6 rfl (show 3 * k + 2 < 9 from (by omega)) (by first | omega | decide) dX7_wayAt_33 ?_
  refine lv_i2l hx hb dX7_wayAt_34 rfl ?_
  refine h_callv hw (h_runI (n := 3) (As := [.long ((g (3 * k)).toInt64), .long ((g (3 * k + 1)).toInt64), .long ((g (3 * k + 2)).toInt64)]) (rest := [.ref q1]) C hw (c_X10_init k7) gX7_wayAt_X10_init rfl rfl rfl lk3 lk6 lk7 rfl (by decide +kernel) ⟨by decide, by decide⟩ rfl hl.1 rfl (Nat.le_of_ble_eq_true rfl) dX7_wayAt_35 ⟨by first | decide | omega, by first | decide | omega⟩) (fun  f10 H locs hp hw => ?_)
  have e11 := hp
  have k12 := up_o e11 (ne_kd k5 k7 (Nat.ne_of_beq_eq_false rfl)) k5
  have k13 := up_o e11 (ne_kd k6 k7 (Nat.ne_of_beq_eq_false rfl)) k6
  have k14 : f10 q1 = some (eO 10 [.long ((g (3 * k)).toInt64), .long ((g (3 * k + 1)).toInt64), .long ((g (3 * k + 2)).toInt64)]) := up_s e11
  have le15 := hle_up le9 fr8 e11
  refine W.widen (k := 1) (n := 3) (by first | decide | omega | (dsimp only; omega)) (by first | decide | omega | (dsimp only; omega)) ?_
  exact h_qret (v := some q1) C hr hlk hw (⟨le15, q1, rfl, k14, fr8⟩) dX7_wayAt_38
set_option maxHeartbeats 4000000 in
set_option maxRecDepth 100000 in
theorem c_X3_add {l : Launch} {D : va_G} {cA : Nat → ClassId} {f : HF} {sz : Nat} {a sa b nk : Nat} {γ : Nat → Option Nat} {fs : List Value}  (h0 : f a = some (eO 3 [.ref sa, .int (nI nk)])) (h1 : f sa = some (eQ cA 6 4 γ)) (h2 : f b = some (eO 6 fs)) (hn : nk < 4) : Met l yX3_add wsX3_add ({ frames := 0, cells := 0, slots := 0, locals := 0 } : Room) (va_Pc [.ref a, .ref b] (hB D cA f sz)) (va_Qi (fun r f1 => nI nk = r ∧ f1 = va_up (va_up f sa (some (eQ cA 6 4 (va_up γ nk (some b))))) a (some (eO 3 [.ref sa, .int (nI (nk + 1))]))) (hE D f sz) (hA f sz)) 0 0 (hA f sz) := by
  refine h_of (cc := cX3_add) (maxL := 2) (ret := (some .int)) (by decide +kernel) rfl (Nat.le_of_ble_eq_true rfl) ?_
  intro p e s m below meth c ls C hr hlk hnm hw hl
  have hx := C.1.1
  have hb := C.1.2.1
  have hl : lv_has ls 2 [(0, .ref a), (1, .ref b)] := hl
  have lk0 : Cond.fieldLink RX3 17 "FallingLight$Meteor" "size" "I" ∈ wsX3_add := by decide +kernel
  have lk1 : ∀ w ∈ u_ws RX3 TX3 2, w ∈ wsX3_add := by decide +kernel
  have lk2 : Cond.fieldLink RX3 11 "FallingLight$Meteor" "sights" "[LFallingLight$Sight;" ∈ wsX3_add := by decide +kernel
  refine lv_aload_n hx hb dX3_add_0 rfl (lv_at hl 0 rfl) ?_
  refine h_get C hw bX3 h0 lk1 1 (by decide) lk0 (v := .int (nI nk)) rfl dX3_add_1 ?_
  refine lv_iconst (v := nI 4) hx hb dX3_add_4 (by decide) ?_
  refine n_clt C (by omega) (by omega) (tgt := 10) dX3_add_5 (by decide) (fun cq1 => ?_) (fun cq1 => ?_)
  · refine lv_aload_n hx hb dX3_add_10 rfl (lv_at hl 0 rfl) ?_
    refine h_get C hw bX3 h0 lk1 0 (by decide) lk2 (v := .ref sa) rfl dX3_add_11 ?_
    refine lv_aload_n hx hb dX3_add_14 rfl (lv_at hl 0 rfl) ?_
    refine h_get C hw bX3 h0 lk1 1 (by decide) lk0 (v := .int (nI nk)) rfl dX3_add_15 ?_
    refine lv_aload_n hx hb dX3_add_18 rfl (lv_at hl 1 rfl) ?_
    refine h_astq1 C hw 6 bX6 rfl h1 h2 (show nk < 4 from (by omega)) (by first | omega | decide) dX3_add_19 (fun f2 H locs e3 hw => ?_)
    have k4 := up_o e3 (ne_kd h0 h1 (Nat.ne_of_beq_eq_false rfl)) h0
    have k5 := up_o e3 (ne_kd h2 h1 (Nat.ne_of_beq_eq_false rfl)) h2
    have k6 : f2 sa = some (eQ cA 6 4 (va_up γ nk (some b))) := up_s e3
    refine lv_aload_n hx hb dX3_add_20 rfl (lv_at hl 0 rfl) ?_
    refine lv_dup hx hb dX3_add_21 rfl ?_
    refine h_get C hw bX3 k4 lk1 1 (by decide) lk0 (v := .int (nI nk)) rfl dX3_add_22 ?_
    refine lv_iconst (v := nI 1) hx hb dX3_add_25 (by decide) ?_
    refine n_iadd C dX3_add_26 ?_
    refine h_put1 C hw bX3 k4 lk1 1 (by decide) lk0 rfl rfl rfl (Nat.le_of_ble_eq_true rfl) dX3_add_27 (fun f7 H locs e8 hw => ?_)
    have k9 := up_o e8 (ne_kd k5 k4 (Nat.ne_of_beq_eq_false rfl)) k5
    have k10 := up_o e8 (ne_kd k6 k4 (Nat.ne_of_beq_eq_false rfl)) k6
    have k11 : f7 a = some (eO 3 [.ref sa, .int (nI (nk + 1))]) := up_s e8
    refine lv_aload_n hx hb dX3_add_30 rfl (lv_at hl 0 rfl) ?_
    refine h_get C hw bX3 k11 lk1 1 (by decide) lk0 (v := .int (nI (nk + 1))) rfl dX3_add_31 ?_
    refine lv_iconst (v := nI 1) hx hb dX3_add_34 (by decide) ?_
    refine n_isub C (by omega) dX3_add_35 ?_
    exact h_iret C hr hlk hw (⟨by rw [Nat.add_sub_cancel], by rw [e8, e3]; rfl⟩) dX3_add_36
  · exact absurd hn (by omega)
set_option maxHeartbeats 4000000 in
set_option maxRecDepth 100000 in
theorem c_X11_sightByTape {l : Launch} {D : va_G} {cA : Nat → ClassId} {f : HF} {sz : Nat} {ad : Nat → Nat} {K : KK} {G : GG} {A : MA} {B : MB} {N : Nat} {tn i nk : Nat} {k u : Int32}  (hc : co cA ad K G f) (hr9 : rp ad K G A B N f) (hN : N < 2 ^ 20) (htn : A 13 0 = nI tn) (htn2 : tn ≤ 9) (hi : i < 6) (h8 : A 8 i = nI nk) (hnk : nk ≤ 4) (hu : rg (nI 0) (nI 3) u) : Met l yX11_sightByTape wsX11_sightByTape ({ frames := 5, cells := 5, slots := 18, locals := 114 } : Room) (va_Pc [.ref (ad 0), .ref (ad (28 + i)), .int k, .int u] (hB D cA f sz)) (va_Ql (fun r f1 => (sbT A B tn i nk k u).1 = r ∧ ∃ K1 G1, co cA ad K1 G1 f1 ∧ rp ad K1 G1 (sbT A B tn i nk k u).2.1 (sbT A B tn i nk k u).2.2 (N + 1) f1) (hE D f sz) (hA f sz)) 5 18 (hA f sz) := by
  refine h_of (cc := cX11_sightByTape) (maxL := 6) (ret := (some .long)) (by decide +kernel) rfl (Nat.le_of_ble_eq_true rfl) ?_
  intro p e s m below meth c ls C hr hlk hnm hw hl
  have hx := C.1.1
  have hb := C.1.2.1
  have hl : lv_has ls 6 [(0, .ref (ad 0)), (1, .ref (ad (28 + i))), (2, .int k), (3, .int u)] := hl
  have lk0 : Cond.fieldLink RX11 47 "FallingLight" "tape" "LFallingLight$Tape;" ∈ wsX11_sightByTape := by decide +kernel
  have lk1 : ∀ w ∈ u_ws RX11 TX11 11, w ∈ wsX11_sightByTape := by decide +kernel
  have lk2 : Cond.fieldLink RX11 182 "FallingLight$Tape" "size" "I" ∈ wsX11_sightByTape := by decide +kernel
  have lk3 : ∀ w ∈ u_ws RX7 TX7 2, w ∈ wsX11_sightByTape := by decide +kernel
  have lk4 : Cond.fieldLink RX11 199 "FallingLight$Meteor" "size" "I" ∈ wsX11_sightByTape := by decide +kernel
  have lk5 : ∀ w ∈ u_ws RX3 TX3 2, w ∈ wsX11_sightByTape := by decide +kernel
  have lk6 : ∀ w ∈ u_ws RX6 TX6 6, w ∈ wsX11_sightByTape := by decide +kernel
  have lk7 : Cond.classLink RX11 204 RX6 ∈ wsX11_sightByTape := by decide +kernel
  have lk8 : Cond.instantiable RX6 6 ∈ wsX11_sightByTape := by decide +kernel
  have lk9 : Cond.initialized RX6 ∈ wsX11_sightByTape := by decide +kernel
  have lk10 : Cond.methodLink RX11 206 yX6_init ∈ wsX11_sightByTape := by decide +kernel
  have lk11 : Cond.instanceMethod yX6_init ∈ wsX11_sightByTape := by decide +kernel
  obtain ⟨hI, hF, hS, hT, hP, hRw, hTp, hWd, hTr, hMt⟩ := id hr9
  obtain ⟨-, -, -, hrs, hso, hwy, hst, hdr, hpx, hpy⟩ := id hI
  have hKk : K (28 + i) 0 = nI nk := by obtain ⟨m9, q1, q2, q3, -⟩ := hS i hi; rw [q3, ← q2, h8]
  refine lv_iload_n hx hb dX11_sightByTape_0 rfl (lv_at hl 2 rfl) ?_
  refine lv_iconst (v := nI 1) hx hb dX11_sightByTape_1 (by decide) ?_
  refine lv_icmp_ne (tgt := 9) hx hb dX11_sightByTape_2 (by decide) (fun cq1 => ?_) (fun cq1 => ?_)
  · refine lv_iconst (v := nI 2) hx hb dX11_sightByTape_9 (by decide) ?_
    refine lv_istore (lv' := [(4, _), (0, _), (1, _), (2, _), (3, _)]) hx hb dX11_sightByTape_10 hl (by decide) rfl (fun ls hl => ?_)
    refine lv_aload_n hx hb dX11_sightByTape_12 rfl (lv_at hl 1 rfl) ?_
    refine h_get C hw bX11 (co.a0 hc) lk1 5 (by decide) lk0 (v := .ref (ad 6)) rfl dX11_sightByTape_13 ?_
    refine h_get C hw bX7 (co.a6 hc) lk3 1 (by decide) lk2 (v := .int (nI tn)) (congrArg (fun z => some (Value.int z)) (hTp.1.trans htn)) dX11_sightByTape_16 ?_
    refine lv_iconst (v := nI 3) hx hb dX11_sightByTape_19 (by decide) ?_
    refine lv_iload hx hb dX11_sightByTape_20 (lv_at hl 0 rfl) ?_
    refine n_imul C dX11_sightByTape_22 ?_
    refine n_ceq C (by omega) (by omega) (tgt := 32) dX11_sightByTape_23 (by decide) (fun cq2 => ?_) (fun cq2 => ?_)
    · refine lv_iconst (v := nI 0) hx hb dX11_sightByTape_32 (by decide) ?_
      refine lv_istore (lv' := [(5, _), (4, _), (0, _), (1, _), (2, _), (3, _)]) hx hb dX11_sightByTape_33 hl (by decide) rfl (fun ls hl => ?_)
      have lp35 : ∀ (n : Nat) (w : Nat) (H1 : Heap) (locs1 : List Loc) (ls1 : Array Slot), hW D (hA f sz) s.heap f H1 locs1 → lv_has ls1 6 [(0, .ref (ad 0)), (1, .ref (ad (28 + i))), (2, .int k), (3, .int u), (4, .int (nI 2)), (5, .int (nI w))] → (w ≤ 2) → (∀ w9, w9 < w → wok A (3 * w9)) → 3 - w < n → W p l e ({ frames := 5, cells := 5, slots := 18, locals := 114 } : Room) s m ([.ref (ad 0), .ref (ad (28 + i)), .int k, .int u]).toArray below meth c H1 locs1 0 0 (MQ below (va_Ql (fun r f1 => (sbT A B tn i nk k u).1 = r ∧ ∃ K1 G1, co cA ad K1 G1 f1 ∧ rp ad K1 G1 (sbT A B tn i nk k u).2.1 (sbT A B tn i nk k u).2.2 (N + 1) f1) (hE D f sz) (hA f sz)) ([.ref (ad 0), .ref (ad (28 + i)), .int k, .int u]).toArray s 5 18 (hA f sz)) (F0 m 35 ls1 []) := by
        intro n
        induction n with
        | zero => intros; omega
        | succ n ih35 =>
          intro w H locs ls hw hl hw3 hall hmu
          refine lv_iload hx hb dX11_sightByTape_35 (lv_at hl 5 rfl) ?_
          refine lv_iload hx hb dX11_sightByTape_37 (lv_at hl 4 rfl) ?_
          refine n_cge C (by omega) (by omega) (tgt := 66) dX11_sightByTape_39 (by decide) (fun cq3 => ?_) (fun cq3 => ?_)
          · have hall : awA A 2 := fun w9 h9 => hall w9 (by omega)
            refine lv_aload_n hx hb dX11_sightByTape_66 rfl (lv_at hl 1 rfl) ?_
            refine h_get C hw bX3 (co.met hc (show i < 6 by omega)) lk5 1 (by decide) lk4 (v := .int (nI nk)) (congrArg (fun z => some (Value.int z)) hKk) dX11_sightByTape_67 ?_
            refine lv_iconst (v := nI 4) hx hb dX11_sightByTape_70 (by decide) ?_
            refine n_clt C (by omega) (by omega) (tgt := 80) dX11_sightByTape_71 (by decide) (fun cq4 => ?_) (fun cq4 => ?_)
            · refine lv_iload_n hx hb dX11_sightByTape_80 rfl (lv_at hl 2 rfl) ?_
              refine lv_iconst (v := nI 1) hx hb dX11_sightByTape_81 (by decide) ?_
              refine lv_icmp_ne (tgt := 96) hx hb dX11_sightByTape_82 (by decide) (fun cq5 => ?_) (fun cq5 => ?_)
              · refine lv_null hx hb dX11_sightByTape_96 ?_
                refine lv_astoreN (lv' := [(5, _), (0, _), (1, _), (2, _), (3, _), (4, _)]) hx hb dX11_sightByTape_97 hl (by decide) rfl (fun ls hl => ?_)
                refine lv_aload_n hx hb dX11_sightByTape_99 rfl (lv_at hl 2 rfl) ?_
                refine h_new1 C hw bX6 lk6 lk7 lk8 lk9 dfX6 (by first | decide | omega | (dsimp only; omega)) (by first | decide | omega | (dsimp only; omega)) dX11_sightByTape_100 (fun q6 f7 H hq9 e8 hw => ?_)
                have k10 : f7 q6 = some (eO 6 [.int 0, .int 0, .null, .null, .null, .null]) := up_s e8
                have hc := hc.mono (hle_new (hle.rf _) hq9 e8)
                have hS := hS.up (kp_le (hle_new (hle.rf _) hq9 e8)) (fun _ _ => rfl) (fun _ _ => rfl)
                have hT := hT.up (kp_le (hle_new (hle.rf _) hq9 e8)) rfl
                have fr11 := hle_no (hle.rf f) hq9
                have le12 := hle_new (hle.rf f) hq9 e8
                refine lv_dup hx hb dX11_sightByTape_103 rfl ?_
                refine lv_iload_n hx hb dX11_sightByTape_104 rfl (lv_at hl 3 rfl) ?_
                refine lv_iload_n hx hb dX11_sightByTape_105 rfl (lv_at hl 4 rfl) ?_
                refine lv_aload_n hx hb dX11_sightByTape_106 rfl (lv_at hl 1 rfl) ?_
                refine h_get C hw bX11 (co.a0 hc) lk1 5 (by decide) lk0 (v := .ref (ad 6)) rfl dX11_sightByTape_107 ?_
                refine lv_iconst (v := nI 0) hx hb dX11_sightByTape_110 (by decide) ?_
                refine h_callq hw (h_runV (n := 1) (As := [.int (nI 0)]) (rest := [.int u, .int k, .ref q6, .ref q6, .ref (ad (28 + i))]) C hw (c_X7_wayAt (co.a6 hc) (co.a27 hc) (by omega)) gX11_sightByTape_X7_wayAt rfl rfl rfl (by decide +kernel) ⟨by decide, by decide⟩ bX7 (co.a6 hc) rfl hl.1 rfl (Nat.le_of_ble_eq_true rfl) dX11_sightByTape_111 ⟨by first | decide | omega, by first | decide | omega⟩) (fun r13 f14 H locs hp hw => ?_)
                obtain ⟨le15, q16, rfl, k17, hq18⟩ := hp
                have fr19 := hle_no le12 hq18
                have k20 := le15 _ _ k10
                have le21 := hle.tr le12 le15
                have hc := hc.mono le15
                have hS := hS.up (kp_le le15) (fun _ _ => rfl) (fun _ _ => rfl)
                have hT := hT.up (kp_le le15) rfl
                refine lv_aload_n hx hb dX11_sightByTape_114 rfl (lv_at hl 1 rfl) ?_
                refine h_get C hw bX11 (co.a0 hc) lk1 5 (by decide) lk0 (v := .ref (ad 6)) rfl dX11_sightByTape_115 ?_
                refine lv_iconst (v := nI 1) hx hb dX11_sightByTape_118 (by decide) ?_
                refine h_callq hw (h_runV (n := 1) (As := [.int (nI 1)]) (rest := [.ref q16, .int u, .int k, .ref q6, .ref q6, .ref (ad (28 + i))]) C hw (c_X7_wayAt (co.a6 hc) (co.a27 hc) (by omega)) gX11_sightByTape_X7_wayAt rfl rfl rfl (by decide +kernel) ⟨by decide, by decide⟩ bX7 (co.a6 hc) rfl hl.1 rfl (Nat.le_of_ble_eq_true rfl) dX11_sightByTape_119 ⟨by first | decide | omega, by first | decide | omega⟩) (fun r22 f23 H locs hp hw => ?_)
                obtain ⟨le24, q25, rfl, k26, hq27⟩ := hp
                have n28 := ne_new k17 hq27
                have fr29 := hle_no le21 hq27
                have k30 := le24 _ _ k20
                have k31 := le24 _ _ k17
                have le32 := hle.tr le21 le24
                have hc := hc.mono le24
                have hS := hS.up (kp_le le24) (fun _ _ => rfl) (fun _ _ => rfl)
                have hT := hT.up (kp_le le24) rfl
                refine lv_aloadN hx hb dX11_sightByTape_122 (lv_at hl 0 rfl) ?_
                refine h_callv hw (h_runI (n := 5) (As := [.int k, .int u, .ref q16, .ref q25, .null]) (rest := [.ref q6, .ref (ad (28 + i))]) C hw (c_X6_init (md := none) (u := (fun a => (K 27 (3 * 0 + a)).toInt64)) (v := (fun a => (K 27 (3 * 1 + a)).toInt64)) k30 k31 k26 (nz14 (q := 0) hTp.2 (by decide) (wok_nz (hall 0 (by decide)))) (nz14 (q := 1) hTp.2 (by decide) (wok_nz (hall 1 (by decide))))) gX11_sightByTape_X6_init rfl rfl rfl lk9 lk10 lk11 rfl (by decide +kernel) ⟨by decide, by decide⟩ rfl hl.1 rfl (Nat.le_of_ble_eq_true rfl) dX11_sightByTape_124 ⟨by first | decide | omega, by first | decide | omega⟩) (fun  f33 H locs hp hw => ?_)
                obtain ⟨f35, pl34, le36, hcr38, e37⟩ := hp
                have k39 := le36 _ _ k30
                have k40 := le36 _ _ k31
                have k41 := le36 _ _ k26
                have le42 := hle.tr le32 le36
                have hc := hc.mono le36
                have hS := hS.up (kp_le le36) (fun _ _ => rfl) (fun _ _ => rfl)
                have hT := hT.up (kp_le le36) rfl
                have k43 := up_o e37 (ne_kd k40 k39 (Nat.ne_of_beq_eq_false rfl)) k40
                have k44 := up_o e37 (ne_kd k41 k39 (Nat.ne_of_beq_eq_false rfl)) k41
                have k45 : f33 q6 = some (eO 6 [.int k, .int u, .ref q16, .ref q25, .null, va_rf pl34]) := up_s e37
                have le46 := hle_up le42 fr11 e37
                have hc := hc.wr8 (by omega) k39 e37
                have hS := hr9.2.2.1.up (kp_le le46) (fun _ _ => rfl) (fun _ _ => rfl)
                have hT := hr9.2.2.2.1.up (kp_le le46) rfl
                have hcr38 := crO_put hcr38 k39 (Nat.ne_of_beq_eq_false rfl) e37
                refine h_calli hw (h_runV (n := 1) (As := [.ref q6]) (rest := []) C hw (c_X3_add ((co.met hc (show i < 6 by omega)).trans (by rw [hKk])) (co.sgt hc (show i < 6 by omega)) k45 (by omega)) gX11_sightByTape_X3_add rfl rfl rfl (by decide +kernel) ⟨by decide, by decide⟩ bX3 (co.met hc (show i < 6 by omega)) rfl hl.1 rfl (Nat.le_of_ble_eq_true rfl) dX11_sightByTape_127 ⟨by first | decide | omega, by first | decide | omega⟩) (fun r47 f48 H locs hp hw => ?_)
                obtain ⟨rfl, e49⟩ := hp
                obtain ⟨f50, e51, e52⟩ : ∃ f50, f50 = va_up f33 (ad (34 + i)) (some (eQ cA 6 4 (va_up (G (34 + i)) nk (some q6)))) ∧ f48 = va_up f50 (ad (28 + i)) (some (eO 3 [.ref (ad (34 + i)), .int (nI (nk + 1))])) := ⟨_, rfl, e49⟩
                obtain ⟨G53, eK54, hc2⟩ := hc.upG (34 + i) (γ := va_up (G (34 + i)) nk (some q6)) (e := eQ cA 6 4 (va_up (G (34 + i)) nk (some q6))) (by omega) ((cell_sgt (show i < 6 by omega)).trans rfl)
                have hc3 := hc
                have k55 := up_o e51 (ne_kd k43 (co.sgt hc (show i < 6 by omega)) (Nat.ne_of_beq_eq_false rfl)) k43
                have k56 := up_o e51 (ne_kd k44 (co.sgt hc (show i < 6 by omega)) (Nat.ne_of_beq_eq_false rfl)) k44
                have k57 := up_o e51 (ne_kd k45 (co.sgt hc (show i < 6 by omega)) (Nat.ne_of_beq_eq_false rfl)) k45
                have hc := hc2.of e51
                have kpG53 := kp_up hc3 (34 + i) (by omega) e51
                have kfG53 := kp.tr (kp_le le46) kpG53
                have hcr38 := hcr38.up kpG53
                obtain ⟨K58, eK59, hc2⟩ := hc.upK (28 + i) (κ := upd (K (28 + i)) 0 (nI (nk + 1))) (e := eO 3 [.ref (ad (34 + i)), .int (nI (nk + 1))]) (by omega) ((cell_met (show i < 6 by omega)).trans rfl)
                have hc3 := hc
                have k60 := up_o e52 (ne_kd k55 (co.met hc (show i < 6 by omega)) (Nat.ne_of_beq_eq_false rfl)) k55
                have k61 := up_o e52 (ne_kd k56 (co.met hc (show i < 6 by omega)) (Nat.ne_of_beq_eq_false rfl)) k56
                have k62 := up_o e52 (ne_kd k57 (co.met hc (show i < 6 by omega)) (Nat.ne_of_beq_eq_false rfl)) k57
                have hc := hc2.of e52
                have kpK58 := kp_up hc3 (28 + i) (by omega) e52
                have kfK58 := kp.tr kfG53 kpK58
                have hcr38 := hcr38.up kpK58
                have kn63 : K58 6 0 = nI tn := by rw [eK59, va_up_ne _ _ (by first | decide | omega)]; exact (hTp.1.trans htn)
                have kn64 : K58 (28 + i) 0 = nI (nk + 1) := by rw [eK59, va_up_self, pk_us]
                refine n_i2l C (by omega) dX11_sightByTape_130 ?_
                refine W.widen (k := 5) (n := 18) (by first | decide | omega | (dsimp only; omega)) (by first | decide | omega | (dsimp only; omega)) ?_
                have hKn : ∀ jj, jj ≠ (28 + i) → K58 jj = K jj := fun jj h0 => by rw [eK59, va_up_ne _ _ h0]
                have hGn : ∀ jj, jj ≠ (34 + i) → G53 jj = G jj := fun jj h0 => by rw [eK54, va_up_ne _ _ h0]
                have hAn : ∀ jj, jj ≠ 8 → jj ≠ 9 → jj ≠ 10 → jj ≠ 11 → (sgS A (4 * i + nk) 6 i nk k u) jj = A jj := fun jj a0 a1 a2 a3 => by simp only [stS, stP, rowA, ldA, wyS, sgS, va_up_ne, ne_eq, not_false_eq_true, a0, a1, a2, a3]
                have hb1 := wy14 (q := 0) hTp.2 (by decide) k60
                have hb2 := wy14 (q := 1) hTp.2 (by decide) k61
                have hcr9 := crs14 hTp.2
                exact h_lret C hr hlk hw (cop (A1 := sgS A (4 * i + nk) 6 i nk k u) (by simp only [sbT, if_neg cq1, if_pos cq2, sg3, if_pos hall, if_neg (show ¬ nk = 4 by omega)] <;> rfl) hc ⟨(inA_sg (n3 := 2) hr9.1 (by omega) hu rfl (by decide) hall), (hr9.2.1.cg (hKn 11 (by omega)) rfl), (sgs_new (md := none) hr9.2.2.1 kfK58 hi h8 (by omega) (Or.inr ⟨cq1, rfl⟩) (fun j hj => hKn j hj) (by rw [eK59, va_up_self, pk_us]) (fun j hj => hGn j hj) (by rw [eK54, va_up_self]) k62 hb1 hb2 (fun h9 => absurd h9 cq1) (fun _ => rfl) (by have h9 := hcr38; rw [hcr9] at h9; exact h9)), (hr9.2.2.2.1.cg kfK58 (hGn 7 (by omega)) (hAn 7 (by omega) (by omega) (by omega) (by omega))), (hr9.2.2.2.2.1.cg (fun k9 _ => (hKn k9 (by omega))) (fun k9 _ => (hAn k9 (by omega) (by omega) (by omega) (by omega)))), (hr9.2.2.2.2.2.1.cg (fun k9 _ _ => (hKn k9 (by omega))) (hAn 5 (by omega) (by omega) (by omega) (by omega)) (hAn 6 (by omega) (by omega) (by omega) (by omega))), (hr9.2.2.2.2.2.2.1.cg (hKn 6 (by omega)) (hKn 27 (by omega)) (hAn 13 (by omega) (by omega) (by omega) (by omega)) (hAn 14 (by omega) (by omega) (by omega) (by omega))), (hr9.2.2.2.2.2.2.2.1.cg (hKn 9 (by omega)) (hKn 10 (by omega)) (hAn 12 (by omega) (by omega) (by omega) (by omega))), (hr9.2.2.2.2.2.2.2.2.1.cg kfK58 (hGn 21 (by omega)) (hGn 22 (by omega))), (hr9.2.2.2.2.2.2.2.2.2.cg (fun k9 _ => (hKn k9 (by omega))) (fun k9 _ => (hAn k9 (by omega) (by omega) (by omega) (by omega))))⟩) dX11_sightByTape_131
              · exact absurd cq5 cq1
            · refine lv_aload_n hx hb dX11_sightByTape_74 rfl (lv_at hl 0 rfl) ?_
              refine lv_iconst (v := nI 4) hx hb dX11_sightByTape_75 (by decide) ?_
              refine h_calll hw (h_runV (n := 1) (As := [.int (nI 4)]) (rest := []) C hw (c_X11_finding hc (by omega)) gX11_sightByTape_X11_finding rfl rfl rfl (by decide +kernel) ⟨by decide, by decide⟩ bX11 (co.a0 hc) rfl hl.1 rfl (Nat.le_of_ble_eq_true rfl) dX11_sightByTape_76 ⟨by first | decide | omega, by first | decide | omega⟩) (fun r65 f66 H locs hp hw => ?_)
              obtain ⟨rfl, K67, hc, eK68, kp69⟩ := hp
              refine W.widen (k := 5) (n := 18) (by first | decide | omega | (dsimp only; omega)) (by first | decide | omega | (dsimp only; omega)) ?_
              exact h_lret C hr hlk hw (cop (by simp only [sbT, if_neg cq1, if_pos cq2, sg3, if_pos hall, if_pos (show nk = 4 by omega)]) hc (rp_fnd hr9 eK68 (kp.tr (kp_le (hle.rf f)) kp69) (by decide) hN)) dX11_sightByTape_79
          · refine lv_aload_n hx hb dX11_sightByTape_42 rfl (lv_at hl 0 rfl) ?_
            refine h_get C hw bX11 (co.a0 hc) lk1 5 (by decide) lk0 (v := .ref (ad 6)) rfl dX11_sightByTape_43 ?_
            refine lv_iload hx hb dX11_sightByTape_46 (lv_at hl 5 rfl) ?_
            refine h_calli hw (h_runV (n := 1) (As := [.int (nI w)]) (rest := []) C hw (c_X7_holdsWay (co.a6 hc) (co.a27 hc) (by omega)) gX11_sightByTape_X7_holdsWay rfl rfl rfl (by decide +kernel) ⟨by decide, by decide⟩ bX7 (co.a6 hc) rfl hl.1 rfl (Nat.le_of_ble_eq_true rfl) dX11_sightByTape_48 ⟨by first | decide | omega, by first | decide | omega⟩) (fun r70 f71 H locs hp hw => ?_)
            obtain ⟨rfl, rfl⟩ := hp
            refine n_ifneB C (tgt := 60) dX11_sightByTape_51 (by decide) (fun cq72 => ?_) (fun cq72 => ?_)
            · have hwo := (wk_eq hTp.2 (show w < 3 by omega)).mp cq72
              refine n_iinc C (lv' := [(5, _), (0, _), (1, _), (2, _), (3, _), (4, _)]) dX11_sightByTape_60 hl (k := 5) rfl (by decide) rfl (fun ls hl => ?_)
              refine lv_goto (tgt := 35) hx hb dX11_sightByTape_63 (by decide) ?_
              exact ih35 (w + 1) _ _ _ hw (lv_sub hl [1, 2, 3, 4, 5, 0] rfl) (by omega) (fun w9 h9 => (Nat.lt_succ_iff_lt_or_eq.mp h9).elim (hall w9) (fun e9 => by rw [e9]; exact hwo)) (by omega)
            · have hno9 : ¬ awA A 2 := fun h9 => cq72 ((wk_eq hTp.2 (show w < 3 by omega)).mpr (h9 w (by omega)))
              refine lv_aload_n hx hb dX11_sightByTape_54 rfl (lv_at hl 0 rfl) ?_
              refine lv_iconst (v := nI 1) hx hb dX11_sightByTape_55 (by decide) ?_
              refine h_calll hw (h_runV (n := 1) (As := [.int (nI 1)]) (rest := []) C hw (c_X11_finding hc (by omega)) gX11_sightByTape_X11_finding rfl rfl rfl (by decide +kernel) ⟨by decide, by decide⟩ bX11 (co.a0 hc) rfl hl.1 rfl (Nat.le_of_ble_eq_true rfl) dX11_sightByTape_56 ⟨by first | decide | omega, by first | decide | omega⟩) (fun r73 f74 H locs hp hw => ?_)
              obtain ⟨rfl, K75, hc, eK76, kp77⟩ := hp
              refine W.widen (k := 5) (n := 18) (by first | decide | omega | (dsimp only; omega)) (by first | decide | omega | (dsimp only; omega)) ?_
              exact h_lret C hr hlk hw (cop (by simp only [sbT, if_neg cq1, if_pos cq2, sg3, if_neg hno9]) hc (rp_fnd hr9 eK76 (kp.tr (kp_le (hle.rf f)) kp77) (by decide) hN)) dX11_sightByTape_59
      exact lp35 _ 0 _ _ _ hw (lv_sub hl [2, 3, 4, 5, 1, 0] rfl) (by omega) (fun w9 h9 => absurd h9 (by omega)) (Nat.lt_succ_self _)
    · refine lv_aload_n hx hb dX11_sightByTape_26 rfl (lv_at hl 1 rfl) ?_
      refine lv_iconst (v := nI 5) hx hb dX11_sightByTape_27 (by decide) ?_
      refine h_calll hw (h_runV (n := 1) (As := [.int (nI 5)]) (rest := []) C hw (c_X11_finding hc (by omega)) gX11_sightByTape_X11_finding rfl rfl rfl (by decide +kernel) ⟨by decide, by decide⟩ bX11 (co.a0 hc) rfl hl.1 rfl (Nat.le_of_ble_eq_true rfl) dX11_sightByTape_28 ⟨by first | decide | omega, by first | decide | omega⟩) (fun r78 f79 H locs hp hw => ?_)
      obtain ⟨rfl, K80, hc, eK81, kp82⟩ := hp
      refine W.widen (k := 5) (n := 18) (by first | decide | omega | (dsimp only; omega)) (by first | decide | omega | (dsimp only; omega)) ?_
      exact h_lret C hr hlk hw (cop (by simp only [sbT, if_neg cq1, if_neg cq2]) hc (rp_fnd hr9 eK81 (kp.tr (kp_le (hle.rf f)) kp82) (by decide) hN)) dX11_sightByTape_31
  · refine lv_iconst (v := nI 3) hx hb dX11_sightByTape_5 (by decide) ?_
    refine lv_goto (tgt := 10) hx hb dX11_sightByTape_6 (by decide) ?_
    refine lv_istore (lv' := [(4, _), (0, _), (1, _), (2, _), (3, _)]) hx hb dX11_sightByTape_10 hl (by decide) rfl (fun ls hl => ?_)
    refine lv_aload_n hx hb dX11_sightByTape_12 rfl (lv_at hl 1 rfl) ?_
    refine h_get C hw bX11 (co.a0 hc) lk1 5 (by decide) lk0 (v := .ref (ad 6)) rfl dX11_sightByTape_13 ?_
    refine h_get C hw bX7 (co.a6 hc) lk3 1 (by decide) lk2 (v := .int (nI tn)) (congrArg (fun z => some (Value.int z)) (hTp.1.trans htn)) dX11_sightByTape_16 ?_
    refine lv_iconst (v := nI 3) hx hb dX11_sightByTape_19 (by decide) ?_
    refine lv_iload hx hb dX11_sightByTape_20 (lv_at hl 0 rfl) ?_
    refine n_imul C dX11_sightByTape_22 ?_
    refine n_ceq C (by omega) (by omega) (tgt := 32) dX11_sightByTape_23 (by decide) (fun cq83 => ?_) (fun cq83 => ?_)
    · refine lv_iconst (v := nI 0) hx hb dX11_sightByTape_32 (by decide) ?_
      refine lv_istore (lv' := [(5, _), (4, _), (0, _), (1, _), (2, _), (3, _)]) hx hb dX11_sightByTape_33 hl (by decide) rfl (fun ls hl => ?_)
      have lp35 : ∀ (n : Nat) (w : Nat) (H1 : Heap) (locs1 : List Loc) (ls1 : Array Slot), hW D (hA f sz) s.heap f H1 locs1 → lv_has ls1 6 [(0, .ref (ad 0)), (1, .ref (ad (28 + i))), (2, .int k), (3, .int u), (4, .int (nI 3)), (5, .int (nI w))] → (w ≤ 3) → (∀ w9, w9 < w → wok A (3 * w9)) → 3 - w < n → W p l e ({ frames := 5, cells := 5, slots := 18, locals := 114 } : Room) s m ([.ref (ad 0), .ref (ad (28 + i)), .int k, .int u]).toArray below meth c H1 locs1 0 0 (MQ below (va_Ql (fun r f1 => (sbT A B tn i nk k u).1 = r ∧ ∃ K1 G1, co cA ad K1 G1 f1 ∧ rp ad K1 G1 (sbT A B tn i nk k u).2.1 (sbT A B tn i nk k u).2.2 (N + 1) f1) (hE D f sz) (hA f sz)) ([.ref (ad 0), .ref (ad (28 + i)), .int k, .int u]).toArray s 5 18 (hA f sz)) (F0 m 35 ls1 []) := by
        intro n
        induction n with
        | zero => intros; omega
        | succ n ih35 =>
          intro w H locs ls hw hl hw3 hall hmu
          refine lv_iload hx hb dX11_sightByTape_35 (lv_at hl 5 rfl) ?_
          refine lv_iload hx hb dX11_sightByTape_37 (lv_at hl 4 rfl) ?_
          refine n_cge C (by omega) (by omega) (tgt := 66) dX11_sightByTape_39 (by decide) (fun cq84 => ?_) (fun cq84 => ?_)
          · have hall : awA A 3 := fun w9 h9 => hall w9 (by omega)
            refine lv_aload_n hx hb dX11_sightByTape_66 rfl (lv_at hl 1 rfl) ?_
            refine h_get C hw bX3 (co.met hc (show i < 6 by omega)) lk5 1 (by decide) lk4 (v := .int (nI nk)) (congrArg (fun z => some (Value.int z)) hKk) dX11_sightByTape_67 ?_
            refine lv_iconst (v := nI 4) hx hb dX11_sightByTape_70 (by decide) ?_
            refine n_clt C (by omega) (by omega) (tgt := 80) dX11_sightByTape_71 (by decide) (fun cq85 => ?_) (fun cq85 => ?_)
            · refine lv_iload_n hx hb dX11_sightByTape_80 rfl (lv_at hl 2 rfl) ?_
              refine lv_iconst (v := nI 1) hx hb dX11_sightByTape_81 (by decide) ?_
              refine lv_icmp_ne (tgt := 96) hx hb dX11_sightByTape_82 (by decide) (fun cq86 => ?_) (fun cq86 => ?_)
              · exact absurd cq1 cq86
              · refine lv_aload_n hx hb dX11_sightByTape_85 rfl (lv_at hl 0 rfl) ?_
                refine h_get C hw bX11 (co.a0 hc) lk1 5 (by decide) lk0 (v := .ref (ad 6)) rfl dX11_sightByTape_86 ?_
                refine lv_iconst (v := nI 2) hx hb dX11_sightByTape_89 (by decide) ?_
                refine h_callq hw (h_runV (n := 1) (As := [.int (nI 2)]) (rest := []) C hw (c_X7_wayAt (co.a6 hc) (co.a27 hc) (by omega)) gX11_sightByTape_X7_wayAt rfl rfl rfl (by decide +kernel) ⟨by decide, by decide⟩ bX7 (co.a6 hc) rfl hl.1 rfl (Nat.le_of_ble_eq_true rfl) dX11_sightByTape_90 ⟨by first | decide | omega, by first | decide | omega⟩) (fun r87 f88 H locs hp hw => ?_)
                obtain ⟨le89, q90, rfl, k91, hq92⟩ := hp
                have fr93 := hle_no (hle.rf f) hq92
                have le94 := hle.tr (hle.rf f) le89
                have hc := hc.mono le89
                have hS := hS.up (kp_le le89) (fun _ _ => rfl) (fun _ _ => rfl)
                have hT := hT.up (kp_le le89) rfl
                refine lv_goto (tgt := 97) hx hb dX11_sightByTape_93 (by decide) ?_
                refine lv_astore (lv' := [(5, _), (0, _), (1, _), (2, _), (3, _), (4, _)]) hx hb dX11_sightByTape_97 hl (by decide) rfl (fun ls hl => ?_)
                refine lv_aload_n hx hb dX11_sightByTape_99 rfl (lv_at hl 2 rfl) ?_
                refine h_new1 C hw bX6 lk6 lk7 lk8 lk9 dfX6 (by first | decide | omega | (dsimp only; omega)) (by first | decide | omega | (dsimp only; omega)) dX11_sightByTape_100 (fun q95 f96 H hq98 e97 hw => ?_)
                have k99 := up_n e97 hq98 k91
                have k100 : f96 q95 = some (eO 6 [.int 0, .int 0, .null, .null, .null, .null]) := up_s e97
                have hc := hc.mono (hle_new (hle.rf _) hq98 e97)
                have hS := hS.up (kp_le (hle_new (hle.rf _) hq98 e97)) (fun _ _ => rfl) (fun _ _ => rfl)
                have hT := hT.up (kp_le (hle_new (hle.rf _) hq98 e97)) rfl
                have fr101 := hle_no le94 hq98
                have le102 := hle_new le94 hq98 e97
                refine lv_dup hx hb dX11_sightByTape_103 rfl ?_
                refine lv_iload_n hx hb dX11_sightByTape_104 rfl (lv_at hl 3 rfl) ?_
                refine lv_iload_n hx hb dX11_sightByTape_105 rfl (lv_at hl 4 rfl) ?_
                refine lv_aload_n hx hb dX11_sightByTape_106 rfl (lv_at hl 1 rfl) ?_
                refine h_get C hw bX11 (co.a0 hc) lk1 5 (by decide) lk0 (v := .ref (ad 6)) rfl dX11_sightByTape_107 ?_
                refine lv_iconst (v := nI 0) hx hb dX11_sightByTape_110 (by decide) ?_
                refine h_callq hw (h_runV (n := 1) (As := [.int (nI 0)]) (rest := [.int u, .int k, .ref q95, .ref q95, .ref (ad (28 + i))]) C hw (c_X7_wayAt (co.a6 hc) (co.a27 hc) (by omega)) gX11_sightByTape_X7_wayAt rfl rfl rfl (by decide +kernel) ⟨by decide, by decide⟩ bX7 (co.a6 hc) rfl hl.1 rfl (Nat.le_of_ble_eq_true rfl) dX11_sightByTape_111 ⟨by first | decide | omega, by first | decide | omega⟩) (fun r103 f104 H locs hp hw => ?_)
                obtain ⟨le105, q106, rfl, k107, hq108⟩ := hp
                have n109 := ne_new k99 hq108
                have fr110 := hle_no le102 hq108
                have k111 := le105 _ _ k99
                have k112 := le105 _ _ k100
                have le113 := hle.tr le102 le105
                have hc := hc.mono le105
                have hS := hS.up (kp_le le105) (fun _ _ => rfl) (fun _ _ => rfl)
                have hT := hT.up (kp_le le105) rfl
                refine lv_aload_n hx hb dX11_sightByTape_114 rfl (lv_at hl 1 rfl) ?_
                refine h_get C hw bX11 (co.a0 hc) lk1 5 (by decide) lk0 (v := .ref (ad 6)) rfl dX11_sightByTape_115 ?_
                refine lv_iconst (v := nI 1) hx hb dX11_sightByTape_118 (by decide) ?_
                refine h_callq hw (h_runV (n := 1) (As := [.int (nI 1)]) (rest := [.ref q106, .int u, .int k, .ref q95, .ref q95, .ref (ad (28 + i))]) C hw (c_X7_wayAt (co.a6 hc) (co.a27 hc) (by omega)) gX11_sightByTape_X7_wayAt rfl rfl rfl (by decide +kernel) ⟨by decide, by decide⟩ bX7 (co.a6 hc) rfl hl.1 rfl (Nat.le_of_ble_eq_true rfl) dX11_sightByTape_119 ⟨by first | decide | omega, by first | decide | omega⟩) (fun r114 f115 H locs hp hw => ?_)
                obtain ⟨le116, q117, rfl, k118, hq119⟩ := hp
                have n120 := ne_new k111 hq119
                have n121 := ne_new k107 hq119
                have fr122 := hle_no le113 hq119
                have k123 := le116 _ _ k111
                have k124 := le116 _ _ k112
                have k125 := le116 _ _ k107
                have le126 := hle.tr le113 le116
                have hc := hc.mono le116
                have hS := hS.up (kp_le le116) (fun _ _ => rfl) (fun _ _ => rfl)
                have hT := hT.up (kp_le le116) rfl
                refine lv_aload hx hb dX11_sightByTape_122 (lv_at hl 0 rfl) ?_
                refine h_callv hw (h_runI (n := 5) (As := [.int k, .int u, .ref q106, .ref q117, .ref q90]) (rest := [.ref q95, .ref (ad (28 + i))]) C hw (c_X6_init (md := some q90) (u := (fun a => (K 27 (3 * 0 + a)).toInt64)) (v := (fun a => (K 27 (3 * 1 + a)).toInt64)) k124 k125 k118 (nz14 (q := 0) hTp.2 (by decide) (wok_nz (hall 0 (by decide)))) (nz14 (q := 1) hTp.2 (by decide) (wok_nz (hall 1 (by decide))))) gX11_sightByTape_X6_init rfl rfl rfl lk9 lk10 lk11 rfl (by decide +kernel) ⟨by decide, by decide⟩ rfl hl.1 rfl (Nat.le_of_ble_eq_true rfl) dX11_sightByTape_124 ⟨by first | decide | omega, by first | decide | omega⟩) (fun  f127 H locs hp hw => ?_)
                obtain ⟨f129, pl128, le130, hcr132, e131⟩ := hp
                have k133 := le130 _ _ k123
                have k134 := le130 _ _ k124
                have k135 := le130 _ _ k125
                have k136 := le130 _ _ k118
                have le137 := hle.tr le126 le130
                have hc := hc.mono le130
                have hS := hS.up (kp_le le130) (fun _ _ => rfl) (fun _ _ => rfl)
                have hT := hT.up (kp_le le130) rfl
                have k138 := up_o e131 (ne_kd k133 k134 (Nat.ne_of_beq_eq_false rfl)) k133
                have k139 := up_o e131 (ne_kd k135 k134 (Nat.ne_of_beq_eq_false rfl)) k135
                have k140 := up_o e131 (ne_kd k136 k134 (Nat.ne_of_beq_eq_false rfl)) k136
                have k141 : f127 q95 = some (eO 6 [.int k, .int u, .ref q106, .ref q117, .ref q90, va_rf pl128]) := up_s e131
                have le142 := hle_up le137 fr101 e131
                have hc := hc.wr8 (by omega) k134 e131
                have hS := hr9.2.2.1.up (kp_le le142) (fun _ _ => rfl) (fun _ _ => rfl)
                have hT := hr9.2.2.2.1.up (kp_le le142) rfl
                have hcr132 := crO_put hcr132 k134 (Nat.ne_of_beq_eq_false rfl) e131
                refine h_calli hw (h_runV (n := 1) (As := [.ref q95]) (rest := []) C hw (c_X3_add ((co.met hc (show i < 6 by omega)).trans (by rw [hKk])) (co.sgt hc (show i < 6 by omega)) k141 (by omega)) gX11_sightByTape_X3_add rfl rfl rfl (by decide +kernel) ⟨by decide, by decide⟩ bX3 (co.met hc (show i < 6 by omega)) rfl hl.1 rfl (Nat.le_of_ble_eq_true rfl) dX11_sightByTape_127 ⟨by first | decide | omega, by first | decide | omega⟩) (fun r143 f144 H locs hp hw => ?_)
                obtain ⟨rfl, e145⟩ := hp
                obtain ⟨f146, e147, e148⟩ : ∃ f146, f146 = va_up f127 (ad (34 + i)) (some (eQ cA 6 4 (va_up (G (34 + i)) nk (some q95)))) ∧ f144 = va_up f146 (ad (28 + i)) (some (eO 3 [.ref (ad (34 + i)), .int (nI (nk + 1))])) := ⟨_, rfl, e145⟩
                obtain ⟨G149, eK150, hc2⟩ := hc.upG (34 + i) (γ := va_up (G (34 + i)) nk (some q95)) (e := eQ cA 6 4 (va_up (G (34 + i)) nk (some q95))) (by omega) ((cell_sgt (show i < 6 by omega)).trans rfl)
                have hc3 := hc
                have k151 := up_o e147 (ne_kd k138 (co.sgt hc (show i < 6 by omega)) (Nat.ne_of_beq_eq_false rfl)) k138
                have k152 := up_o e147 (ne_kd k139 (co.sgt hc (show i < 6 by omega)) (Nat.ne_of_beq_eq_false rfl)) k139
                have k153 := up_o e147 (ne_kd k140 (co.sgt hc (show i < 6 by omega)) (Nat.ne_of_beq_eq_false rfl)) k140
                have k154 := up_o e147 (ne_kd k141 (co.sgt hc (show i < 6 by omega)) (Nat.ne_of_beq_eq_false rfl)) k141
                have hc := hc2.of e147
                have kpG149 := kp_up hc3 (34 + i) (by omega) e147
                have kfG149 := kp.tr (kp_le le142) kpG149
                have hcr132 := hcr132.up kpG149
                obtain ⟨K155, eK156, hc2⟩ := hc.upK (28 + i) (κ := upd (K (28 + i)) 0 (nI (nk + 1))) (e := eO 3 [.ref (ad (34 + i)), .int (nI (nk + 1))]) (by omega) ((cell_met (show i < 6 by omega)).trans rfl)
                have hc3 := hc
                have k157 := up_o e148 (ne_kd k151 (co.met hc (show i < 6 by omega)) (Nat.ne_of_beq_eq_false rfl)) k151
                have k158 := up_o e148 (ne_kd k152 (co.met hc (show i < 6 by omega)) (Nat.ne_of_beq_eq_false rfl)) k152
                have k159 := up_o e148 (ne_kd k153 (co.met hc (show i < 6 by omega)) (Nat.ne_of_beq_eq_false rfl)) k153
                have k160 := up_o e148 (ne_kd k154 (co.met hc (show i < 6 by omega)) (Nat.ne_of_beq_eq_false rfl)) k154
                have hc := hc2.of e148
                have kpK155 := kp_up hc3 (28 + i) (by omega) e148
                have kfK155 := kp.tr kfG149 kpK155
                have hcr132 := hcr132.up kpK155
                have kn161 : K155 6 0 = nI tn := by rw [eK156, va_up_ne _ _ (by first | decide | omega)]; exact (hTp.1.trans htn)
                have kn162 : K155 (28 + i) 0 = nI (nk + 1) := by rw [eK156, va_up_self, pk_us]
                refine n_i2l C (by omega) dX11_sightByTape_130 ?_
                refine W.widen (k := 5) (n := 18) (by first | decide | omega | (dsimp only; omega)) (by first | decide | omega | (dsimp only; omega)) ?_
                have hKn : ∀ jj, jj ≠ (28 + i) → K155 jj = K jj := fun jj h0 => by rw [eK156, va_up_ne _ _ h0]
                have hGn : ∀ jj, jj ≠ (34 + i) → G149 jj = G jj := fun jj h0 => by rw [eK150, va_up_ne _ _ h0]
                have hAn : ∀ jj, jj ≠ 8 → jj ≠ 9 → jj ≠ 10 → jj ≠ 11 → (sgS A (4 * i + nk) 9 i nk k u) jj = A jj := fun jj a0 a1 a2 a3 => by simp only [stS, stP, rowA, ldA, wyS, sgS, va_up_ne, ne_eq, not_false_eq_true, a0, a1, a2, a3]
                have hb1 := wy14 (q := 0) hTp.2 (by decide) k158
                have hb2 := wy14 (q := 1) hTp.2 (by decide) k159
                have hcr9 := crs14 hTp.2
                have hb3 := wy14 (q := 2) hTp.2 (by decide) k157
                exact h_lret C hr hlk hw (cop (A1 := sgS A (4 * i + nk) 9 i nk k u) (by simp only [sbT, if_pos cq1, if_pos cq83, sg3, if_pos hall, if_neg (show ¬ nk = 4 by omega)] <;> rfl) hc ⟨(inA_sg (n3 := 3) hr9.1 (by omega) hu rfl (by decide) hall), (hr9.2.1.cg (hKn 11 (by omega)) rfl), (sgs_new (md := some q90) hr9.2.2.1 kfK155 hi h8 (by omega) (Or.inl ⟨cq1, rfl⟩) (fun j hj => hKn j hj) (by rw [eK156, va_up_self, pk_us]) (fun j hj => hGn j hj) (by rw [eK150, va_up_self]) k160 hb1 hb2 (fun _ => ⟨_, rfl, hb3⟩) (fun h9 => absurd cq1 h9) (by have h9 := hcr132; rw [hcr9] at h9; exact h9)), (hr9.2.2.2.1.cg kfK155 (hGn 7 (by omega)) (hAn 7 (by omega) (by omega) (by omega) (by omega))), (hr9.2.2.2.2.1.cg (fun k9 _ => (hKn k9 (by omega))) (fun k9 _ => (hAn k9 (by omega) (by omega) (by omega) (by omega)))), (hr9.2.2.2.2.2.1.cg (fun k9 _ _ => (hKn k9 (by omega))) (hAn 5 (by omega) (by omega) (by omega) (by omega)) (hAn 6 (by omega) (by omega) (by omega) (by omega))), (hr9.2.2.2.2.2.2.1.cg (hKn 6 (by omega)) (hKn 27 (by omega)) (hAn 13 (by omega) (by omega) (by omega) (by omega)) (hAn 14 (by omega) (by omega) (by omega) (by omega))), (hr9.2.2.2.2.2.2.2.1.cg (hKn 9 (by omega)) (hKn 10 (by omega)) (hAn 12 (by omega) (by omega) (by omega) (by omega))), (hr9.2.2.2.2.2.2.2.2.1.cg kfK155 (hGn 21 (by omega)) (hGn 22 (by omega))), (hr9.2.2.2.2.2.2.2.2.2.cg (fun k9 _ => (hKn k9 (by omega))) (fun k9 _ => (hAn k9 (by omega) (by omega) (by omega) (by omega))))⟩) dX11_sightByTape_131
            · refine lv_aload_n hx hb dX11_sightByTape_74 rfl (lv_at hl 0 rfl) ?_
              refine lv_iconst (v := nI 4) hx hb dX11_sightByTape_75 (by decide) ?_
              refine h_calll hw (h_runV (n := 1) (As := [.int (nI 4)]) (rest := []) C hw (c_X11_finding hc (by omega)) gX11_sightByTape_X11_finding rfl rfl rfl (by decide +kernel) ⟨by decide, by decide⟩ bX11 (co.a0 hc) rfl hl.1 rfl (Nat.le_of_ble_eq_true rfl) dX11_sightByTape_76 ⟨by first | decide | omega, by first | decide | omega⟩) (fun r163 f164 H locs hp hw => ?_)
              obtain ⟨rfl, K165, hc, eK166, kp167⟩ := hp
              refine W.widen (k := 5) (n := 18) (by first | decide | omega | (dsimp only; omega)) (by first | decide | omega | (dsimp only; omega)) ?_
              exact h_lret C hr hlk hw (cop (by simp only [sbT, if_pos cq1, if_pos cq83, sg3, if_pos hall, if_pos (show nk = 4 by omega)]) hc (rp_fnd hr9 eK166 (kp.tr (kp_le (hle.rf f)) kp167) (by decide) hN)) dX11_sightByTape_79
          · refine lv_aload_n hx hb dX11_sightByTape_42 rfl (lv_at hl 0 rfl) ?_
            refine h_get C hw bX11 (co.a0 hc) lk1 5 (by decide) lk0 (v := .ref (ad 6)) rfl dX11_sightByTape_43 ?_
            refine lv_iload hx hb dX11_sightByTape_46 (lv_at hl 5 rfl) ?_
            refine h_calli hw (h_runV (n := 1) (As := [.int (nI w)]) (rest := []) C hw (c_X7_holdsWay (co.a6 hc) (co.a27 hc) (by omega)) gX11_sightByTape_X7_holdsWay rfl rfl rfl (by decide +kernel) ⟨by decide, by decide⟩ bX7 (co.a6 hc) rfl hl.1 rfl (Nat.le_of_ble_eq_true rfl) dX11_sightByTape_48 ⟨by first | decide | omega, by first | decide | omega⟩) (fun r168 f169 H locs hp hw => ?_)
            obtain ⟨rfl, rfl⟩ := hp
            refine n_ifneB C (tgt := 60) dX11_sightByTape_51 (by decide) (fun cq170 => ?_) (fun cq170 => ?_)
            · have hwo := (wk_eq hTp.2 (show w < 3 by omega)).mp cq170
              refine n_iinc C (lv' := [(5, _), (0, _), (1, _), (2, _), (3, _), (4, _)]) dX11_sightByTape_60 hl (k := 5) rfl (by decide) rfl (fun ls hl => ?_)
              refine lv_goto (tgt := 35) hx hb dX11_sightByTape_63 (by decide) ?_
              exact ih35 (w + 1) _ _ _ hw (lv_sub hl [1, 2, 3, 4, 5, 0] rfl) (by omega) (fun w9 h9 => (Nat.lt_succ_iff_lt_or_eq.mp h9).elim (hall w9) (fun e9 => by rw [e9]; exact hwo)) (by omega)
            · have hno9 : ¬ awA A 3 := fun h9 => cq170 ((wk_eq hTp.2 (show w < 3 by omega)).mpr (h9 w (by omega)))
              refine lv_aload_n hx hb dX11_sightByTape_54 rfl (lv_at hl 0 rfl) ?_
              refine lv_iconst (v := nI 1) hx hb dX11_sightByTape_55 (by decide) ?_
              refine h_calll hw (h_runV (n := 1) (As := [.int (nI 1)]) (rest := []) C hw (c_X11_finding hc (by omega)) gX11_sightByTape_X11_finding rfl rfl rfl (by decide +kernel) ⟨by decide, by decide⟩ bX11 (co.a0 hc) rfl hl.1 rfl (Nat.le_of_ble_eq_true rfl) dX11_sightByTape_56 ⟨by first | decide | omega, by first | decide | omega⟩) (fun r171 f172 H locs hp hw => ?_)
              obtain ⟨rfl, K173, hc, eK174, kp175⟩ := hp
              refine W.widen (k := 5) (n := 18) (by first | decide | omega | (dsimp only; omega)) (by first | decide | omega | (dsimp only; omega)) ?_
              exact h_lret C hr hlk hw (cop (by simp only [sbT, if_pos cq1, if_pos cq83, sg3, if_neg hno9]) hc (rp_fnd hr9 eK174 (kp.tr (kp_le (hle.rf f)) kp175) (by decide) hN)) dX11_sightByTape_59
      exact lp35 _ 0 _ _ _ hw (lv_sub hl [2, 3, 4, 5, 1, 0] rfl) (by omega) (fun w9 h9 => absurd h9 (by omega)) (Nat.lt_succ_self _)
    · refine lv_aload_n hx hb dX11_sightByTape_26 rfl (lv_at hl 1 rfl) ?_
      refine lv_iconst (v := nI 5) hx hb dX11_sightByTape_27 (by decide) ?_
      refine h_calll hw (h_runV (n := 1) (As := [.int (nI 5)]) (rest := []) C hw (c_X11_finding hc (by omega)) gX11_sightByTape_X11_finding rfl rfl rfl (by decide +kernel) ⟨by decide, by decide⟩ bX11 (co.a0 hc) rfl hl.1 rfl (Nat.le_of_ble_eq_true rfl) dX11_sightByTape_28 ⟨by first | decide | omega, by first | decide | omega⟩) (fun r176 f177 H locs hp hw => ?_)
      obtain ⟨rfl, K178, hc, eK179, kp180⟩ := hp
      refine W.widen (k := 5) (n := 18) (by first | decide | omega | (dsimp only; omega)) (by first | decide | omega | (dsimp only; omega)) ?_
      exact h_lret C hr hlk hw (cop (by simp only [sbT, if_pos cq1, if_neg cq83]) hc (rp_fnd hr9 eK179 (kp.tr (kp_le (hle.rf f)) kp180) (by decide) hN)) dX11_sightByTape_31
set_option maxHeartbeats 4000000 in
set_option maxRecDepth 100000 in
theorem c_X11_sight {l : Launch} {D : va_G} {cA : Nat → ClassId} {f : HF} {sz : Nat} {ad : Nat → Nat} {K : KK} {G : GG} {A : MA} {B : MB} {N : Nat} {tn : Nat} {t k u : Int32}  (hc : co cA ad K G f) (hr9 : rp ad K G A B N f) (hN : N < 2 ^ 20) (htn : A 13 0 = nI tn) (htn2 : tn ≤ 9) : Met l yX11_sight wsX11_sight ({ frames := 6, cells := 5, slots := 18, locals := 139 } : Room) (va_Pc [.ref (ad 0), .int t, .int k, .int u] (hB D cA f sz)) (va_Ql (fun r f1 => (op_sight A B tn t k u).1 = r ∧ ∃ K1 G1, co cA ad K1 G1 f1 ∧ rp ad K1 G1 (op_sight A B tn t k u).2.1 (op_sight A B tn t k u).2.2 (N + 1) f1) (hE D f sz) (hA f sz)) 5 18 (hA f sz) := by
  refine h_of (cc := cX11_sight) (maxL := 6) (ret := (some .long)) (by decide +kernel) rfl (Nat.le_of_ble_eq_true rfl) ?_
  intro p e s m below meth c ls C hr hlk hnm hw hl
  have hx := C.1.1
  have hb := C.1.2.1
  have hl : lv_has ls 6 [(0, .ref (ad 0)), (1, .int t), (2, .int k), (3, .int u)] := hl
  have lk0 : Cond.fieldLink RX11 62 "FallingLight" "meteors" "[LFallingLight$Meteor;" ∈ wsX11_sight := by decide +kernel
  have lk1 : ∀ w ∈ u_ws RX11 TX11 11, w ∈ wsX11_sight := by decide +kernel
  have lk2 : Cond.fieldLink RX11 47 "FallingLight" "tape" "LFallingLight$Tape;" ∈ wsX11_sight := by decide +kernel
  have lk3 : Cond.fieldLink RX11 182 "FallingLight$Tape" "size" "I" ∈ wsX11_sight := by decide +kernel
  have lk4 : ∀ w ∈ u_ws RX7 TX7 2, w ∈ wsX11_sight := by decide +kernel
  obtain ⟨hI, hF, hS, hT, hP, hRw, hTp, hWd, hTr, hMt⟩ := id hr9
  obtain ⟨-, -, -, hrs, hso, hwy, hst, hdr, hpx, hpy⟩ := id hI
  refine lv_iload_n hx hb dX11_sight_0 rfl (lv_at hl 1 rfl) ?_
  refine h_calli hw (h_runS (n := 1) (As := [.int t]) (rest := []) C hw c_X11_isMeteor gX11_sight_X11_isMeteor rfl rfl rfl (by decide +kernel) ⟨by decide, by decide⟩ rfl hl.1 rfl (Nat.le_of_ble_eq_true rfl) dX11_sight_1 ⟨by first | decide | omega, by first | decide | omega⟩) (fun r1 f2 H locs hp hw => ?_)
  obtain ⟨rfl, rfl⟩ := hp
  refine n_ifeqB C (tgt := 21) dX11_sight_4 (by decide) (fun cq3 => ?_) (fun cq3 => ?_)
  · refine lv_aload_n hx hb dX11_sight_21 rfl (lv_at hl 0 rfl) ?_
    refine lv_iconst (v := nI 1) hx hb dX11_sight_22 (by decide) ?_
    refine h_calll hw (h_runV (n := 1) (As := [.int (nI 1)]) (rest := []) C hw (c_X11_finding hc (by omega)) gX11_sight_X11_finding rfl rfl rfl (by decide +kernel) ⟨by decide, by decide⟩ bX11 (co.a0 hc) rfl hl.1 rfl (Nat.le_of_ble_eq_true rfl) dX11_sight_23 ⟨by first | decide | omega, by first | decide | omega⟩) (fun r4 f5 H locs hp hw => ?_)
    obtain ⟨rfl, K6, hc, eK7, kp8⟩ := hp
    refine W.widen (k := 5) (n := 18) (by first | decide | omega | (dsimp only; omega)) (by first | decide | omega | (dsimp only; omega)) ?_
    exact h_lret C hr hlk hw (cop (by simp only [op_sight, if_neg cq3]) hc (rp_fnd hr9 eK7 (kp.tr (kp_le (hle.rf f)) kp8) (by decide) hN)) dX11_sight_26
  · obtain ⟨i, hi, rfl⟩ := inN (by decide) cq3
    obtain ⟨nk, hn, h8, hKk, hsn⟩ := hS i (by omega)
    have hct : ct A i = nk := by unfold ct; rw [h8, nI_clamp (by omega)]
    refine lv_iload_n hx hb dX11_sight_7 rfl (lv_at hl 2 rfl) ?_
    refine h_calli hw (h_runS (n := 1) (As := [.int k]) (rest := []) C hw c_X11_isKind gX11_sight_X11_isKind rfl rfl rfl (by decide +kernel) ⟨by decide, by decide⟩ rfl hl.1 rfl (Nat.le_of_ble_eq_true rfl) dX11_sight_8 ⟨by first | decide | omega, by first | decide | omega⟩) (fun r9 f10 H locs hp hw => ?_)
    obtain ⟨rfl, rfl⟩ := hp
    refine n_ifeqB C (tgt := 21) dX11_sight_11 (by decide) (fun cq11 => ?_) (fun cq11 => ?_)
    · refine lv_aload_n hx hb dX11_sight_21 rfl (lv_at hl 0 rfl) ?_
      refine lv_iconst (v := nI 1) hx hb dX11_sight_22 (by decide) ?_
      refine h_calll hw (h_runV (n := 1) (As := [.int (nI 1)]) (rest := []) C hw (c_X11_finding hc (by omega)) gX11_sight_X11_finding rfl rfl rfl (by decide +kernel) ⟨by decide, by decide⟩ bX11 (co.a0 hc) rfl hl.1 rfl (Nat.le_of_ble_eq_true rfl) dX11_sight_23 ⟨by first | decide | omega, by first | decide | omega⟩) (fun r12 f13 H locs hp hw => ?_)
      obtain ⟨rfl, K14, hc, eK15, kp16⟩ := hp
      refine W.widen (k := 5) (n := 18) (by first | decide | omega | (dsimp only; omega)) (by first | decide | omega | (dsimp only; omega)) ?_
      exact h_lret C hr hlk hw (cop (by simp only [op_sight, if_pos cq3, if_neg cq11]) hc (rp_fnd hr9 eK15 (kp.tr (kp_le (hle.rf f)) kp16) (by decide) hN)) dX11_sight_26
    · refine lv_iload_n hx hb dX11_sight_14 rfl (lv_at hl 3 rfl) ?_
      refine h_calli hw (h_runS (n := 1) (As := [.int u]) (rest := []) C hw c_X11_isStation gX11_sight_X11_isStation rfl rfl rfl (by decide +kernel) ⟨by decide, by decide⟩ rfl hl.1 rfl (Nat.le_of_ble_eq_true rfl) dX11_sight_15 ⟨by first | decide | omega, by first | decide | omega⟩) (fun r17 f18 H locs hp hw => ?_)
      obtain ⟨rfl, rfl⟩ := hp
      refine n_ifneB C (tgt := 27) dX11_sight_18 (by decide) (fun cq19 => ?_) (fun cq19 => ?_)
      · refine lv_aload_n hx hb dX11_sight_27 rfl (lv_at hl 0 rfl) ?_
        refine lv_aload_n hx hb dX11_sight_28 rfl (lv_at hl 0 rfl) ?_
        refine h_get C hw bX11 (co.a0 hc) lk1 7 (by decide) lk0 (v := .ref (ad 8)) rfl dX11_sight_29 ?_
        refine lv_iload_n hx hb dX11_sight_32 rfl (lv_at hl 1 rfl) ?_
        refine h_aldS C hw 5 rfl (co.a8 hc) (if_pos (by omega)) (show i < 6 from (by omega)) (by first | omega | decide) dX11_sight_33 ?_
        refine lv_iload_n hx hb dX11_sight_34 rfl (lv_at hl 2 rfl) ?_
        refine lv_iload_n hx hb dX11_sight_35 rfl (lv_at hl 3 rfl) ?_
        refine h_calll hw (h_runV (n := 3) (As := [.ref (ad (28 + i)), .int k, .int u]) (rest := []) C hw (c_X11_sightByTape (A := A) (B := B) (N := N) (tn := tn) (nk := nk) hc hr9 hN htn htn2 (by omega) h8 hn cq19) gX11_sight_X11_sightByTape rfl rfl rfl (by decide +kernel) ⟨by decide, by decide⟩ bX11 (co.a0 hc) rfl hl.1 rfl (Nat.le_of_ble_eq_true rfl) dX11_sight_36 ⟨by first | decide | omega, by first | decide | omega⟩) (fun r20 f21 H locs hp hw => ?_)
        obtain ⟨rfl, K22, G23, hc, hrp24⟩ := hp
        refine lv_lstore (lv' := [(4, _), (0, _), (1, _), (2, _), (3, _)]) hx hb dX11_sight_39 hl (by decide) rfl (fun ls hl => ?_)
        refine lv_aload_n hx hb dX11_sight_41 rfl (lv_at hl 1 rfl) ?_
        refine h_get C hw bX11 (co.a0 hc) lk1 5 (by decide) lk2 (v := .ref (ad 6)) rfl dX11_sight_42 ?_
        refine lv_iconst (v := nI 0) hx hb dX11_sight_45 (by decide) ?_
        refine h_put1 C hw bX7 (co.a6 hc) lk4 1 (by decide) lk3 rfl rfl rfl (Nat.le_of_ble_eq_true rfl) dX11_sight_46 (fun f25 H locs e26 hw => ?_)
        obtain ⟨K27, eK28, hc2⟩ := hc.upK 6 (κ := upd (K22 6) 0 (nI 0)) (e := eO 7 [.ref (ad 27), .int (nI 0)]) (by omega) rfl
        have hc3 := hc
        have hc := hc2.of e26
        have kpK27 := kp_up hc3 6 (by omega) e26
        have kfK27 := kp.tr (kp_le (hle.rf _)) kpK27
        have kn29 : K27 6 0 = nI 0 := by rw [eK28, va_up_self, pk_us]
        refine lv_lload hx hb dX11_sight_49 (lv_at hl 0 rfl) ?_
        refine W.widen (k := 5) (n := 18) (by first | decide | omega | (dsimp only; omega)) (by first | decide | omega | (dsimp only; omega)) ?_
        exact h_lret C hr hlk hw (cop (by simp only [op_sight, if_pos cq3, if_pos cq11, if_pos cq19, nI_clamp (show i < 2 ^ 31 by omega), hct]; exact sb_op A B tn i nk k u) hc (rp_t0 hrp24 kpK27 eK28)) dX11_sight_51
      · refine lv_aload_n hx hb dX11_sight_21 rfl (lv_at hl 0 rfl) ?_
        refine lv_iconst (v := nI 1) hx hb dX11_sight_22 (by decide) ?_
        refine h_calll hw (h_runV (n := 1) (As := [.int (nI 1)]) (rest := []) C hw (c_X11_finding hc (by omega)) gX11_sight_X11_finding rfl rfl rfl (by decide +kernel) ⟨by decide, by decide⟩ bX11 (co.a0 hc) rfl hl.1 rfl (Nat.le_of_ble_eq_true rfl) dX11_sight_23 ⟨by first | decide | omega, by first | decide | omega⟩) (fun r30 f31 H locs hp hw => ?_)
        obtain ⟨rfl, K32, hc, eK33, kp34⟩ := hp
        refine W.widen (k := 5) (n := 18) (by first | decide | omega | (dsimp only; omega)) (by first | decide | omega | (dsimp only; omega)) ?_
        exact h_lret C hr hlk hw (cop (by simp only [op_sight, if_pos cq3, if_pos cq11, if_neg cq19]) hc (rp_fnd hr9 eK33 (kp.tr (kp_le (hle.rf f)) kp34) (by decide) hN)) dX11_sight_26
