/-! ===== the class: sights and planes (laid by program) ===== -/
abbrev wyO (f : HF) (a : Nat) (w : Nat → Int64) : Prop := f a = some (eO 10 [.long (w 0), .long (w 1), .long (w 2)])
abbrev nz (w : Nat → Int64) : Prop := ¬ w 0 = 0 ∨ ¬ w 1 = 0 ∨ ¬ w 2 = 0
def crs (u v : Nat → Int64) (a : Nat) : Int64 := u ((a + 1) % 3) * v ((a + 2) % 3) - u ((a + 2) % 3) * v ((a + 1) % 3)
def crO (f : HF) (r : Option Nat) (w : Nat → Int64) : Prop := (nz w → ∃ x, r = some x ∧ wyO f x w) ∧ (¬ nz w → r = none)
theorem crO.so {f : HF} {x : Nat} {w : Nat → Int64} (h : crO f (some x) w) : nz w ∧ wyO f x w := by
  have h1 : nz w := Decidable.not_not.mp (fun h2 => by have := h.2 h2; cases this)
  obtain ⟨y, hy, h3⟩ := h.1 h1
  cases hy
  exact ⟨h1, h3⟩
theorem crO.no {f : HF} {w : Nat → Int64} (h : crO f none w) : ¬ nz w := fun h1 => by
  obtain ⟨y, hy, h3⟩ := h.1 h1
  cases hy
theorem crO.up {f f1 : HF} {r : Option Nat} {w : Nat → Int64} (h : crO f r w) (k : kp f f1) : crO f1 r w := ⟨fun h1 => by
  obtain ⟨y, hy, h3⟩ := h.1 h1
  exact ⟨y, hy, k _ _ _ (by omega) h3⟩, h.2⟩
theorem crO.of {f : HF} {x : Nat} {w : Nat → Int64} (h : wyO f x w) (hn : nz w) : crO f (some x) w := ⟨fun _ => ⟨x, rfl, h⟩, fun h1 => absurd hn h1⟩
theorem nz_f {w : Nat → Int64} (h : ¬ nz w) : w 0 = 0 ∧ w 1 = 0 ∧ w 2 = 0 := ⟨Decidable.not_not.mp (fun h1 => h (Or.inl h1)), Decidable.not_not.mp (fun h1 => h (Or.inr (Or.inl h1))), Decidable.not_not.mp (fun h1 => h (Or.inr (Or.inr h1)))⟩
theorem nz_i {w : Nat → Int64} (h : w 0 = 0 ∧ w 1 = 0 ∧ w 2 = 0) : ¬ nz w := fun h1 => by
  rcases h1 with h1 | h1 | h1
  · exact h1 h.1
  · exact h1 h.2.1
  · exact h1 h.2.2
theorem crs_z {u v : Nat → Int64} (h : (¬ nz u) ∨ ¬ nz v) : ¬ nz (crs u v) := by
  apply nz_i
  rcases h with h | h
  · obtain ⟨h0, h1, h2⟩ := nz_f h
    refine ⟨?_, ?_, ?_⟩
    · show u 1 * v 2 - u 2 * v 1 = 0; rw [h1, h2, Int64.zero_mul, Int64.zero_mul]; rfl
    · show u 2 * v 0 - u 0 * v 2 = 0; rw [h0, h2, Int64.zero_mul, Int64.zero_mul]; rfl
    · show u 0 * v 1 - u 1 * v 0 = 0; rw [h0, h1, Int64.zero_mul, Int64.zero_mul]; rfl
  · obtain ⟨h0, h1, h2⟩ := nz_f h
    refine ⟨?_, ?_, ?_⟩
    · show u 1 * v 2 - u 2 * v 1 = 0; rw [h1, h2, Int64.mul_zero, Int64.mul_zero]; rfl
    · show u 2 * v 0 - u 0 * v 2 = 0; rw [h0, h2, Int64.mul_zero, Int64.mul_zero]; rfl
    · show u 0 * v 1 - u 1 * v 0 = 0; rw [h0, h1, Int64.mul_zero, Int64.mul_zero]; rfl
/-- a sight's object, its ways and its plane -/
def sgO (A : MA) (f : HF) (b t : Nat) : Prop := ∃ bg en md pl, f b = some (eO 6 [.int (A 9 t), .int (A 10 t), .ref bg, .ref en, va_rf md, va_rf pl]) ∧ wyO f bg (wyA A t 0) ∧ wyO f en (wyA A t 1) ∧ (A 9 t = nI 1 → ∃ m1, md = some m1 ∧ wyO f m1 (wyA A t 2)) ∧ (¬ A 9 t = nI 1 → md = none) ∧ crO f pl (plA A t)
theorem sgO.up {A : MA} {f f1 : HF} {b t : Nat} (h : sgO A f b t) (k : kp f f1) : sgO A f1 b t := by
  obtain ⟨bg, en, md, pl, h1, h2, h3, h4, h5, h6⟩ := h
  refine ⟨bg, en, md, pl, k _ _ _ (by omega) h1, k _ _ _ (by omega) h2, k _ _ _ (by omega) h3, fun h7 => ?_, h5, h6.up k⟩
  obtain ⟨m1, h8, h9⟩ := h4 h7
  exact ⟨m1, h8, k _ _ _ (by omega) h9⟩
theorem sgO.cg {A A1 : MA} {f : HF} {b t : Nat} (h : sgO A f b t) (h9 : A1 9 t = A 9 t) (h10 : A1 10 t = A 10 t) (h11 : ∀ j, 9 * t ≤ j → j < 9 * t + 9 → A1 11 j = A 11 j) : sgO A1 f b t := by
  have hw : ∀ w a, w < 3 → a < 3 → wyA A1 t w a = wyA A t w a := fun w a hw ha => by unfold wyA; rw [h11 _ (by omega) (by omega)]
  have hp : ∀ a, plA A1 t a = plA A t a := fun a => by
    unfold plA
    rw [hw _ _ (by decide) (Nat.mod_lt _ (by decide)), hw _ _ (by decide) (Nat.mod_lt _ (by decide)), hw _ _ (by decide) (Nat.mod_lt _ (by decide)), hw _ _ (by decide) (Nat.mod_lt _ (by decide))]
  have hp2 : plA A1 t = plA A t := funext hp
  obtain ⟨bg, en, md, pl, h1, h2, h3, h4, h5, h6⟩ := h
  refine ⟨bg, en, md, pl, by rw [h9, h10]; exact h1, ?_, ?_, fun h7 => ?_, fun h7 => h5 (by rw [← h9]; exact h7), by rw [hp2]; exact h6⟩
  · unfold wyO; rw [hw 0 0 (by decide) (by decide), hw 0 1 (by decide) (by decide), hw 0 2 (by decide) (by decide)]; exact h2
  · unfold wyO; rw [hw 1 0 (by decide) (by decide), hw 1 1 (by decide) (by decide), hw 1 2 (by decide) (by decide)]; exact h3
  · obtain ⟨m1, h8, h12⟩ := h4 (by rw [← h9]; exact h7)
    exact ⟨m1, h8, by unfold wyO; rw [hw 2 0 (by decide) (by decide), hw 2 1 (by decide) (by decide), hw 2 2 (by decide) (by decide)]; exact h12⟩
def sAt (A : MA) (n i : Nat) (f : HF) (k : Int32) (r : Option Nat) : Prop := (∀ j, j < n → k = nI j → ∃ b, r = some b ∧ sgO A f b (4 * i + j)) ∧ (¬ rg (nI 0) (nI n - nI 1) k → r = none)
def sOf (A : MA) (f : HF) (t k : Int32) (r : Option Nat) : Prop := (∀ i j n, i < 6 → j < n → n ≤ 4 → A 8 i = nI n → t = nI i → k = nI j → ∃ b, r = some b ∧ sgO A f b (4 * i + j)) ∧ (¬ sgA A t k → r = none)
theorem sOf.no {A : MA} {f : HF} {t k : Int32} (h : sOf A f t k none) (hsg : ∀ j, j < 6 → ∃ c, c ≤ 4 ∧ A 8 j = nI c) : ¬ sgA A t k := fun h1 => by
  obtain ⟨i, j, n, hi, hj, hn, h8, rfl, rfl⟩ := sgN hsg h1
  obtain ⟨b, hb, -⟩ := h.1 i j n hi hj hn h8 rfl rfl
  cases hb
theorem sOf.so {A : MA} {f : HF} {t k : Int32} {x : Nat} (h : sOf A f t k (some x)) : sgA A t k := Decidable.not_not.mp (fun h1 => by have := h.2 h1; cases this)
/-- all sights -/
def sgs (K : KK) (G : GG) (A : MA) (f : HF) : Prop := ∀ i, i < 6 → ∃ n, n ≤ 4 ∧ A 8 i = nI n ∧ K (28 + i) 0 = nI n ∧ ∀ k, k < n → ∃ b, G (34 + i) k = some b ∧ sgO A f b (4 * i + k)
theorem sgs.hsg {K : KK} {G : GG} {A : MA} {f : HF} (h : sgs K G A f) : ∀ j, j < 6 → ∃ c, c ≤ 4 ∧ A 8 j = nI c := fun j hj => by
  obtain ⟨n, h1, h2, -⟩ := h j hj
  exact ⟨n, h1, h2⟩
theorem sgs.up {K K1 : KK} {G G1 : GG} {A : MA} {f f1 : HF} (h : sgs K G A f) (k : kp f f1) (hK : ∀ i, i < 6 → K1 (28 + i) = K (28 + i)) (hG : ∀ i, i < 6 → G1 (34 + i) = G (34 + i)) : sgs K1 G1 A f1 := fun i hi => by
  obtain ⟨n, h1, h2, h3, h4⟩ := h i hi
  refine ⟨n, h1, h2, by rw [hK i hi]; exact h3, fun j hj => ?_⟩
  obtain ⟨b, h5, h6⟩ := h4 j hj
  exact ⟨b, by rw [hG i hi]; exact h5, h6.up k⟩
/-- all stations -/
def sts (G : GG) (A : MA) (f : HF) : Prop := ∀ s, s < 4 → ∃ w, G 7 s = some w ∧ wyO f w (fun a => (A 7 (3 * s + a)).toInt64)
theorem sts.up {G G1 : GG} {A : MA} {f f1 : HF} (h : sts G A f) (k : kp f f1) (hG : G1 7 = G 7) : sts G1 A f1 := fun s hs => by
  obtain ⟨w, h1, h2⟩ := h s hs
  exact ⟨w, by rw [hG]; exact h1, k _ _ _ (by omega) h2⟩
theorem hle_sw {f g : HF} {a : Nat} {x : va_E} (h : hle (va_up f a (some x)) g) : hle f (va_up g a (f a)) := fun b e hb => by
  by_cases h1 : b = a
  · subst h1; rw [va_up_self]; exact hb
  · rw [va_up_ne _ _ h1]; exact h b e (by rw [va_up_ne _ _ h1]; exact hb)
theorem crO.put {f : HF} {r : Option Nat} {w : Nat → Int64} {a : Nat} {x y : va_E} (h : crO f r w) (ha : f a = some x) (hk : kd x ≠ 10) : crO (va_up f a (some y)) r w := ⟨fun h1 => by
  obtain ⟨z, hz, h3⟩ := h.1 h1
  exact ⟨z, hz, up_o rfl (ne_kd h3 ha (Ne.symm hk)) h3⟩, h.2⟩
theorem rgN {k : Int32} {nk : Nat} (hn : nk ≤ 12) (h0 : ¬ k < nI 0) (h1 : k < nI nk) : ∃ j, j < nk ∧ k = nI j := in1N (by omega) ((hs_eq hn).mp ⟨h0, h1⟩)
def fpO (A : MA) (f : HF) (i nk : Nat) (r : Option Nat) : Prop := (∀ k, fpA A i nk = some k → ∃ x, r = some x ∧ wyO f x (plA A (4 * i + k))) ∧ (fpA A i nk = none → r = none)
def fpW (A : MA) (i nk : Nat) : Nat → Int64 := match fpA A i nk with
  | some k => plA A (4 * i + k)
  | none => fun _ => 0
theorem fp_so {A : MA} {i nk k : Nat} (h : fpA A i nk = some k) : k < nk ∧ hpA A (4 * i + k) := by
  unfold fpA at h
  have h1 := List.find?_some h
  have h2 := List.mem_of_find?_eq_some h
  exact ⟨List.mem_range.mp h2, of_decide_eq_true h1⟩
theorem fpO.cr {A : MA} {f : HF} {i nk : Nat} {r : Option Nat} (h : fpO A f i nk r) : crO f r (fpW A i nk) := by
  unfold fpW
  cases h1 : fpA A i nk with
  | some k =>
    obtain ⟨x, hx, h2⟩ := h.1 k h1
    subst hx
    exact crO.of h2 (fp_so h1).2
  | none => exact ⟨fun h2 => absurd h2 (nz_i ⟨rfl, rfl, rfl⟩), fun _ => h.2 h1⟩
theorem fp_is {A : MA} {i nk k : Nat} (hk : k < nk) (h : hpA A (4 * i + k)) (hb : ∀ j, j < k → ¬ hpA A (4 * i + j)) : fpA A i nk = some k := by
  unfold fpA
  have h1 : List.range nk = List.range k ++ (k :: List.range' (k + 1) (nk - (k + 1))) := by
    rw [List.range_eq_range', List.range_eq_range', ← r_c hk]
    have h2 := List.range'_append_1 (s := 0) (m := k) (n := nk - k)
    rw [Nat.zero_add] at h2
    rw [h2]
    congr 1
    omega
  rw [h1, List.find?_append]
  have h3 : (List.range k).find? (fun j => decide (hpA A (4 * i + j))) = none := by
    rw [List.find?_eq_none]
    intro j hj
    rw [decide_eq_true_eq]
    exact hb j (List.mem_range.mp hj)
  rw [h3, List.find?_cons_of_pos (by rw [decide_eq_true_eq]; exact h)]
  rfl
theorem fp_no {A : MA} {i nk : Nat} (hb : ∀ j, j < nk → ¬ hpA A (4 * i + j)) : fpA A i nk = none := by
  unfold fpA
  rw [List.find?_eq_none]
  intro j hj
  rw [decide_eq_true_eq]
  exact hb j (List.mem_range.mp hj)
theorem of_eq {A : MA} {i nk u v : Nat} : ofB A i nk u v = true ↔ (∀ k, k < nk → dtA A (4 * i + k) u v = 0) ∧ (fpA A i nk).isSome = true := by
  unfold ofB
  rw [Bool.and_eq_true, List.all_eq_true]
  constructor
  · rintro ⟨h1, h2⟩
    exact ⟨fun k hk => of_decide_eq_true (h1 k (List.mem_range.mpr hk)), h2⟩
  · rintro ⟨h1, h2⟩
    exact ⟨fun k hk => decide_eq_true (h1 k (List.mem_range.mp hk)), h2⟩
theorem fpO_s {A : MA} {f : HF} {i nk x : Nat} (h : fpO A f i nk (some x)) : (fpA A i nk).isSome = true := by
  cases h1 : fpA A i nk with
  | none => have := h.2 h1; cases this
  | some k => rfl
theorem dt_z {A : MA} {t u v : Nat} (h : ¬ hpA A t) : dtA A t u v = 0 := by
  obtain ⟨h0, h1, h2⟩ := nz_f (w := plA A t) h
  unfold dtA
  rw [h0, h1, h2, Int64.zero_mul, Int64.zero_mul, Int64.zero_mul]
  rfl
set_option maxHeartbeats 4000000 in
set_option maxRecDepth 100000 in
theorem c_X11_crossing {l : Launch} {D : va_G} {cA : Nat → ClassId} {f : HF} {sz : Nat} {p1 q1 : Option Nat} {u v : Nat → Int64}  (hcp : crO f p1 u) (hcq : crO f q1 v) : Met l yX11_crossing wsX11_crossing ({ frames := 3, cells := 1, slots := 3, locals := 67 } : Room) (va_Pc [va_rf p1, va_rf q1] (hB D cA f sz)) (va_Qq (fun r f1 => hle f f1 ∧ crO f1 r (crs u v)) (hE D f sz) (hA f sz)) 1 3 (hA f sz) := by
  refine h_of (cc := cX11_crossing) (maxL := 3) (ret := (some (.object "FallingLight$Way"))) (by decide +kernel) rfl (by cases p1 <;> cases q1 <;> exact Nat.le_of_ble_eq_true rfl) ?_
  intro p e s m below meth c ls C hr hlk hnm hw hl
  have hx := C.1.1
  have hb := C.1.2.1
  have hl : lv_has ls 3 [(0, va_rf p1), (1, va_rf q1)] := by cases p1 <;> cases q1 <;> exact hl
  refine lv_aload_nQ hx hb dX11_crossing_0 rfl (lv_at hl 0 rfl) ?_
  refine n_ifnull C (tgt := 8) dX11_crossing_1 (by decide) (fun cq2 => ?_) (fun x1 cq2 => ?_)
  · subst cq2
    refine lv_null hx hb dX11_crossing_8 ?_
    refine W.widen (k := 1) (n := 3) (by first | decide | omega | (dsimp only; omega)) (by first | decide | omega | (dsimp only; omega)) ?_
    exact h_qret (v := none) C hr hlk hw (⟨(hle.rf f), fun h9 => absurd h9 (crs_z (Or.inl hcp.no)), fun _ => rfl⟩) dX11_crossing_9
  · subst cq2
    obtain ⟨nz1, hw1⟩ := hcp.so
    refine lv_aload_nQ hx hb dX11_crossing_4 rfl (lv_at hl 1 rfl) ?_
    refine n_ifnonnull C (tgt := 10) dX11_crossing_5 (by decide) (fun x3 cq4 => ?_) (fun cq4 => ?_)
    · subst cq4
      obtain ⟨nz2, hw2⟩ := hcq.so
      refine lv_aload_n hx hb dX11_crossing_10 rfl (lv_at hl 0 rfl) ?_
      refine lv_aload_n hx hb dX11_crossing_11 rfl (lv_at hl 1 rfl) ?_
      refine h_callq hw (h_runV (n := 1) (As := [.ref x3]) (rest := []) C hw (c_X10_cross hw1 hw2) gX11_crossing_X10_cross rfl rfl rfl (by decide +kernel) ⟨by decide, by decide⟩ bX10 hw1 rfl hl.1 rfl (Nat.le_of_ble_eq_true rfl) dX11_crossing_12 ⟨by first | decide | omega, by first | decide | omega⟩) (fun r5 f6 H locs hp hw => ?_)
      obtain ⟨le7, q8, rfl, k9, hq10⟩ := hp
      have n11 := ne_new hw1 hq10
      have n12 := ne_new hw2 hq10
      have fr13 := hle_no (hle.rf f) hq10
      have k14 := le7 _ _ hw1
      have k15 := le7 _ _ hw2
      have le16 := hle.tr (hle.rf f) le7
      refine lv_astore_n (lv' := [(2, _), (0, _), (1, _)]) hx hb dX11_crossing_15 rfl hl (by decide) rfl (fun ls hl => ?_)
      refine lv_aload_n hx hb dX11_crossing_16 rfl (lv_at hl 0 rfl) ?_
      refine h_calli hw (h_runV (n := 0) (As := []) (rest := []) C hw (c_X10_isZero k9) gX11_crossing_X10_isZero rfl rfl rfl (by decide +kernel) ⟨by decide, by decide⟩ bX10 k9 rfl hl.1 rfl (Nat.le_of_ble_eq_true rfl) dX11_crossing_17 ⟨by first | decide | omega, by first | decide | omega⟩) (fun r17 f18 H locs hp hw => ?_)
      obtain ⟨rfl, rfl⟩ := hp
      refine n_ifeqB C (tgt := 27) dX11_crossing_20 (by decide) (fun cq19 => ?_) (fun cq19 => ?_)
      · refine lv_aload_n hx hb dX11_crossing_27 rfl (lv_at hl 0 rfl) ?_
        refine W.widen (k := 1) (n := 3) (by first | decide | omega | (dsimp only; omega)) (by first | decide | omega | (dsimp only; omega)) ?_
        exact h_qret (v := some q8) C hr hlk hw (⟨le16, crO.of (w := crs u v) k9 (Decidable.not_not.mp (fun h9 => cq19 (nz_f (w := crs u v) h9)))⟩) dX11_crossing_28
      · refine lv_null hx hb dX11_crossing_23 ?_
        refine lv_goto (tgt := 28) hx hb dX11_crossing_24 (by decide) ?_
        refine W.widen (k := 1) (n := 3) (by first | decide | omega | (dsimp only; omega)) (by first | decide | omega | (dsimp only; omega)) ?_
        exact h_qret (v := none) C hr hlk hw (⟨le16, fun h9 => absurd h9 (nz_i cq19), fun _ => rfl⟩) dX11_crossing_28
    · subst cq4
      refine lv_null hx hb dX11_crossing_8 ?_
      refine W.widen (k := 1) (n := 3) (by first | decide | omega | (dsimp only; omega)) (by first | decide | omega | (dsimp only; omega)) ?_
      exact h_qret (v := none) C hr hlk hw (⟨(hle.rf f), fun h9 => absurd h9 (crs_z (Or.inr hcq.no)), fun _ => rfl⟩) dX11_crossing_9
set_option maxHeartbeats 4000000 in
set_option maxRecDepth 100000 in
theorem c_X6_init {l : Launch} {D : va_G} {cA : Nat → ClassId} {f : HF} {sz : Nat} {a bg en : Nat} {md : Option Nat} {kd1 so : Int32} {u v : Nat → Int64} {v0 v1 v2 v3 v4 v5 : Value}  (h0 : f a = some (eO 6 [v0, v1, v2, v3, v4, v5])) (h1 : wyO f bg u) (h2 : wyO f en v) (hu : nz u) (hv : nz v) : Met l yX6_init wsX6_init ({ frames := 4, cells := 1, slots := 3, locals := 89 } : Room) (va_Pc [.ref a, .int kd1, .int so, .ref bg, .ref en, va_rf md] (hB D cA f sz)) (va_Qv (fun f1 => ∃ fm pl, hle f fm ∧ crO fm pl (crs u v) ∧ f1 = va_up fm a (some (eO 6 [.int kd1, .int so, .ref bg, .ref en, va_rf md, va_rf pl]))) (hE D f sz) (hA f sz)) 1 3 (hA f sz) := by
  refine h_of (cc := cX6_init) (maxL := 6) (ret := none) (by decide +kernel) rfl (by cases md <;> exact Nat.le_of_ble_eq_true rfl) ?_
  intro p e s m below meth c ls C hr hlk hnm hw hl
  have hx := C.1.1
  have hb := C.1.2.1
  have hl : lv_has ls 6 [(0, .ref a), (1, .int kd1), (2, .int so), (3, .ref bg), (4, .ref en), (5, va_rf md)] := by cases md <;> exact hl
  have lk0 : Cond.methodLink RX6 1 objectInit ∈ wsX6_init := by decide +kernel
  have lk1 : Cond.instanceMethod objectInit ∈ wsX6_init := by decide +kernel
  have lk2 : Cond.code objectInit ⟨#[0xb1]⟩ 1 none ∈ wsX6_init := by decide +kernel
  have lk3 : Cond.fieldLink RX6 7 "FallingLight$Sight" "kind" "I" ∈ wsX6_init := by decide +kernel
  have lk4 : ∀ w ∈ u_ws RX6 TX6 6, w ∈ wsX6_init := by decide +kernel
  have lk5 : Cond.fieldLink RX6 13 "FallingLight$Sight" "station" "I" ∈ wsX6_init := by decide +kernel
  have lk6 : Cond.fieldLink RX6 16 "FallingLight$Sight" "begin" "LFallingLight$Way;" ∈ wsX6_init := by decide +kernel
  have lk7 : Cond.fieldLink RX6 20 "FallingLight$Sight" "end" "LFallingLight$Way;" ∈ wsX6_init := by decide +kernel
  have lk8 : Cond.fieldLink RX6 23 "FallingLight$Sight" "middle" "LFallingLight$Way;" ∈ wsX6_init := by decide +kernel
  have lk9 : Cond.static yX11_crossing ∈ wsX6_init := by decide +kernel
  have lk10 : Cond.initialized RX11 ∈ wsX6_init := by decide +kernel
  have lk11 : Cond.fieldLink RX6 32 "FallingLight$Sight" "plane" "LFallingLight$Way;" ∈ wsX6_init := by decide +kernel
  refine lv_aload_n hx hb dX6_init_0 rfl (lv_at hl 0 rfl) ?_
  refine W.objInit hx hb C.1.2.2.2.1 (C.1.2.2.2.2 _ lk0) (C.1.2.2.2.2 _ lk1) (C.1.2.2.2.2 _ lk2) rfl (hl.1.trans C.1.2.2.1.symm) rfl dX6_init_1 (Nat.le_of_ble_eq_true rfl) (Nat.le_of_ble_eq_true rfl) ?_
  refine W.eq (g2 := F0 m 4 ls []) rfl ?_
  refine lv_aload_n hx hb dX6_init_4 rfl (lv_at hl 0 rfl) ?_
  refine lv_iload_n hx hb dX6_init_5 rfl (lv_at hl 1 rfl) ?_
  refine h_putF1 C hw bX6 h0 lk4 0 (by decide) lk3 rfl hnm rfl rfl rfl (Nat.le_of_ble_eq_true rfl) dX6_init_6 (fun f1 H locs e2 hw => ?_)
  have k3 := up_o e2 (ne_kd h1 h0 (Nat.ne_of_beq_eq_false rfl)) h1
  have k4 := up_o e2 (ne_kd h2 h0 (Nat.ne_of_beq_eq_false rfl)) h2
  have k5 : f1 a = some (eO 6 [.int kd1, v1, v2, v3, v4, v5]) := up_s e2
  refine lv_aload_n hx hb dX6_init_9 rfl (lv_at hl 0 rfl) ?_
  refine lv_iload_n hx hb dX6_init_10 rfl (lv_at hl 2 rfl) ?_
  refine h_putF1 C hw bX6 k5 lk4 1 (by decide) lk5 rfl hnm rfl rfl rfl (Nat.le_of_ble_eq_true rfl) dX6_init_11 (fun f6 H locs e7 hw => ?_)
  have k8 := up_o e7 (ne_kd k3 k5 (Nat.ne_of_beq_eq_false rfl)) k3
  have k9 := up_o e7 (ne_kd k4 k5 (Nat.ne_of_beq_eq_false rfl)) k4
  have k10 : f6 a = some (eO 6 [.int kd1, .int so, v2, v3, v4, v5]) := up_s e7
  refine lv_aload_n hx hb dX6_init_14 rfl (lv_at hl 0 rfl) ?_
  refine lv_aload_n hx hb dX6_init_15 rfl (lv_at hl 3 rfl) ?_
  refine h_putF1 C hw bX6 k10 lk4 2 (by decide) lk6 rfl hnm rfl rfl rfl (Nat.le_of_ble_eq_true rfl) dX6_init_16 (fun f11 H locs e12 hw => ?_)
  have k13 := up_o e12 (ne_kd k8 k10 (Nat.ne_of_beq_eq_false rfl)) k8
  have k14 := up_o e12 (ne_kd k9 k10 (Nat.ne_of_beq_eq_false rfl)) k9
  have k15 : f11 a = some (eO 6 [.int kd1, .int so, .ref bg, v3, v4, v5]) := up_s e12
  refine lv_aload_n hx hb dX6_init_19 rfl (lv_at hl 0 rfl) ?_
  refine lv_aload hx hb dX6_init_20 (lv_at hl 4 rfl) ?_
  refine h_putF1 C hw bX6 k15 lk4 3 (by decide) lk7 rfl hnm rfl rfl rfl (Nat.le_of_ble_eq_true rfl) dX6_init_22 (fun f16 H locs e17 hw => ?_)
  have k18 := up_o e17 (ne_kd k13 k15 (Nat.ne_of_beq_eq_false rfl)) k13
  have k19 := up_o e17 (ne_kd k14 k15 (Nat.ne_of_beq_eq_false rfl)) k14
  have k20 : f16 a = some (eO 6 [.int kd1, .int so, .ref bg, .ref en, v4, v5]) := up_s e17
  refine lv_aload_n hx hb dX6_init_25 rfl (lv_at hl 0 rfl) ?_
  refine lv_aloadQ hx hb dX6_init_26 (lv_at hl 5 rfl) ?_
  refine h_putF1 C hw bX6 k20 lk4 4 (by decide) lk8 rfl hnm rfl (rf_nar _) (rf_fit _) (Nat.le_of_ble_eq_true rfl) dX6_init_28 (fun f21 H locs e22 hw => ?_)
  have k23 := up_o e22 (ne_kd k18 k20 (Nat.ne_of_beq_eq_false rfl)) k18
  have k24 := up_o e22 (ne_kd k19 k20 (Nat.ne_of_beq_eq_false rfl)) k19
  have k25 : f21 a = some (eO 6 [.int kd1, .int so, .ref bg, .ref en, va_rf md, v5]) := up_s e22
  refine lv_aload_n hx hb dX6_init_31 rfl (lv_at hl 0 rfl) ?_
  refine lv_aload_n hx hb dX6_init_32 rfl (lv_at hl 3 rfl) ?_
  refine lv_aload hx hb dX6_init_33 (lv_at hl 4 rfl) ?_
  have hcb : crO f21 (some bg) u := crO.of k23 hu
  have hce : crO f21 (some en) v := crO.of k24 hv
  refine h_callq hw (h_runSN (n := 2) (As := [va_rf (some bg), va_rf (some en)]) (rest := [.ref a]) C hw (c_X11_crossing hcb hce) gX6_init_X11_crossing_n26 rfl rfl rfl C.2.2.2.1 lk9 lk10 (by decide +kernel) ⟨by decide, by decide⟩ rfl hl.1 rfl (Nat.le_of_ble_eq_true rfl) dX6_init_35 ⟨by first | decide | omega, by first | decide | omega⟩) (fun r26 f27 H locs hp hw => ?_)
  obtain ⟨le28, hcr29⟩ := hp
  have k30 := le28 _ _ k23
  have k31 := le28 _ _ k24
  have k32 := le28 _ _ k25
  have hcb := hcb.up (kp_le le28)
  have hce := hce.up (kp_le le28)
  refine h_putF1 C hw bX6 k32 lk4 5 (by decide) lk11 rfl hnm rfl (rf_nar _) (rf_fit _) (Nat.le_of_ble_eq_true rfl) dX6_init_38 (fun f33 H locs e34 hw => ?_)
  have k35 := up_o e34 (ne_kd k30 k32 (Nat.ne_of_beq_eq_false rfl)) k30
  have k36 := up_o e34 (ne_kd k31 k32 (Nat.ne_of_beq_eq_false rfl)) k31
  have k37 : f33 a = some (eO 6 [.int kd1, .int so, .ref bg, .ref en, va_rf md, va_rf r26]) := up_s e34
  refine W.widen (k := 1) (n := 3) (by first | decide | omega | (dsimp only; omega)) (by first | decide | omega | (dsimp only; omega)) ?_
  have hpf : f21 = va_up f a (some (eO 6 [.int kd1, .int so, .ref bg, .ref en, va_rf md, v5])) := by rw [e22, e17, e12, e7, e2]; simp only [va_up2]; rfl
  have hlf := hle_sw (by rw [hpf] at le28; exact le28)
  exact h_vret C hr hlk hw (⟨va_up f27 a (f a), _, hlf, (by rw [h0]; exact crO.put hcr29 k32 (Nat.ne_of_beq_eq_false rfl)), by rw [e34, va_up2]; rfl⟩) dX6_init_41
set_option maxHeartbeats 4000000 in
set_option maxRecDepth 100000 in
theorem c_X3_sightAt {l : Launch} {D : va_G} {cA : Nat → ClassId} {f : HF} {sz : Nat} {a sa nk i : Nat} {A : MA} {γ : Nat → Option Nat} {k : Int32}  (h0 : f a = some (eO 3 [.ref sa, .int (nI nk)])) (h1 : f sa = some (eQ cA 6 4 γ)) (hn : nk ≤ 4) (hs : ∀ k, k < nk → ∃ b, γ k = some b ∧ sgO A f b (4 * i + k)) : Met l yX3_sightAt wsX3_sightAt ({ frames := 0, cells := 0, slots := 0, locals := 0 } : Room) (va_Pc [.ref a, .int k] (hB D cA f sz)) (va_Qq (fun r f1 => sAt A nk i f k r ∧ f = f1) (hE D f sz) (hA f sz)) 0 0 (hA f sz) := by
  refine h_of (cc := cX3_sightAt) (maxL := 2) (ret := (some (.object "FallingLight$Sight"))) (by decide +kernel) rfl (Nat.le_of_ble_eq_true rfl) ?_
  intro p e s m below meth c ls C hr hlk hnm hw hl
  have hx := C.1.1
  have hb := C.1.2.1
  have hl : lv_has ls 2 [(0, .ref a), (1, .int k)] := hl
  have lk0 : Cond.fieldLink RX3 17 "FallingLight$Meteor" "size" "I" ∈ wsX3_sightAt := by decide +kernel
  have lk1 : ∀ w ∈ u_ws RX3 TX3 2, w ∈ wsX3_sightAt := by decide +kernel
  have lk2 : Cond.fieldLink RX3 11 "FallingLight$Meteor" "sights" "[LFallingLight$Sight;" ∈ wsX3_sightAt := by decide +kernel
  refine lv_iload_n hx hb dX3_sightAt_0 rfl (lv_at hl 1 rfl) ?_
  refine lv_if_lt (tgt := 21) hx hb dX3_sightAt_1 (by decide) (fun cq1 => ?_) (fun cq1 => ?_)
  · refine lv_null hx hb dX3_sightAt_21 ?_
    exact h_qret (v := none) C hr hlk hw (⟨⟨fun j2 hj2 e2 => absurd cq1 (by rw [e2]; exact nI_pos (by omega)), fun _ => rfl⟩, rfl⟩) dX3_sightAt_22
  · refine lv_iload_n hx hb dX3_sightAt_4 rfl (lv_at hl 1 rfl) ?_
    refine lv_aload_n hx hb dX3_sightAt_5 rfl (lv_at hl 0 rfl) ?_
    refine h_get C hw bX3 h0 lk1 1 (by decide) lk0 (v := .int (nI nk)) rfl dX3_sightAt_6 ?_
    refine lv_icmp_ge (tgt := 21) hx hb dX3_sightAt_9 (by decide) (fun cq2 => ?_) (fun cq2 => ?_)
    · refine lv_null hx hb dX3_sightAt_21 ?_
      exact h_qret (v := none) C hr hlk hw (⟨⟨fun j2 hj2 e2 => absurd cq2 (by rw [e2]; exact Int32.not_le.mpr ((nI_ltI (by omega) (by omega)).mpr hj2)), fun _ => rfl⟩, rfl⟩) dX3_sightAt_22
    · obtain ⟨j, hj, rfl⟩ := rgN (by omega) cq1 (Int32.not_le.mp cq2)
      obtain ⟨b, hgb, hsb⟩ := hs j hj
      refine lv_aload_n hx hb dX3_sightAt_12 rfl (lv_at hl 0 rfl) ?_
      refine h_get C hw bX3 h0 lk1 0 (by decide) lk2 (v := .ref sa) rfl dX3_sightAt_13 ?_
      refine lv_iload_n hx hb dX3_sightAt_16 rfl (lv_at hl 1 rfl) ?_
      refine h_aldS C hw 6 rfl h1 hgb (show j < 4 from (by omega)) (by first | omega | decide) dX3_sightAt_17 ?_
      refine lv_goto (tgt := 22) hx hb dX3_sightAt_18 (by decide) ?_
      exact h_qret (v := some b) C hr hlk hw (⟨⟨fun j2 hj2 e2 => ⟨b, rfl, by rw [← (nI_eq (by omega) (by omega)).mp e2]; exact hsb⟩, fun h9 => absurd ((hs_eq (by omega)).mp ⟨nI_pos (by omega), (nI_ltI (by omega) (by omega)).mpr hj⟩) h9⟩, rfl⟩) dX3_sightAt_22
set_option maxHeartbeats 4000000 in
set_option maxRecDepth 100000 in
theorem c_X3_planeAt {l : Launch} {D : va_G} {cA : Nat → ClassId} {f : HF} {sz : Nat} {a sa nk i : Nat} {A : MA} {γ : Nat → Option Nat} {j : Nat}  (h0 : f a = some (eO 3 [.ref sa, .int (nI nk)])) (h1 : f sa = some (eQ cA 6 4 γ)) (hn : nk ≤ 4) (hs : ∀ k, k < nk → ∃ b, γ k = some b ∧ sgO A f b (4 * i + k)) (hj : j < nk) : Met l yX3_planeAt wsX3_planeAt ({ frames := 1, cells := 0, slots := 0, locals := 21 } : Room) (va_Pc [.ref a, .int (nI j)] (hB D cA f sz)) (va_Qq (fun r f1 => crO f r (plA A (4 * i + j)) ∧ f = f1) (hE D f sz) (hA f sz)) 0 0 (hA f sz) := by
  refine h_of (cc := cX3_planeAt) (maxL := 3) (ret := (some (.object "FallingLight$Way"))) (by decide +kernel) rfl (Nat.le_of_ble_eq_true rfl) ?_
  intro p e s m below meth c ls C hr hlk hnm hw hl
  have hx := C.1.1
  have hb := C.1.2.1
  have hl : lv_has ls 3 [(0, .ref a), (1, .int (nI j))] := hl
  have lk0 : Cond.fieldLink RX3 39 "FallingLight$Sight" "plane" "LFallingLight$Way;" ∈ wsX3_planeAt := by decide +kernel
  have lk1 : ∀ w ∈ u_ws RX6 TX6 6, w ∈ wsX3_planeAt := by decide +kernel
  refine lv_aload_n hx hb dX3_planeAt_0 rfl (lv_at hl 0 rfl) ?_
  refine lv_iload_n hx hb dX3_planeAt_1 rfl (lv_at hl 1 rfl) ?_
  refine h_callq hw (h_runV (n := 1) (As := [.int (nI j)]) (rest := []) C hw (c_X3_sightAt h0 h1 hn hs) gX3_planeAt_X3_sightAt rfl rfl rfl (by decide +kernel) ⟨by decide, by decide⟩ bX3 h0 rfl hl.1 rfl (Nat.le_of_ble_eq_true rfl) dX3_planeAt_2 ⟨by first | decide | omega, by first | decide | omega⟩) (fun r1 f2 H locs hp hw => ?_)
  obtain ⟨hsa3, rfl⟩ := hp
  refine lv_astore_nQ (lv' := [(2, _), (0, _), (1, _)]) hx hb dX3_planeAt_5 rfl hl (by decide) rfl (fun ls hl => ?_)
  refine lv_aload_nQ hx hb dX3_planeAt_6 rfl (lv_at hl 0 rfl) ?_
  refine n_ifnonnull C (tgt := 14) dX3_planeAt_7 (by decide) (fun x4 cq5 => ?_) (fun cq5 => ?_)
  · subst cq5
    obtain ⟨b, hb0, hsb⟩ := hsa3.1 j hj rfl
    cases hb0
    obtain ⟨bg, en, md, pl, ho, hbg, hen, hmy, hmn, hpl⟩ := hsb
    refine lv_aload_n hx hb dX3_planeAt_14 rfl (lv_at hl 0 rfl) ?_
    refine h_get C hw bX6 ho lk1 5 (by decide) lk0 (v := va_rf pl) rfl dX3_planeAt_15 ?_
    exact h_qret (v := pl) C hr hlk hw (⟨hpl, rfl⟩) dX3_planeAt_18
  · subst cq5
    obtain ⟨b, hb0, hsb⟩ := hsa3.1 j hj rfl; cases hb0
set_option maxHeartbeats 4000000 in
set_option maxRecDepth 100000 in
theorem c_X3_firstPlane {l : Launch} {D : va_G} {cA : Nat → ClassId} {f : HF} {sz : Nat} {a sa nk i : Nat} {A : MA} {γ : Nat → Option Nat}  (h0 : f a = some (eO 3 [.ref sa, .int (nI nk)])) (h1 : f sa = some (eQ cA 6 4 γ)) (hn : nk ≤ 4) (hs : ∀ k, k < nk → ∃ b, γ k = some b ∧ sgO A f b (4 * i + k)) : Met l yX3_firstPlane wsX3_firstPlane ({ frames := 2, cells := 0, slots := 0, locals := 43 } : Room) (va_Pc [.ref a] (hB D cA f sz)) (va_Qq (fun r f1 => fpO A f i nk r ∧ f = f1) (hE D f sz) (hA f sz)) 0 0 (hA f sz) := by
  refine h_of (cc := cX3_firstPlane) (maxL := 3) (ret := (some (.object "FallingLight$Way"))) (by decide +kernel) rfl (Nat.le_of_ble_eq_true rfl) ?_
  intro p e s m below meth c ls C hr hlk hnm hw hl
  have hx := C.1.1
  have hb := C.1.2.1
  have hl : lv_has ls 3 [(0, .ref a)] := hl
  have lk0 : Cond.fieldLink RX3 17 "FallingLight$Meteor" "size" "I" ∈ wsX3_firstPlane := by decide +kernel
  have lk1 : ∀ w ∈ u_ws RX3 TX3 2, w ∈ wsX3_firstPlane := by decide +kernel
  refine lv_iconst (v := nI 0) hx hb dX3_firstPlane_0 (by decide) ?_
  refine lv_istore_n (lv' := [(1, _), (0, _)]) hx hb dX3_firstPlane_1 rfl hl (by decide) rfl (fun ls hl => ?_)
  have lp2 : ∀ (n : Nat) (k : Nat) (H1 : Heap) (locs1 : List Loc) (ls1 : Array Slot), hW D (hA f sz) s.heap f H1 locs1 → lv_has ls1 3 [(0, .ref a), (1, .int (nI k))] → (k ≤ nk) → (∀ j, j < k → ¬ hpA A (4 * i + j)) → nk - k < n → W p l e ({ frames := 2, cells := 0, slots := 0, locals := 43 } : Room) s m ([.ref a]).toArray below meth c H1 locs1 0 0 (MQ below (va_Qq (fun r f1 => fpO A f i nk r ∧ f = f1) (hE D f sz) (hA f sz)) ([.ref a]).toArray s 0 0 (hA f sz)) (F0 m 2 ls1 []) := by
    intro n
    induction n with
    | zero => intros; omega
    | succ n ih2 =>
      intro k H locs ls hw hl hk hall hmu
      refine lv_iload_n hx hb dX3_firstPlane_2 rfl (lv_at hl 1 rfl) ?_
      refine lv_aload_n hx hb dX3_firstPlane_3 rfl (lv_at hl 0 rfl) ?_
      refine h_get C hw bX3 h0 lk1 1 (by decide) lk0 (v := .int (nI nk)) rfl dX3_firstPlane_4 ?_
      refine n_cge C (by omega) (by omega) (tgt := 28) dX3_firstPlane_7 (by decide) (fun cq1 => ?_) (fun cq1 => ?_)
      · refine lv_null hx hb dX3_firstPlane_28 ?_
        exact h_qret (v := none) C hr hlk hw (⟨⟨fun k2 h2 => (by rw [fp_no (fun j hj => hall j (by omega))] at h2; cases h2), fun _ => rfl⟩, rfl⟩) dX3_firstPlane_29
      · refine lv_aload_n hx hb dX3_firstPlane_10 rfl (lv_at hl 0 rfl) ?_
        refine lv_iload_n hx hb dX3_firstPlane_11 rfl (lv_at hl 1 rfl) ?_
        refine h_callq hw (h_runV (n := 1) (As := [.int (nI k)]) (rest := []) C hw (c_X3_planeAt h0 h1 hn hs (by omega)) gX3_firstPlane_X3_planeAt rfl rfl rfl (by decide +kernel) ⟨by decide, by decide⟩ bX3 h0 rfl hl.1 rfl (Nat.le_of_ble_eq_true rfl) dX3_firstPlane_12 ⟨by first | decide | omega, by first | decide | omega⟩) (fun r2 f3 H locs hp hw => ?_)
        obtain ⟨hcr4, rfl⟩ := hp
        refine lv_astore_nQ (lv' := [(2, _), (0, _), (1, _)]) hx hb dX3_firstPlane_15 rfl hl (by decide) rfl (fun ls hl => ?_)
        refine lv_aload_nQ hx hb dX3_firstPlane_16 rfl (lv_at hl 0 rfl) ?_
        refine n_ifnull C (tgt := 22) dX3_firstPlane_17 (by decide) (fun cq6 => ?_) (fun x5 cq6 => ?_)
        · subst cq6
          have hno := hcr4.no
          refine n_iinc C (lv' := [(1, _), (2, _), (0, _)]) dX3_firstPlane_22 hl (k := 2) rfl (by decide) rfl (fun ls hl => ?_)
          refine lv_goto (tgt := 2) hx hb dX3_firstPlane_25 (by decide) ?_
          exact ih2 (k + 1) _ _ _ hw (lv_sub hl [2, 0] rfl) (by omega) (fun j hj => (Nat.lt_succ_iff_lt_or_eq.mp hj).elim (hall j) (fun e9 => by rw [e9]; exact hno)) (by omega)
        · subst cq6
          obtain ⟨hnz, hwx⟩ := hcr4.so
          have hfi := fp_is (A := A) (i := i) (nk := nk) (by omega) hnz hall
          refine lv_aload_n hx hb dX3_firstPlane_20 rfl (lv_at hl 0 rfl) ?_
          exact h_qret (v := some x5) C hr hlk hw (⟨⟨fun k2 h2 => ⟨_, rfl, (by rw [hfi] at h2; cases h2; exact hwx)⟩, fun h2 => (by rw [hfi] at h2; cases h2)⟩, rfl⟩) dX3_firstPlane_21
  exact lp2 _ 0 _ _ _ hw (lv_sub hl [1, 0] rfl) (by omega) (fun j hj => absurd hj (by omega)) (Nat.lt_succ_self _)
set_option maxHeartbeats 4000000 in
set_option maxRecDepth 100000 in
theorem c_X3_comesFrom {l : Launch} {D : va_G} {cA : Nat → ClassId} {f : HF} {sz : Nat} {a sa nk i : Nat} {A : MA} {γ : Nat → Option Nat} {u v b2 : Nat}  (h0 : f a = some (eO 3 [.ref sa, .int (nI nk)])) (h1 : f sa = some (eQ cA 6 4 γ)) (hn : nk ≤ 4) (hs : ∀ k, k < nk → ∃ b, γ k = some b ∧ sgO A f b (4 * i + k)) (hso : wyO f b2 (faA A u v)) : Met l yX3_comesFrom wsX3_comesFrom ({ frames := 3, cells := 0, slots := 0, locals := 65 } : Room) (va_Pc [.ref a, .ref b2] (hB D cA f sz)) (va_Qi (fun r f1 => bI (ofB A i nk u v = true) = r ∧ f = f1) (hE D f sz) (hA f sz)) 0 0 (hA f sz) := by
  refine h_of (cc := cX3_comesFrom) (maxL := 4) (ret := (some .boolean)) (by decide +kernel) rfl (Nat.le_of_ble_eq_true rfl) ?_
  intro p e s m below meth c ls C hr hlk hnm hw hl
  have hx := C.1.1
  have hb := C.1.2.1
  have hl : lv_has ls 4 [(0, .ref a), (1, .ref b2)] := hl
  have lk0 : Cond.fieldLink RX3 17 "FallingLight$Meteor" "size" "I" ∈ wsX3_comesFrom := by decide +kernel
  have lk1 : ∀ w ∈ u_ws RX3 TX3 2, w ∈ wsX3_comesFrom := by decide +kernel
  refine lv_iconst (v := nI 0) hx hb dX3_comesFrom_0 (by decide) ?_
  refine lv_istore_n (lv' := [(2, _), (0, _), (1, _)]) hx hb dX3_comesFrom_1 rfl hl (by decide) rfl (fun ls hl => ?_)
  have lp2 : ∀ (n : Nat) (k : Nat) (H1 : Heap) (locs1 : List Loc) (ls1 : Array Slot), hW D (hA f sz) s.heap f H1 locs1 → lv_has ls1 4 [(0, .ref a), (1, .ref b2), (2, .int (nI k))] → (k ≤ nk) → (∀ j, j < k → dtA A (4 * i + j) u v = 0) → nk - k < n → W p l e ({ frames := 3, cells := 0, slots := 0, locals := 65 } : Room) s m ([.ref a, .ref b2]).toArray below meth c H1 locs1 0 0 (MQ below (va_Qi (fun r f1 => bI (ofB A i nk u v = true) = r ∧ f = f1) (hE D f sz) (hA f sz)) ([.ref a, .ref b2]).toArray s 0 0 (hA f sz)) (F0 m 2 ls1 []) := by
    intro n
    induction n with
    | zero => intros; omega
    | succ n ih2 =>
      intro k H locs ls hw hl hk hall hmu
      refine lv_iload_n hx hb dX3_comesFrom_2 rfl (lv_at hl 2 rfl) ?_
      refine lv_aload_n hx hb dX3_comesFrom_3 rfl (lv_at hl 0 rfl) ?_
      refine h_get C hw bX3 h0 lk1 1 (by decide) lk0 (v := .int (nI nk)) rfl dX3_comesFrom_4 ?_
      refine n_cge C (by omega) (by omega) (tgt := 38) dX3_comesFrom_7 (by decide) (fun cq1 => ?_) (fun cq1 => ?_)
      · refine lv_aload_n hx hb dX3_comesFrom_38 rfl (lv_at hl 0 rfl) ?_
        refine h_callq hw (h_runV (n := 0) (As := []) (rest := []) C hw (c_X3_firstPlane h0 h1 hn hs) gX3_comesFrom_X3_firstPlane rfl rfl rfl (by decide +kernel) ⟨by decide, by decide⟩ bX3 h0 rfl hl.1 rfl (Nat.le_of_ble_eq_true rfl) dX3_comesFrom_39 ⟨by first | decide | omega, by first | decide | omega⟩) (fun r2 f3 H locs hp hw => ?_)
        obtain ⟨hfp4, rfl⟩ := hp
        refine n_ifnull C (tgt := 49) dX3_comesFrom_42 (by decide) (fun cq6 => ?_) (fun x5 cq6 => ?_)
        · subst cq6
          refine lv_iconst (v := nI 0) hx hb dX3_comesFrom_49 (by decide) ?_
          exact h_zret C hr (by first | rfl | decide) hlk hw (⟨bI_f (fun h9 => by obtain ⟨k9, h8⟩ := Option.isSome_iff_exists.mp (of_eq.mp h9).2; obtain ⟨x9, h7, -⟩ := (show fpO A f i nk none from hfp4).1 k9 h8; cases h7), rfl⟩) dX3_comesFrom_50
        · subst cq6
          refine lv_iconst (v := nI 1) hx hb dX3_comesFrom_45 (by decide) ?_
          refine lv_goto (tgt := 50) hx hb dX3_comesFrom_46 (by decide) ?_
          exact h_zret C hr (by first | rfl | decide) hlk hw (⟨bI_t (of_eq.mpr ⟨fun k2 hk2 => hall k2 (by omega), fpO_s hfp4⟩), rfl⟩) dX3_comesFrom_50
      · refine lv_aload_n hx hb dX3_comesFrom_10 rfl (lv_at hl 0 rfl) ?_
        refine lv_iload_n hx hb dX3_comesFrom_11 rfl (lv_at hl 2 rfl) ?_
        refine h_callq hw (h_runV (n := 1) (As := [.int (nI k)]) (rest := []) C hw (c_X3_planeAt h0 h1 hn hs (by omega)) gX3_comesFrom_X3_planeAt rfl rfl rfl (by decide +kernel) ⟨by decide, by decide⟩ bX3 h0 rfl hl.1 rfl (Nat.le_of_ble_eq_true rfl) dX3_comesFrom_12 ⟨by first | decide | omega, by first | decide | omega⟩) (fun r7 f8 H locs hp hw => ?_)
        obtain ⟨hcr9, rfl⟩ := hp
        refine lv_astore_nQ (lv' := [(3, _), (0, _), (1, _), (2, _)]) hx hb dX3_comesFrom_15 rfl hl (by decide) rfl (fun ls hl => ?_)
        refine lv_aload_nQ hx hb dX3_comesFrom_16 rfl (lv_at hl 0 rfl) ?_
        refine n_ifnull C (tgt := 32) dX3_comesFrom_17 (by decide) (fun cq11 => ?_) (fun x10 cq11 => ?_)
        · subst cq11
          have hz : dtA A (4 * i + k) u v = 0 := dt_z hcr9.no
          refine n_iinc C (lv' := [(2, _), (3, _), (0, _), (1, _)]) dX3_comesFrom_32 hl (k := 3) rfl (by decide) rfl (fun ls hl => ?_)
          refine lv_goto (tgt := 2) hx hb dX3_comesFrom_35 (by decide) ?_
          exact ih2 (k + 1) _ _ _ hw (lv_sub hl [2, 3, 0] rfl) (by omega) (fun j hj => (Nat.lt_succ_iff_lt_or_eq.mp hj).elim (hall j) (fun e9 => by rw [e9]; exact hz)) (by omega)
        · subst cq11
          obtain ⟨hnz, hwx⟩ := hcr9.so
          refine lv_aload_n hx hb dX3_comesFrom_20 rfl (lv_at hl 0 rfl) ?_
          refine lv_aload_n hx hb dX3_comesFrom_21 rfl (lv_at hl 2 rfl) ?_
          refine h_calll hw (h_runV (n := 1) (As := [.ref b2]) (rest := []) C hw (c_X10_dot hwx hso) gX3_comesFrom_X10_dot rfl rfl rfl (by decide +kernel) ⟨by decide, by decide⟩ bX10 hwx rfl hl.1 rfl (Nat.le_of_ble_eq_true rfl) dX3_comesFrom_22 ⟨by first | decide | omega, by first | decide | omega⟩) (fun r12 f13 H locs hp hw => ?_)
          obtain ⟨rfl, rfl⟩ := hp
          refine lv_lconst (v := 0) hx hb dX3_comesFrom_25 (by decide) ?_
          refine W.lcmp hx hb dX3_comesFrom_26 ?_
          refine l_ifeq C (tgt := 32) dX3_comesFrom_27 (by decide) (fun cq14 => ?_) (fun cq14 => ?_)
          · have hz : dtA A (4 * i + k) u v = 0 := cq14
            refine n_iinc C (lv' := [(2, _), (3, _), (0, _), (1, _)]) dX3_comesFrom_32 hl (k := 3) rfl (by decide) rfl (fun ls hl => ?_)
            refine lv_goto (tgt := 2) hx hb dX3_comesFrom_35 (by decide) ?_
            exact ih2 (k + 1) _ _ _ hw (lv_sub hl [2, 3, 0] rfl) (by omega) (fun j hj => (Nat.lt_succ_iff_lt_or_eq.mp hj).elim (hall j) (fun e9 => by rw [e9]; exact hz)) (by omega)
          · refine lv_iconst (v := nI 0) hx hb dX3_comesFrom_30 (by decide) ?_
            exact h_zret C hr (by first | rfl | decide) hlk hw (⟨bI_f (fun h9 => cq14 ((of_eq.mp h9).1 k (by omega))), rfl⟩) dX3_comesFrom_31
  exact lp2 _ 0 _ _ _ hw (lv_sub hl [1, 2, 0] rfl) (by omega) (fun j hj => absurd hj (by omega)) (Nat.lt_succ_self _)
