/-! ===== the class: sights by numbers (laid by program) ===== -/
theorem sOf_i {A : MA} {f : HF} {n i : Nat} {k : Int32} {r : Option Nat} (h : sAt A n i f k r) (hi : i < 6) (hn : n ≤ 4) (h8 : A 8 i = nI n) : sOf A f (nI i) k r := by
  refine ⟨fun i2 j n2 hi2 hj hn2 h82 e1 e2 => ?_, fun h9 => h.2 (fun h1 => h9 ⟨⟨nI_pos (by omega), fun h2 => ?_⟩, ?_⟩)⟩
  · have e3 : i = i2 := (nI_eq (by omega) (by omega)).mp e1
    subst e3
    have e4 : n = n2 := (nI_eq (by omega) (by omega)).mp (h8.symm.trans h82)
    subst e4
    exact h.1 j hj e2
  · have := (nI_ltI (by decide) (by omega)).mp h2
    omega
  · rw [nI_clamp (by omega), h8]; exact h1
theorem sOf_0 {A : MA} {f : HF} {t k : Int32} (h : ¬ rg (nI 0) (nI 5) t) : sOf A f t k none := ⟨fun i j n hi _ _ _ e1 _ => absurd (show rg (nI 0) (nI 5) t by
  rw [e1]
  refine ⟨nI_pos (by omega), fun h2 => ?_⟩
  have := (nI_ltI (by decide) (by omega)).mp h2
  omega) h, fun _ => rfl⟩
theorem lF_s (k : Nat) : lF k = lF 0 - lN k := by
  unfold lF
  rw [show lN 0 = 0 from rfl, Int64.sub_zero]
def dt3 (u v : Nat → Int64) : Int64 := u 0 * v 0 + u 1 * v 1 + u 2 * v 2
def agO (f : HF) (r : Option Nat) (u v : Nat → Int64) : Prop := ((¬ nz u ∨ ¬ nz v) → r = none) ∧ (nz u → nz v → ∃ x, r = some x ∧ f x = some (eO 0 [.long (prL (dt3 u v * dt3 u v) (dt3 u u * dt3 v v) 0), .long (prL (dt3 u v * dt3 u v) (dt3 u u * dt3 v v) 1)]))
theorem agO.up {f f1 : HF} {r : Option Nat} {u v : Nat → Int64} (h : agO f r u v) (k : kp f f1) : agO f1 r u v := ⟨h.1, fun h1 h2 => by
  obtain ⟨x, h3, h4⟩ := h.2 h1 h2
  exact ⟨x, h3, k _ _ _ (by omega) h4⟩⟩
def meO (A : MA) (f : HF) (r : Option Nat) (u t w : Nat) : Prop := (¬ mtA A u t w → r = none) ∧ (mtA A u t w → ∃ x y, r = some x ∧ f x = some (eO 2 [.ref y, .long (lnA A u t w)]) ∧ wyO f y (ptA A u t w))
theorem meO.up {A : MA} {f f1 : HF} {r : Option Nat} {u t w : Nat} (h : meO A f r u t w) (k : kp f f1) : meO A f1 r u t w := ⟨h.1, fun h1 => by
  obtain ⟨x, y, h3, h4, h5⟩ := h.2 h1
  exact ⟨x, y, h3, k _ _ _ (by omega) h4, k _ _ _ (by omega) h5⟩⟩
theorem ln_eq (A : MA) (u t w : Nat) : lnA A u t w = plA A t 0 * wyA A u w 0 + plA A t 1 * wyA A u w 1 + plA A t 2 * wyA A u w 2 := by
  simp only [lnK, Int64.zero_add]
theorem st_i {A : MA} {t n : Nat} (hn : n < 4) (h : A 10 t = nI n) (a : Nat) : stA A t a = A 7 (3 * n + a) := by
  unfold stA
  rw [h, nI_clamp (by omega)]
theorem fr_eq {A : MA} {u t n m : Nat} (hst : ∀ j, j < 12 → ib 99 (A 7 j)) (hn : n < 4) (h : A 10 u = nI n) (hm : m < 4) (h2 : A 10 t = nI m) : frA A u t = plA A t 0 * ((A 7 (3 * m + 0)).toInt64 - (A 7 (3 * n + 0)).toInt64) + plA A t 1 * ((A 7 (3 * m + 1)).toInt64 - (A 7 (3 * n + 1)).toInt64) + plA A t 2 * ((A 7 (3 * m + 2)).toInt64 - (A 7 (3 * n + 2)).toInt64) := by
  have hs : ∀ a, a < 3 → (stA A t a - stA A u a).toInt64 = (A 7 (3 * m + a)).toInt64 - (A 7 (3 * n + a)).toInt64 := fun a ha => by
    rw [st_i hn h, st_i hm h2]
    have h3 := (ib_sub (by decide) (hst (3 * m + a) (by omega)) (hst (3 * n + a) (by omega))).2
    have h4 := hst (3 * m + a) (by omega)
    have h5 := hst (3 * n + a) (by omega)
    unfold ib at h4 h5
    apply (c_int64 _ _).mpr
    rw [Int32.toInt_toInt64, h3, Int64.toInt_sub, Int32.toInt_toInt64, Int32.toInt_toInt64, fb_bmodL (by omega) (by omega)]
  simp only [frK, Int64.zero_add, hs 0 (by decide), hs 1 (by decide), hs 2 (by decide)]
set_option maxHeartbeats 4000000 in
set_option maxRecDepth 100000 in
theorem c_X11_sightOf {l : Launch} {D : va_G} {cA : Nat → ClassId} {f : HF} {sz : Nat} {ad : Nat → Nat} {K : KK} {G : GG} {A : MA} {t k : Int32}  (hc : co cA ad K G f) (hS : sgs K G A f) : Met l yX11_sightOf wsX11_sightOf ({ frames := 1, cells := 0, slots := 0, locals := 21 } : Room) (va_Pc [.ref (ad 0), .int t, .int k] (hB D cA f sz)) (va_Qq (fun r f1 => sOf A f t k r ∧ f = f1) (hE D f sz) (hA f sz)) 0 0 (hA f sz) := by
  refine h_of (cc := cX11_sightOf) (maxL := 3) (ret := (some (.object "FallingLight$Sight"))) (by decide +kernel) rfl (Nat.le_of_ble_eq_true rfl) ?_
  intro p e s m below meth c ls C hr hlk hnm hw hl
  have hx := C.1.1
  have hb := C.1.2.1
  have hl : lv_has ls 3 [(0, .ref (ad 0)), (1, .int t), (2, .int k)] := hl
  have lk0 : Cond.fieldLink RX11 62 "FallingLight" "meteors" "[LFallingLight$Meteor;" ∈ wsX11_sightOf := by decide +kernel
  have lk1 : ∀ w ∈ u_ws RX11 TX11 11, w ∈ wsX11_sightOf := by decide +kernel
  refine lv_iload_n hx hb dX11_sightOf_0 rfl (lv_at hl 1 rfl) ?_
  refine h_calli hw (h_runS (n := 1) (As := [.int t]) (rest := []) C hw c_X11_isMeteor gX11_sightOf_X11_isMeteor rfl rfl rfl (by decide +kernel) ⟨by decide, by decide⟩ rfl hl.1 rfl (Nat.le_of_ble_eq_true rfl) dX11_sightOf_1 ⟨by first | decide | omega, by first | decide | omega⟩) (fun r1 f2 H locs hp hw => ?_)
  obtain ⟨rfl, rfl⟩ := hp
  refine n_ifeqB C (tgt := 20) dX11_sightOf_4 (by decide) (fun cq3 => ?_) (fun cq3 => ?_)
  · refine lv_null hx hb dX11_sightOf_20 ?_
    exact h_qret (v := none) C hr hlk hw (⟨sOf_0 cq3, rfl⟩) dX11_sightOf_21
  · obtain ⟨i, hi, rfl⟩ := inN (by decide) cq3
    obtain ⟨n, hn4, hA8, hKn, hsn⟩ := hS i (by omega)
    refine lv_aload_n hx hb dX11_sightOf_7 rfl (lv_at hl 0 rfl) ?_
    refine h_get C hw bX11 (co.a0 hc) lk1 7 (by decide) lk0 (v := .ref (ad 8)) rfl dX11_sightOf_8 ?_
    refine lv_iload_n hx hb dX11_sightOf_11 rfl (lv_at hl 1 rfl) ?_
    refine h_aldS C hw 5 rfl (co.a8 hc) (if_pos (by omega)) (show i < 6 from (by omega)) (by first | omega | decide) dX11_sightOf_12 ?_
    refine lv_iload_n hx hb dX11_sightOf_13 rfl (lv_at hl 2 rfl) ?_
    refine h_callq hw (h_runV (n := 1) (As := [.int k]) (rest := []) C hw (c_X3_sightAt (A := A) (i := i) ((co.met hc (show i < 6 by omega)).trans (by rw [hKn])) (co.sgt hc (show i < 6 by omega)) hn4 hsn) gX11_sightOf_X3_sightAt rfl rfl rfl (by decide +kernel) ⟨by decide, by decide⟩ bX3 (co.met hc (show i < 6 by omega)) rfl hl.1 rfl (Nat.le_of_ble_eq_true rfl) dX11_sightOf_14 ⟨by first | decide | omega, by first | decide | omega⟩) (fun r4 f5 H locs hp hw => ?_)
    obtain ⟨hsa6, rfl⟩ := hp
    refine lv_goto (tgt := 21) hx hb dX11_sightOf_17 (by decide) ?_
    exact h_qret (v := r4) C hr hlk hw (⟨sOf_i hsa6 (by omega) hn4 hA8, rfl⟩) dX11_sightOf_21
set_option maxHeartbeats 4000000 in
set_option maxRecDepth 100000 in
theorem c_X11_planeOf {l : Launch} {D : va_G} {cA : Nat → ClassId} {f : HF} {sz : Nat} {ad : Nat → Nat} {K : KK} {G : GG} {A : MA} {i j n : Nat}  (hc : co cA ad K G f) (hS : sgs K G A f) (hi : i < 6) (hj : j < n) (hn : n ≤ 4) (h8 : A 8 i = nI n) : Met l yX11_planeOf wsX11_planeOf ({ frames := 2, cells := 0, slots := 0, locals := 43 } : Room) (va_Pc [.ref (ad 0), .int (nI i), .int (nI j)] (hB D cA f sz)) (va_Qq (fun r f1 => crO f r (plA A (4 * i + j)) ∧ f = f1) (hE D f sz) (hA f sz)) 0 0 (hA f sz) := by
  refine h_of (cc := cX11_planeOf) (maxL := 4) (ret := (some (.object "FallingLight$Way"))) (by decide +kernel) rfl (Nat.le_of_ble_eq_true rfl) ?_
  intro p e s m below meth c ls C hr hlk hnm hw hl
  have hx := C.1.1
  have hb := C.1.2.1
  have hl : lv_has ls 4 [(0, .ref (ad 0)), (1, .int (nI i)), (2, .int (nI j))] := hl
  have lk0 : Cond.fieldLink RX11 226 "FallingLight$Sight" "plane" "LFallingLight$Way;" ∈ wsX11_planeOf := by decide +kernel
  have lk1 : ∀ w ∈ u_ws RX6 TX6 6, w ∈ wsX11_planeOf := by decide +kernel
  refine lv_aload_n hx hb dX11_planeOf_0 rfl (lv_at hl 0 rfl) ?_
  refine lv_iload_n hx hb dX11_planeOf_1 rfl (lv_at hl 1 rfl) ?_
  refine lv_iload_n hx hb dX11_planeOf_2 rfl (lv_at hl 2 rfl) ?_
  refine h_callq hw (h_runV (n := 2) (As := [.int (nI i), .int (nI j)]) (rest := []) C hw (c_X11_sightOf (A := A) hc hS) gX11_planeOf_X11_sightOf rfl rfl rfl (by decide +kernel) ⟨by decide, by decide⟩ bX11 (co.a0 hc) rfl hl.1 rfl (Nat.le_of_ble_eq_true rfl) dX11_planeOf_3 ⟨by first | decide | omega, by first | decide | omega⟩) (fun r1 f2 H locs hp hw => ?_)
  obtain ⟨hso3, rfl⟩ := hp
  refine lv_astore_nQ (lv' := [(3, _), (0, _), (1, _), (2, _)]) hx hb dX11_planeOf_6 rfl hl (by decide) rfl (fun ls hl => ?_)
  refine lv_aload_nQ hx hb dX11_planeOf_7 rfl (lv_at hl 0 rfl) ?_
  refine n_ifnonnull C (tgt := 15) dX11_planeOf_8 (by decide) (fun x4 cq5 => ?_) (fun cq5 => ?_)
  · subst cq5
    obtain ⟨b, hb0, hsb⟩ := hso3.1 i j n hi hj hn h8 rfl rfl
    cases hb0
    obtain ⟨bg, en, md, pl, ho, hbg, hen, hmy, hmn, hpl⟩ := hsb
    refine lv_aload_n hx hb dX11_planeOf_15 rfl (lv_at hl 0 rfl) ?_
    refine h_get C hw bX6 ho lk1 5 (by decide) lk0 (v := va_rf pl) rfl dX11_planeOf_16 ?_
    exact h_qret (v := pl) C hr hlk hw (⟨hpl, rfl⟩) dX11_planeOf_19
  · subst cq5
    obtain ⟨b, hb0, hsb⟩ := hso3.1 i j n hi hj hn h8 rfl rfl; cases hb0
set_option maxHeartbeats 4000000 in
set_option maxRecDepth 100000 in
theorem c_X11_isPair {l : Launch} {D : va_G} {cA : Nat → ClassId} {f : HF} {sz : Nat} {ad : Nat → Nat} {K : KK} {G : GG} {A : MA} {t k k2 : Int32}  (hc : co cA ad K G f) (hS : sgs K G A f) : Met l yX11_isPair wsX11_isPair ({ frames := 2, cells := 0, slots := 0, locals := 43 } : Room) (va_Pc [.ref (ad 0), .int t, .int k, .int k2] (hB D cA f sz)) (va_Qi (fun r f1 => bI (twA A t k k2) = r ∧ f = f1) (hE D f sz) (hA f sz)) 0 0 (hA f sz) := by
  refine h_of (cc := cX11_isPair) (maxL := 4) (ret := (some .boolean)) (by decide +kernel) rfl (Nat.le_of_ble_eq_true rfl) ?_
  intro p e s m below meth c ls C hr hlk hnm hw hl
  have hx := C.1.1
  have hb := C.1.2.1
  have hl : lv_has ls 4 [(0, .ref (ad 0)), (1, .int t), (2, .int k), (3, .int k2)] := hl
  refine lv_iload_n hx hb dX11_isPair_0 rfl (lv_at hl 2 rfl) ?_
  refine lv_iload_n hx hb dX11_isPair_1 rfl (lv_at hl 3 rfl) ?_
  refine lv_icmp_eq (tgt := 27) hx hb dX11_isPair_2 (by decide) (fun cq1 => ?_) (fun cq1 => ?_)
  · refine lv_iconst (v := nI 0) hx hb dX11_isPair_27 (by decide) ?_
    exact h_zret C hr (by first | rfl | decide) hlk hw (⟨bI_f (fun h9 => h9.2.2 cq1), rfl⟩) dX11_isPair_28
  · refine lv_aload_n hx hb dX11_isPair_5 rfl (lv_at hl 0 rfl) ?_
    refine lv_iload_n hx hb dX11_isPair_6 rfl (lv_at hl 1 rfl) ?_
    refine lv_iload_n hx hb dX11_isPair_7 rfl (lv_at hl 2 rfl) ?_
    refine h_callq hw (h_runV (n := 2) (As := [.int t, .int k]) (rest := []) C hw (c_X11_sightOf (A := A) hc hS) gX11_isPair_X11_sightOf rfl rfl rfl (by decide +kernel) ⟨by decide, by decide⟩ bX11 (co.a0 hc) rfl hl.1 rfl (Nat.le_of_ble_eq_true rfl) dX11_isPair_8 ⟨by first | decide | omega, by first | decide | omega⟩) (fun r2 f3 H locs hp hw => ?_)
    obtain ⟨hso4, rfl⟩ := hp
    refine n_ifnull C (tgt := 27) dX11_isPair_11 (by decide) (fun cq6 => ?_) (fun x5 cq6 => ?_)
    · subst cq6
      refine lv_iconst (v := nI 0) hx hb dX11_isPair_27 (by decide) ?_
      exact h_zret C hr (by first | rfl | decide) hlk hw (⟨bI_f (fun h9 => hso4.no hS.hsg h9.1), rfl⟩) dX11_isPair_28
    · subst cq6
      refine lv_aload_n hx hb dX11_isPair_14 rfl (lv_at hl 0 rfl) ?_
      refine lv_iload_n hx hb dX11_isPair_15 rfl (lv_at hl 1 rfl) ?_
      refine lv_iload_n hx hb dX11_isPair_16 rfl (lv_at hl 3 rfl) ?_
      refine h_callq hw (h_runV (n := 2) (As := [.int t, .int k2]) (rest := []) C hw (c_X11_sightOf (A := A) hc hS) gX11_isPair_X11_sightOf rfl rfl rfl (by decide +kernel) ⟨by decide, by decide⟩ bX11 (co.a0 hc) rfl hl.1 rfl (Nat.le_of_ble_eq_true rfl) dX11_isPair_17 ⟨by first | decide | omega, by first | decide | omega⟩) (fun r7 f8 H locs hp hw => ?_)
      obtain ⟨hso9, rfl⟩ := hp
      refine n_ifnull C (tgt := 27) dX11_isPair_20 (by decide) (fun cq11 => ?_) (fun x10 cq11 => ?_)
      · subst cq11
        refine lv_iconst (v := nI 0) hx hb dX11_isPair_27 (by decide) ?_
        exact h_zret C hr (by first | rfl | decide) hlk hw (⟨bI_f (fun h9 => hso9.no hS.hsg h9.2.1), rfl⟩) dX11_isPair_28
      · subst cq11
        refine lv_iconst (v := nI 1) hx hb dX11_isPair_23 (by decide) ?_
        refine lv_goto (tgt := 28) hx hb dX11_isPair_24 (by decide) ?_
        exact h_zret C hr (by first | rfl | decide) hlk hw (⟨bI_t ⟨hso4.so, hso9.so, cq1⟩, rfl⟩) dX11_isPair_28
set_option maxHeartbeats 4000000 in
set_option maxRecDepth 100000 in
theorem c_X11_isBlurred {l : Launch} {D : va_G} {cA : Nat → ClassId} {f : HF} {sz : Nat} {a : Nat} {kd1 : Int32} {v1 v2 v3 v4 v5 : Value}  (h0 : f a = some (eO 6 [.int kd1, v1, v2, v3, v4, v5])) : Met l yX11_isBlurred wsX11_isBlurred ({ frames := 0, cells := 0, slots := 0, locals := 0 } : Room) (va_Pc [.ref a] (hB D cA f sz)) (va_Qi (fun r f1 => bI (kd1 = nI 2) = r ∧ f = f1) (hE D f sz) (hA f sz)) 0 0 (hA f sz) := by
  refine h_of (cc := cX11_isBlurred) (maxL := 1) (ret := (some .boolean)) (by decide +kernel) rfl (Nat.le_of_ble_eq_true rfl) ?_
  intro p e s m below meth c ls C hr hlk hnm hw hl
  have hx := C.1.1
  have hb := C.1.2.1
  have hl : lv_has ls 1 [(0, .ref a)] := hl
  have lk0 : Cond.fieldLink RX11 216 "FallingLight$Sight" "kind" "I" ∈ wsX11_isBlurred := by decide +kernel
  have lk1 : ∀ w ∈ u_ws RX6 TX6 6, w ∈ wsX11_isBlurred := by decide +kernel
  refine lv_aload_n hx hb dX11_isBlurred_0 rfl (lv_at hl 0 rfl) ?_
  refine lv_ifnull hx hb dX11_isBlurred_1 ?_
  refine lv_aload_n hx hb dX11_isBlurred_4 rfl (lv_at hl 0 rfl) ?_
  refine h_get C hw bX6 h0 lk1 0 (by decide) lk0 (v := .int kd1) rfl dX11_isBlurred_5 ?_
  refine lv_iconst (v := nI 2) hx hb dX11_isBlurred_8 (by decide) ?_
  refine lv_icmp_ne (tgt := 16) hx hb dX11_isBlurred_9 (by decide) (fun cq1 => ?_) (fun cq1 => ?_)
  · refine lv_iconst (v := nI 0) hx hb dX11_isBlurred_16 (by decide) ?_
    exact h_zret C hr (by first | rfl | decide) hlk hw (⟨bI_f cq1, rfl⟩) dX11_isBlurred_17
  · refine lv_iconst (v := nI 1) hx hb dX11_isBlurred_12 (by decide) ?_
    refine lv_goto (tgt := 17) hx hb dX11_isBlurred_13 (by decide) ?_
    exact h_zret C hr (by first | rfl | decide) hlk hw (⟨bI_t cq1, rfl⟩) dX11_isBlurred_17
set_option maxHeartbeats 4000000 in
set_option maxRecDepth 100000 in
theorem c_X11_finding {l : Launch} {D : va_G} {cA : Nat → ClassId} {f : HF} {sz : Nat} {ad : Nat → Nat} {K : KK} {G : GG} {k : Nat}  (hc : co cA ad K G f) (hk : k ≤ 5) : Met l yX11_finding wsX11_finding ({ frames := 0, cells := 0, slots := 0, locals := 0 } : Room) (va_Pc [.ref (ad 0), .int (nI k)] (hB D cA f sz)) (va_Ql (fun r f1 => lF k = r ∧ ∃ K1, co cA ad K1 G f1 ∧ K1 = va_up K 11 (upd (K 11) k (K 11 k + nI 1)) ∧ kp f f1) (hE D f sz) (hA f sz)) 0 0 (hA f sz) := by
  refine h_of (cc := cX11_finding) (maxL := 2) (ret := (some .long)) (by decide +kernel) rfl (Nat.le_of_ble_eq_true rfl) ?_
  intro p e s m below meth c ls C hr hlk hnm hw hl
  have hx := C.1.1
  have hb := C.1.2.1
  have hl : lv_has ls 2 [(0, .ref (ad 0)), (1, .int (nI k))] := hl
  have lk0 : Cond.fieldLink RX11 74 "FallingLight" "findings" "[I" ∈ wsX11_finding := by decide +kernel
  have lk1 : ∀ w ∈ u_ws RX11 TX11 11, w ∈ wsX11_finding := by decide +kernel
  have lk2 : Cond.constantLong RX11 322 (lF 0) ∈ wsX11_finding := by decide +kernel
  refine lv_aload_n hx hb dX11_finding_0 rfl (lv_at hl 0 rfl) ?_
  refine h_get C hw bX11 (co.a0 hc) lk1 10 (by decide) lk0 (v := .ref (ad 11)) rfl dX11_finding_1 ?_
  refine lv_iload_n hx hb dX11_finding_4 rfl (lv_at hl 1 rfl) ?_
  refine lv_dup2_11 hx hb dX11_finding_5 rfl rfl ?_
  refine h_iald1 C hw (v := (K 11) k) (co.a11 hc) rfl (show k < 6 from (by omega)) (by first | omega | decide) dX11_finding_6 ?_
  refine lv_iconst (v := nI 1) hx hb dX11_finding_7 (by decide) ?_
  refine lv_iadd hx hb dX11_finding_8 ?_
  refine h_iast1 C hw (co.a11 hc) (show k < 6 from (by omega)) (by first | omega | decide) dX11_finding_9 (fun f1 H locs e2 hw => ?_)
  obtain ⟨K3, eK4, hc2⟩ := hc.upK 11 (κ := upd (K 11) k (((K 11) k) + (nI 1))) (e := eI cA 6 (upd (K 11) k (((K 11) k) + (nI 1)))) (by omega) rfl
  have hc3 := hc
  have hc := hc2.of e2
  have kpK3 := kp_up hc3 11 (by omega) e2
  have kfK3 := kp.tr (kp_le (hle.rf f)) kpK3
  refine lv_ldc2 hx hb C.1.2.2.2.1 (C.1.2.2.2.2 _ lk2) dX11_finding_10 ?_
  refine lv_iload_n hx hb dX11_finding_13 rfl (lv_at hl 1 rfl) ?_
  refine n_i2l C (by omega) dX11_finding_14 ?_
  refine lv_lsub hx hb dX11_finding_15 ?_
  exact h_lret C hr hlk hw (⟨lF_s k, K3, hc, eK4, kpK3⟩) dX11_finding_16
set_option maxHeartbeats 4000000 in
set_option maxRecDepth 100000 in
theorem c_X11_pointsOf {l : Launch} {D : va_G} {cA : Nat → ClassId} {f : HF} {sz : Nat} {ad : Nat → Nat} {K : KK} {G : GG} {w : Int32}  (hc : co cA ad K G f) : Met l yX11_pointsOf wsX11_pointsOf ({ frames := 0, cells := 0, slots := 0, locals := 0 } : Room) (va_Pc [.ref (ad 0), .int w] (hB D cA f sz)) (va_Qq (fun r f1 => (w = 0 → r = some (ad 2)) ∧ (¬ w = 0 → r = some (ad 1)) ∧ f = f1) (hE D f sz) (hA f sz)) 0 0 (hA f sz) := by
  refine h_of (cc := cX11_pointsOf) (maxL := 2) (ret := (some (.object "FallingLight$Points"))) (by decide +kernel) rfl (Nat.le_of_ble_eq_true rfl) ?_
  intro p e s m below meth c ls C hr hlk hnm hw hl
  have hx := C.1.1
  have hb := C.1.2.1
  have hl : lv_has ls 2 [(0, .ref (ad 0)), (1, .int w)] := hl
  have lk0 : Cond.fieldLink RX11 18 "FallingLight" "spotPoints" "LFallingLight$Points;" ∈ wsX11_pointsOf := by decide +kernel
  have lk1 : ∀ w ∈ u_ws RX11 TX11 11, w ∈ wsX11_pointsOf := by decide +kernel
  have lk2 : Cond.fieldLink RX11 14 "FallingLight" "starPoints" "LFallingLight$Points;" ∈ wsX11_pointsOf := by decide +kernel
  refine lv_iload_n hx hb dX11_pointsOf_0 rfl (lv_at hl 1 rfl) ?_
  refine lv_if_eq (tgt := 11) hx hb dX11_pointsOf_1 (by decide) (fun cq1 => ?_) (fun cq1 => ?_)
  · refine lv_aload_n hx hb dX11_pointsOf_11 rfl (lv_at hl 0 rfl) ?_
    refine h_get C hw bX11 (co.a0 hc) lk1 1 (by decide) lk0 (v := .ref (ad 2)) rfl dX11_pointsOf_12 ?_
    exact h_qret (v := some (ad 2)) C hr hlk hw (⟨fun h9 => rfl, fun h9 => absurd cq1 h9, rfl⟩) dX11_pointsOf_15
  · refine lv_aload_n hx hb dX11_pointsOf_4 rfl (lv_at hl 0 rfl) ?_
    refine h_get C hw bX11 (co.a0 hc) lk1 0 (by decide) lk2 (v := .ref (ad 1)) rfl dX11_pointsOf_5 ?_
    refine lv_goto (tgt := 15) hx hb dX11_pointsOf_8 (by decide) ?_
    exact h_qret (v := some (ad 1)) C hr hlk hw (⟨fun h9 => absurd h9 cq1, fun h9 => rfl, rfl⟩) dX11_pointsOf_15
set_option maxHeartbeats 4000000 in
set_option maxRecDepth 100000 in
theorem c_X11_angleOf {l : Launch} {D : va_G} {cA : Nat → ClassId} {f : HF} {sz : Nat} {p1 q1 : Option Nat} {u v : Nat → Int64}  (hcp : crO f p1 u) (hcq : crO f q1 v) (ha : lA (dt3 u v * dt3 u v) < 2 ^ 48) (hb2 : lA (dt3 u u * dt3 v v) < 2 ^ 48) (hu : nz u → nz v → ¬ dt3 u u * dt3 v v = 0) : Met l yX11_angleOf wsX11_angleOf ({ frames := 2, cells := 1, slots := 2, locals := 58 } : Room) (va_Pc [va_rf p1, va_rf q1] (hB D cA f sz)) (va_Qq (fun r f1 => hle f f1 ∧ agO f1 r u v) (hE D f sz) (hA f sz)) 1 2 (hA f sz) := by
  refine h_of (cc := cX11_angleOf) (maxL := 4) (ret := (some (.object "FallingLight$Fraction"))) (by decide +kernel) rfl (by cases p1 <;> cases q1 <;> exact Nat.le_of_ble_eq_true rfl) ?_
  intro p e s m below meth c ls C hr hlk hnm hw hl
  have hx := C.1.1
  have hb := C.1.2.1
  have hl : lv_has ls 4 [(0, va_rf p1), (1, va_rf q1)] := by cases p1 <;> cases q1 <;> exact hl
  have lk0 : ∀ w ∈ u_ws RX0 TX0 2, w ∈ wsX11_angleOf := by decide +kernel
  have lk1 : Cond.classLink RX11 171 RX0 ∈ wsX11_angleOf := by decide +kernel
  have lk2 : Cond.instantiable RX0 2 ∈ wsX11_angleOf := by decide +kernel
  have lk3 : Cond.initialized RX0 ∈ wsX11_angleOf := by decide +kernel
  have lk4 : Cond.methodLink RX11 293 yX0_init ∈ wsX11_angleOf := by decide +kernel
  have lk5 : Cond.instanceMethod yX0_init ∈ wsX11_angleOf := by decide +kernel
  refine lv_aload_nQ hx hb dX11_angleOf_0 rfl (lv_at hl 0 rfl) ?_
  refine n_ifnull C (tgt := 8) dX11_angleOf_1 (by decide) (fun cq2 => ?_) (fun x1 cq2 => ?_)
  · subst cq2
    refine lv_null hx hb dX11_angleOf_8 ?_
    refine W.widen (k := 1) (n := 2) (by first | decide | omega | (dsimp only; omega)) (by first | decide | omega | (dsimp only; omega)) ?_
    exact h_qret (v := none) C hr hlk hw (⟨(hle.rf f), fun _ => rfl, fun h8 h9 => absurd h8 hcp.no⟩) dX11_angleOf_9
  · subst cq2
    obtain ⟨nz1, hw1⟩ := hcp.so
    refine lv_aload_nQ hx hb dX11_angleOf_4 rfl (lv_at hl 1 rfl) ?_
    refine n_ifnonnull C (tgt := 10) dX11_angleOf_5 (by decide) (fun x3 cq4 => ?_) (fun cq4 => ?_)
    · subst cq4
      obtain ⟨nz2, hw2⟩ := hcq.so
      refine lv_aload_n hx hb dX11_angleOf_10 rfl (lv_at hl 0 rfl) ?_
      refine lv_aload_n hx hb dX11_angleOf_11 rfl (lv_at hl 1 rfl) ?_
      refine h_calll hw (h_runV (n := 1) (As := [.ref x3]) (rest := []) C hw (c_X10_dot hw1 hw2) gX11_angleOf_X10_dot rfl rfl rfl (by decide +kernel) ⟨by decide, by decide⟩ bX10 hw1 rfl hl.1 rfl (Nat.le_of_ble_eq_true rfl) dX11_angleOf_12 ⟨by first | decide | omega, by first | decide | omega⟩) (fun r5 f6 H locs hp hw => ?_)
      obtain ⟨rfl, rfl⟩ := hp
      refine lv_lstore_n (lv' := [(2, _), (0, _), (1, _)]) hx hb dX11_angleOf_15 rfl hl (by decide) rfl (fun ls hl => ?_)
      refine h_new1 C hw bX0 lk0 lk1 lk2 lk3 dfX0 (by first | decide | omega | (dsimp only; omega)) (by first | decide | omega | (dsimp only; omega)) dX11_angleOf_16 (fun q7 f8 H hq10 e9 hw => ?_)
      have k11 := up_n e9 hq10 hw1
      have k12 := up_n e9 hq10 hw2
      have k13 : f8 q7 = some (eO 0 [.long 0, .long 0]) := up_s e9
      have fr14 := hle_no (hle.rf f) hq10
      have le15 := hle_new (hle.rf f) hq10 e9
      refine lv_dup hx hb dX11_angleOf_19 rfl ?_
      refine lv_lload_n hx hb dX11_angleOf_20 rfl (lv_at hl 0 rfl) ?_
      refine lv_lload_n hx hb dX11_angleOf_21 rfl (lv_at hl 0 rfl) ?_
      refine lv_lmul hx hb dX11_angleOf_22 ?_
      refine lv_aload_n hx hb dX11_angleOf_23 rfl (lv_at hl 1 rfl) ?_
      refine lv_aload_n hx hb dX11_angleOf_24 rfl (lv_at hl 1 rfl) ?_
      refine h_calll hw (h_runV (n := 1) (As := [.ref x1]) (rest := [.long (((u 0) * (v 0) + (u 1) * (v 1) + (u 2) * (v 2)) * ((u 0) * (v 0) + (u 1) * (v 1) + (u 2) * (v 2))), .ref q7, .ref q7]) C hw (c_X10_dot k11 k11) gX11_angleOf_X10_dot rfl rfl rfl (by decide +kernel) ⟨by decide, by decide⟩ bX10 k11 rfl hl.1 rfl (Nat.le_of_ble_eq_true rfl) dX11_angleOf_25 ⟨by first | decide | omega, by first | decide | omega⟩) (fun r16 f17 H locs hp hw => ?_)
      obtain ⟨rfl, rfl⟩ := hp
      refine lv_aload_n hx hb dX11_angleOf_28 rfl (lv_at hl 2 rfl) ?_
      refine lv_aload_n hx hb dX11_angleOf_29 rfl (lv_at hl 2 rfl) ?_
      refine h_calll hw (h_runV (n := 1) (As := [.ref x3]) (rest := [.long ((u 0) * (u 0) + (u 1) * (u 1) + (u 2) * (u 2)), .long (((u 0) * (v 0) + (u 1) * (v 1) + (u 2) * (v 2)) * ((u 0) * (v 0) + (u 1) * (v 1) + (u 2) * (v 2))), .ref q7, .ref q7]) C hw (c_X10_dot k12 k12) gX11_angleOf_X10_dot rfl rfl rfl (by decide +kernel) ⟨by decide, by decide⟩ bX10 k12 rfl hl.1 rfl (Nat.le_of_ble_eq_true rfl) dX11_angleOf_30 ⟨by first | decide | omega, by first | decide | omega⟩) (fun r18 f19 H locs hp hw => ?_)
      obtain ⟨rfl, rfl⟩ := hp
      refine lv_lmul hx hb dX11_angleOf_33 ?_
      refine h_callv hw (h_runI (n := 2) (As := [.long (((u 0) * (v 0) + (u 1) * (v 1) + (u 2) * (v 2)) * ((u 0) * (v 0) + (u 1) * (v 1) + (u 2) * (v 2))), .long (((u 0) * (u 0) + (u 1) * (u 1) + (u 2) * (u 2)) * ((v 0) * (v 0) + (v 1) * (v 1) + (v 2) * (v 2)))]) (rest := [.ref q7]) C hw (c_X0_init k13 ha hb2 (hu nz1 nz2)) gX11_angleOf_X0_init rfl rfl rfl lk3 lk4 lk5 rfl (by decide +kernel) ⟨by decide, by decide⟩ rfl hl.1 rfl (Nat.le_of_ble_eq_true rfl) dX11_angleOf_34 ⟨by first | decide | omega, by first | decide | omega⟩) (fun  f20 H locs hp hw => ?_)
      have e21 := hp
      have k22 := up_o e21 (ne_kd k11 k13 (Nat.ne_of_beq_eq_false rfl)) k11
      have k23 := up_o e21 (ne_kd k12 k13 (Nat.ne_of_beq_eq_false rfl)) k12
      have k24 : f20 q7 = some (eO 0 [.long (prL (((u 0) * (v 0) + (u 1) * (v 1) + (u 2) * (v 2)) * ((u 0) * (v 0) + (u 1) * (v 1) + (u 2) * (v 2))) (((u 0) * (u 0) + (u 1) * (u 1) + (u 2) * (u 2)) * ((v 0) * (v 0) + (v 1) * (v 1) + (v 2) * (v 2))) 0), .long (prL (((u 0) * (v 0) + (u 1) * (v 1) + (u 2) * (v 2)) * ((u 0) * (v 0) + (u 1) * (v 1) + (u 2) * (v 2))) (((u 0) * (u 0) + (u 1) * (u 1) + (u 2) * (u 2)) * ((v 0) * (v 0) + (v 1) * (v 1) + (v 2) * (v 2))) 1)]) := up_s e21
      have le25 := hle_up le15 fr14 e21
      refine W.widen (k := 1) (n := 2) (by first | decide | omega | (dsimp only; omega)) (by first | decide | omega | (dsimp only; omega)) ?_
      exact h_qret (v := some q7) C hr hlk hw (⟨le25, fun h9 => absurd h9 (fun h8 => h8.elim (fun h7 => h7 nz1) (fun h7 => h7 nz2)), fun _ _ => ⟨_, rfl, k24⟩⟩) dX11_angleOf_37
    · subst cq4
      refine lv_null hx hb dX11_angleOf_8 ?_
      refine W.widen (k := 1) (n := 2) (by first | decide | omega | (dsimp only; omega)) (by first | decide | omega | (dsimp only; omega)) ?_
      exact h_qret (v := none) C hr hlk hw (⟨(hle.rf f), fun _ => rfl, fun h8 h9 => absurd h9 hcq.no⟩) dX11_angleOf_9
