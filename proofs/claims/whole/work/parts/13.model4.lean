/-! ===== the reference, fourth methods (laid by program) ===== -/
/-! ===== sizes ===== -/
theorem bd_mul {u v : Int64} {a b : Nat} (hu : lA u ≤ a) (hv : lA v ≤ b) (h : a * b < 2 ^ 63) : (u * v).toInt = u.toInt * v.toInt ∧ lA (u * v) ≤ a * b := by
  have h1 : (u.toInt * v.toInt).natAbs ≤ a * b := by rw [Int.natAbs_mul]; exact Nat.mul_le_mul hu hv
  have h2 : (u * v).toInt = u.toInt * v.toInt := by rw [Int64.toInt_mul, fb_bmodL (by omega) (by omega)]
  exact ⟨h2, by unfold lA; rw [h2]; exact h1⟩
theorem bd_add {u v : Int64} {a b : Nat} (hu : lA u ≤ a) (hv : lA v ≤ b) (h : a + b < 2 ^ 63) : (u + v).toInt = u.toInt + v.toInt ∧ lA (u + v) ≤ a + b := by
  unfold lA at *
  have h2 : (u + v).toInt = u.toInt + v.toInt := by rw [Int64.toInt_add, fb_bmodL (by omega) (by omega)]
  exact ⟨h2, by rw [h2]; omega⟩
theorem bd_sub {u v : Int64} {a b : Nat} (hu : lA u ≤ a) (hv : lA v ≤ b) (h : a + b < 2 ^ 63) : (u - v).toInt = u.toInt - v.toInt ∧ lA (u - v) ≤ a + b := by
  unfold lA at *
  have h2 : (u - v).toInt = u.toInt - v.toInt := by rw [Int64.toInt_sub, fb_bmodL (by omega) (by omega)]
  exact ⟨h2, by rw [h2]; omega⟩
def ib (k : Nat) (v : Int32) : Prop := v.toInt.natAbs ≤ k
theorem ib_l {k : Nat} {v : Int32} (h : ib k v) : lA v.toInt64 ≤ k := by unfold lA; rw [Int32.toInt_toInt64]; exact h
theorem ib_sub {k : Nat} {u v : Int32} (hk : k < 2 ^ 30) (hu : ib k u) (hv : ib k v) : lA (u - v).toInt64 ≤ 2 * k ∧ (u - v).toInt = u.toInt - v.toInt := by
  unfold ib at *
  have h2 : (u - v).toInt = u.toInt - v.toInt := by rw [Int32.toInt_sub, fb_bmod (by omega) (by omega)]
  refine ⟨?_, h2⟩
  unfold lA
  rw [Int32.toInt_toInt64, h2]
  omega
section BD
variable {A : MA} (hwy : ∀ j, j < 216 → ib 9 (A 11 j))
theorem wy_bd (hwy : ∀ j, j < 216 → ib 9 (A 11 j)) {t w a : Nat} (ht : t < 24) (hw3 : w < 3) (ha : a < 3) : lA (wyA A t w a) ≤ 9 := ib_l (hwy _ (by omega))
theorem pl_bd (hwy : ∀ j, j < 216 → ib 9 (A 11 j)) {t a : Nat} (ht : t < 24) : lA (plA A t a) ≤ 162 := by
  have h := fun (w : Nat) (hw3 : w < 3) (b : Nat) => wy_bd hwy (t := t) (w := w) (a := b % 3) ht hw3 (Nat.mod_lt _ (by decide))
  exact (bd_sub (bd_mul (h 0 (by decide) _) (h 1 (by decide) _) (by decide)).2 (bd_mul (h 0 (by decide) _) (h 1 (by decide) _) (by decide)).2 (by decide)).2
theorem fa_bd (hwy : ∀ j, j < 216 → ib 9 (A 11 j)) {u t a : Nat} (hu : u < 24) (ht : t < 24) : lA (faA A u t a) ≤ 52488 :=
  (bd_sub (bd_mul (pl_bd hwy hu) (pl_bd hwy ht) (by decide)).2 (bd_mul (pl_bd hwy hu) (pl_bd hwy ht) (by decide)).2 (by decide)).2
theorem sc_bd (hwy : ∀ j, j < 216 → ib 9 (A 11 j)) {u t : Nat} (hu : u < 24) (ht : t < 24) : lA (scA A u t) ≤ 78732 :=
  (bd_add (bd_add (bd_mul (pl_bd hwy hu) (pl_bd hwy ht) (by decide)).2 (bd_mul (pl_bd hwy hu) (pl_bd hwy ht) (by decide)).2 (by decide)).2 (bd_mul (pl_bd hwy hu) (pl_bd hwy ht) (by decide)).2 (by decide)).2
end BD
def stA (A : MA) (t a : Nat) : Int32 := A 7 (3 * (A 10 t).toNatClampNeg + a)
def lnK (A : MA) (u t w : Nat) : Nat → Int64
  | 0 => 0
  | k + 1 => lnK A u t w k + plA A t k * wyA A u w k
def frK (A : MA) (u t : Nat) : Nat → Int64
  | 0 => 0
  | k + 1 => frK A u t k + plA A t k * (stA A t k - stA A u k).toInt64
abbrev lnA (A : MA) (u t w : Nat) : Int64 := lnK A u t w 3
abbrev frA (A : MA) (u t : Nat) : Int64 := frK A u t 3
def ptA (A : MA) (u t w a : Nat) : Int64 := (stA A u a).toInt64 * lnA A u t w + frA A u t * wyA A u w a
abbrev mtA (A : MA) (u t w : Nat) : Prop := hpA A t ∧ ¬ lnA A u t w = 0
theorem st_at {A : MA} {t a c : Nat} (h : A 10 t = nI c) (hc : c < 4) : A 7 (3 * c + a) = stA A t a := by rw [stA, h, nI_clamp (by omega)]
theorem ln_bd {A : MA} (hwy : ∀ j, j < 216 → ib 9 (A 11 j)) {u t w : Nat} (hu : u < 24) (ht : t < 24) (hw3 : w < 3) : lA (lnA A u t w) ≤ 4374 := by
  have h := fun (a : Nat) (ha : a < 3) => (bd_mul (pl_bd hwy ht (a := a)) (wy_bd hwy hu hw3 ha) (by decide)).2
  exact (bd_add (bd_add (bd_add (show lA 0 ≤ 0 from Nat.le_refl 0) (h 0 (by decide)) (by decide)).2 (h 1 (by decide)) (by decide)).2 (h 2 (by decide)) (by decide)).2
theorem st_bd {A : MA} (hst : ∀ j, j < 12 → ib 99 (A 7 j)) (hso : ∀ j, j < 24 → ∃ c, c < 4 ∧ A 10 j = nI c) {t a : Nat} (ht : t < 24) (ha : a < 3) : ib 99 (stA A t a) := by
  obtain ⟨c, hc, h⟩ := hso t ht
  rw [← st_at h hc]
  exact hst _ (by omega)
theorem fr_bd {A : MA} (hwy : ∀ j, j < 216 → ib 9 (A 11 j)) (hst : ∀ j, j < 12 → ib 99 (A 7 j)) (hso : ∀ j, j < 24 → ∃ c, c < 4 ∧ A 10 j = nI c) {u t : Nat} (hu : u < 24) (ht : t < 24) : lA (frA A u t) ≤ 96228 := by
  have h := fun (a : Nat) (ha : a < 3) => (bd_mul (pl_bd hwy ht (a := a)) (ib_sub (by decide) (st_bd hst hso ht ha) (st_bd hst hso hu ha)).1 (by decide)).2
  exact (bd_add (bd_add (bd_add (show lA 0 ≤ 0 from Nat.le_refl 0) (h 0 (by decide)) (by decide)).2 (h 1 (by decide)) (by decide)).2 (h 2 (by decide)) (by decide)).2
theorem pt_bd {A : MA} (hwy : ∀ j, j < 216 → ib 9 (A 11 j)) (hst : ∀ j, j < 12 → ib 99 (A 7 j)) (hso : ∀ j, j < 24 → ∃ c, c < 4 ∧ A 10 j = nI c) {u t w a : Nat} (hu : u < 24) (ht : t < 24) (hw3 : w < 3) (ha : a < 3) : lA (ptA A u t w a) ≤ 1299078 :=
  (bd_add (bd_mul (ib_l (st_bd hst hso hu ha)) (ln_bd hwy hu ht hw3) (by decide)).2 (bd_mul (fr_bd hwy hst hso hu ht) (wy_bd hwy hu hw3 ha) (by decide)).2 (by decide)).2
def veq (A : MA) (B : MB) (A1 : MA) (B1 : MB) : Prop := (∀ k, k ≤ 14 → A1 k = A k) ∧ B1 15 = B 15
theorem veq.rf (A : MA) (B : MB) : veq A B A B := ⟨fun _ _ => rfl, rfl⟩
theorem op_fin2 {cA : Nat → ClassId} {q : Nat → Nat} {o : OR} {r : Int64} {A0 A1 : MA} {B0 B1 : MB} {f1 : HF} (h : o = (r, A0, B0)) (hm : mo cA q A1 B1 f1) (hv : veq A0 B0 A1 B1) : o.1 = r ∧ ∃ A1 B1, mo cA q A1 B1 f1 ∧ veq o.2.1 o.2.2 A1 B1 := by
  subst h
  exact ⟨rfl, A1, B1, hm, hv⟩
theorem fnd_15 {B B1 : MB} {k : Nat} (h : B1 15 = B 15) : fnd B1 k 15 = fnd B k 15 := by unfold fnd; rw [va_up_self, va_up_self, h]
def op_angle (A : MA) (B : MB) (t k j w : Int32) : OR := if twA A t k j then (if hpA A (atA t k) then (if hpA A (atA t j) then (prL (scA A (atA t k) (atA t j) * scA A (atA t k) (atA t j)) (scA A (atA t k) (atA t k) * scA A (atA t j) (atA t j)) w, A, B) else (lF 2, A, fnd B 2)) else (lF 2, A, fnd B 2)) else (lF 1, A, fnd B 1)
theorem pl_0 {A : MA} (hwy : ∀ j, j < 216 → ib 9 (A 11 j)) {t : Nat} (ht : t < 24) (h : hpA A t) : 0 < (scA A t t).toInt := by
  have m := fun (a : Nat) => bd_mul (pl_bd hwy ht (a := a)) (pl_bd hwy ht (a := a)) (by decide)
  have h2 : (scA A t t).toInt = (plA A t 0).toInt * (plA A t 0).toInt + (plA A t 1).toInt * (plA A t 1).toInt + (plA A t 2).toInt * (plA A t 2).toInt := by
    unfold scA
    rw [(bd_add (bd_add (m 0).2 (m 1).2 (by decide)).2 (m 2).2 (by decide)).1, (bd_add (m 0).2 (m 1).2 (by decide)).1, (m 0).1, (m 1).1, (m 2).1]
  rw [h2]
  have sq : ∀ z : Int, 0 ≤ z * z := fun z => by
    rcases Int.le_total 0 z with hz | hz
    · exact Int.mul_nonneg hz hz
    · exact Int.mul_nonneg_of_nonpos_of_nonpos hz hz
  have sp : ∀ z : Int64, ¬ z = 0 → 0 < z.toInt * z.toInt := fun z hz => by
    have hz2 : z.toInt ≠ 0 := fun e => hz ((c_int64 z 0).mpr e)
    rcases Int.lt_or_gt_of_ne hz2 with h3 | h3
    · exact Int.mul_pos_of_neg_of_neg h3 h3
    · exact Int.mul_pos h3 h3
  have q0 := sq (plA A t 0).toInt
  have q1 := sq (plA A t 1).toInt
  have q2 := sq (plA A t 2).toInt
  rcases h with h | h | h
  · have := sp _ h; omega
  · have := sp _ h; omega
  · have := sp _ h; omega
theorem sc_ne {A : MA} (hwy : ∀ j, j < 216 → ib 9 (A 11 j)) {u t : Nat} (hu : u < 24) (ht : t < 24) (h1 : hpA A u) (h2 : hpA A t) : ¬ scA A u u * scA A t t = 0 := fun e => by
  have h3 := (bd_mul (sc_bd hwy hu hu) (sc_bd hwy ht ht) (by decide)).1
  rw [e] at h3
  have h4 := Int.mul_pos (pl_0 hwy hu h1) (pl_0 hwy ht h2)
  rw [← h3] at h4
  exact absurd h4 (by decide)
set_option maxHeartbeats 4000000 in
set_option maxRecDepth 100000 in
theorem c_X12_findPoint {l : Launch} {D : va_G} {cA : Nat → ClassId} {f : HF} {sz : Nat} {q : Nat → Nat} {A : MA} {B : MB} {u t w : Nat} (hm : mo cA q A B f) (hu : u < 24) (ht : t < 24) (hw3 : w < 3) (hso : ∀ j, j < 24 → ∃ c, c < 4 ∧ A 10 j = nI c) : Met l yX12_findPoint wsX12_findPoint ({ frames := 3, cells := 0, slots := 0, locals := 68 } : Room) (va_Pc [.ref (q 0), .int (nI u), .int (nI t), .int (nI w)] (hB D cA f sz)) (va_Qi (fun r f1 => bI (mtA A u t w) = r ∧ ∃ B1, mo cA q A B1 f1 ∧ (∀ k, k ≠ 25 → k ≠ 26 → B1 k = B k) ∧ (mtA A u t w → B1 26 0 = lnA A u t w ∧ ∀ a, a < 3 → B1 25 a = ptA A u t w a)) (hE D f sz) (hA f sz)) 0 0 (hA f sz) := by
  refine h_of (cc := cX12_findPoint) (maxL := 7) (ret := (some .boolean)) (by decide +kernel) rfl (Nat.le_of_ble_eq_true rfl) ?_
  intro p e s m below meth c ls C hr hlk hnm hw hl
  have hx := C.1.1
  have hb := C.1.2.1
  have hl : lv_has ls 7 [(0, .ref (q 0)), (1, .int (nI u)), (2, .int (nI t)), (3, .int (nI w))] := hl
  have lk0 : Cond.fieldLink RX12 188 "FallingLightModel" "line" "J" ∈ wsX12_findPoint := by decide +kernel
  have lk1 : ∀ w ∈ u_ws RX12 TX12 27, w ∈ wsX12_findPoint := by decide +kernel
  have lk2 : Cond.fieldLink RX12 72 "FallingLightModel" "point" "[J" ∈ wsX12_findPoint := by decide +kernel
  have lk3 : Cond.fieldLink RX12 26 "FallingLightModel" "stationAt" "[I" ∈ wsX12_findPoint := by decide +kernel
  have lk4 : Cond.fieldLink RX12 35 "FallingLightModel" "stationOf" "[I" ∈ wsX12_findPoint := by decide +kernel
  obtain ⟨ct, hct, hAt⟩ := hso t ht
  obtain ⟨cu, hcu, hAu⟩ := hso u hu
  refine lv_aload_n hx hb dX12_findPoint_0 rfl (lv_at hl 0 rfl) ?_
  refine lv_iload_n hx hb dX12_findPoint_1 rfl (lv_at hl 2 rfl) ?_
  refine h_calli hw (h_runV (n := 1) (As := [.int (nI t)]) (rest := []) C hw (c_X12_hasPlane hm (by omega)) gX12_findPoint_X12_hasPlane rfl rfl rfl (by decide +kernel) ⟨by decide, by decide⟩ bX12 hm.1 rfl hl.1 rfl (Nat.le_of_ble_eq_true rfl) dX12_findPoint_2 ⟨by first | decide | omega, by first | decide | omega⟩) (fun r1 f2 H locs hp hw => ?_)
  obtain ⟨rfl, rfl⟩ := hp
  refine n_ifneB C (tgt := 10) dX12_findPoint_5 (by decide) (fun c3 => ?_) (fun c3 => ?_)
  · refine lv_aload_n hx hb dX12_findPoint_10 rfl (lv_at hl 0 rfl) ?_
    refine lv_lconst (v := 0) hx hb dX12_findPoint_11 (by decide) ?_
    refine m_putl C hw hm lk1 lk0 dX12_findPoint_12 (fun B4 f5 H locs eB4 hw hm => ?_)
    refine lv_lconst (v := 0) hx hb dX12_findPoint_15 (by decide) ?_
    refine lv_lstore (lv' := [(4, _), (0, _), (1, _), (2, _), (3, _)]) hx hb dX12_findPoint_16 hl (by decide) rfl (fun ls hl => ?_)
    refine lv_iconst (v := nI 0) hx hb dX12_findPoint_18 (by decide) ?_
    refine lv_istore (lv' := [(6, _), (4, _), (0, _), (1, _), (2, _), (3, _)]) hx hb dX12_findPoint_19 hl (by decide) rfl (fun ls hl => ?_)
    have lp21 : ∀ (n : Nat) (k : Nat) (Bk : MB) (f1 : HF) (H1 : Heap) (locs1 : List Loc) (ls1 : Array Slot), hW D (hA f sz) s.heap f1 H1 locs1 → mo cA q A Bk f1 → lv_has ls1 7 [(0, .ref (q 0)), (1, .int (nI u)), (2, .int (nI t)), (3, .int (nI w)), (4, .long (frK A u t k)), (6, .int (nI k))] → (k ≤ 3) → (Bk 26 0 = lnK A u t w k) → (∀ k, k ≠ 26 → Bk k = B k) → 3 - k < n → W p l e ({ frames := 3, cells := 0, slots := 0, locals := 68 } : Room) s m ([.ref (q 0), .int (nI u), .int (nI t), .int (nI w)]).toArray below meth c H1 locs1 0 0 (MQ below (va_Qi (fun r f1 => bI (mtA A u t w) = r ∧ ∃ B1, mo cA q A B1 f1 ∧ (∀ k, k ≠ 25 → k ≠ 26 → B1 k = B k) ∧ (mtA A u t w → B1 26 0 = lnA A u t w ∧ ∀ a, a < 3 → B1 25 a = ptA A u t w a)) (hE D f sz) (hA f sz)) ([.ref (q 0), .int (nI u), .int (nI t), .int (nI w)]).toArray s 0 0 (hA f sz)) (F0 m 21 ls1 []) := by
      intro n
      induction n with
      | zero => intros; omega
      | succ n ih21 =>
        intro k Bk f1 H locs ls hw hm hl hk hln hBf hmu
        refine lv_iload hx hb dX12_findPoint_21 (lv_at hl 5 rfl) ?_
        refine lv_iconst (v := nI 3) hx hb dX12_findPoint_23 (by decide) ?_
        refine n_cge C (by omega) (by omega) (tgt := 105) dX12_findPoint_24 (by decide) (fun c6 => ?_) (fun c6 => ?_)
        · obtain rfl : k = 3 := by omega
          refine lv_aload_n hx hb dX12_findPoint_105 rfl (lv_at hl 0 rfl) ?_
          refine m_fld C hw hm lk1 26 (by decide) lk0 (v := .long (Bk 26 0)) rfl dX12_findPoint_106 ?_
          refine lv_lconst (v := 0) hx hb dX12_findPoint_109 (by decide) ?_
          refine W.lcmp hx hb dX12_findPoint_110 ?_
          refine l_ifne C (tgt := 116) dX12_findPoint_111 (by decide) (fun c7 => ?_) (fun c7 => ?_)
          · refine lv_iconst (v := nI 0) hx hb dX12_findPoint_116 (by decide) ?_
            refine lv_istore (lv' := [(6, _), (0, _), (1, _), (2, _), (3, _), (4, _)]) hx hb dX12_findPoint_117 hl (by decide) rfl (fun ls hl => ?_)
            have lp119 : ∀ (n : Nat) (k : Nat) (Bj : MB) (f1 : HF) (H1 : Heap) (locs1 : List Loc) (ls1 : Array Slot), hW D (hA f sz) s.heap f1 H1 locs1 → mo cA q A Bj f1 → lv_has ls1 7 [(0, .ref (q 0)), (1, .int (nI u)), (2, .int (nI t)), (3, .int (nI w)), (4, .long (frA A u t)), (6, .int (nI k))] → (k ≤ 3) → (Bj 26 0 = lnA A u t w) → (∀ k, k ≠ 25 → k ≠ 26 → Bj k = B k) → (∀ a, a < k → Bj 25 a = ptA A u t w a) → 3 - k < n → W p l e ({ frames := 3, cells := 0, slots := 0, locals := 68 } : Room) s m ([.ref (q 0), .int (nI u), .int (nI t), .int (nI w)]).toArray below meth c H1 locs1 0 0 (MQ below (va_Qi (fun r f1 => bI (mtA A u t w) = r ∧ ∃ B1, mo cA q A B1 f1 ∧ (∀ k, k ≠ 25 → k ≠ 26 → B1 k = B k) ∧ (mtA A u t w → B1 26 0 = lnA A u t w ∧ ∀ a, a < 3 → B1 25 a = ptA A u t w a)) (hE D f sz) (hA f sz)) ([.ref (q 0), .int (nI u), .int (nI t), .int (nI w)]).toArray s 0 0 (hA f sz)) (F0 m 119 ls1 []) := by
              intro n
              induction n with
              | zero => intros; omega
              | succ n ih119 =>
                intro k Bj f1 H locs ls hw hm hl hk2 hln2 hBf2 hpt hmu
                refine lv_iload hx hb dX12_findPoint_119 (lv_at hl 5 rfl) ?_
                refine lv_iconst (v := nI 3) hx hb dX12_findPoint_121 (by decide) ?_
                refine n_cge C (by omega) (by omega) (tgt := 172) dX12_findPoint_122 (by decide) (fun c8 => ?_) (fun c8 => ?_)
                · obtain rfl : k = 3 := by omega
                  refine lv_iconst (v := nI 1) hx hb dX12_findPoint_172 (by decide) ?_
                  exact h_zret C hr (by first | rfl | decide) hlk hw (⟨bI_t ⟨c3, fun h => c7 (hln.trans h)⟩, _, hm, hBf2, fun _ => ⟨hln2, fun a ha => hpt a ha⟩⟩) dX12_findPoint_173
                · refine lv_aload_n hx hb dX12_findPoint_125 rfl (lv_at hl 0 rfl) ?_
                  refine m_fld C hw hm lk1 25 (by decide) lk2 (v := .ref (q 25)) rfl dX12_findPoint_126 ?_
                  refine lv_iload hx hb dX12_findPoint_129 (lv_at hl 5 rfl) ?_
                  refine lv_aload_n hx hb dX12_findPoint_131 rfl (lv_at hl 0 rfl) ?_
                  refine m_fld C hw hm lk1 7 (by decide) lk3 (v := .ref (q 7)) rfl dX12_findPoint_132 ?_
                  refine lv_iconst (v := nI 3) hx hb dX12_findPoint_135 (by decide) ?_
                  refine lv_aload_n hx hb dX12_findPoint_136 rfl (lv_at hl 0 rfl) ?_
                  refine m_fld C hw hm lk1 10 (by decide) lk4 (v := .ref (q 10)) rfl dX12_findPoint_137 ?_
                  refine lv_iload_n hx hb dX12_findPoint_140 rfl (lv_at hl 1 rfl) ?_
                  refine m_iald C hw hm 10 rfl (v := nI cu) hAu (show u < 24 from (by omega)) dX12_findPoint_141 ?_
                  refine n_imul C dX12_findPoint_142 ?_
                  refine lv_iload hx hb dX12_findPoint_143 (lv_at hl 5 rfl) ?_
                  refine n_iadd C dX12_findPoint_145 ?_
                  refine m_iald C hw hm 7 rfl (v := stA A u k) (st_at hAu hcu) (show 3 * cu + k < 12 from (by omega)) dX12_findPoint_146 ?_
                  refine lv_i2l hx hb dX12_findPoint_147 rfl ?_
                  refine lv_aload_n hx hb dX12_findPoint_148 rfl (lv_at hl 0 rfl) ?_
                  refine m_fld C hw hm lk1 26 (by decide) lk0 (v := .long (Bj 26 0)) rfl dX12_findPoint_149 ?_
                  refine lv_lmul hx hb dX12_findPoint_152 ?_
                  refine lv_lload hx hb dX12_findPoint_153 (lv_at hl 4 rfl) ?_
                  refine lv_aload_n hx hb dX12_findPoint_155 rfl (lv_at hl 0 rfl) ?_
                  refine lv_iload_n hx hb dX12_findPoint_156 rfl (lv_at hl 1 rfl) ?_
                  refine lv_iload_n hx hb dX12_findPoint_157 rfl (lv_at hl 3 rfl) ?_
                  refine lv_iload hx hb dX12_findPoint_158 (lv_at hl 5 rfl) ?_
                  refine h_calll hw (h_runV (n := 3) (As := [.int (nI u), .int (nI w), .int (nI k)]) (rest := [.long (frA A u t), .long (((stA A u k).toInt64) * (Bj 26 0)), .int (nI k), .ref (q 25)]) C hw (c_X12_way hm (by omega) (by omega) (by omega)) gX12_findPoint_X12_way rfl rfl rfl (by decide +kernel) ⟨by decide, by decide⟩ bX12 hm.1 rfl hl.1 rfl (Nat.le_of_ble_eq_true rfl) dX12_findPoint_160 ⟨by first | decide | omega, by first | decide | omega⟩) (fun r9 f10 H locs hp hw => ?_)
                  obtain ⟨rfl, rfl⟩ := hp
                  refine lv_lmul hx hb dX12_findPoint_163 ?_
                  refine lv_ladd hx hb dX12_findPoint_164 ?_
                  refine m_last C hw hm 25 rfl (show k < 3 from (by omega)) dX12_findPoint_165 (fun B11 f12 H locs eB11 hw hm => ?_)
                  refine n_iinc C (lv' := [(6, _), (0, _), (1, _), (2, _), (3, _), (4, _)]) dX12_findPoint_166 hl (k := 5) rfl (by decide) rfl (fun ls hl => ?_)
                  refine lv_goto (tgt := 119) hx hb dX12_findPoint_169 (by decide) ?_
                  exact ih119 (k + 1) _ _ _ _ _ hw hm (lv_sub hl [1, 2, 3, 4, 5, 0] rfl) (by omega) (by rw [eB11, va_up_ne _ _ (by decide)]; exact hln2) (fun k9 h h2 => by rw [eB11, va_up_ne _ _ h]; exact hBf2 k9 h h2) (fun a ha => by rw [eB11, va_up_self]; exact if h9 : a = k then (by rw [h9, pk_uLs, hln2]; rfl) else (by rw [pk_uLn h9]; exact hpt a (by omega))) (by omega)
            exact lp119 _ 0 _ _ _ _ _ hw hm (lv_sub hl [1, 2, 3, 4, 5, 0] rfl) (by omega) hln (fun k _ h => hBf k h) (fun a ha => absurd ha (by omega)) (Nat.lt_succ_self _)
          · refine lv_iconst (v := nI 0) hx hb dX12_findPoint_114 (by decide) ?_
            exact h_zret C hr (by first | rfl | decide) hlk hw (⟨bI_f (fun h => h.2 (hln.symm.trans c7)), _, hm, fun k _ h => hBf k h, fun h => absurd (hln.symm.trans c7) h.2⟩) dX12_findPoint_115
        · refine lv_aload_n hx hb dX12_findPoint_27 rfl (lv_at hl 0 rfl) ?_
          refine lv_dup hx hb dX12_findPoint_28 rfl ?_
          refine m_fld C hw hm lk1 26 (by decide) lk0 (v := .long (Bk 26 0)) rfl dX12_findPoint_29 ?_
          refine lv_aload_n hx hb dX12_findPoint_32 rfl (lv_at hl 0 rfl) ?_
          refine lv_iload_n hx hb dX12_findPoint_33 rfl (lv_at hl 2 rfl) ?_
          refine lv_iload hx hb dX12_findPoint_34 (lv_at hl 5 rfl) ?_
          refine h_calll hw (h_runV (n := 2) (As := [.int (nI t), .int (nI k)]) (rest := [.long (Bk 26 0), .ref (q 0)]) C hw (c_X12_plane hm (by omega) (by omega)) gX12_findPoint_X12_plane rfl rfl rfl (by decide +kernel) ⟨by decide, by decide⟩ bX12 hm.1 rfl hl.1 rfl (Nat.le_of_ble_eq_true rfl) dX12_findPoint_36 ⟨by first | decide | omega, by first | decide | omega⟩) (fun r13 f14 H locs hp hw => ?_)
          obtain ⟨rfl, rfl⟩ := hp
          refine lv_aload_n hx hb dX12_findPoint_39 rfl (lv_at hl 0 rfl) ?_
          refine lv_iload_n hx hb dX12_findPoint_40 rfl (lv_at hl 1 rfl) ?_
          refine lv_iload_n hx hb dX12_findPoint_41 rfl (lv_at hl 3 rfl) ?_
          refine lv_iload hx hb dX12_findPoint_42 (lv_at hl 5 rfl) ?_
          refine h_calll hw (h_runV (n := 3) (As := [.int (nI u), .int (nI w), .int (nI k)]) (rest := [.long (plA A t k), .long (Bk 26 0), .ref (q 0)]) C hw (c_X12_way hm (by omega) (by omega) (by omega)) gX12_findPoint_X12_way rfl rfl rfl (by decide +kernel) ⟨by decide, by decide⟩ bX12 hm.1 rfl hl.1 rfl (Nat.le_of_ble_eq_true rfl) dX12_findPoint_44 ⟨by first | decide | omega, by first | decide | omega⟩) (fun r15 f16 H locs hp hw => ?_)
          obtain ⟨rfl, rfl⟩ := hp
          refine lv_lmul hx hb dX12_findPoint_47 ?_
          refine lv_ladd hx hb dX12_findPoint_48 ?_
          refine m_putl C hw hm lk1 lk0 dX12_findPoint_49 (fun B17 f18 H locs eB17 hw hm => ?_)
          refine lv_lload hx hb dX12_findPoint_52 (lv_at hl 4 rfl) ?_
          refine lv_aload_n hx hb dX12_findPoint_54 rfl (lv_at hl 0 rfl) ?_
          refine lv_iload_n hx hb dX12_findPoint_55 rfl (lv_at hl 2 rfl) ?_
          refine lv_iload hx hb dX12_findPoint_56 (lv_at hl 5 rfl) ?_
          refine h_calll hw (h_runV (n := 2) (As := [.int (nI t), .int (nI k)]) (rest := [.long (frK A u t k)]) C hw (c_X12_plane hm (by omega) (by omega)) gX12_findPoint_X12_plane rfl rfl rfl (by decide +kernel) ⟨by decide, by decide⟩ bX12 hm.1 rfl hl.1 rfl (Nat.le_of_ble_eq_true rfl) dX12_findPoint_58 ⟨by first | decide | omega, by first | decide | omega⟩) (fun r19 f20 H locs hp hw => ?_)
          obtain ⟨rfl, rfl⟩ := hp
          refine lv_aload_n hx hb dX12_findPoint_61 rfl (lv_at hl 0 rfl) ?_
          refine m_fld C hw hm lk1 7 (by decide) lk3 (v := .ref (q 7)) rfl dX12_findPoint_62 ?_
          refine lv_iconst (v := nI 3) hx hb dX12_findPoint_65 (by decide) ?_
          refine lv_aload_n hx hb dX12_findPoint_66 rfl (lv_at hl 0 rfl) ?_
          refine m_fld C hw hm lk1 10 (by decide) lk4 (v := .ref (q 10)) rfl dX12_findPoint_67 ?_
          refine lv_iload_n hx hb dX12_findPoint_70 rfl (lv_at hl 2 rfl) ?_
          refine m_iald C hw hm 10 rfl (v := nI ct) hAt (show t < 24 from (by omega)) dX12_findPoint_71 ?_
          refine n_imul C dX12_findPoint_72 ?_
          refine lv_iload hx hb dX12_findPoint_73 (lv_at hl 5 rfl) ?_
          refine n_iadd C dX12_findPoint_75 ?_
          refine m_iald C hw hm 7 rfl (v := stA A t k) (st_at hAt hct) (show 3 * ct + k < 12 from (by omega)) dX12_findPoint_76 ?_
          refine lv_aload_n hx hb dX12_findPoint_77 rfl (lv_at hl 0 rfl) ?_
          refine m_fld C hw hm lk1 7 (by decide) lk3 (v := .ref (q 7)) rfl dX12_findPoint_78 ?_
          refine lv_iconst (v := nI 3) hx hb dX12_findPoint_81 (by decide) ?_
          refine lv_aload_n hx hb dX12_findPoint_82 rfl (lv_at hl 0 rfl) ?_
          refine m_fld C hw hm lk1 10 (by decide) lk4 (v := .ref (q 10)) rfl dX12_findPoint_83 ?_
          refine lv_iload_n hx hb dX12_findPoint_86 rfl (lv_at hl 1 rfl) ?_
          refine m_iald C hw hm 10 rfl (v := nI cu) hAu (show u < 24 from (by omega)) dX12_findPoint_87 ?_
          refine n_imul C dX12_findPoint_88 ?_
          refine lv_iload hx hb dX12_findPoint_89 (lv_at hl 5 rfl) ?_
          refine n_iadd C dX12_findPoint_91 ?_
          refine m_iald C hw hm 7 rfl (v := stA A u k) (st_at hAu hcu) (show 3 * cu + k < 12 from (by omega)) dX12_findPoint_92 ?_
          refine lv_isub hx hb dX12_findPoint_93 ?_
          refine lv_i2l hx hb dX12_findPoint_94 rfl ?_
          refine lv_lmul hx hb dX12_findPoint_95 ?_
          refine lv_ladd hx hb dX12_findPoint_96 ?_
          refine lv_lstore (lv' := [(4, _), (0, _), (1, _), (2, _), (3, _), (6, _)]) hx hb dX12_findPoint_97 hl (by decide) rfl (fun ls hl => ?_)
          refine n_iinc C (lv' := [(6, _), (4, _), (0, _), (1, _), (2, _), (3, _)]) dX12_findPoint_99 hl (k := 5) rfl (by decide) rfl (fun ls hl => ?_)
          refine lv_goto (tgt := 21) hx hb dX12_findPoint_102 (by decide) ?_
          exact ih21 (k + 1) _ _ _ _ _ hw hm (lv_sub hl [2, 3, 4, 5, 1, 0] rfl) (by omega) (by rw [eB17, va_up_self, hln]; rfl) (fun k9 h => by rw [eB17, va_up_ne _ _ h]; exact hBf k9 h) (by omega)
    exact lp21 _ 0 _ _ _ _ _ hw hm (lv_sub hl [2, 3, 4, 5, 1, 0] rfl) (by omega) (by rw [eB4, va_up_self]; rfl) (fun k h => by rw [eB4, va_up_ne _ _ h]) (Nat.lt_succ_self _)
  · refine lv_iconst (v := nI 0) hx hb dX12_findPoint_8 (by decide) ?_
    exact h_zret C hr (by first | rfl | decide) hlk hw (⟨bI_f (fun h => c3 h.1), _, hm, fun _ _ _ => rfl, fun h => absurd h.1 c3⟩) dX12_findPoint_9
set_option maxHeartbeats 4000000 in
set_option maxRecDepth 100000 in
theorem c_X12_angle {l : Launch} {D : va_G} {cA : Nat → ClassId} {f : HF} {sz : Nat} {q : Nat → Nat} {A : MA} {B : MB} {t k k2 w : Int32} (hm : mo cA q A B f) (hsg : ∀ j, j < 6 → ∃ c, c ≤ 4 ∧ A 8 j = nI c) (hwy : ∀ j, j < 216 → ib 9 (A 11 j)) : Met l yX12_angle wsX12_angle ({ frames := 4, cells := 0, slots := 0, locals := 87 } : Room) (va_Pc [.ref (q 0), .int t, .int k, .int k2, .int w] (hB D cA f sz)) (va_Ql (fun r f1 => (op_angle A B t k k2 w).1 = r ∧ mo cA q (op_angle A B t k k2 w).2.1 (op_angle A B t k k2 w).2.2 f1) (hE D f sz) (hA f sz)) 0 0 (hA f sz) := by
  refine h_of (cc := cX12_angle) (maxL := 7) (ret := (some .long)) (by decide +kernel) rfl (Nat.le_of_ble_eq_true rfl) ?_
  intro p e s m below meth c ls C hr hlk hnm hw hl
  have hx := C.1.1
  have hb := C.1.2.1
  have hl : lv_has ls 7 [(0, .ref (q 0)), (1, .int t), (2, .int k), (3, .int k2), (4, .int w)] := hl
  have lk0 : Cond.constantLong RX12 106 (lF 2) ∈ wsX12_angle := by decide +kernel
  have lk1 : Cond.constantLong RX12 91 (lF 1) ∈ wsX12_angle := by decide +kernel
  refine lv_aload_n hx hb dX12_angle_0 rfl (lv_at hl 0 rfl) ?_
  refine lv_iload_n hx hb dX12_angle_1 rfl (lv_at hl 1 rfl) ?_
  refine lv_iload_n hx hb dX12_angle_2 rfl (lv_at hl 2 rfl) ?_
  refine lv_iload_n hx hb dX12_angle_3 rfl (lv_at hl 3 rfl) ?_
  refine h_calli hw (h_runV (n := 3) (As := [.int t, .int k, .int k2]) (rest := []) C hw (c_X12_areTwo hm) gX12_angle_X12_areTwo rfl rfl rfl (by decide +kernel) ⟨by decide, by decide⟩ bX12 hm.1 rfl hl.1 rfl (Nat.le_of_ble_eq_true rfl) dX12_angle_4 ⟨by first | decide | omega, by first | decide | omega⟩) (fun r1 f2 H locs hp hw => ?_)
  obtain ⟨rfl, rfl⟩ := hp
  refine n_ifneB C (tgt := 18) dX12_angle_7 (by decide) (fun c3 => ?_) (fun c3 => ?_)
  · obtain ⟨i, j, c9, hi, hj, hc9, hA8, rfl, rfl⟩ := sgN hsg c3.1
    obtain ⟨i2, j2, c8, hi2, hj2, hc8, hA82, hti, rfl⟩ := sgN hsg c3.2.1
    obtain rfl : i = i2 := (nI_eq (by omega) (by omega)).mp hti
    obtain rfl : c9 = c8 := (nI_eq (by omega) (by omega)).mp (hA8.symm.trans hA82)
    refine lv_iconst (v := nI 4) hx hb dX12_angle_18 (by decide) ?_
    refine lv_iload_n hx hb dX12_angle_19 rfl (lv_at hl 1 rfl) ?_
    refine n_imul C dX12_angle_20 ?_
    refine lv_iload_n hx hb dX12_angle_21 rfl (lv_at hl 2 rfl) ?_
    refine n_iadd C dX12_angle_22 ?_
    refine lv_istore (lv' := [(5, _), (0, _), (1, _), (2, _), (3, _), (4, _)]) hx hb dX12_angle_23 hl (by decide) rfl (fun ls hl => ?_)
    refine lv_iconst (v := nI 4) hx hb dX12_angle_25 (by decide) ?_
    refine lv_iload_n hx hb dX12_angle_26 rfl (lv_at hl 2 rfl) ?_
    refine n_imul C dX12_angle_27 ?_
    refine lv_iload_n hx hb dX12_angle_28 rfl (lv_at hl 4 rfl) ?_
    refine n_iadd C dX12_angle_29 ?_
    refine lv_istore (lv' := [(6, _), (5, _), (0, _), (1, _), (2, _), (3, _), (4, _)]) hx hb dX12_angle_30 hl (by decide) rfl (fun ls hl => ?_)
    refine lv_aload_n hx hb dX12_angle_32 rfl (lv_at hl 2 rfl) ?_
    refine lv_iload hx hb dX12_angle_33 (lv_at hl 1 rfl) ?_
    refine h_calli hw (h_runV (n := 1) (As := [.int (nI (4 * i + j))]) (rest := []) C hw (c_X12_hasPlane hm (by omega)) gX12_angle_X12_hasPlane rfl rfl rfl (by decide +kernel) ⟨by decide, by decide⟩ bX12 hm.1 rfl hl.1 rfl (Nat.le_of_ble_eq_true rfl) dX12_angle_35 ⟨by first | decide | omega, by first | decide | omega⟩) (fun r4 f5 H locs hp hw => ?_)
    obtain ⟨rfl, rfl⟩ := hp
    refine n_ifeqB C (tgt := 50) dX12_angle_38 (by decide) (fun c6 => ?_) (fun c6 => ?_)
    · refine lv_aload_n hx hb dX12_angle_50 rfl (lv_at hl 2 rfl) ?_
      refine lv_ldc2 hx hb C.1.2.2.2.1 (C.1.2.2.2.2 _ lk0) dX12_angle_51 ?_
      refine h_calll hw (h_runV (n := 1) (As := [.long (lF 2)]) (rest := []) C hw (c_X12_finding hm (by omega)) gX12_angle_X12_finding rfl rfl rfl (by decide +kernel) ⟨by decide, by decide⟩ bX12 hm.1 rfl hl.1 rfl (Nat.le_of_ble_eq_true rfl) dX12_angle_54 ⟨by first | decide | omega, by first | decide | omega⟩) (fun r7 f8 H locs hp hw => ?_)
      obtain ⟨rfl, B9, eB9, hm⟩ := hp
      exact h_lret C hr hlk hw (op_fin (by subst eB9; simp only [op_angle, if_pos c3, if_neg c6, atN hi (show j < 4 by omega), atN hi (show j2 < 4 by omega)]; try rfl) hm) dX12_angle_57
    · refine lv_aload_n hx hb dX12_angle_41 rfl (lv_at hl 2 rfl) ?_
      refine lv_iload hx hb dX12_angle_42 (lv_at hl 0 rfl) ?_
      refine h_calli hw (h_runV (n := 1) (As := [.int (nI (4 * i + j2))]) (rest := []) C hw (c_X12_hasPlane hm (by omega)) gX12_angle_X12_hasPlane rfl rfl rfl (by decide +kernel) ⟨by decide, by decide⟩ bX12 hm.1 rfl hl.1 rfl (Nat.le_of_ble_eq_true rfl) dX12_angle_44 ⟨by first | decide | omega, by first | decide | omega⟩) (fun r10 f11 H locs hp hw => ?_)
      obtain ⟨rfl, rfl⟩ := hp
      refine n_ifneB C (tgt := 58) dX12_angle_47 (by decide) (fun c12 => ?_) (fun c12 => ?_)
      · refine lv_aload_n hx hb dX12_angle_58 rfl (lv_at hl 2 rfl) ?_
        refine lv_iload hx hb dX12_angle_59 (lv_at hl 1 rfl) ?_
        refine lv_iload hx hb dX12_angle_61 (lv_at hl 0 rfl) ?_
        refine h_calll hw (h_runV (n := 2) (As := [.int (nI (4 * i + j)), .int (nI (4 * i + j2))]) (rest := []) C hw (c_X12_scalar hm (by omega) (by omega)) gX12_angle_X12_scalar rfl rfl rfl (by decide +kernel) ⟨by decide, by decide⟩ bX12 hm.1 rfl hl.1 rfl (Nat.le_of_ble_eq_true rfl) dX12_angle_63 ⟨by first | decide | omega, by first | decide | omega⟩) (fun r13 f14 H locs hp hw => ?_)
        obtain ⟨rfl, rfl⟩ := hp
        refine lv_aload_n hx hb dX12_angle_66 rfl (lv_at hl 2 rfl) ?_
        refine lv_iload hx hb dX12_angle_67 (lv_at hl 1 rfl) ?_
        refine lv_iload hx hb dX12_angle_69 (lv_at hl 0 rfl) ?_
        refine h_calll hw (h_runV (n := 2) (As := [.int (nI (4 * i + j)), .int (nI (4 * i + j2))]) (rest := [.long (scA A (4 * i + j) (4 * i + j2))]) C hw (c_X12_scalar hm (by omega) (by omega)) gX12_angle_X12_scalar rfl rfl rfl (by decide +kernel) ⟨by decide, by decide⟩ bX12 hm.1 rfl hl.1 rfl (Nat.le_of_ble_eq_true rfl) dX12_angle_71 ⟨by first | decide | omega, by first | decide | omega⟩) (fun r15 f16 H locs hp hw => ?_)
        obtain ⟨rfl, rfl⟩ := hp
        refine lv_lmul hx hb dX12_angle_74 ?_
        refine lv_aload_n hx hb dX12_angle_75 rfl (lv_at hl 2 rfl) ?_
        refine lv_iload hx hb dX12_angle_76 (lv_at hl 1 rfl) ?_
        refine lv_iload hx hb dX12_angle_78 (lv_at hl 1 rfl) ?_
        refine h_calll hw (h_runV (n := 2) (As := [.int (nI (4 * i + j)), .int (nI (4 * i + j))]) (rest := [.long ((scA A (4 * i + j) (4 * i + j2)) * (scA A (4 * i + j) (4 * i + j2)))]) C hw (c_X12_scalar hm (by omega) (by omega)) gX12_angle_X12_scalar rfl rfl rfl (by decide +kernel) ⟨by decide, by decide⟩ bX12 hm.1 rfl hl.1 rfl (Nat.le_of_ble_eq_true rfl) dX12_angle_80 ⟨by first | decide | omega, by first | decide | omega⟩) (fun r17 f18 H locs hp hw => ?_)
        obtain ⟨rfl, rfl⟩ := hp
        refine lv_aload_n hx hb dX12_angle_83 rfl (lv_at hl 2 rfl) ?_
        refine lv_iload hx hb dX12_angle_84 (lv_at hl 0 rfl) ?_
        refine lv_iload hx hb dX12_angle_86 (lv_at hl 0 rfl) ?_
        refine h_calll hw (h_runV (n := 2) (As := [.int (nI (4 * i + j2)), .int (nI (4 * i + j2))]) (rest := [.long (scA A (4 * i + j) (4 * i + j)), .long ((scA A (4 * i + j) (4 * i + j2)) * (scA A (4 * i + j) (4 * i + j2)))]) C hw (c_X12_scalar hm (by omega) (by omega)) gX12_angle_X12_scalar rfl rfl rfl (by decide +kernel) ⟨by decide, by decide⟩ bX12 hm.1 rfl hl.1 rfl (Nat.le_of_ble_eq_true rfl) dX12_angle_88 ⟨by first | decide | omega, by first | decide | omega⟩) (fun r19 f20 H locs hp hw => ?_)
        obtain ⟨rfl, rfl⟩ := hp
        refine lv_lmul hx hb dX12_angle_91 ?_
        refine lv_iload hx hb dX12_angle_92 (lv_at hl 6 rfl) ?_
        refine h_calll hw (h_runS (n := 3) (As := [.long ((scA A (4 * i + j) (4 * i + j2)) * (scA A (4 * i + j) (4 * i + j2))), .long ((scA A (4 * i + j) (4 * i + j)) * (scA A (4 * i + j2) (4 * i + j2))), .int w]) (rest := []) C hw (c_X12_part (Nat.lt_of_le_of_lt (bd_mul (sc_bd hwy (by omega) (by omega)) (sc_bd hwy (by omega) (by omega)) (by decide)).2 (by decide)) (Nat.lt_of_le_of_lt (bd_mul (sc_bd hwy (by omega) (by omega)) (sc_bd hwy (by omega) (by omega)) (by decide)).2 (by decide)) (sc_ne hwy (by omega) (by omega) c6 c12)) gX12_angle_X12_part rfl rfl rfl (by decide +kernel) ⟨by decide, by decide⟩ rfl hl.1 rfl (Nat.le_of_ble_eq_true rfl) dX12_angle_94 ⟨by first | decide | omega, by first | decide | omega⟩) (fun r21 f22 H locs hp hw => ?_)
        obtain ⟨rfl, rfl⟩ := hp
        exact h_lret C hr hlk hw (op_fin (by simp only [op_angle, if_pos c3, if_pos c6, if_pos c12, atN hi (show j < 4 by omega), atN hi (show j2 < 4 by omega)]; try rfl) hm) dX12_angle_97
      · refine lv_aload_n hx hb dX12_angle_50 rfl (lv_at hl 2 rfl) ?_
        refine lv_ldc2 hx hb C.1.2.2.2.1 (C.1.2.2.2.2 _ lk0) dX12_angle_51 ?_
        refine h_calll hw (h_runV (n := 1) (As := [.long (lF 2)]) (rest := []) C hw (c_X12_finding hm (by omega)) gX12_angle_X12_finding rfl rfl rfl (by decide +kernel) ⟨by decide, by decide⟩ bX12 hm.1 rfl hl.1 rfl (Nat.le_of_ble_eq_true rfl) dX12_angle_54 ⟨by first | decide | omega, by first | decide | omega⟩) (fun r23 f24 H locs hp hw => ?_)
        obtain ⟨rfl, B25, eB25, hm⟩ := hp
        exact h_lret C hr hlk hw (op_fin (by subst eB25; simp only [op_angle, if_pos c3, if_pos c6, if_neg c12, atN hi (show j < 4 by omega), atN hi (show j2 < 4 by omega)]; try rfl) hm) dX12_angle_57
  · refine lv_aload_n hx hb dX12_angle_10 rfl (lv_at hl 0 rfl) ?_
    refine lv_ldc2 hx hb C.1.2.2.2.1 (C.1.2.2.2.2 _ lk1) dX12_angle_11 ?_
    refine h_calll hw (h_runV (n := 1) (As := [.long (lF 1)]) (rest := []) C hw (c_X12_finding hm (by omega)) gX12_angle_X12_finding rfl rfl rfl (by decide +kernel) ⟨by decide, by decide⟩ bX12 hm.1 rfl hl.1 rfl (Nat.le_of_ble_eq_true rfl) dX12_angle_14 ⟨by first | decide | omega, by first | decide | omega⟩) (fun r26 f27 H locs hp hw => ?_)
    obtain ⟨rfl, B28, eB28, hm⟩ := hp
    exact h_lret C hr hlk hw (op_fin (by subst eB28; simp only [op_angle, if_neg c3]; try rfl) hm) dX12_angle_17
