/-! ===== the reference: its constructor (laid by program) ===== -/
theorem dfX12 : ∀ j, j < 27 → defaultValue (tyX12 j) = vp_V [.int 0, .int 0, .null, .null, .int 0, .null, .null, .null, .null, .null, .null, .null, .null, .int 0, .null, .null, .null, .null, .int 0, .int 0, .null, .null, .null, .null, .null, .null, .long 0] j := fun j hj => match j, hj with
  | 0, _ => rfl
  | 1, _ => rfl
  | 2, _ => rfl
  | 3, _ => rfl
  | 4, _ => rfl
  | 5, _ => rfl
  | 6, _ => rfl
  | 7, _ => rfl
  | 8, _ => rfl
  | 9, _ => rfl
  | 10, _ => rfl
  | 11, _ => rfl
  | 12, _ => rfl
  | 13, _ => rfl
  | 14, _ => rfl
  | 15, _ => rfl
  | 16, _ => rfl
  | 17, _ => rfl
  | 18, _ => rfl
  | 19, _ => rfl
  | 20, _ => rfl
  | 21, _ => rfl
  | 22, _ => rfl
  | 23, _ => rfl
  | 24, _ => rfl
  | 25, _ => rfl
  | 26, _ => rfl
  | n + 27, h => absurd h (by omega)
theorem mo_ly {cA : Nat → ClassId} {f0 f : HF} {a : Nat} {Z : va_E} {L : List (Nat × va_E)} {q pos : Nat → Nat} {A : MA} {B : MB} (h : lyO f0 f a Z L) (h0 : q 0 = a) (hZ : Z = eO 12 (mfs q A B)) (hI : ∀ k, mI k = true → L[pos k]? = some (q k, eI cA (mLen k) (A k))) (hL : ∀ k, mL k = true → L[pos k]? = some (q k, eL cA (mLen k) (B k))) (hp : ∀ i, i < 27 → ∀ j, j < 27 → (mI i || mL i) = true → (mI j || mL j) = true → pos i = pos j → i = j) : mo cA q A B f := by
  have hb : ∀ k, mU k = true → k ≠ 0 → (mI k || mL k) = true ∧ ∃ e, L[pos k]? = some (q k, e) := fun k hk h0 => by
    by_cases h1 : mI k = true
    · exact ⟨by rw [h1]; rfl, _, hI k h1⟩
    · have h2 : mL k = true := by
        unfold mU at hk
        cases h3 : mL k with
        | true => rfl
        | false =>
          have h4 : mI k = false := Bool.not_eq_true _ ▸ h1
          rw [h3, h4] at hk
          simp at hk
          exact absurd hk h0
      exact ⟨by rw [h2, Bool.or_true], _, hL k h2⟩
  have h27 : ∀ k, (mI k || mL k) = true → k < 27 := fun k hk => by
    rcases Nat.lt_or_ge k 27 with g | g
    · exact g
    · obtain ⟨j, rfl⟩ : ∃ j, k = j + 27 := ⟨k - 27, by omega⟩
      cases hk
  refine ⟨by rw [h0, ← hZ]; exact h.1, fun k hk => (h.2.2.1 _ _ (hI k hk)).1, fun k hk => (h.2.2.1 _ _ (hL k hk)).1, fun i j hi hj e => ?_⟩
  by_cases e0 : i = 0
  · by_cases e1 : j = 0
    · omega
    · subst e0
      obtain ⟨-, y, hy⟩ := hb j hj e1
      exact absurd (e.symm.trans h0) (h.2.2.1 _ _ hy).2.2
  · obtain ⟨b1, y1, hy1⟩ := hb i hi e0
    by_cases e1 : j = 0
    · subst e1
      exact absurd (e.trans h0) (h.2.2.1 _ _ hy1).2.2
    · obtain ⟨b2, y2, hy2⟩ := hb j hj e1
      exact hp i (h27 i b1) j (h27 j b2) b1 b2 (h.2.2.2 _ _ _ _ hy1 hy2 e)
set_option maxHeartbeats 4000000 in
set_option maxRecDepth 100000 in
theorem c_X12_init {l : Launch} {D : va_G} {cA : Nat → ClassId} {f : HF} {sz : Nat} {a : Nat}  (h0 : f a = some (eO 12 [.int 0, .int 0, .null, .null, .int 0, .null, .null, .null, .null, .null, .null, .null, .null, .int 0, .null, .null, .null, .null, .int 0, .int 0, .null, .null, .null, .null, .null, .null, .long 0])) : Met l yX12_init wsX12_init ({ frames := 1, cells := 20, slots := 2200, locals := 20 } : Room) (va_Pc [.ref a] (hB D cA f sz)) (va_Qv (fun f1 => ∃ q : Nat → Nat, q 0 = a ∧ mo cA q A00 B00 f1) (hE D f sz) (hA f sz)) 20 2200 (hA f sz) := by
  refine h_of (cc := cX12_init) (maxL := 1) (ret := none) (by decide +kernel) rfl (Nat.le_of_ble_eq_true rfl) ?_
  intro p e s m below meth c ls C hr hlk hnm hw hl
  have hx := C.1.1
  have hb := C.1.2.1
  have hl : lv_has ls 1 [(0, .ref a)] := hl
  have lk0 : Cond.methodLink RX12 3 objectInit ∈ wsX12_init := by decide +kernel
  have lk1 : Cond.instanceMethod objectInit ∈ wsX12_init := by decide +kernel
  have lk2 : Cond.code objectInit ⟨#[0xb1]⟩ 1 none ∈ wsX12_init := by decide +kernel
  have lk3 : Cond.arrayClass .int ∈ wsX12_init := by decide +kernel
  have lk4 : Cond.fieldLink RX12 9 "FallingLightModel" "pointX" "[I" ∈ wsX12_init := by decide +kernel
  have lk5 : ∀ w ∈ u_ws RX12 TX12 27, w ∈ wsX12_init := by decide +kernel
  have lk6 : Cond.fieldLink RX12 13 "FallingLightModel" "pointY" "[I" ∈ wsX12_init := by decide +kernel
  have lk7 : Cond.fieldLink RX12 16 "FallingLightModel" "near" "I" ∈ wsX12_init := by decide +kernel
  have lk8 : Cond.fieldLink RX12 20 "FallingLightModel" "rows" "[I" ∈ wsX12_init := by decide +kernel
  have lk9 : Cond.fieldLink RX12 23 "FallingLightModel" "rowSize" "[I" ∈ wsX12_init := by decide +kernel
  have lk10 : Cond.fieldLink RX12 26 "FallingLightModel" "stationAt" "[I" ∈ wsX12_init := by decide +kernel
  have lk11 : Cond.fieldLink RX12 29 "FallingLightModel" "sights" "[I" ∈ wsX12_init := by decide +kernel
  have lk12 : Cond.fieldLink RX12 32 "FallingLightModel" "kindOf" "[I" ∈ wsX12_init := by decide +kernel
  have lk13 : Cond.fieldLink RX12 35 "FallingLightModel" "stationOf" "[I" ∈ wsX12_init := by decide +kernel
  have lk14 : Cond.fieldLink RX12 38 "FallingLightModel" "ways" "[I" ∈ wsX12_init := by decide +kernel
  have lk15 : Cond.fieldLink RX12 41 "FallingLightModel" "drifts" "[I" ∈ wsX12_init := by decide +kernel
  have lk16 : Cond.fieldLink RX12 44 "FallingLightModel" "tape" "[I" ∈ wsX12_init := by decide +kernel
  have lk17 : Cond.arrayClass .long ∈ wsX12_init := by decide +kernel
  have lk18 : Cond.fieldLink RX12 47 "FallingLightModel" "findings" "[J" ∈ wsX12_init := by decide +kernel
  have lk19 : Cond.fieldLink RX12 51 "FallingLightModel" "cornerAt" "[I" ∈ wsX12_init := by decide +kernel
  have lk20 : Cond.fieldLink RX12 54 "FallingLightModel" "squareAt" "[J" ∈ wsX12_init := by decide +kernel
  have lk21 : Cond.fieldLink RX12 57 "FallingLightModel" "goodCorner" "[I" ∈ wsX12_init := by decide +kernel
  have lk22 : Cond.fieldLink RX12 60 "FallingLightModel" "goodSquare" "[J" ∈ wsX12_init := by decide +kernel
  have lk23 : Cond.fieldLink RX12 63 "FallingLightModel" "goodTurn" "[I" ∈ wsX12_init := by decide +kernel
  have lk24 : Cond.fieldLink RX12 66 "FallingLightModel" "voteOf" "[I" ∈ wsX12_init := by decide +kernel
  have lk25 : Cond.fieldLink RX12 69 "FallingLightModel" "three" "[I" ∈ wsX12_init := by decide +kernel
  have lk26 : Cond.fieldLink RX12 72 "FallingLightModel" "point" "[J" ∈ wsX12_init := by decide +kernel
  have hLy := ly_0 h0
  refine lv_aload_n hx hb dX12_init_0 rfl (lv_at hl 0 rfl) ?_
  refine W.objInit hx hb C.1.2.2.2.1 (C.1.2.2.2.2 _ lk0) (C.1.2.2.2.2 _ lk1) (C.1.2.2.2.2 _ lk2) rfl (hl.1.trans C.1.2.2.1.symm) rfl dX12_init_1 (Nat.le_of_ble_eq_true rfl) (Nat.le_of_ble_eq_true rfl) ?_
  refine W.eq (g2 := F0 m 4 ls []) rfl ?_
  refine lv_aload_n hx hb dX12_init_4 rfl (lv_at hl 0 rfl) ?_
  refine lv_bipush (v := nI 22) hx hb dX12_init_5 (by decide) ?_
  refine h_newi C hw lk3 (by first | decide | omega) (by first | decide | omega | (dsimp only; omega)) (by first | decide | omega | (dsimp only; omega)) dX12_init_7 (fun q1 H hq4 hw => ?_)
  generalize e3 : va_up _ q1 _ = f2 at hw
  replace e3 := Eq.symm e3
  have hLy : lyO f f2 a (eO 12 [.int 0, .int 0, .null, .null, .int 0, .null, .null, .null, .null, .null, .null, .null, .null, .int 0, .null, .null, .null, .null, .int 0, .int 0, .null, .null, .null, .null, .null, .null, .long 0]) [(q1, eI cA 22 (fun _ => 0))] := ly_new hLy hq4 e3
  refine h_putF1 C hw bX12 hLy.1 lk5 2 (by decide) lk4 rfl hnm rfl rfl rfl (Nat.le_of_ble_eq_true rfl) dX12_init_9 (fun f5 H locs e6 hw => ?_)
  have hLy : lyO f f5 a (eO 12 [.int 0, .int 0, .ref q1, .null, .int 0, .null, .null, .null, .null, .null, .null, .null, .null, .int 0, .null, .null, .null, .null, .int 0, .int 0, .null, .null, .null, .null, .null, .null, .long 0]) [(q1, eI cA 22 (fun _ => 0))] := ly_seta hLy e6
  refine lv_aload_n hx hb dX12_init_12 rfl (lv_at hl 0 rfl) ?_
  refine lv_bipush (v := nI 22) hx hb dX12_init_13 (by decide) ?_
  refine h_newi C hw lk3 (by first | decide | omega) (by first | decide | omega | (dsimp only; omega)) (by first | decide | omega | (dsimp only; omega)) dX12_init_15 (fun q7 H hq10 hw => ?_)
  generalize e9 : va_up _ q7 _ = f8 at hw
  replace e9 := Eq.symm e9
  have hLy : lyO f f8 a (eO 12 [.int 0, .int 0, .ref q1, .null, .int 0, .null, .null, .null, .null, .null, .null, .null, .null, .int 0, .null, .null, .null, .null, .int 0, .int 0, .null, .null, .null, .null, .null, .null, .long 0]) [(q1, eI cA 22 (fun _ => 0)), (q7, eI cA 22 (fun _ => 0))] := ly_new hLy hq10 e9
  refine h_putF1 C hw bX12 hLy.1 lk5 3 (by decide) lk6 rfl hnm rfl rfl rfl (Nat.le_of_ble_eq_true rfl) dX12_init_17 (fun f11 H locs e12 hw => ?_)
  have hLy : lyO f f11 a (eO 12 [.int 0, .int 0, .ref q1, .ref q7, .int 0, .null, .null, .null, .null, .null, .null, .null, .null, .int 0, .null, .null, .null, .null, .int 0, .int 0, .null, .null, .null, .null, .null, .null, .long 0]) [(q1, eI cA 22 (fun _ => 0)), (q7, eI cA 22 (fun _ => 0))] := ly_seta hLy e12
  refine lv_aload_n hx hb dX12_init_20 rfl (lv_at hl 0 rfl) ?_
  refine lv_iconst (v := nI 5) hx hb dX12_init_21 (by decide) ?_
  refine h_put1 C hw bX12 hLy.1 lk5 4 (by decide) lk7 rfl rfl rfl (Nat.le_of_ble_eq_true rfl) dX12_init_22 (fun f13 H locs e14 hw => ?_)
  have hLy : lyO f f13 a (eO 12 [.int 0, .int 0, .ref q1, .ref q7, .int (nI 5), .null, .null, .null, .null, .null, .null, .null, .null, .int 0, .null, .null, .null, .null, .int 0, .int 0, .null, .null, .null, .null, .null, .null, .long 0]) [(q1, eI cA 22 (fun _ => 0)), (q7, eI cA 22 (fun _ => 0))] := ly_seta hLy e14
  refine lv_aload_n hx hb dX12_init_25 rfl (lv_at hl 0 rfl) ?_
  refine lv_bipush (v := nI 48) hx hb dX12_init_26 (by decide) ?_
  refine h_newi C hw lk3 (by first | decide | omega) (by first | decide | omega | (dsimp only; omega)) (by first | decide | omega | (dsimp only; omega)) dX12_init_28 (fun q15 H hq18 hw => ?_)
  generalize e17 : va_up _ q15 _ = f16 at hw
  replace e17 := Eq.symm e17
  have hLy : lyO f f16 a (eO 12 [.int 0, .int 0, .ref q1, .ref q7, .int (nI 5), .null, .null, .null, .null, .null, .null, .null, .null, .int 0, .null, .null, .null, .null, .int 0, .int 0, .null, .null, .null, .null, .null, .null, .long 0]) [(q1, eI cA 22 (fun _ => 0)), (q7, eI cA 22 (fun _ => 0)), (q15, eI cA 48 (fun _ => 0))] := ly_new hLy hq18 e17
  refine h_putF1 C hw bX12 hLy.1 lk5 5 (by decide) lk8 rfl hnm rfl rfl rfl (Nat.le_of_ble_eq_true rfl) dX12_init_30 (fun f19 H locs e20 hw => ?_)
  have hLy : lyO f f19 a (eO 12 [.int 0, .int 0, .ref q1, .ref q7, .int (nI 5), .ref q15, .null, .null, .null, .null, .null, .null, .null, .int 0, .null, .null, .null, .null, .int 0, .int 0, .null, .null, .null, .null, .null, .null, .long 0]) [(q1, eI cA 22 (fun _ => 0)), (q7, eI cA 22 (fun _ => 0)), (q15, eI cA 48 (fun _ => 0))] := ly_seta hLy e20
  refine lv_aload_n hx hb dX12_init_33 rfl (lv_at hl 0 rfl) ?_
  refine lv_iconst (v := nI 2) hx hb dX12_init_34 (by decide) ?_
  refine h_newi C hw lk3 (by first | decide | omega) (by first | decide | omega | (dsimp only; omega)) (by first | decide | omega | (dsimp only; omega)) dX12_init_35 (fun q21 H hq24 hw => ?_)
  generalize e23 : va_up _ q21 _ = f22 at hw
  replace e23 := Eq.symm e23
  have hLy : lyO f f22 a (eO 12 [.int 0, .int 0, .ref q1, .ref q7, .int (nI 5), .ref q15, .null, .null, .null, .null, .null, .null, .null, .int 0, .null, .null, .null, .null, .int 0, .int 0, .null, .null, .null, .null, .null, .null, .long 0]) [(q1, eI cA 22 (fun _ => 0)), (q7, eI cA 22 (fun _ => 0)), (q15, eI cA 48 (fun _ => 0)), (q21, eI cA 2 (fun _ => 0))] := ly_new hLy hq24 e23
  refine h_putF1 C hw bX12 hLy.1 lk5 6 (by decide) lk9 rfl hnm rfl rfl rfl (Nat.le_of_ble_eq_true rfl) dX12_init_37 (fun f25 H locs e26 hw => ?_)
  have hLy : lyO f f25 a (eO 12 [.int 0, .int 0, .ref q1, .ref q7, .int (nI 5), .ref q15, .ref q21, .null, .null, .null, .null, .null, .null, .int 0, .null, .null, .null, .null, .int 0, .int 0, .null, .null, .null, .null, .null, .null, .long 0]) [(q1, eI cA 22 (fun _ => 0)), (q7, eI cA 22 (fun _ => 0)), (q15, eI cA 48 (fun _ => 0)), (q21, eI cA 2 (fun _ => 0))] := ly_seta hLy e26
  refine lv_aload_n hx hb dX12_init_40 rfl (lv_at hl 0 rfl) ?_
  refine lv_bipush (v := nI 12) hx hb dX12_init_41 (by decide) ?_
  refine h_newi C hw lk3 (by first | decide | omega) (by first | decide | omega | (dsimp only; omega)) (by first | decide | omega | (dsimp only; omega)) dX12_init_43 (fun q27 H hq30 hw => ?_)
  generalize e29 : va_up _ q27 _ = f28 at hw
  replace e29 := Eq.symm e29
  have hLy : lyO f f28 a (eO 12 [.int 0, .int 0, .ref q1, .ref q7, .int (nI 5), .ref q15, .ref q21, .null, .null, .null, .null, .null, .null, .int 0, .null, .null, .null, .null, .int 0, .int 0, .null, .null, .null, .null, .null, .null, .long 0]) [(q1, eI cA 22 (fun _ => 0)), (q7, eI cA 22 (fun _ => 0)), (q15, eI cA 48 (fun _ => 0)), (q21, eI cA 2 (fun _ => 0)), (q27, eI cA 12 (fun _ => 0))] := ly_new hLy hq30 e29
  refine h_putF1 C hw bX12 hLy.1 lk5 7 (by decide) lk10 rfl hnm rfl rfl rfl (Nat.le_of_ble_eq_true rfl) dX12_init_45 (fun f31 H locs e32 hw => ?_)
  have hLy : lyO f f31 a (eO 12 [.int 0, .int 0, .ref q1, .ref q7, .int (nI 5), .ref q15, .ref q21, .ref q27, .null, .null, .null, .null, .null, .int 0, .null, .null, .null, .null, .int 0, .int 0, .null, .null, .null, .null, .null, .null, .long 0]) [(q1, eI cA 22 (fun _ => 0)), (q7, eI cA 22 (fun _ => 0)), (q15, eI cA 48 (fun _ => 0)), (q21, eI cA 2 (fun _ => 0)), (q27, eI cA 12 (fun _ => 0))] := ly_seta hLy e32
  refine lv_aload_n hx hb dX12_init_48 rfl (lv_at hl 0 rfl) ?_
  refine lv_bipush (v := nI 6) hx hb dX12_init_49 (by decide) ?_
  refine h_newi C hw lk3 (by first | decide | omega) (by first | decide | omega | (dsimp only; omega)) (by first | decide | omega | (dsimp only; omega)) dX12_init_51 (fun q33 H hq36 hw => ?_)
  generalize e35 : va_up _ q33 _ = f34 at hw
  replace e35 := Eq.symm e35
  have hLy : lyO f f34 a (eO 12 [.int 0, .int 0, .ref q1, .ref q7, .int (nI 5), .ref q15, .ref q21, .ref q27, .null, .null, .null, .null, .null, .int 0, .null, .null, .null, .null, .int 0, .int 0, .null, .null, .null, .null, .null, .null, .long 0]) [(q1, eI cA 22 (fun _ => 0)), (q7, eI cA 22 (fun _ => 0)), (q15, eI cA 48 (fun _ => 0)), (q21, eI cA 2 (fun _ => 0)), (q27, eI cA 12 (fun _ => 0)), (q33, eI cA 6 (fun _ => 0))] := ly_new hLy hq36 e35
  refine h_putF1 C hw bX12 hLy.1 lk5 8 (by decide) lk11 rfl hnm rfl rfl rfl (Nat.le_of_ble_eq_true rfl) dX12_init_53 (fun f37 H locs e38 hw => ?_)
  have hLy : lyO f f37 a (eO 12 [.int 0, .int 0, .ref q1, .ref q7, .int (nI 5), .ref q15, .ref q21, .ref q27, .ref q33, .null, .null, .null, .null, .int 0, .null, .null, .null, .null, .int 0, .int 0, .null, .null, .null, .null, .null, .null, .long 0]) [(q1, eI cA 22 (fun _ => 0)), (q7, eI cA 22 (fun _ => 0)), (q15, eI cA 48 (fun _ => 0)), (q21, eI cA 2 (fun _ => 0)), (q27, eI cA 12 (fun _ => 0)), (q33, eI cA 6 (fun _ => 0))] := ly_seta hLy e38
  refine lv_aload_n hx hb dX12_init_56 rfl (lv_at hl 0 rfl) ?_
  refine lv_bipush (v := nI 24) hx hb dX12_init_57 (by decide) ?_
  refine h_newi C hw lk3 (by first | decide | omega) (by first | decide | omega | (dsimp only; omega)) (by first | decide | omega | (dsimp only; omega)) dX12_init_59 (fun q39 H hq42 hw => ?_)
  generalize e41 : va_up _ q39 _ = f40 at hw
  replace e41 := Eq.symm e41
  have hLy : lyO f f40 a (eO 12 [.int 0, .int 0, .ref q1, .ref q7, .int (nI 5), .ref q15, .ref q21, .ref q27, .ref q33, .null, .null, .null, .null, .int 0, .null, .null, .null, .null, .int 0, .int 0, .null, .null, .null, .null, .null, .null, .long 0]) [(q1, eI cA 22 (fun _ => 0)), (q7, eI cA 22 (fun _ => 0)), (q15, eI cA 48 (fun _ => 0)), (q21, eI cA 2 (fun _ => 0)), (q27, eI cA 12 (fun _ => 0)), (q33, eI cA 6 (fun _ => 0)), (q39, eI cA 24 (fun _ => 0))] := ly_new hLy hq42 e41
  refine h_putF1 C hw bX12 hLy.1 lk5 9 (by decide) lk12 rfl hnm rfl rfl rfl (Nat.le_of_ble_eq_true rfl) dX12_init_61 (fun f43 H locs e44 hw => ?_)
  have hLy : lyO f f43 a (eO 12 [.int 0, .int 0, .ref q1, .ref q7, .int (nI 5), .ref q15, .ref q21, .ref q27, .ref q33, .ref q39, .null, .null, .null, .int 0, .null, .null, .null, .null, .int 0, .int 0, .null, .null, .null, .null, .null, .null, .long 0]) [(q1, eI cA 22 (fun _ => 0)), (q7, eI cA 22 (fun _ => 0)), (q15, eI cA 48 (fun _ => 0)), (q21, eI cA 2 (fun _ => 0)), (q27, eI cA 12 (fun _ => 0)), (q33, eI cA 6 (fun _ => 0)), (q39, eI cA 24 (fun _ => 0))] := ly_seta hLy e44
  refine lv_aload_n hx hb dX12_init_64 rfl (lv_at hl 0 rfl) ?_
  refine lv_bipush (v := nI 24) hx hb dX12_init_65 (by decide) ?_
  refine h_newi C hw lk3 (by first | decide | omega) (by first | decide | omega | (dsimp only; omega)) (by first | decide | omega | (dsimp only; omega)) dX12_init_67 (fun q45 H hq48 hw => ?_)
  generalize e47 : va_up _ q45 _ = f46 at hw
  replace e47 := Eq.symm e47
  have hLy : lyO f f46 a (eO 12 [.int 0, .int 0, .ref q1, .ref q7, .int (nI 5), .ref q15, .ref q21, .ref q27, .ref q33, .ref q39, .null, .null, .null, .int 0, .null, .null, .null, .null, .int 0, .int 0, .null, .null, .null, .null, .null, .null, .long 0]) [(q1, eI cA 22 (fun _ => 0)), (q7, eI cA 22 (fun _ => 0)), (q15, eI cA 48 (fun _ => 0)), (q21, eI cA 2 (fun _ => 0)), (q27, eI cA 12 (fun _ => 0)), (q33, eI cA 6 (fun _ => 0)), (q39, eI cA 24 (fun _ => 0)), (q45, eI cA 24 (fun _ => 0))] := ly_new hLy hq48 e47
  refine h_putF1 C hw bX12 hLy.1 lk5 10 (by decide) lk13 rfl hnm rfl rfl rfl (Nat.le_of_ble_eq_true rfl) dX12_init_69 (fun f49 H locs e50 hw => ?_)
  have hLy : lyO f f49 a (eO 12 [.int 0, .int 0, .ref q1, .ref q7, .int (nI 5), .ref q15, .ref q21, .ref q27, .ref q33, .ref q39, .ref q45, .null, .null, .int 0, .null, .null, .null, .null, .int 0, .int 0, .null, .null, .null, .null, .null, .null, .long 0]) [(q1, eI cA 22 (fun _ => 0)), (q7, eI cA 22 (fun _ => 0)), (q15, eI cA 48 (fun _ => 0)), (q21, eI cA 2 (fun _ => 0)), (q27, eI cA 12 (fun _ => 0)), (q33, eI cA 6 (fun _ => 0)), (q39, eI cA 24 (fun _ => 0)), (q45, eI cA 24 (fun _ => 0))] := ly_seta hLy e50
  refine lv_aload_n hx hb dX12_init_72 rfl (lv_at hl 0 rfl) ?_
  refine lv_sipush (v := nI 216) hx hb dX12_init_73 (by decide) ?_
  refine h_newi C hw lk3 (by first | decide | omega) (by first | decide | omega | (dsimp only; omega)) (by first | decide | omega | (dsimp only; omega)) dX12_init_76 (fun q51 H hq54 hw => ?_)
  generalize e53 : va_up _ q51 _ = f52 at hw
  replace e53 := Eq.symm e53
  have hLy : lyO f f52 a (eO 12 [.int 0, .int 0, .ref q1, .ref q7, .int (nI 5), .ref q15, .ref q21, .ref q27, .ref q33, .ref q39, .ref q45, .null, .null, .int 0, .null, .null, .null, .null, .int 0, .int 0, .null, .null, .null, .null, .null, .null, .long 0]) [(q1, eI cA 22 (fun _ => 0)), (q7, eI cA 22 (fun _ => 0)), (q15, eI cA 48 (fun _ => 0)), (q21, eI cA 2 (fun _ => 0)), (q27, eI cA 12 (fun _ => 0)), (q33, eI cA 6 (fun _ => 0)), (q39, eI cA 24 (fun _ => 0)), (q45, eI cA 24 (fun _ => 0)), (q51, eI cA 216 (fun _ => 0))] := ly_new hLy hq54 e53
  refine h_putF1 C hw bX12 hLy.1 lk5 11 (by decide) lk14 rfl hnm rfl rfl rfl (Nat.le_of_ble_eq_true rfl) dX12_init_78 (fun f55 H locs e56 hw => ?_)
  have hLy : lyO f f55 a (eO 12 [.int 0, .int 0, .ref q1, .ref q7, .int (nI 5), .ref q15, .ref q21, .ref q27, .ref q33, .ref q39, .ref q45, .ref q51, .null, .int 0, .null, .null, .null, .null, .int 0, .int 0, .null, .null, .null, .null, .null, .null, .long 0]) [(q1, eI cA 22 (fun _ => 0)), (q7, eI cA 22 (fun _ => 0)), (q15, eI cA 48 (fun _ => 0)), (q21, eI cA 2 (fun _ => 0)), (q27, eI cA 12 (fun _ => 0)), (q33, eI cA 6 (fun _ => 0)), (q39, eI cA 24 (fun _ => 0)), (q45, eI cA 24 (fun _ => 0)), (q51, eI cA 216 (fun _ => 0))] := ly_seta hLy e56
  refine lv_aload_n hx hb dX12_init_81 rfl (lv_at hl 0 rfl) ?_
  refine lv_bipush (v := nI 20) hx hb dX12_init_82 (by decide) ?_
  refine h_newi C hw lk3 (by first | decide | omega) (by first | decide | omega | (dsimp only; omega)) (by first | decide | omega | (dsimp only; omega)) dX12_init_84 (fun q57 H hq60 hw => ?_)
  generalize e59 : va_up _ q57 _ = f58 at hw
  replace e59 := Eq.symm e59
  have hLy : lyO f f58 a (eO 12 [.int 0, .int 0, .ref q1, .ref q7, .int (nI 5), .ref q15, .ref q21, .ref q27, .ref q33, .ref q39, .ref q45, .ref q51, .null, .int 0, .null, .null, .null, .null, .int 0, .int 0, .null, .null, .null, .null, .null, .null, .long 0]) [(q1, eI cA 22 (fun _ => 0)), (q7, eI cA 22 (fun _ => 0)), (q15, eI cA 48 (fun _ => 0)), (q21, eI cA 2 (fun _ => 0)), (q27, eI cA 12 (fun _ => 0)), (q33, eI cA 6 (fun _ => 0)), (q39, eI cA 24 (fun _ => 0)), (q45, eI cA 24 (fun _ => 0)), (q51, eI cA 216 (fun _ => 0)), (q57, eI cA 20 (fun _ => 0))] := ly_new hLy hq60 e59
  refine h_putF1 C hw bX12 hLy.1 lk5 12 (by decide) lk15 rfl hnm rfl rfl rfl (Nat.le_of_ble_eq_true rfl) dX12_init_86 (fun f61 H locs e62 hw => ?_)
  have hLy : lyO f f61 a (eO 12 [.int 0, .int 0, .ref q1, .ref q7, .int (nI 5), .ref q15, .ref q21, .ref q27, .ref q33, .ref q39, .ref q45, .ref q51, .ref q57, .int 0, .null, .null, .null, .null, .int 0, .int 0, .null, .null, .null, .null, .null, .null, .long 0]) [(q1, eI cA 22 (fun _ => 0)), (q7, eI cA 22 (fun _ => 0)), (q15, eI cA 48 (fun _ => 0)), (q21, eI cA 2 (fun _ => 0)), (q27, eI cA 12 (fun _ => 0)), (q33, eI cA 6 (fun _ => 0)), (q39, eI cA 24 (fun _ => 0)), (q45, eI cA 24 (fun _ => 0)), (q51, eI cA 216 (fun _ => 0)), (q57, eI cA 20 (fun _ => 0))] := ly_seta hLy e62
  refine lv_aload_n hx hb dX12_init_89 rfl (lv_at hl 0 rfl) ?_
  refine lv_bipush (v := nI 9) hx hb dX12_init_90 (by decide) ?_
  refine h_newi C hw lk3 (by first | decide | omega) (by first | decide | omega | (dsimp only; omega)) (by first | decide | omega | (dsimp only; omega)) dX12_init_92 (fun q63 H hq66 hw => ?_)
  generalize e65 : va_up _ q63 _ = f64 at hw
  replace e65 := Eq.symm e65
  have hLy : lyO f f64 a (eO 12 [.int 0, .int 0, .ref q1, .ref q7, .int (nI 5), .ref q15, .ref q21, .ref q27, .ref q33, .ref q39, .ref q45, .ref q51, .ref q57, .int 0, .null, .null, .null, .null, .int 0, .int 0, .null, .null, .null, .null, .null, .null, .long 0]) [(q1, eI cA 22 (fun _ => 0)), (q7, eI cA 22 (fun _ => 0)), (q15, eI cA 48 (fun _ => 0)), (q21, eI cA 2 (fun _ => 0)), (q27, eI cA 12 (fun _ => 0)), (q33, eI cA 6 (fun _ => 0)), (q39, eI cA 24 (fun _ => 0)), (q45, eI cA 24 (fun _ => 0)), (q51, eI cA 216 (fun _ => 0)), (q57, eI cA 20 (fun _ => 0)), (q63, eI cA 9 (fun _ => 0))] := ly_new hLy hq66 e65
  refine h_putF1 C hw bX12 hLy.1 lk5 14 (by decide) lk16 rfl hnm rfl rfl rfl (Nat.le_of_ble_eq_true rfl) dX12_init_94 (fun f67 H locs e68 hw => ?_)
  have hLy : lyO f f67 a (eO 12 [.int 0, .int 0, .ref q1, .ref q7, .int (nI 5), .ref q15, .ref q21, .ref q27, .ref q33, .ref q39, .ref q45, .ref q51, .ref q57, .int 0, .ref q63, .null, .null, .null, .int 0, .int 0, .null, .null, .null, .null, .null, .null, .long 0]) [(q1, eI cA 22 (fun _ => 0)), (q7, eI cA 22 (fun _ => 0)), (q15, eI cA 48 (fun _ => 0)), (q21, eI cA 2 (fun _ => 0)), (q27, eI cA 12 (fun _ => 0)), (q33, eI cA 6 (fun _ => 0)), (q39, eI cA 24 (fun _ => 0)), (q45, eI cA 24 (fun _ => 0)), (q51, eI cA 216 (fun _ => 0)), (q57, eI cA 20 (fun _ => 0)), (q63, eI cA 9 (fun _ => 0))] := ly_seta hLy e68
  refine lv_aload_n hx hb dX12_init_97 rfl (lv_at hl 0 rfl) ?_
  refine lv_bipush (v := nI 6) hx hb dX12_init_98 (by decide) ?_
  refine h_newl C hw lk17 (by first | decide | omega) (by first | decide | omega | (dsimp only; omega)) (by first | decide | omega | (dsimp only; omega)) dX12_init_100 (fun q69 H hq72 hw => ?_)
  generalize e71 : va_up _ q69 _ = f70 at hw
  replace e71 := Eq.symm e71
  have hLy : lyO f f70 a (eO 12 [.int 0, .int 0, .ref q1, .ref q7, .int (nI 5), .ref q15, .ref q21, .ref q27, .ref q33, .ref q39, .ref q45, .ref q51, .ref q57, .int 0, .ref q63, .null, .null, .null, .int 0, .int 0, .null, .null, .null, .null, .null, .null, .long 0]) [(q1, eI cA 22 (fun _ => 0)), (q7, eI cA 22 (fun _ => 0)), (q15, eI cA 48 (fun _ => 0)), (q21, eI cA 2 (fun _ => 0)), (q27, eI cA 12 (fun _ => 0)), (q33, eI cA 6 (fun _ => 0)), (q39, eI cA 24 (fun _ => 0)), (q45, eI cA 24 (fun _ => 0)), (q51, eI cA 216 (fun _ => 0)), (q57, eI cA 20 (fun _ => 0)), (q63, eI cA 9 (fun _ => 0)), (q69, eL cA 6 (fun _ => 0))] := ly_new hLy hq72 e71
  refine h_putF1 C hw bX12 hLy.1 lk5 15 (by decide) lk18 rfl hnm rfl rfl rfl (Nat.le_of_ble_eq_true rfl) dX12_init_102 (fun f73 H locs e74 hw => ?_)
  have hLy : lyO f f73 a (eO 12 [.int 0, .int 0, .ref q1, .ref q7, .int (nI 5), .ref q15, .ref q21, .ref q27, .ref q33, .ref q39, .ref q45, .ref q51, .ref q57, .int 0, .ref q63, .ref q69, .null, .null, .int 0, .int 0, .null, .null, .null, .null, .null, .null, .long 0]) [(q1, eI cA 22 (fun _ => 0)), (q7, eI cA 22 (fun _ => 0)), (q15, eI cA 48 (fun _ => 0)), (q21, eI cA 2 (fun _ => 0)), (q27, eI cA 12 (fun _ => 0)), (q33, eI cA 6 (fun _ => 0)), (q39, eI cA 24 (fun _ => 0)), (q45, eI cA 24 (fun _ => 0)), (q51, eI cA 216 (fun _ => 0)), (q57, eI cA 20 (fun _ => 0)), (q63, eI cA 9 (fun _ => 0)), (q69, eL cA 6 (fun _ => 0))] := ly_seta hLy e74
  refine lv_aload_n hx hb dX12_init_105 rfl (lv_at hl 0 rfl) ?_
  refine lv_iconst (v := nI 3) hx hb dX12_init_106 (by decide) ?_
  refine h_newi C hw lk3 (by first | decide | omega) (by first | decide | omega | (dsimp only; omega)) (by first | decide | omega | (dsimp only; omega)) dX12_init_107 (fun q75 H hq78 hw => ?_)
  generalize e77 : va_up _ q75 _ = f76 at hw
  replace e77 := Eq.symm e77
  have hLy : lyO f f76 a (eO 12 [.int 0, .int 0, .ref q1, .ref q7, .int (nI 5), .ref q15, .ref q21, .ref q27, .ref q33, .ref q39, .ref q45, .ref q51, .ref q57, .int 0, .ref q63, .ref q69, .null, .null, .int 0, .int 0, .null, .null, .null, .null, .null, .null, .long 0]) [(q1, eI cA 22 (fun _ => 0)), (q7, eI cA 22 (fun _ => 0)), (q15, eI cA 48 (fun _ => 0)), (q21, eI cA 2 (fun _ => 0)), (q27, eI cA 12 (fun _ => 0)), (q33, eI cA 6 (fun _ => 0)), (q39, eI cA 24 (fun _ => 0)), (q45, eI cA 24 (fun _ => 0)), (q51, eI cA 216 (fun _ => 0)), (q57, eI cA 20 (fun _ => 0)), (q63, eI cA 9 (fun _ => 0)), (q69, eL cA 6 (fun _ => 0)), (q75, eI cA 3 (fun _ => 0))] := ly_new hLy hq78 e77
  refine h_putF1 C hw bX12 hLy.1 lk5 16 (by decide) lk19 rfl hnm rfl rfl rfl (Nat.le_of_ble_eq_true rfl) dX12_init_109 (fun f79 H locs e80 hw => ?_)
  have hLy : lyO f f79 a (eO 12 [.int 0, .int 0, .ref q1, .ref q7, .int (nI 5), .ref q15, .ref q21, .ref q27, .ref q33, .ref q39, .ref q45, .ref q51, .ref q57, .int 0, .ref q63, .ref q69, .ref q75, .null, .int 0, .int 0, .null, .null, .null, .null, .null, .null, .long 0]) [(q1, eI cA 22 (fun _ => 0)), (q7, eI cA 22 (fun _ => 0)), (q15, eI cA 48 (fun _ => 0)), (q21, eI cA 2 (fun _ => 0)), (q27, eI cA 12 (fun _ => 0)), (q33, eI cA 6 (fun _ => 0)), (q39, eI cA 24 (fun _ => 0)), (q45, eI cA 24 (fun _ => 0)), (q51, eI cA 216 (fun _ => 0)), (q57, eI cA 20 (fun _ => 0)), (q63, eI cA 9 (fun _ => 0)), (q69, eL cA 6 (fun _ => 0)), (q75, eI cA 3 (fun _ => 0))] := ly_seta hLy e80
  refine lv_aload_n hx hb dX12_init_112 rfl (lv_at hl 0 rfl) ?_
  refine lv_iconst (v := nI 3) hx hb dX12_init_113 (by decide) ?_
  refine h_newl C hw lk17 (by first | decide | omega) (by first | decide | omega | (dsimp only; omega)) (by first | decide | omega | (dsimp only; omega)) dX12_init_114 (fun q81 H hq84 hw => ?_)
  generalize e83 : va_up _ q81 _ = f82 at hw
  replace e83 := Eq.symm e83
  have hLy : lyO f f82 a (eO 12 [.int 0, .int 0, .ref q1, .ref q7, .int (nI 5), .ref q15, .ref q21, .ref q27, .ref q33, .ref q39, .ref q45, .ref q51, .ref q57, .int 0, .ref q63, .ref q69, .ref q75, .null, .int 0, .int 0, .null, .null, .null, .null, .null, .null, .long 0]) [(q1, eI cA 22 (fun _ => 0)), (q7, eI cA 22 (fun _ => 0)), (q15, eI cA 48 (fun _ => 0)), (q21, eI cA 2 (fun _ => 0)), (q27, eI cA 12 (fun _ => 0)), (q33, eI cA 6 (fun _ => 0)), (q39, eI cA 24 (fun _ => 0)), (q45, eI cA 24 (fun _ => 0)), (q51, eI cA 216 (fun _ => 0)), (q57, eI cA 20 (fun _ => 0)), (q63, eI cA 9 (fun _ => 0)), (q69, eL cA 6 (fun _ => 0)), (q75, eI cA 3 (fun _ => 0)), (q81, eL cA 3 (fun _ => 0))] := ly_new hLy hq84 e83
  refine h_putF1 C hw bX12 hLy.1 lk5 17 (by decide) lk20 rfl hnm rfl rfl rfl (Nat.le_of_ble_eq_true rfl) dX12_init_116 (fun f85 H locs e86 hw => ?_)
  have hLy : lyO f f85 a (eO 12 [.int 0, .int 0, .ref q1, .ref q7, .int (nI 5), .ref q15, .ref q21, .ref q27, .ref q33, .ref q39, .ref q45, .ref q51, .ref q57, .int 0, .ref q63, .ref q69, .ref q75, .ref q81, .int 0, .int 0, .null, .null, .null, .null, .null, .null, .long 0]) [(q1, eI cA 22 (fun _ => 0)), (q7, eI cA 22 (fun _ => 0)), (q15, eI cA 48 (fun _ => 0)), (q21, eI cA 2 (fun _ => 0)), (q27, eI cA 12 (fun _ => 0)), (q33, eI cA 6 (fun _ => 0)), (q39, eI cA 24 (fun _ => 0)), (q45, eI cA 24 (fun _ => 0)), (q51, eI cA 216 (fun _ => 0)), (q57, eI cA 20 (fun _ => 0)), (q63, eI cA 9 (fun _ => 0)), (q69, eL cA 6 (fun _ => 0)), (q75, eI cA 3 (fun _ => 0)), (q81, eL cA 3 (fun _ => 0))] := ly_seta hLy e86
  refine lv_aload_n hx hb dX12_init_119 rfl (lv_at hl 0 rfl) ?_
  refine lv_sipush (v := nI 660) hx hb dX12_init_120 (by decide) ?_
  refine h_newi C hw lk3 (by first | decide | omega) (by first | decide | omega | (dsimp only; omega)) (by first | decide | omega | (dsimp only; omega)) dX12_init_123 (fun q87 H hq90 hw => ?_)
  generalize e89 : va_up _ q87 _ = f88 at hw
  replace e89 := Eq.symm e89
  have hLy : lyO f f88 a (eO 12 [.int 0, .int 0, .ref q1, .ref q7, .int (nI 5), .ref q15, .ref q21, .ref q27, .ref q33, .ref q39, .ref q45, .ref q51, .ref q57, .int 0, .ref q63, .ref q69, .ref q75, .ref q81, .int 0, .int 0, .null, .null, .null, .null, .null, .null, .long 0]) [(q1, eI cA 22 (fun _ => 0)), (q7, eI cA 22 (fun _ => 0)), (q15, eI cA 48 (fun _ => 0)), (q21, eI cA 2 (fun _ => 0)), (q27, eI cA 12 (fun _ => 0)), (q33, eI cA 6 (fun _ => 0)), (q39, eI cA 24 (fun _ => 0)), (q45, eI cA 24 (fun _ => 0)), (q51, eI cA 216 (fun _ => 0)), (q57, eI cA 20 (fun _ => 0)), (q63, eI cA 9 (fun _ => 0)), (q69, eL cA 6 (fun _ => 0)), (q75, eI cA 3 (fun _ => 0)), (q81, eL cA 3 (fun _ => 0)), (q87, eI cA 660 (fun _ => 0))] := ly_new hLy hq90 e89
  refine h_putF1 C hw bX12 hLy.1 lk5 20 (by decide) lk21 rfl hnm rfl rfl rfl (Nat.le_of_ble_eq_true rfl) dX12_init_125 (fun f91 H locs e92 hw => ?_)
  have hLy : lyO f f91 a (eO 12 [.int 0, .int 0, .ref q1, .ref q7, .int (nI 5), .ref q15, .ref q21, .ref q27, .ref q33, .ref q39, .ref q45, .ref q51, .ref q57, .int 0, .ref q63, .ref q69, .ref q75, .ref q81, .int 0, .int 0, .ref q87, .null, .null, .null, .null, .null, .long 0]) [(q1, eI cA 22 (fun _ => 0)), (q7, eI cA 22 (fun _ => 0)), (q15, eI cA 48 (fun _ => 0)), (q21, eI cA 2 (fun _ => 0)), (q27, eI cA 12 (fun _ => 0)), (q33, eI cA 6 (fun _ => 0)), (q39, eI cA 24 (fun _ => 0)), (q45, eI cA 24 (fun _ => 0)), (q51, eI cA 216 (fun _ => 0)), (q57, eI cA 20 (fun _ => 0)), (q63, eI cA 9 (fun _ => 0)), (q69, eL cA 6 (fun _ => 0)), (q75, eI cA 3 (fun _ => 0)), (q81, eL cA 3 (fun _ => 0)), (q87, eI cA 660 (fun _ => 0))] := ly_seta hLy e92
  refine lv_aload_n hx hb dX12_init_128 rfl (lv_at hl 0 rfl) ?_
  refine lv_sipush (v := nI 660) hx hb dX12_init_129 (by decide) ?_
  refine h_newl C hw lk17 (by first | decide | omega) (by first | decide | omega | (dsimp only; omega)) (by first | decide | omega | (dsimp only; omega)) dX12_init_132 (fun q93 H hq96 hw => ?_)
  generalize e95 : va_up _ q93 _ = f94 at hw
  replace e95 := Eq.symm e95
  have hLy : lyO f f94 a (eO 12 [.int 0, .int 0, .ref q1, .ref q7, .int (nI 5), .ref q15, .ref q21, .ref q27, .ref q33, .ref q39, .ref q45, .ref q51, .ref q57, .int 0, .ref q63, .ref q69, .ref q75, .ref q81, .int 0, .int 0, .ref q87, .null, .null, .null, .null, .null, .long 0]) [(q1, eI cA 22 (fun _ => 0)), (q7, eI cA 22 (fun _ => 0)), (q15, eI cA 48 (fun _ => 0)), (q21, eI cA 2 (fun _ => 0)), (q27, eI cA 12 (fun _ => 0)), (q33, eI cA 6 (fun _ => 0)), (q39, eI cA 24 (fun _ => 0)), (q45, eI cA 24 (fun _ => 0)), (q51, eI cA 216 (fun _ => 0)), (q57, eI cA 20 (fun _ => 0)), (q63, eI cA 9 (fun _ => 0)), (q69, eL cA 6 (fun _ => 0)), (q75, eI cA 3 (fun _ => 0)), (q81, eL cA 3 (fun _ => 0)), (q87, eI cA 660 (fun _ => 0)), (q93, eL cA 660 (fun _ => 0))] := ly_new hLy hq96 e95
  refine h_putF1 C hw bX12 hLy.1 lk5 21 (by decide) lk22 rfl hnm rfl rfl rfl (Nat.le_of_ble_eq_true rfl) dX12_init_134 (fun f97 H locs e98 hw => ?_)
  have hLy : lyO f f97 a (eO 12 [.int 0, .int 0, .ref q1, .ref q7, .int (nI 5), .ref q15, .ref q21, .ref q27, .ref q33, .ref q39, .ref q45, .ref q51, .ref q57, .int 0, .ref q63, .ref q69, .ref q75, .ref q81, .int 0, .int 0, .ref q87, .ref q93, .null, .null, .null, .null, .long 0]) [(q1, eI cA 22 (fun _ => 0)), (q7, eI cA 22 (fun _ => 0)), (q15, eI cA 48 (fun _ => 0)), (q21, eI cA 2 (fun _ => 0)), (q27, eI cA 12 (fun _ => 0)), (q33, eI cA 6 (fun _ => 0)), (q39, eI cA 24 (fun _ => 0)), (q45, eI cA 24 (fun _ => 0)), (q51, eI cA 216 (fun _ => 0)), (q57, eI cA 20 (fun _ => 0)), (q63, eI cA 9 (fun _ => 0)), (q69, eL cA 6 (fun _ => 0)), (q75, eI cA 3 (fun _ => 0)), (q81, eL cA 3 (fun _ => 0)), (q87, eI cA 660 (fun _ => 0)), (q93, eL cA 660 (fun _ => 0))] := ly_seta hLy e98
  refine lv_aload_n hx hb dX12_init_137 rfl (lv_at hl 0 rfl) ?_
  refine lv_sipush (v := nI 220) hx hb dX12_init_138 (by decide) ?_
  refine h_newi C hw lk3 (by first | decide | omega) (by first | decide | omega | (dsimp only; omega)) (by first | decide | omega | (dsimp only; omega)) dX12_init_141 (fun q99 H hq102 hw => ?_)
  generalize e101 : va_up _ q99 _ = f100 at hw
  replace e101 := Eq.symm e101
  have hLy : lyO f f100 a (eO 12 [.int 0, .int 0, .ref q1, .ref q7, .int (nI 5), .ref q15, .ref q21, .ref q27, .ref q33, .ref q39, .ref q45, .ref q51, .ref q57, .int 0, .ref q63, .ref q69, .ref q75, .ref q81, .int 0, .int 0, .ref q87, .ref q93, .null, .null, .null, .null, .long 0]) [(q1, eI cA 22 (fun _ => 0)), (q7, eI cA 22 (fun _ => 0)), (q15, eI cA 48 (fun _ => 0)), (q21, eI cA 2 (fun _ => 0)), (q27, eI cA 12 (fun _ => 0)), (q33, eI cA 6 (fun _ => 0)), (q39, eI cA 24 (fun _ => 0)), (q45, eI cA 24 (fun _ => 0)), (q51, eI cA 216 (fun _ => 0)), (q57, eI cA 20 (fun _ => 0)), (q63, eI cA 9 (fun _ => 0)), (q69, eL cA 6 (fun _ => 0)), (q75, eI cA 3 (fun _ => 0)), (q81, eL cA 3 (fun _ => 0)), (q87, eI cA 660 (fun _ => 0)), (q93, eL cA 660 (fun _ => 0)), (q99, eI cA 220 (fun _ => 0))] := ly_new hLy hq102 e101
  refine h_putF1 C hw bX12 hLy.1 lk5 22 (by decide) lk23 rfl hnm rfl rfl rfl (Nat.le_of_ble_eq_true rfl) dX12_init_143 (fun f103 H locs e104 hw => ?_)
  have hLy : lyO f f103 a (eO 12 [.int 0, .int 0, .ref q1, .ref q7, .int (nI 5), .ref q15, .ref q21, .ref q27, .ref q33, .ref q39, .ref q45, .ref q51, .ref q57, .int 0, .ref q63, .ref q69, .ref q75, .ref q81, .int 0, .int 0, .ref q87, .ref q93, .ref q99, .null, .null, .null, .long 0]) [(q1, eI cA 22 (fun _ => 0)), (q7, eI cA 22 (fun _ => 0)), (q15, eI cA 48 (fun _ => 0)), (q21, eI cA 2 (fun _ => 0)), (q27, eI cA 12 (fun _ => 0)), (q33, eI cA 6 (fun _ => 0)), (q39, eI cA 24 (fun _ => 0)), (q45, eI cA 24 (fun _ => 0)), (q51, eI cA 216 (fun _ => 0)), (q57, eI cA 20 (fun _ => 0)), (q63, eI cA 9 (fun _ => 0)), (q69, eL cA 6 (fun _ => 0)), (q75, eI cA 3 (fun _ => 0)), (q81, eL cA 3 (fun _ => 0)), (q87, eI cA 660 (fun _ => 0)), (q93, eL cA 660 (fun _ => 0)), (q99, eI cA 220 (fun _ => 0))] := ly_seta hLy e104
  refine lv_aload_n hx hb dX12_init_146 rfl (lv_at hl 0 rfl) ?_
  refine lv_bipush (v := nI 120) hx hb dX12_init_147 (by decide) ?_
  refine h_newi C hw lk3 (by first | decide | omega) (by first | decide | omega | (dsimp only; omega)) (by first | decide | omega | (dsimp only; omega)) dX12_init_149 (fun q105 H hq108 hw => ?_)
  generalize e107 : va_up _ q105 _ = f106 at hw
  replace e107 := Eq.symm e107
  have hLy : lyO f f106 a (eO 12 [.int 0, .int 0, .ref q1, .ref q7, .int (nI 5), .ref q15, .ref q21, .ref q27, .ref q33, .ref q39, .ref q45, .ref q51, .ref q57, .int 0, .ref q63, .ref q69, .ref q75, .ref q81, .int 0, .int 0, .ref q87, .ref q93, .ref q99, .null, .null, .null, .long 0]) [(q1, eI cA 22 (fun _ => 0)), (q7, eI cA 22 (fun _ => 0)), (q15, eI cA 48 (fun _ => 0)), (q21, eI cA 2 (fun _ => 0)), (q27, eI cA 12 (fun _ => 0)), (q33, eI cA 6 (fun _ => 0)), (q39, eI cA 24 (fun _ => 0)), (q45, eI cA 24 (fun _ => 0)), (q51, eI cA 216 (fun _ => 0)), (q57, eI cA 20 (fun _ => 0)), (q63, eI cA 9 (fun _ => 0)), (q69, eL cA 6 (fun _ => 0)), (q75, eI cA 3 (fun _ => 0)), (q81, eL cA 3 (fun _ => 0)), (q87, eI cA 660 (fun _ => 0)), (q93, eL cA 660 (fun _ => 0)), (q99, eI cA 220 (fun _ => 0)), (q105, eI cA 120 (fun _ => 0))] := ly_new hLy hq108 e107
  refine h_putF1 C hw bX12 hLy.1 lk5 23 (by decide) lk24 rfl hnm rfl rfl rfl (Nat.le_of_ble_eq_true rfl) dX12_init_151 (fun f109 H locs e110 hw => ?_)
  have hLy : lyO f f109 a (eO 12 [.int 0, .int 0, .ref q1, .ref q7, .int (nI 5), .ref q15, .ref q21, .ref q27, .ref q33, .ref q39, .ref q45, .ref q51, .ref q57, .int 0, .ref q63, .ref q69, .ref q75, .ref q81, .int 0, .int 0, .ref q87, .ref q93, .ref q99, .ref q105, .null, .null, .long 0]) [(q1, eI cA 22 (fun _ => 0)), (q7, eI cA 22 (fun _ => 0)), (q15, eI cA 48 (fun _ => 0)), (q21, eI cA 2 (fun _ => 0)), (q27, eI cA 12 (fun _ => 0)), (q33, eI cA 6 (fun _ => 0)), (q39, eI cA 24 (fun _ => 0)), (q45, eI cA 24 (fun _ => 0)), (q51, eI cA 216 (fun _ => 0)), (q57, eI cA 20 (fun _ => 0)), (q63, eI cA 9 (fun _ => 0)), (q69, eL cA 6 (fun _ => 0)), (q75, eI cA 3 (fun _ => 0)), (q81, eL cA 3 (fun _ => 0)), (q87, eI cA 660 (fun _ => 0)), (q93, eL cA 660 (fun _ => 0)), (q99, eI cA 220 (fun _ => 0)), (q105, eI cA 120 (fun _ => 0))] := ly_seta hLy e110
  refine lv_aload_n hx hb dX12_init_154 rfl (lv_at hl 0 rfl) ?_
  refine lv_iconst (v := nI 3) hx hb dX12_init_155 (by decide) ?_
  refine h_newi C hw lk3 (by first | decide | omega) (by first | decide | omega | (dsimp only; omega)) (by first | decide | omega | (dsimp only; omega)) dX12_init_156 (fun q111 H hq114 hw => ?_)
  generalize e113 : va_up _ q111 _ = f112 at hw
  replace e113 := Eq.symm e113
  have hLy : lyO f f112 a (eO 12 [.int 0, .int 0, .ref q1, .ref q7, .int (nI 5), .ref q15, .ref q21, .ref q27, .ref q33, .ref q39, .ref q45, .ref q51, .ref q57, .int 0, .ref q63, .ref q69, .ref q75, .ref q81, .int 0, .int 0, .ref q87, .ref q93, .ref q99, .ref q105, .null, .null, .long 0]) [(q1, eI cA 22 (fun _ => 0)), (q7, eI cA 22 (fun _ => 0)), (q15, eI cA 48 (fun _ => 0)), (q21, eI cA 2 (fun _ => 0)), (q27, eI cA 12 (fun _ => 0)), (q33, eI cA 6 (fun _ => 0)), (q39, eI cA 24 (fun _ => 0)), (q45, eI cA 24 (fun _ => 0)), (q51, eI cA 216 (fun _ => 0)), (q57, eI cA 20 (fun _ => 0)), (q63, eI cA 9 (fun _ => 0)), (q69, eL cA 6 (fun _ => 0)), (q75, eI cA 3 (fun _ => 0)), (q81, eL cA 3 (fun _ => 0)), (q87, eI cA 660 (fun _ => 0)), (q93, eL cA 660 (fun _ => 0)), (q99, eI cA 220 (fun _ => 0)), (q105, eI cA 120 (fun _ => 0)), (q111, eI cA 3 (fun _ => 0))] := ly_new hLy hq114 e113
  refine h_putF1 C hw bX12 hLy.1 lk5 24 (by decide) lk25 rfl hnm rfl rfl rfl (Nat.le_of_ble_eq_true rfl) dX12_init_158 (fun f115 H locs e116 hw => ?_)
  have hLy : lyO f f115 a (eO 12 [.int 0, .int 0, .ref q1, .ref q7, .int (nI 5), .ref q15, .ref q21, .ref q27, .ref q33, .ref q39, .ref q45, .ref q51, .ref q57, .int 0, .ref q63, .ref q69, .ref q75, .ref q81, .int 0, .int 0, .ref q87, .ref q93, .ref q99, .ref q105, .ref q111, .null, .long 0]) [(q1, eI cA 22 (fun _ => 0)), (q7, eI cA 22 (fun _ => 0)), (q15, eI cA 48 (fun _ => 0)), (q21, eI cA 2 (fun _ => 0)), (q27, eI cA 12 (fun _ => 0)), (q33, eI cA 6 (fun _ => 0)), (q39, eI cA 24 (fun _ => 0)), (q45, eI cA 24 (fun _ => 0)), (q51, eI cA 216 (fun _ => 0)), (q57, eI cA 20 (fun _ => 0)), (q63, eI cA 9 (fun _ => 0)), (q69, eL cA 6 (fun _ => 0)), (q75, eI cA 3 (fun _ => 0)), (q81, eL cA 3 (fun _ => 0)), (q87, eI cA 660 (fun _ => 0)), (q93, eL cA 660 (fun _ => 0)), (q99, eI cA 220 (fun _ => 0)), (q105, eI cA 120 (fun _ => 0)), (q111, eI cA 3 (fun _ => 0))] := ly_seta hLy e116
  refine lv_aload_n hx hb dX12_init_161 rfl (lv_at hl 0 rfl) ?_
  refine lv_iconst (v := nI 3) hx hb dX12_init_162 (by decide) ?_
  refine h_newl C hw lk17 (by first | decide | omega) (by first | decide | omega | (dsimp only; omega)) (by first | decide | omega | (dsimp only; omega)) dX12_init_163 (fun q117 H hq120 hw => ?_)
  generalize e119 : va_up _ q117 _ = f118 at hw
  replace e119 := Eq.symm e119
  have hLy : lyO f f118 a (eO 12 [.int 0, .int 0, .ref q1, .ref q7, .int (nI 5), .ref q15, .ref q21, .ref q27, .ref q33, .ref q39, .ref q45, .ref q51, .ref q57, .int 0, .ref q63, .ref q69, .ref q75, .ref q81, .int 0, .int 0, .ref q87, .ref q93, .ref q99, .ref q105, .ref q111, .null, .long 0]) [(q1, eI cA 22 (fun _ => 0)), (q7, eI cA 22 (fun _ => 0)), (q15, eI cA 48 (fun _ => 0)), (q21, eI cA 2 (fun _ => 0)), (q27, eI cA 12 (fun _ => 0)), (q33, eI cA 6 (fun _ => 0)), (q39, eI cA 24 (fun _ => 0)), (q45, eI cA 24 (fun _ => 0)), (q51, eI cA 216 (fun _ => 0)), (q57, eI cA 20 (fun _ => 0)), (q63, eI cA 9 (fun _ => 0)), (q69, eL cA 6 (fun _ => 0)), (q75, eI cA 3 (fun _ => 0)), (q81, eL cA 3 (fun _ => 0)), (q87, eI cA 660 (fun _ => 0)), (q93, eL cA 660 (fun _ => 0)), (q99, eI cA 220 (fun _ => 0)), (q105, eI cA 120 (fun _ => 0)), (q111, eI cA 3 (fun _ => 0)), (q117, eL cA 3 (fun _ => 0))] := ly_new hLy hq120 e119
  refine h_putF1 C hw bX12 hLy.1 lk5 25 (by decide) lk26 rfl hnm rfl rfl rfl (Nat.le_of_ble_eq_true rfl) dX12_init_165 (fun f121 H locs e122 hw => ?_)
  have hLy : lyO f f121 a (eO 12 [.int 0, .int 0, .ref q1, .ref q7, .int (nI 5), .ref q15, .ref q21, .ref q27, .ref q33, .ref q39, .ref q45, .ref q51, .ref q57, .int 0, .ref q63, .ref q69, .ref q75, .ref q81, .int 0, .int 0, .ref q87, .ref q93, .ref q99, .ref q105, .ref q111, .ref q117, .long 0]) [(q1, eI cA 22 (fun _ => 0)), (q7, eI cA 22 (fun _ => 0)), (q15, eI cA 48 (fun _ => 0)), (q21, eI cA 2 (fun _ => 0)), (q27, eI cA 12 (fun _ => 0)), (q33, eI cA 6 (fun _ => 0)), (q39, eI cA 24 (fun _ => 0)), (q45, eI cA 24 (fun _ => 0)), (q51, eI cA 216 (fun _ => 0)), (q57, eI cA 20 (fun _ => 0)), (q63, eI cA 9 (fun _ => 0)), (q69, eL cA 6 (fun _ => 0)), (q75, eI cA 3 (fun _ => 0)), (q81, eL cA 3 (fun _ => 0)), (q87, eI cA 660 (fun _ => 0)), (q93, eL cA 660 (fun _ => 0)), (q99, eI cA 220 (fun _ => 0)), (q105, eI cA 120 (fun _ => 0)), (q111, eI cA 3 (fun _ => 0)), (q117, eL cA 3 (fun _ => 0))] := ly_seta hLy e122
  refine lv_aload_n hx hb dX12_init_168 rfl (lv_at hl 0 rfl) ?_
  refine h_get C hw bX12 hLy.1 lk5 6 (by decide) lk9 (v := .ref q21) rfl dX12_init_169 ?_
  refine lv_iconst (v := nI 0) hx hb dX12_init_172 (by decide) ?_
  refine lv_iconst (v := (-1)) hx hb dX12_init_173 (by decide) ?_
  refine h_iast1 C hw (ly_get hLy 3 rfl) (show 0 < 2 from (by omega)) (by first | omega | decide) dX12_init_174 (fun f123 H locs e124 hw => ?_)
  have hLy : lyO f f123 a (eO 12 [.int 0, .int 0, .ref q1, .ref q7, .int (nI 5), .ref q15, .ref q21, .ref q27, .ref q33, .ref q39, .ref q45, .ref q51, .ref q57, .int 0, .ref q63, .ref q69, .ref q75, .ref q81, .int 0, .int 0, .ref q87, .ref q93, .ref q99, .ref q105, .ref q111, .ref q117, .long 0]) [(q1, eI cA 22 (fun _ => 0)), (q7, eI cA 22 (fun _ => 0)), (q15, eI cA 48 (fun _ => 0)), (q21, eI cA 2 (upd (fun _ => 0) 0 (-1))), (q27, eI cA 12 (fun _ => 0)), (q33, eI cA 6 (fun _ => 0)), (q39, eI cA 24 (fun _ => 0)), (q45, eI cA 24 (fun _ => 0)), (q51, eI cA 216 (fun _ => 0)), (q57, eI cA 20 (fun _ => 0)), (q63, eI cA 9 (fun _ => 0)), (q69, eL cA 6 (fun _ => 0)), (q75, eI cA 3 (fun _ => 0)), (q81, eL cA 3 (fun _ => 0)), (q87, eI cA 660 (fun _ => 0)), (q93, eL cA 660 (fun _ => 0)), (q99, eI cA 220 (fun _ => 0)), (q105, eI cA 120 (fun _ => 0)), (q111, eI cA 3 (fun _ => 0)), (q117, eL cA 3 (fun _ => 0))] := ly_set hLy 3 rfl e124
  refine lv_aload_n hx hb dX12_init_175 rfl (lv_at hl 0 rfl) ?_
  refine h_get C hw bX12 hLy.1 lk5 6 (by decide) lk9 (v := .ref q21) rfl dX12_init_176 ?_
  refine lv_iconst (v := nI 1) hx hb dX12_init_179 (by decide) ?_
  refine lv_iconst (v := (-1)) hx hb dX12_init_180 (by decide) ?_
  refine h_iast1 C hw (ly_get hLy 3 rfl) (show 1 < 2 from (by omega)) (by first | omega | decide) dX12_init_181 (fun f125 H locs e126 hw => ?_)
  have hLy : lyO f f125 a (eO 12 [.int 0, .int 0, .ref q1, .ref q7, .int (nI 5), .ref q15, .ref q21, .ref q27, .ref q33, .ref q39, .ref q45, .ref q51, .ref q57, .int 0, .ref q63, .ref q69, .ref q75, .ref q81, .int 0, .int 0, .ref q87, .ref q93, .ref q99, .ref q105, .ref q111, .ref q117, .long 0]) [(q1, eI cA 22 (fun _ => 0)), (q7, eI cA 22 (fun _ => 0)), (q15, eI cA 48 (fun _ => 0)), (q21, eI cA 2 (upd (upd (fun _ => 0) 0 (-1)) 1 (-1))), (q27, eI cA 12 (fun _ => 0)), (q33, eI cA 6 (fun _ => 0)), (q39, eI cA 24 (fun _ => 0)), (q45, eI cA 24 (fun _ => 0)), (q51, eI cA 216 (fun _ => 0)), (q57, eI cA 20 (fun _ => 0)), (q63, eI cA 9 (fun _ => 0)), (q69, eL cA 6 (fun _ => 0)), (q75, eI cA 3 (fun _ => 0)), (q81, eL cA 3 (fun _ => 0)), (q87, eI cA 660 (fun _ => 0)), (q93, eL cA 660 (fun _ => 0)), (q99, eI cA 220 (fun _ => 0)), (q105, eI cA 120 (fun _ => 0)), (q111, eI cA 3 (fun _ => 0)), (q117, eL cA 3 (fun _ => 0))] := ly_set hLy 3 rfl e126
  refine W.widen (k := 20) (n := 2200) (by first | decide | omega | (dsimp only; omega)) (by first | decide | omega | (dsimp only; omega)) ?_
  obtain ⟨q9, hq9⟩ : ∃ q9 : Nat → Nat, q9 = fun j => ([a, 0, q1, q7, 0, q15, q21, q27, q33, q39, q45, q51, q57, 0, q63, q69, q75, q81, 0, 0, q87, q93, q99, q105, q111, q117, 0] : List Nat).getD j 0 := ⟨_, rfl⟩
  have hmo : mo cA q9 A00 B00 f125 := by
    refine mo_ly (pos := fun j => ([999, 999, 0, 1, 999, 2, 3, 4, 5, 6, 7, 8, 9, 999, 10, 11, 12, 13, 999, 999, 14, 15, 16, 17, 18, 19, 999] : List Nat).getD j 0) hLy (by rw [hq9]; rfl) (by rw [hq9]; rfl) (fun k hk => ?_) (fun k hk => ?_) (by decide +kernel)
    · rw [hq9]
      match k, hk with
      | 2, _ => rfl
      | 3, _ => rfl
      | 5, _ => rfl
      | 6, _ => rfl
      | 7, _ => rfl
      | 8, _ => rfl
      | 9, _ => rfl
      | 10, _ => rfl
      | 11, _ => rfl
      | 12, _ => rfl
      | 14, _ => rfl
      | 16, _ => rfl
      | 20, _ => rfl
      | 22, _ => rfl
      | 23, _ => rfl
      | 24, _ => rfl
    · rw [hq9]
      match k, hk with
      | 15, _ => rfl
      | 17, _ => rfl
      | 21, _ => rfl
      | 25, _ => rfl
  exact h_vret C hr hlk hw (⟨q9, by rw [hq9]; rfl, hmo⟩) dX12_init_182
