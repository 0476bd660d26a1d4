/-! ===== the class: Triangle, Row (laid by program) ===== -/
def tE (gd : Value) (t : T3) (tn : Value) : va_E := eO 8 [gd, .int (nI t.1.1), .int (nI t.2.1.1), .int (nI t.2.2.1), .long t.1.2, .long t.2.1.2, .long t.2.2.2, tn]
def tS (t : T3) : T3 := sw1 (sw2 (sw1 t))
theorem sw1_t {t : T3} (h : t.2.1.2 < t.1.2) : sw1 t = (t.2.1, t.1, t.2.2) := if_pos h
theorem sw1_f {t : T3} (h : ¬ t.2.1.2 < t.1.2) : sw1 t = t := if_neg h
theorem sw2_t {t : T3} (h : t.2.2.2 < t.2.1.2) : sw2 t = (t.1, t.2.2, t.2.1) := if_pos h
theorem sw2_f {t : T3} (h : ¬ t.2.2.2 < t.2.1.2) : sw2 t = t := if_neg h
abbrev tC0 (gx gy : Nat → Int32) (i j k : Nat) : T3 := tS ((i, sqC gx gy j k), (j, sqC gx gy i k), (k, sqC gx gy i j))
abbrev gdC (gx gy : Nat → Int32) (t : T3) : Prop := ¬ spC gx gy t.1.1 t.2.1.1 t.2.2.1 = 0 ∧ ¬ t.1.2 = t.2.1.2 ∧ ¬ t.2.1.2 = t.2.2.2
def tnC (gx gy : Nat → Int32) (t : T3) : Int32 := if 0 < spC gx gy t.1.1 t.2.1.1 t.2.2.1 then nI 1 else -1
def tlF (i1 i2 i3 tn k : Int32) : Int32 := if k = 0 then i1 else if k = nI 1 then i2 else if k = nI 2 then i3 else tn
theorem nar_1 : vp_nar .short (-1) = -1 := by decide
def bgF (g : Nat → Int32) (k : Nat) : Nat → Int32 := fun j => if j < k then -1 else g j
theorem bg_0 (g : Nat → Int32) : g = bgF g 0 := by funext j; unfold bgF; rw [if_neg (by omega)]
theorem bg_s (g : Nat → Int32) (k : Nat) : upd (bgF g k) k (vp_nar .short (-1)) = bgF g (k + 1) := by
  funext j
  rw [nar_1]
  unfold bgF
  by_cases h : j = k
  · subst h; rw [pk_us, if_pos (by omega)]
  · rw [pk_un h]
    by_cases h2 : j < k
    · rw [if_pos h2, if_pos (by omega)]
    · rw [if_neg h2, if_neg (by omega)]
theorem va_same {α : Type} {f : Nat → Option α} {a : Nat} {x : Option α} (h : f a = x) : va_up f a x = f := by
  funext b
  by_cases hb : b = a
  · subst hb; rw [va_up_self, h]
  · rw [va_up_ne _ _ hb]
set_option maxHeartbeats 4000000 in
set_option maxRecDepth 100000 in
theorem c_X8_swapLower {l : Launch} {D : va_G} {cA : Nat → ClassId} {f : HF} {sz : Nat} {a : Nat} {gd : Value} {i1 i2 i3 : Int32} {l1 l2 l3 : Int64} {tn : Value}  (h0 : f a = some (eO 8 [gd, .int i1, .int i2, .int i3, .long l1, .long l2, .long l3, tn])) : Met l yX8_swapLower wsX8_swapLower ({ frames := 0, cells := 0, slots := 0, locals := 0 } : Room) (va_Pc [.ref a] (hB D cA f sz)) (va_Qv (fun f1 => f1 = va_up f a (some (eO 8 [gd, .int i2, .int i1, .int i3, .long l2, .long l1, .long l3, tn]))) (hE D f sz) (hA f sz)) 0 0 (hA f sz) := by
  refine h_of (cc := cX8_swapLower) (maxL := 4) (ret := none) (by decide +kernel) rfl (Nat.le_of_ble_eq_true rfl) ?_
  intro p e s m below meth c ls C hr hlk hnm hw hl
  have hx := C.1.1
  have hb := C.1.2.1
  have hl : lv_has ls 4 [(0, .ref a)] := hl
  have lk0 : Cond.fieldLink RX8 23 "FallingLight$Triangle" "first" "I" ∈ wsX8_swapLower := by decide +kernel
  have lk1 : ∀ w ∈ u_ws RX8 TX8 8, w ∈ wsX8_swapLower := by decide +kernel
  have lk2 : Cond.fieldLink RX8 27 "FallingLight$Triangle" "second" "I" ∈ wsX8_swapLower := by decide +kernel
  have lk3 : Cond.fieldLink RX8 40 "FallingLight$Triangle" "least" "J" ∈ wsX8_swapLower := by decide +kernel
  have lk4 : Cond.fieldLink RX8 44 "FallingLight$Triangle" "mid" "J" ∈ wsX8_swapLower := by decide +kernel
  refine lv_aload_n hx hb dX8_swapLower_0 rfl (lv_at hl 0 rfl) ?_
  refine h_get C hw bX8 h0 lk1 1 (by decide) lk0 (v := .int i1) rfl dX8_swapLower_1 ?_
  refine lv_istore_n (lv' := [(1, _), (0, _)]) hx hb dX8_swapLower_4 rfl hl (by decide) rfl (fun ls hl => ?_)
  refine lv_aload_n hx hb dX8_swapLower_5 rfl (lv_at hl 1 rfl) ?_
  refine lv_aload_n hx hb dX8_swapLower_6 rfl (lv_at hl 1 rfl) ?_
  refine h_get C hw bX8 h0 lk1 2 (by decide) lk2 (v := .int i2) rfl dX8_swapLower_7 ?_
  refine h_put1 C hw bX8 h0 lk1 1 (by decide) lk0 rfl rfl rfl (Nat.le_of_ble_eq_true rfl) dX8_swapLower_10 (fun f1 H locs e2 hw => ?_)
  have k3 : f1 a = some (eO 8 [gd, .int i2, .int i2, .int i3, .long l1, .long l2, .long l3, tn]) := up_s e2
  refine lv_aload_n hx hb dX8_swapLower_13 rfl (lv_at hl 1 rfl) ?_
  refine lv_iload_n hx hb dX8_swapLower_14 rfl (lv_at hl 0 rfl) ?_
  refine h_put1 C hw bX8 k3 lk1 2 (by decide) lk2 rfl rfl rfl (Nat.le_of_ble_eq_true rfl) dX8_swapLower_15 (fun f4 H locs e5 hw => ?_)
  have k6 : f4 a = some (eO 8 [gd, .int i2, .int i1, .int i3, .long l1, .long l2, .long l3, tn]) := up_s e5
  refine lv_aload_n hx hb dX8_swapLower_18 rfl (lv_at hl 1 rfl) ?_
  refine h_get C hw bX8 k6 lk1 4 (by decide) lk3 (v := .long l1) rfl dX8_swapLower_19 ?_
  refine lv_lstore_n (lv' := [(2, _), (1, _), (0, _)]) hx hb dX8_swapLower_22 rfl hl (by decide) rfl (fun ls hl => ?_)
  refine lv_aload_n hx hb dX8_swapLower_23 rfl (lv_at hl 2 rfl) ?_
  refine lv_aload_n hx hb dX8_swapLower_24 rfl (lv_at hl 2 rfl) ?_
  refine h_get C hw bX8 k6 lk1 5 (by decide) lk4 (v := .long l2) rfl dX8_swapLower_25 ?_
  refine h_put1 C hw bX8 k6 lk1 4 (by decide) lk3 rfl rfl rfl (Nat.le_of_ble_eq_true rfl) dX8_swapLower_28 (fun f7 H locs e8 hw => ?_)
  have k9 : f7 a = some (eO 8 [gd, .int i2, .int i1, .int i3, .long l2, .long l2, .long l3, tn]) := up_s e8
  refine lv_aload_n hx hb dX8_swapLower_31 rfl (lv_at hl 2 rfl) ?_
  refine lv_lload_n hx hb dX8_swapLower_32 rfl (lv_at hl 0 rfl) ?_
  refine h_put1 C hw bX8 k9 lk1 5 (by decide) lk4 rfl rfl rfl (Nat.le_of_ble_eq_true rfl) dX8_swapLower_33 (fun f10 H locs e11 hw => ?_)
  have k12 : f10 a = some (eO 8 [gd, .int i2, .int i1, .int i3, .long l2, .long l1, .long l3, tn]) := up_s e11
  exact h_vret C hr hlk hw (by rw [e11, e8, e5, e2]; simp only [va_up2]; rfl) dX8_swapLower_36
set_option maxHeartbeats 4000000 in
set_option maxRecDepth 100000 in
theorem c_X8_swapUpper {l : Launch} {D : va_G} {cA : Nat → ClassId} {f : HF} {sz : Nat} {a : Nat} {gd : Value} {i1 i2 i3 : Int32} {l1 l2 l3 : Int64} {tn : Value}  (h0 : f a = some (eO 8 [gd, .int i1, .int i2, .int i3, .long l1, .long l2, .long l3, tn])) : Met l yX8_swapUpper wsX8_swapUpper ({ frames := 0, cells := 0, slots := 0, locals := 0 } : Room) (va_Pc [.ref a] (hB D cA f sz)) (va_Qv (fun f1 => f1 = va_up f a (some (eO 8 [gd, .int i1, .int i3, .int i2, .long l1, .long l3, .long l2, tn]))) (hE D f sz) (hA f sz)) 0 0 (hA f sz) := by
  refine h_of (cc := cX8_swapUpper) (maxL := 4) (ret := none) (by decide +kernel) rfl (Nat.le_of_ble_eq_true rfl) ?_
  intro p e s m below meth c ls C hr hlk hnm hw hl
  have hx := C.1.1
  have hb := C.1.2.1
  have hl : lv_has ls 4 [(0, .ref a)] := hl
  have lk0 : Cond.fieldLink RX8 27 "FallingLight$Triangle" "second" "I" ∈ wsX8_swapUpper := by decide +kernel
  have lk1 : ∀ w ∈ u_ws RX8 TX8 8, w ∈ wsX8_swapUpper := by decide +kernel
  have lk2 : Cond.fieldLink RX8 30 "FallingLight$Triangle" "third" "I" ∈ wsX8_swapUpper := by decide +kernel
  have lk3 : Cond.fieldLink RX8 44 "FallingLight$Triangle" "mid" "J" ∈ wsX8_swapUpper := by decide +kernel
  have lk4 : Cond.fieldLink RX8 47 "FallingLight$Triangle" "most" "J" ∈ wsX8_swapUpper := by decide +kernel
  refine lv_aload_n hx hb dX8_swapUpper_0 rfl (lv_at hl 0 rfl) ?_
  refine h_get C hw bX8 h0 lk1 2 (by decide) lk0 (v := .int i2) rfl dX8_swapUpper_1 ?_
  refine lv_istore_n (lv' := [(1, _), (0, _)]) hx hb dX8_swapUpper_4 rfl hl (by decide) rfl (fun ls hl => ?_)
  refine lv_aload_n hx hb dX8_swapUpper_5 rfl (lv_at hl 1 rfl) ?_
  refine lv_aload_n hx hb dX8_swapUpper_6 rfl (lv_at hl 1 rfl) ?_
  refine h_get C hw bX8 h0 lk1 3 (by decide) lk2 (v := .int i3) rfl dX8_swapUpper_7 ?_
  refine h_put1 C hw bX8 h0 lk1 2 (by decide) lk0 rfl rfl rfl (Nat.le_of_ble_eq_true rfl) dX8_swapUpper_10 (fun f1 H locs e2 hw => ?_)
  have k3 : f1 a = some (eO 8 [gd, .int i1, .int i3, .int i3, .long l1, .long l2, .long l3, tn]) := up_s e2
  refine lv_aload_n hx hb dX8_swapUpper_13 rfl (lv_at hl 1 rfl) ?_
  refine lv_iload_n hx hb dX8_swapUpper_14 rfl (lv_at hl 0 rfl) ?_
  refine h_put1 C hw bX8 k3 lk1 3 (by decide) lk2 rfl rfl rfl (Nat.le_of_ble_eq_true rfl) dX8_swapUpper_15 (fun f4 H locs e5 hw => ?_)
  have k6 : f4 a = some (eO 8 [gd, .int i1, .int i3, .int i2, .long l1, .long l2, .long l3, tn]) := up_s e5
  refine lv_aload_n hx hb dX8_swapUpper_18 rfl (lv_at hl 1 rfl) ?_
  refine h_get C hw bX8 k6 lk1 5 (by decide) lk3 (v := .long l2) rfl dX8_swapUpper_19 ?_
  refine lv_lstore_n (lv' := [(2, _), (1, _), (0, _)]) hx hb dX8_swapUpper_22 rfl hl (by decide) rfl (fun ls hl => ?_)
  refine lv_aload_n hx hb dX8_swapUpper_23 rfl (lv_at hl 2 rfl) ?_
  refine lv_aload_n hx hb dX8_swapUpper_24 rfl (lv_at hl 2 rfl) ?_
  refine h_get C hw bX8 k6 lk1 6 (by decide) lk4 (v := .long l3) rfl dX8_swapUpper_25 ?_
  refine h_put1 C hw bX8 k6 lk1 5 (by decide) lk3 rfl rfl rfl (Nat.le_of_ble_eq_true rfl) dX8_swapUpper_28 (fun f7 H locs e8 hw => ?_)
  have k9 : f7 a = some (eO 8 [gd, .int i1, .int i3, .int i2, .long l1, .long l3, .long l3, tn]) := up_s e8
  refine lv_aload_n hx hb dX8_swapUpper_31 rfl (lv_at hl 2 rfl) ?_
  refine lv_lload_n hx hb dX8_swapUpper_32 rfl (lv_at hl 0 rfl) ?_
  refine h_put1 C hw bX8 k9 lk1 6 (by decide) lk4 rfl rfl rfl (Nat.le_of_ble_eq_true rfl) dX8_swapUpper_33 (fun f10 H locs e11 hw => ?_)
  have k12 : f10 a = some (eO 8 [gd, .int i1, .int i3, .int i2, .long l1, .long l3, .long l2, tn]) := up_s e11
  exact h_vret C hr hlk hw (by rw [e11, e8, e5, e2]; simp only [va_up2]; rfl) dX8_swapUpper_36
set_option maxHeartbeats 4000000 in
set_option maxRecDepth 100000 in
theorem c_X8_setCorners {l : Launch} {D : va_G} {cA : Nat → ClassId} {f : HF} {sz : Nat} {a : Nat} {gd w1 w2 w3 w4 w5 w6 tn : Value} {i1 i2 i3 : Nat} {l1 l2 l3 : Int64}  (h0 : f a = some (eO 8 [gd, w1, w2, w3, w4, w5, w6, tn])) : Met l yX8_setCorners wsX8_setCorners ({ frames := 1, cells := 0, slots := 0, locals := 23 } : Room) (va_Pc [.ref a, .int (nI i1), .long l1, .int (nI i2), .long l2, .int (nI i3), .long l3] (hB D cA f sz)) (va_Qv (fun f1 => f1 = va_up f a (some (tE gd (tS ((i1, l1), (i2, l2), (i3, l3))) tn))) (hE D f sz) (hA f sz)) 0 0 (hA f sz) := by
  refine h_of (cc := cX8_setCorners) (maxL := 10) (ret := none) (by decide +kernel) rfl (Nat.le_of_ble_eq_true rfl) ?_
  intro p e s m below meth c ls C hr hlk hnm hw hl
  have hx := C.1.1
  have hb := C.1.2.1
  have hl : lv_has ls 10 [(0, .ref a), (1, .int (nI i1)), (2, .long l1), (4, .int (nI i2)), (5, .long l2), (7, .int (nI i3)), (8, .long l3)] := hl
  have lk0 : Cond.fieldLink RX8 23 "FallingLight$Triangle" "first" "I" ∈ wsX8_setCorners := by decide +kernel
  have lk1 : ∀ w ∈ u_ws RX8 TX8 8, w ∈ wsX8_setCorners := by decide +kernel
  have lk2 : Cond.fieldLink RX8 40 "FallingLight$Triangle" "least" "J" ∈ wsX8_setCorners := by decide +kernel
  have lk3 : Cond.fieldLink RX8 27 "FallingLight$Triangle" "second" "I" ∈ wsX8_setCorners := by decide +kernel
  have lk4 : Cond.fieldLink RX8 44 "FallingLight$Triangle" "mid" "J" ∈ wsX8_setCorners := by decide +kernel
  have lk5 : Cond.fieldLink RX8 30 "FallingLight$Triangle" "third" "I" ∈ wsX8_setCorners := by decide +kernel
  have lk6 : Cond.fieldLink RX8 47 "FallingLight$Triangle" "most" "J" ∈ wsX8_setCorners := by decide +kernel
  refine lv_aload_n hx hb dX8_setCorners_0 rfl (lv_at hl 0 rfl) ?_
  refine lv_iload_n hx hb dX8_setCorners_1 rfl (lv_at hl 1 rfl) ?_
  refine h_put1 C hw bX8 h0 lk1 1 (by decide) lk0 rfl rfl rfl (Nat.le_of_ble_eq_true rfl) dX8_setCorners_2 (fun f1 H locs e2 hw => ?_)
  have k3 : f1 a = some (eO 8 [gd, .int (nI i1), w2, w3, w4, w5, w6, tn]) := up_s e2
  refine lv_aload_n hx hb dX8_setCorners_5 rfl (lv_at hl 0 rfl) ?_
  refine lv_lload_n hx hb dX8_setCorners_6 rfl (lv_at hl 2 rfl) ?_
  refine h_put1 C hw bX8 k3 lk1 4 (by decide) lk2 rfl rfl rfl (Nat.le_of_ble_eq_true rfl) dX8_setCorners_7 (fun f4 H locs e5 hw => ?_)
  have k6 : f4 a = some (eO 8 [gd, .int (nI i1), w2, w3, .long l1, w5, w6, tn]) := up_s e5
  refine lv_aload_n hx hb dX8_setCorners_10 rfl (lv_at hl 0 rfl) ?_
  refine lv_iload hx hb dX8_setCorners_11 (lv_at hl 3 rfl) ?_
  refine h_put1 C hw bX8 k6 lk1 2 (by decide) lk3 rfl rfl rfl (Nat.le_of_ble_eq_true rfl) dX8_setCorners_13 (fun f7 H locs e8 hw => ?_)
  have k9 : f7 a = some (eO 8 [gd, .int (nI i1), .int (nI i2), w3, .long l1, w5, w6, tn]) := up_s e8
  refine lv_aload_n hx hb dX8_setCorners_16 rfl (lv_at hl 0 rfl) ?_
  refine lv_lload hx hb dX8_setCorners_17 (lv_at hl 4 rfl) ?_
  refine h_put1 C hw bX8 k9 lk1 5 (by decide) lk4 rfl rfl rfl (Nat.le_of_ble_eq_true rfl) dX8_setCorners_19 (fun f10 H locs e11 hw => ?_)
  have k12 : f10 a = some (eO 8 [gd, .int (nI i1), .int (nI i2), w3, .long l1, .long l2, w6, tn]) := up_s e11
  refine lv_aload_n hx hb dX8_setCorners_22 rfl (lv_at hl 0 rfl) ?_
  refine lv_iload hx hb dX8_setCorners_23 (lv_at hl 5 rfl) ?_
  refine h_put1 C hw bX8 k12 lk1 3 (by decide) lk5 rfl rfl rfl (Nat.le_of_ble_eq_true rfl) dX8_setCorners_25 (fun f13 H locs e14 hw => ?_)
  have k15 : f13 a = some (eO 8 [gd, .int (nI i1), .int (nI i2), .int (nI i3), .long l1, .long l2, w6, tn]) := up_s e14
  refine lv_aload_n hx hb dX8_setCorners_28 rfl (lv_at hl 0 rfl) ?_
  refine lv_lload hx hb dX8_setCorners_29 (lv_at hl 6 rfl) ?_
  refine h_put1 C hw bX8 k15 lk1 6 (by decide) lk6 rfl rfl rfl (Nat.le_of_ble_eq_true rfl) dX8_setCorners_31 (fun f16 H locs e17 hw => ?_)
  have k18 : f16 a = some (eO 8 [gd, .int (nI i1), .int (nI i2), .int (nI i3), .long l1, .long l2, .long l3, tn]) := up_s e17
  refine lv_aload_n hx hb dX8_setCorners_34 rfl (lv_at hl 0 rfl) ?_
  refine h_get C hw bX8 k18 lk1 4 (by decide) lk2 (v := .long l1) rfl dX8_setCorners_35 ?_
  refine lv_aload_n hx hb dX8_setCorners_38 rfl (lv_at hl 0 rfl) ?_
  refine h_get C hw bX8 k18 lk1 5 (by decide) lk4 (v := .long l2) rfl dX8_setCorners_39 ?_
  refine W.lcmp hx hb dX8_setCorners_42 ?_
  refine l_ifle C (tgt := 50) dX8_setCorners_43 (by decide) (fun cq19 => ?_) (fun cq19 => ?_)
  · refine lv_aload_n hx hb dX8_setCorners_50 rfl (lv_at hl 0 rfl) ?_
    refine h_get C hw bX8 k18 lk1 5 (by decide) lk4 (v := .long l2) rfl dX8_setCorners_51 ?_
    refine lv_aload_n hx hb dX8_setCorners_54 rfl (lv_at hl 0 rfl) ?_
    refine h_get C hw bX8 k18 lk1 6 (by decide) lk6 (v := .long l3) rfl dX8_setCorners_55 ?_
    refine W.lcmp hx hb dX8_setCorners_58 ?_
    refine l_ifle C (tgt := 66) dX8_setCorners_59 (by decide) (fun cq20 => ?_) (fun cq20 => ?_)
    · refine lv_aload_n hx hb dX8_setCorners_66 rfl (lv_at hl 0 rfl) ?_
      refine h_get C hw bX8 k18 lk1 4 (by decide) lk2 (v := .long l1) rfl dX8_setCorners_67 ?_
      refine lv_aload_n hx hb dX8_setCorners_70 rfl (lv_at hl 0 rfl) ?_
      refine h_get C hw bX8 k18 lk1 5 (by decide) lk4 (v := .long l2) rfl dX8_setCorners_71 ?_
      refine W.lcmp hx hb dX8_setCorners_74 ?_
      refine l_ifle C (tgt := 82) dX8_setCorners_75 (by decide) (fun cq21 => ?_) (fun cq21 => ?_)
      · have hts : tS ((i1, l1), (i2, l2), (i3, l3)) = ((i1, l1), (i2, l2), (i3, l3)) := by rw [tS, sw1_f (t := ((i1, l1), (i2, l2), (i3, l3))) cq19, sw2_f (t := ((i1, l1), (i2, l2), (i3, l3))) cq20, sw1_f (t := ((i1, l1), (i2, l2), (i3, l3))) cq21]
        exact h_vret C hr hlk hw (by rw [hts, e17, e14, e11, e8, e5, e2]; simp only [va_up2]; rfl) dX8_setCorners_82
      · refine lv_aload_n hx hb dX8_setCorners_78 rfl (lv_at hl 0 rfl) ?_
        refine h_callv hw (h_runV (n := 0) (As := []) (rest := []) C hw (c_X8_swapLower k18) gX8_setCorners_X8_swapLower rfl rfl rfl (by decide +kernel) ⟨by decide, by decide⟩ bX8 k18 rfl hl.1 rfl (Nat.le_of_ble_eq_true rfl) dX8_setCorners_79 ⟨by first | decide | omega, by first | decide | omega⟩) (fun  f22 H locs hp hw => ?_)
        have e23 := hp
        have k24 : f22 a = some (eO 8 [gd, .int (nI i2), .int (nI i1), .int (nI i3), .long l2, .long l1, .long l3, tn]) := up_s e23
        have hts : tS ((i1, l1), (i2, l2), (i3, l3)) = ((i2, l2), (i1, l1), (i3, l3)) := by rw [tS, sw1_f (t := ((i1, l1), (i2, l2), (i3, l3))) cq19, sw2_f (t := ((i1, l1), (i2, l2), (i3, l3))) cq20, sw1_t (t := ((i1, l1), (i2, l2), (i3, l3))) cq21]
        exact h_vret C hr hlk hw (by rw [hts, e23, e17, e14, e11, e8, e5, e2]; simp only [va_up2]; rfl) dX8_setCorners_82
    · refine lv_aload_n hx hb dX8_setCorners_62 rfl (lv_at hl 0 rfl) ?_
      refine h_callv hw (h_runV (n := 0) (As := []) (rest := []) C hw (c_X8_swapUpper k18) gX8_setCorners_X8_swapUpper rfl rfl rfl (by decide +kernel) ⟨by decide, by decide⟩ bX8 k18 rfl hl.1 rfl (Nat.le_of_ble_eq_true rfl) dX8_setCorners_63 ⟨by first | decide | omega, by first | decide | omega⟩) (fun  f25 H locs hp hw => ?_)
      have e26 := hp
      have k27 : f25 a = some (eO 8 [gd, .int (nI i1), .int (nI i3), .int (nI i2), .long l1, .long l3, .long l2, tn]) := up_s e26
      refine lv_aload_n hx hb dX8_setCorners_66 rfl (lv_at hl 0 rfl) ?_
      refine h_get C hw bX8 k27 lk1 4 (by decide) lk2 (v := .long l1) rfl dX8_setCorners_67 ?_
      refine lv_aload_n hx hb dX8_setCorners_70 rfl (lv_at hl 0 rfl) ?_
      refine h_get C hw bX8 k27 lk1 5 (by decide) lk4 (v := .long l3) rfl dX8_setCorners_71 ?_
      refine W.lcmp hx hb dX8_setCorners_74 ?_
      refine l_ifle C (tgt := 82) dX8_setCorners_75 (by decide) (fun cq28 => ?_) (fun cq28 => ?_)
      · have hts : tS ((i1, l1), (i2, l2), (i3, l3)) = ((i1, l1), (i3, l3), (i2, l2)) := by rw [tS, sw1_f (t := ((i1, l1), (i2, l2), (i3, l3))) cq19, sw2_t (t := ((i1, l1), (i2, l2), (i3, l3))) cq20, sw1_f (t := ((i1, l1), (i3, l3), (i2, l2))) cq28]
        exact h_vret C hr hlk hw (by rw [hts, e26, e17, e14, e11, e8, e5, e2]; simp only [va_up2]; rfl) dX8_setCorners_82
      · refine lv_aload_n hx hb dX8_setCorners_78 rfl (lv_at hl 0 rfl) ?_
        refine h_callv hw (h_runV (n := 0) (As := []) (rest := []) C hw (c_X8_swapLower k27) gX8_setCorners_X8_swapLower rfl rfl rfl (by decide +kernel) ⟨by decide, by decide⟩ bX8 k27 rfl hl.1 rfl (Nat.le_of_ble_eq_true rfl) dX8_setCorners_79 ⟨by first | decide | omega, by first | decide | omega⟩) (fun  f29 H locs hp hw => ?_)
        have e30 := hp
        have k31 : f29 a = some (eO 8 [gd, .int (nI i3), .int (nI i1), .int (nI i2), .long l3, .long l1, .long l2, tn]) := up_s e30
        have hts : tS ((i1, l1), (i2, l2), (i3, l3)) = ((i3, l3), (i1, l1), (i2, l2)) := by rw [tS, sw1_f (t := ((i1, l1), (i2, l2), (i3, l3))) cq19, sw2_t (t := ((i1, l1), (i2, l2), (i3, l3))) cq20, sw1_t (t := ((i1, l1), (i3, l3), (i2, l2))) cq28]
        exact h_vret C hr hlk hw (by rw [hts, e30, e26, e17, e14, e11, e8, e5, e2]; simp only [va_up2]; rfl) dX8_setCorners_82
  · refine lv_aload_n hx hb dX8_setCorners_46 rfl (lv_at hl 0 rfl) ?_
    refine h_callv hw (h_runV (n := 0) (As := []) (rest := []) C hw (c_X8_swapLower k18) gX8_setCorners_X8_swapLower rfl rfl rfl (by decide +kernel) ⟨by decide, by decide⟩ bX8 k18 rfl hl.1 rfl (Nat.le_of_ble_eq_true rfl) dX8_setCorners_47 ⟨by first | decide | omega, by first | decide | omega⟩) (fun  f32 H locs hp hw => ?_)
    have e33 := hp
    have k34 : f32 a = some (eO 8 [gd, .int (nI i2), .int (nI i1), .int (nI i3), .long l2, .long l1, .long l3, tn]) := up_s e33
    refine lv_aload_n hx hb dX8_setCorners_50 rfl (lv_at hl 0 rfl) ?_
    refine h_get C hw bX8 k34 lk1 5 (by decide) lk4 (v := .long l1) rfl dX8_setCorners_51 ?_
    refine lv_aload_n hx hb dX8_setCorners_54 rfl (lv_at hl 0 rfl) ?_
    refine h_get C hw bX8 k34 lk1 6 (by decide) lk6 (v := .long l3) rfl dX8_setCorners_55 ?_
    refine W.lcmp hx hb dX8_setCorners_58 ?_
    refine l_ifle C (tgt := 66) dX8_setCorners_59 (by decide) (fun cq35 => ?_) (fun cq35 => ?_)
    · refine lv_aload_n hx hb dX8_setCorners_66 rfl (lv_at hl 0 rfl) ?_
      refine h_get C hw bX8 k34 lk1 4 (by decide) lk2 (v := .long l2) rfl dX8_setCorners_67 ?_
      refine lv_aload_n hx hb dX8_setCorners_70 rfl (lv_at hl 0 rfl) ?_
      refine h_get C hw bX8 k34 lk1 5 (by decide) lk4 (v := .long l1) rfl dX8_setCorners_71 ?_
      refine W.lcmp hx hb dX8_setCorners_74 ?_
      refine l_ifle C (tgt := 82) dX8_setCorners_75 (by decide) (fun cq36 => ?_) (fun cq36 => ?_)
      · have hts : tS ((i1, l1), (i2, l2), (i3, l3)) = ((i2, l2), (i1, l1), (i3, l3)) := by rw [tS, sw1_t (t := ((i1, l1), (i2, l2), (i3, l3))) cq19, sw2_f (t := ((i2, l2), (i1, l1), (i3, l3))) cq35, sw1_f (t := ((i2, l2), (i1, l1), (i3, l3))) cq36]
        exact h_vret C hr hlk hw (by rw [hts, e33, e17, e14, e11, e8, e5, e2]; simp only [va_up2]; rfl) dX8_setCorners_82
      · refine lv_aload_n hx hb dX8_setCorners_78 rfl (lv_at hl 0 rfl) ?_
        refine h_callv hw (h_runV (n := 0) (As := []) (rest := []) C hw (c_X8_swapLower k34) gX8_setCorners_X8_swapLower rfl rfl rfl (by decide +kernel) ⟨by decide, by decide⟩ bX8 k34 rfl hl.1 rfl (Nat.le_of_ble_eq_true rfl) dX8_setCorners_79 ⟨by first | decide | omega, by first | decide | omega⟩) (fun  f37 H locs hp hw => ?_)
        have e38 := hp
        have k39 : f37 a = some (eO 8 [gd, .int (nI i1), .int (nI i2), .int (nI i3), .long l1, .long l2, .long l3, tn]) := up_s e38
        have hts : tS ((i1, l1), (i2, l2), (i3, l3)) = ((i1, l1), (i2, l2), (i3, l3)) := by rw [tS, sw1_t (t := ((i1, l1), (i2, l2), (i3, l3))) cq19, sw2_f (t := ((i2, l2), (i1, l1), (i3, l3))) cq35, sw1_t (t := ((i2, l2), (i1, l1), (i3, l3))) cq36]
        exact h_vret C hr hlk hw (by rw [hts, e38, e33, e17, e14, e11, e8, e5, e2]; simp only [va_up2]; rfl) dX8_setCorners_82
    · refine lv_aload_n hx hb dX8_setCorners_62 rfl (lv_at hl 0 rfl) ?_
      refine h_callv hw (h_runV (n := 0) (As := []) (rest := []) C hw (c_X8_swapUpper k34) gX8_setCorners_X8_swapUpper rfl rfl rfl (by decide +kernel) ⟨by decide, by decide⟩ bX8 k34 rfl hl.1 rfl (Nat.le_of_ble_eq_true rfl) dX8_setCorners_63 ⟨by first | decide | omega, by first | decide | omega⟩) (fun  f40 H locs hp hw => ?_)
      have e41 := hp
      have k42 : f40 a = some (eO 8 [gd, .int (nI i2), .int (nI i3), .int (nI i1), .long l2, .long l3, .long l1, tn]) := up_s e41
      refine lv_aload_n hx hb dX8_setCorners_66 rfl (lv_at hl 0 rfl) ?_
      refine h_get C hw bX8 k42 lk1 4 (by decide) lk2 (v := .long l2) rfl dX8_setCorners_67 ?_
      refine lv_aload_n hx hb dX8_setCorners_70 rfl (lv_at hl 0 rfl) ?_
      refine h_get C hw bX8 k42 lk1 5 (by decide) lk4 (v := .long l3) rfl dX8_setCorners_71 ?_
      refine W.lcmp hx hb dX8_setCorners_74 ?_
      refine l_ifle C (tgt := 82) dX8_setCorners_75 (by decide) (fun cq43 => ?_) (fun cq43 => ?_)
      · have hts : tS ((i1, l1), (i2, l2), (i3, l3)) = ((i2, l2), (i3, l3), (i1, l1)) := by rw [tS, sw1_t (t := ((i1, l1), (i2, l2), (i3, l3))) cq19, sw2_t (t := ((i2, l2), (i1, l1), (i3, l3))) cq35, sw1_f (t := ((i2, l2), (i3, l3), (i1, l1))) cq43]
        exact h_vret C hr hlk hw (by rw [hts, e41, e33, e17, e14, e11, e8, e5, e2]; simp only [va_up2]; rfl) dX8_setCorners_82
      · refine lv_aload_n hx hb dX8_setCorners_78 rfl (lv_at hl 0 rfl) ?_
        refine h_callv hw (h_runV (n := 0) (As := []) (rest := []) C hw (c_X8_swapLower k42) gX8_setCorners_X8_swapLower rfl rfl rfl (by decide +kernel) ⟨by decide, by decide⟩ bX8 k42 rfl hl.1 rfl (Nat.le_of_ble_eq_true rfl) dX8_setCorners_79 ⟨by first | decide | omega, by first | decide | omega⟩) (fun  f44 H locs hp hw => ?_)
        have e45 := hp
        have k46 : f44 a = some (eO 8 [gd, .int (nI i3), .int (nI i2), .int (nI i1), .long l3, .long l2, .long l1, tn]) := up_s e45
        have hts : tS ((i1, l1), (i2, l2), (i3, l3)) = ((i3, l3), (i2, l2), (i1, l1)) := by rw [tS, sw1_t (t := ((i1, l1), (i2, l2), (i3, l3))) cq19, sw2_t (t := ((i2, l2), (i1, l1), (i3, l3))) cq35, sw1_t (t := ((i2, l2), (i3, l3), (i1, l1))) cq43]
        exact h_vret C hr hlk hw (by rw [hts, e45, e41, e33, e17, e14, e11, e8, e5, e2]; simp only [va_up2]; rfl) dX8_setCorners_82
set_option maxHeartbeats 4000000 in
set_option maxRecDepth 100000 in
theorem c_X8_measure {l : Launch} {D : va_G} {cA : Nat → ClassId} {f : HF} {sz : Nat} {a b xa ya lm n : Nat} {gx gy : Nat → Int32} {v0 v1 v2 v3 v4 v5 v6 v7 : Value} {i j k : Nat}  (h0 : f a = some (eO 8 [v0, v1, v2, v3, v4, v5, v6, v7])) (h1 : f b = some (eO 4 [.int (nI lm), .ref xa, .ref ya, .int (nI n)])) (hx1 : f xa = some (eI cA lm gx)) (hy1 : f ya = some (eI cA lm gy)) (hlm : lm ≤ 12) (hi : i < lm) (hj : j < lm) (hk : k < lm) : Met l yX8_measure wsX8_measure ({ frames := 2, cells := 0, slots := 0, locals := 52 } : Room) (va_Pc [.ref a, .ref b, .int (nI i), .int (nI j), .int (nI k)] (hB D cA f sz)) (va_Qv (fun f1 => f1 = va_up f a (some (tE (.int (bI (gdC gx gy (tC0 gx gy i j k)))) (tC0 gx gy i j k) (.int (tnC gx gy (tC0 gx gy i j k)))))) (hE D f sz) (hA f sz)) 0 0 (hA f sz) := by
  refine h_of (cc := cX8_measure) (maxL := 7) (ret := none) (by decide +kernel) rfl (Nat.le_of_ble_eq_true rfl) ?_
  intro p e s m below meth c ls C hr hlk hnm hw hl
  have hx := C.1.1
  have hb := C.1.2.1
  have hl : lv_has ls 7 [(0, .ref a), (1, .ref b), (2, .int (nI i)), (3, .int (nI j)), (4, .int (nI k))] := hl
  have lk0 : Cond.fieldLink RX8 23 "FallingLight$Triangle" "first" "I" ∈ wsX8_measure := by decide +kernel
  have lk1 : ∀ w ∈ u_ws RX8 TX8 8, w ∈ wsX8_measure := by decide +kernel
  have lk2 : Cond.fieldLink RX8 27 "FallingLight$Triangle" "second" "I" ∈ wsX8_measure := by decide +kernel
  have lk3 : Cond.fieldLink RX8 30 "FallingLight$Triangle" "third" "I" ∈ wsX8_measure := by decide +kernel
  have lk4 : Cond.fieldLink RX8 37 "FallingLight$Triangle" "turn" "I" ∈ wsX8_measure := by decide +kernel
  have lk5 : Cond.fieldLink RX8 7 "FallingLight$Triangle" "good" "Z" ∈ wsX8_measure := by decide +kernel
  have lk6 : Cond.fieldLink RX8 40 "FallingLight$Triangle" "least" "J" ∈ wsX8_measure := by decide +kernel
  have lk7 : Cond.fieldLink RX8 44 "FallingLight$Triangle" "mid" "J" ∈ wsX8_measure := by decide +kernel
  have lk8 : Cond.fieldLink RX8 47 "FallingLight$Triangle" "most" "J" ∈ wsX8_measure := by decide +kernel
  refine lv_aload_n hx hb dX8_measure_0 rfl (lv_at hl 0 rfl) ?_
  refine lv_iload_n hx hb dX8_measure_1 rfl (lv_at hl 2 rfl) ?_
  refine lv_aload_n hx hb dX8_measure_2 rfl (lv_at hl 1 rfl) ?_
  refine lv_iload_n hx hb dX8_measure_3 rfl (lv_at hl 3 rfl) ?_
  refine lv_iload hx hb dX8_measure_4 (lv_at hl 4 rfl) ?_
  refine h_calll hw (h_runV (n := 2) (As := [.int (nI j), .int (nI k)]) (rest := [.int (nI i), .ref a]) C hw (c_X4_squareBetween h1 hx1 hy1 (by omega) (by omega) (by omega)) gX8_measure_X4_squareBetween rfl rfl rfl (by decide +kernel) ⟨by decide, by decide⟩ bX4 h1 rfl hl.1 rfl (Nat.le_of_ble_eq_true rfl) dX8_measure_6 ⟨by first | decide | omega, by first | decide | omega⟩) (fun r1 f2 H locs hp hw => ?_)
  obtain ⟨rfl, rfl⟩ := hp
  refine lv_iload_n hx hb dX8_measure_9 rfl (lv_at hl 3 rfl) ?_
  refine lv_aload_n hx hb dX8_measure_10 rfl (lv_at hl 1 rfl) ?_
  refine lv_iload_n hx hb dX8_measure_11 rfl (lv_at hl 2 rfl) ?_
  refine lv_iload hx hb dX8_measure_12 (lv_at hl 4 rfl) ?_
  refine h_calll hw (h_runV (n := 2) (As := [.int (nI i), .int (nI k)]) (rest := [.int (nI j), .long (sqC gx gy j k), .int (nI i), .ref a]) C hw (c_X4_squareBetween h1 hx1 hy1 (by omega) (by omega) (by omega)) gX8_measure_X4_squareBetween rfl rfl rfl (by decide +kernel) ⟨by decide, by decide⟩ bX4 h1 rfl hl.1 rfl (Nat.le_of_ble_eq_true rfl) dX8_measure_14 ⟨by first | decide | omega, by first | decide | omega⟩) (fun r3 f4 H locs hp hw => ?_)
  obtain ⟨rfl, rfl⟩ := hp
  refine lv_iload hx hb dX8_measure_17 (lv_at hl 4 rfl) ?_
  refine lv_aload_n hx hb dX8_measure_19 rfl (lv_at hl 1 rfl) ?_
  refine lv_iload_n hx hb dX8_measure_20 rfl (lv_at hl 2 rfl) ?_
  refine lv_iload_n hx hb dX8_measure_21 rfl (lv_at hl 3 rfl) ?_
  refine h_calll hw (h_runV (n := 2) (As := [.int (nI i), .int (nI j)]) (rest := [.int (nI k), .long (sqC gx gy i k), .int (nI j), .long (sqC gx gy j k), .int (nI i), .ref a]) C hw (c_X4_squareBetween h1 hx1 hy1 (by omega) (by omega) (by omega)) gX8_measure_X4_squareBetween rfl rfl rfl (by decide +kernel) ⟨by decide, by decide⟩ bX4 h1 rfl hl.1 rfl (Nat.le_of_ble_eq_true rfl) dX8_measure_22 ⟨by first | decide | omega, by first | decide | omega⟩) (fun r5 f6 H locs hp hw => ?_)
  obtain ⟨rfl, rfl⟩ := hp
  refine h_callv hw (h_runV (n := 6) (As := [.int (nI i), .long (sqC gx gy j k), .int (nI j), .long (sqC gx gy i k), .int (nI k), .long (sqC gx gy i j)]) (rest := []) C hw (c_X8_setCorners h0) gX8_measure_X8_setCorners rfl rfl rfl (by decide +kernel) ⟨by decide, by decide⟩ bX8 h0 rfl hl.1 rfl (Nat.le_of_ble_eq_true rfl) dX8_measure_25 ⟨by first | decide | omega, by first | decide | omega⟩) (fun  f7 H locs hp hw => ?_)
  have e8 := hp
  generalize ht9 : tS ((i, sqC gx gy j k), (j, sqC gx gy i k), (k, sqC gx gy i j)) = t9 at e8
  have k10 := up_o e8 (ne_kd h1 h0 (Nat.ne_of_beq_eq_false rfl)) h1
  have k11 := up_o e8 (ne_kd hx1 h0 (Nat.ne_of_beq_eq_false rfl)) hx1
  have k12 := up_o e8 (ne_kd hy1 h0 (Nat.ne_of_beq_eq_false rfl)) hy1
  have k13 : f7 a = some (eO 8 [v0, .int (nI t9.1.1), .int (nI t9.2.1.1), .int (nI t9.2.2.1), .long t9.1.2, .long t9.2.1.2, .long t9.2.2.2, v7]) := up_s e8
  obtain ⟨hb1, hb2, hb3⟩ : all3 (fun z => z < lm) t9 := by rw [← ht9]; exact all3_1 (all3_2 (all3_1 ⟨hi, hj, hk⟩))
  refine lv_aload_n hx hb dX8_measure_28 rfl (lv_at hl 1 rfl) ?_
  refine lv_aload_n hx hb dX8_measure_29 rfl (lv_at hl 0 rfl) ?_
  refine h_get C hw bX8 k13 lk1 1 (by decide) lk0 (v := .int (nI t9.1.1)) rfl dX8_measure_30 ?_
  refine lv_aload_n hx hb dX8_measure_33 rfl (lv_at hl 0 rfl) ?_
  refine h_get C hw bX8 k13 lk1 2 (by decide) lk2 (v := .int (nI t9.2.1.1)) rfl dX8_measure_34 ?_
  refine lv_aload_n hx hb dX8_measure_37 rfl (lv_at hl 0 rfl) ?_
  refine h_get C hw bX8 k13 lk1 3 (by decide) lk3 (v := .int (nI t9.2.2.1)) rfl dX8_measure_38 ?_
  refine h_calll hw (h_runV (n := 3) (As := [.int (nI t9.1.1), .int (nI t9.2.1.1), .int (nI t9.2.2.1)]) (rest := []) C hw (c_X4_spread k10 k11 k12 (by omega) (by omega) (by omega) (by omega)) gX8_measure_X4_spread rfl rfl rfl (by decide +kernel) ⟨by decide, by decide⟩ bX4 k10 rfl hl.1 rfl (Nat.le_of_ble_eq_true rfl) dX8_measure_41 ⟨by first | decide | omega, by first | decide | omega⟩) (fun r14 f15 H locs hp hw => ?_)
  obtain ⟨rfl, rfl⟩ := hp
  refine lv_lstore (lv' := [(5, _), (0, _), (1, _), (2, _), (3, _), (4, _)]) hx hb dX8_measure_44 hl (by decide) rfl (fun ls hl => ?_)
  refine lv_aload_n hx hb dX8_measure_46 rfl (lv_at hl 1 rfl) ?_
  refine lv_lload hx hb dX8_measure_47 (lv_at hl 0 rfl) ?_
  refine lv_lconst (v := 0) hx hb dX8_measure_49 (by decide) ?_
  refine W.lcmp hx hb dX8_measure_50 ?_
  refine l_ifle C (tgt := 58) dX8_measure_51 (by decide) (fun cq16 => ?_) (fun cq16 => ?_)
  · refine lv_iconst (v := (-1)) hx hb dX8_measure_58 (by decide) ?_
    refine h_put1 C hw bX8 k13 lk1 7 (by decide) lk4 rfl rfl rfl (Nat.le_of_ble_eq_true rfl) dX8_measure_59 (fun f17 H locs e18 hw => ?_)
    have k19 := up_o e18 (ne_kd k10 k13 (Nat.ne_of_beq_eq_false rfl)) k10
    have k20 := up_o e18 (ne_kd k11 k13 (Nat.ne_of_beq_eq_false rfl)) k11
    have k21 := up_o e18 (ne_kd k12 k13 (Nat.ne_of_beq_eq_false rfl)) k12
    have k22 : f17 a = some (eO 8 [v0, .int (nI t9.1.1), .int (nI t9.2.1.1), .int (nI t9.2.2.1), .long t9.1.2, .long t9.2.1.2, .long t9.2.2.2, .int (-1)]) := up_s e18
    refine lv_aload_n hx hb dX8_measure_62 rfl (lv_at hl 1 rfl) ?_
    refine lv_lload hx hb dX8_measure_63 (lv_at hl 0 rfl) ?_
    refine lv_lconst (v := 0) hx hb dX8_measure_65 (by decide) ?_
    refine W.lcmp hx hb dX8_measure_66 ?_
    refine l_ifeq C (tgt := 98) dX8_measure_67 (by decide) (fun cq23 => ?_) (fun cq23 => ?_)
    · refine lv_iconst (v := nI 0) hx hb dX8_measure_98 (by decide) ?_
      refine h_put1 C hw bX8 k22 lk1 0 (by decide) lk5 rfl (by first | rfl | decide) rfl (Nat.le_of_ble_eq_true rfl) dX8_measure_99 (fun f24 H locs e25 hw => ?_)
      have k26 := up_o e25 (ne_kd k19 k22 (Nat.ne_of_beq_eq_false rfl)) k19
      have k27 := up_o e25 (ne_kd k20 k22 (Nat.ne_of_beq_eq_false rfl)) k20
      have k28 := up_o e25 (ne_kd k21 k22 (Nat.ne_of_beq_eq_false rfl)) k21
      have k29 : f24 a = some (eO 8 [.int (nI 0), .int (nI t9.1.1), .int (nI t9.2.1.1), .int (nI t9.2.2.1), .long t9.1.2, .long t9.2.1.2, .long t9.2.2.2, .int (-1)]) := up_s e25
      exact h_vret C hr hlk hw (by rw [tC0, ht9, tnC, if_neg cq16, bI_f (fun h9 => h9.1 cq23), e25, e18, e8]; simp only [va_up2]; rfl) dX8_measure_102
    · refine lv_aload_n hx hb dX8_measure_70 rfl (lv_at hl 1 rfl) ?_
      refine h_get C hw bX8 k22 lk1 4 (by decide) lk6 (v := .long t9.1.2) rfl dX8_measure_71 ?_
      refine lv_aload_n hx hb dX8_measure_74 rfl (lv_at hl 1 rfl) ?_
      refine h_get C hw bX8 k22 lk1 5 (by decide) lk7 (v := .long t9.2.1.2) rfl dX8_measure_75 ?_
      refine W.lcmp hx hb dX8_measure_78 ?_
      refine l_ifeq C (tgt := 98) dX8_measure_79 (by decide) (fun cq30 => ?_) (fun cq30 => ?_)
      · refine lv_iconst (v := nI 0) hx hb dX8_measure_98 (by decide) ?_
        refine h_put1 C hw bX8 k22 lk1 0 (by decide) lk5 rfl (by first | rfl | decide) rfl (Nat.le_of_ble_eq_true rfl) dX8_measure_99 (fun f31 H locs e32 hw => ?_)
        have k33 := up_o e32 (ne_kd k19 k22 (Nat.ne_of_beq_eq_false rfl)) k19
        have k34 := up_o e32 (ne_kd k20 k22 (Nat.ne_of_beq_eq_false rfl)) k20
        have k35 := up_o e32 (ne_kd k21 k22 (Nat.ne_of_beq_eq_false rfl)) k21
        have k36 : f31 a = some (eO 8 [.int (nI 0), .int (nI t9.1.1), .int (nI t9.2.1.1), .int (nI t9.2.2.1), .long t9.1.2, .long t9.2.1.2, .long t9.2.2.2, .int (-1)]) := up_s e32
        exact h_vret C hr hlk hw (by rw [tC0, ht9, tnC, if_neg cq16, bI_f (fun h9 => h9.2.1 cq30), e32, e18, e8]; simp only [va_up2]; rfl) dX8_measure_102
      · refine lv_aload_n hx hb dX8_measure_82 rfl (lv_at hl 1 rfl) ?_
        refine h_get C hw bX8 k22 lk1 5 (by decide) lk7 (v := .long t9.2.1.2) rfl dX8_measure_83 ?_
        refine lv_aload_n hx hb dX8_measure_86 rfl (lv_at hl 1 rfl) ?_
        refine h_get C hw bX8 k22 lk1 6 (by decide) lk8 (v := .long t9.2.2.2) rfl dX8_measure_87 ?_
        refine W.lcmp hx hb dX8_measure_90 ?_
        refine l_ifeq C (tgt := 98) dX8_measure_91 (by decide) (fun cq37 => ?_) (fun cq37 => ?_)
        · refine lv_iconst (v := nI 0) hx hb dX8_measure_98 (by decide) ?_
          refine h_put1 C hw bX8 k22 lk1 0 (by decide) lk5 rfl (by first | rfl | decide) rfl (Nat.le_of_ble_eq_true rfl) dX8_measure_99 (fun f38 H locs e39 hw => ?_)
          have k40 := up_o e39 (ne_kd k19 k22 (Nat.ne_of_beq_eq_false rfl)) k19
          have k41 := up_o e39 (ne_kd k20 k22 (Nat.ne_of_beq_eq_false rfl)) k20
          have k42 := up_o e39 (ne_kd k21 k22 (Nat.ne_of_beq_eq_false rfl)) k21
          have k43 : f38 a = some (eO 8 [.int (nI 0), .int (nI t9.1.1), .int (nI t9.2.1.1), .int (nI t9.2.2.1), .long t9.1.2, .long t9.2.1.2, .long t9.2.2.2, .int (-1)]) := up_s e39
          exact h_vret C hr hlk hw (by rw [tC0, ht9, tnC, if_neg cq16, bI_f (fun h9 => h9.2.2 cq37), e39, e18, e8]; simp only [va_up2]; rfl) dX8_measure_102
        · refine lv_iconst (v := nI 1) hx hb dX8_measure_94 (by decide) ?_
          refine lv_goto (tgt := 99) hx hb dX8_measure_95 (by decide) ?_
          refine h_put1 C hw bX8 k22 lk1 0 (by decide) lk5 rfl (by first | rfl | decide) rfl (Nat.le_of_ble_eq_true rfl) dX8_measure_99 (fun f44 H locs e45 hw => ?_)
          have k46 := up_o e45 (ne_kd k19 k22 (Nat.ne_of_beq_eq_false rfl)) k19
          have k47 := up_o e45 (ne_kd k20 k22 (Nat.ne_of_beq_eq_false rfl)) k20
          have k48 := up_o e45 (ne_kd k21 k22 (Nat.ne_of_beq_eq_false rfl)) k21
          have k49 : f44 a = some (eO 8 [.int (nI 1), .int (nI t9.1.1), .int (nI t9.2.1.1), .int (nI t9.2.2.1), .long t9.1.2, .long t9.2.1.2, .long t9.2.2.2, .int (-1)]) := up_s e45
          exact h_vret C hr hlk hw (by rw [tC0, ht9, tnC, if_neg cq16, bI_t ⟨cq23, cq30, cq37⟩, e45, e18, e8]; simp only [va_up2]; rfl) dX8_measure_102
  · refine lv_iconst (v := nI 1) hx hb dX8_measure_54 (by decide) ?_
    refine lv_goto (tgt := 59) hx hb dX8_measure_55 (by decide) ?_
    refine h_put1 C hw bX8 k13 lk1 7 (by decide) lk4 rfl rfl rfl (Nat.le_of_ble_eq_true rfl) dX8_measure_59 (fun f50 H locs e51 hw => ?_)
    have k52 := up_o e51 (ne_kd k10 k13 (Nat.ne_of_beq_eq_false rfl)) k10
    have k53 := up_o e51 (ne_kd k11 k13 (Nat.ne_of_beq_eq_false rfl)) k11
    have k54 := up_o e51 (ne_kd k12 k13 (Nat.ne_of_beq_eq_false rfl)) k12
    have k55 : f50 a = some (eO 8 [v0, .int (nI t9.1.1), .int (nI t9.2.1.1), .int (nI t9.2.2.1), .long t9.1.2, .long t9.2.1.2, .long t9.2.2.2, .int (nI 1)]) := up_s e51
    refine lv_aload_n hx hb dX8_measure_62 rfl (lv_at hl 1 rfl) ?_
    refine lv_lload hx hb dX8_measure_63 (lv_at hl 0 rfl) ?_
    refine lv_lconst (v := 0) hx hb dX8_measure_65 (by decide) ?_
    refine W.lcmp hx hb dX8_measure_66 ?_
    refine l_ifeq C (tgt := 98) dX8_measure_67 (by decide) (fun cq56 => ?_) (fun cq56 => ?_)
    · refine lv_iconst (v := nI 0) hx hb dX8_measure_98 (by decide) ?_
      refine h_put1 C hw bX8 k55 lk1 0 (by decide) lk5 rfl (by first | rfl | decide) rfl (Nat.le_of_ble_eq_true rfl) dX8_measure_99 (fun f57 H locs e58 hw => ?_)
      have k59 := up_o e58 (ne_kd k52 k55 (Nat.ne_of_beq_eq_false rfl)) k52
      have k60 := up_o e58 (ne_kd k53 k55 (Nat.ne_of_beq_eq_false rfl)) k53
      have k61 := up_o e58 (ne_kd k54 k55 (Nat.ne_of_beq_eq_false rfl)) k54
      have k62 : f57 a = some (eO 8 [.int (nI 0), .int (nI t9.1.1), .int (nI t9.2.1.1), .int (nI t9.2.2.1), .long t9.1.2, .long t9.2.1.2, .long t9.2.2.2, .int (nI 1)]) := up_s e58
      exact h_vret C hr hlk hw (by rw [tC0, ht9, tnC, if_pos cq16, bI_f (fun h9 => h9.1 cq56), e58, e51, e8]; simp only [va_up2]; rfl) dX8_measure_102
    · refine lv_aload_n hx hb dX8_measure_70 rfl (lv_at hl 1 rfl) ?_
      refine h_get C hw bX8 k55 lk1 4 (by decide) lk6 (v := .long t9.1.2) rfl dX8_measure_71 ?_
      refine lv_aload_n hx hb dX8_measure_74 rfl (lv_at hl 1 rfl) ?_
      refine h_get C hw bX8 k55 lk1 5 (by decide) lk7 (v := .long t9.2.1.2) rfl dX8_measure_75 ?_
      refine W.lcmp hx hb dX8_measure_78 ?_
      refine l_ifeq C (tgt := 98) dX8_measure_79 (by decide) (fun cq63 => ?_) (fun cq63 => ?_)
      · refine lv_iconst (v := nI 0) hx hb dX8_measure_98 (by decide) ?_
        refine h_put1 C hw bX8 k55 lk1 0 (by decide) lk5 rfl (by first | rfl | decide) rfl (Nat.le_of_ble_eq_true rfl) dX8_measure_99 (fun f64 H locs e65 hw => ?_)
        have k66 := up_o e65 (ne_kd k52 k55 (Nat.ne_of_beq_eq_false rfl)) k52
        have k67 := up_o e65 (ne_kd k53 k55 (Nat.ne_of_beq_eq_false rfl)) k53
        have k68 := up_o e65 (ne_kd k54 k55 (Nat.ne_of_beq_eq_false rfl)) k54
        have k69 : f64 a = some (eO 8 [.int (nI 0), .int (nI t9.1.1), .int (nI t9.2.1.1), .int (nI t9.2.2.1), .long t9.1.2, .long t9.2.1.2, .long t9.2.2.2, .int (nI 1)]) := up_s e65
        exact h_vret C hr hlk hw (by rw [tC0, ht9, tnC, if_pos cq16, bI_f (fun h9 => h9.2.1 cq63), e65, e51, e8]; simp only [va_up2]; rfl) dX8_measure_102
      · refine lv_aload_n hx hb dX8_measure_82 rfl (lv_at hl 1 rfl) ?_
        refine h_get C hw bX8 k55 lk1 5 (by decide) lk7 (v := .long t9.2.1.2) rfl dX8_measure_83 ?_
        refine lv_aload_n hx hb dX8_measure_86 rfl (lv_at hl 1 rfl) ?_
        refine h_get C hw bX8 k55 lk1 6 (by decide) lk8 (v := .long t9.2.2.2) rfl dX8_measure_87 ?_
        refine W.lcmp hx hb dX8_measure_90 ?_
        refine l_ifeq C (tgt := 98) dX8_measure_91 (by decide) (fun cq70 => ?_) (fun cq70 => ?_)
        · refine lv_iconst (v := nI 0) hx hb dX8_measure_98 (by decide) ?_
          refine h_put1 C hw bX8 k55 lk1 0 (by decide) lk5 rfl (by first | rfl | decide) rfl (Nat.le_of_ble_eq_true rfl) dX8_measure_99 (fun f71 H locs e72 hw => ?_)
          have k73 := up_o e72 (ne_kd k52 k55 (Nat.ne_of_beq_eq_false rfl)) k52
          have k74 := up_o e72 (ne_kd k53 k55 (Nat.ne_of_beq_eq_false rfl)) k53
          have k75 := up_o e72 (ne_kd k54 k55 (Nat.ne_of_beq_eq_false rfl)) k54
          have k76 : f71 a = some (eO 8 [.int (nI 0), .int (nI t9.1.1), .int (nI t9.2.1.1), .int (nI t9.2.2.1), .long t9.1.2, .long t9.2.1.2, .long t9.2.2.2, .int (nI 1)]) := up_s e72
          exact h_vret C hr hlk hw (by rw [tC0, ht9, tnC, if_pos cq16, bI_f (fun h9 => h9.2.2 cq70), e72, e51, e8]; simp only [va_up2]; rfl) dX8_measure_102
        · refine lv_iconst (v := nI 1) hx hb dX8_measure_94 (by decide) ?_
          refine lv_goto (tgt := 99) hx hb dX8_measure_95 (by decide) ?_
          refine h_put1 C hw bX8 k55 lk1 0 (by decide) lk5 rfl (by first | rfl | decide) rfl (Nat.le_of_ble_eq_true rfl) dX8_measure_99 (fun f77 H locs e78 hw => ?_)
          have k79 := up_o e78 (ne_kd k52 k55 (Nat.ne_of_beq_eq_false rfl)) k52
          have k80 := up_o e78 (ne_kd k53 k55 (Nat.ne_of_beq_eq_false rfl)) k53
          have k81 := up_o e78 (ne_kd k54 k55 (Nat.ne_of_beq_eq_false rfl)) k54
          have k82 : f77 a = some (eO 8 [.int (nI 1), .int (nI t9.1.1), .int (nI t9.2.1.1), .int (nI t9.2.2.1), .long t9.1.2, .long t9.2.1.2, .long t9.2.2.2, .int (nI 1)]) := up_s e78
          exact h_vret C hr hlk hw (by rw [tC0, ht9, tnC, if_pos cq16, bI_t ⟨cq56, cq63, cq70⟩, e78, e51, e8]; simp only [va_up2]; rfl) dX8_measure_102
set_option maxHeartbeats 4000000 in
set_option maxRecDepth 100000 in
theorem c_X8_told {l : Launch} {D : va_G} {cA : Nat → ClassId} {f : HF} {sz : Nat} {a : Nat} {gd : Value} {i1 i2 i3 tn k : Int32} {l1 l2 l3 : Value}  (h0 : f a = some (eO 8 [gd, .int i1, .int i2, .int i3, l1, l2, l3, .int tn])) : Met l yX8_told wsX8_told ({ frames := 0, cells := 0, slots := 0, locals := 0 } : Room) (va_Pc [.ref a, .int k] (hB D cA f sz)) (va_Qi (fun r f1 => tlF i1 i2 i3 tn k = r ∧ f = f1) (hE D f sz) (hA f sz)) 0 0 (hA f sz) := by
  refine h_of (cc := cX8_told) (maxL := 2) (ret := (some .int)) (by decide +kernel) rfl (Nat.le_of_ble_eq_true rfl) ?_
  intro p e s m below meth c ls C hr hlk hnm hw hl
  have hx := C.1.1
  have hb := C.1.2.1
  have hl : lv_has ls 2 [(0, .ref a), (1, .int k)] := hl
  have lk0 : Cond.fieldLink RX8 37 "FallingLight$Triangle" "turn" "I" ∈ wsX8_told := by decide +kernel
  have lk1 : ∀ w ∈ u_ws RX8 TX8 8, w ∈ wsX8_told := by decide +kernel
  have lk2 : Cond.fieldLink RX8 30 "FallingLight$Triangle" "third" "I" ∈ wsX8_told := by decide +kernel
  have lk3 : Cond.fieldLink RX8 27 "FallingLight$Triangle" "second" "I" ∈ wsX8_told := by decide +kernel
  have lk4 : Cond.fieldLink RX8 23 "FallingLight$Triangle" "first" "I" ∈ wsX8_told := by decide +kernel
  refine lv_iload_n hx hb dX8_told_0 rfl (lv_at hl 1 rfl) ?_
  refine lv_if_ne (tgt := 9) hx hb dX8_told_1 (by decide) (fun cq1 => ?_) (fun cq1 => ?_)
  · refine lv_iload_n hx hb dX8_told_9 rfl (lv_at hl 1 rfl) ?_
    refine lv_iconst (v := nI 1) hx hb dX8_told_10 (by decide) ?_
    refine lv_icmp_ne (tgt := 19) hx hb dX8_told_11 (by decide) (fun cq2 => ?_) (fun cq2 => ?_)
    · refine lv_iload_n hx hb dX8_told_19 rfl (lv_at hl 1 rfl) ?_
      refine lv_iconst (v := nI 2) hx hb dX8_told_20 (by decide) ?_
      refine lv_icmp_ne (tgt := 31) hx hb dX8_told_21 (by decide) (fun cq3 => ?_) (fun cq3 => ?_)
      · refine lv_aload_n hx hb dX8_told_31 rfl (lv_at hl 0 rfl) ?_
        refine h_get C hw bX8 h0 lk1 7 (by decide) lk0 (v := .int tn) rfl dX8_told_32 ?_
        exact h_iret C hr hlk hw (⟨by rw [tlF, if_neg cq1, if_neg cq2, if_neg cq3], rfl⟩) dX8_told_35
      · refine lv_aload_n hx hb dX8_told_24 rfl (lv_at hl 0 rfl) ?_
        refine h_get C hw bX8 h0 lk1 3 (by decide) lk2 (v := .int i3) rfl dX8_told_25 ?_
        refine lv_goto (tgt := 35) hx hb dX8_told_28 (by decide) ?_
        exact h_iret C hr hlk hw (⟨by rw [tlF, if_neg cq1, if_neg cq2, if_pos cq3], rfl⟩) dX8_told_35
    · refine lv_aload_n hx hb dX8_told_14 rfl (lv_at hl 0 rfl) ?_
      refine h_get C hw bX8 h0 lk1 2 (by decide) lk3 (v := .int i2) rfl dX8_told_15 ?_
      exact h_iret C hr hlk hw (⟨by rw [tlF, if_neg cq1, if_pos cq2], rfl⟩) dX8_told_18
  · refine lv_aload_n hx hb dX8_told_4 rfl (lv_at hl 0 rfl) ?_
    refine h_get C hw bX8 h0 lk1 1 (by decide) lk4 (v := .int i1) rfl dX8_told_5 ?_
    exact h_iret C hr hlk hw (⟨by rw [tlF, if_pos cq1], rfl⟩) dX8_told_8
set_option maxHeartbeats 4000000 in
set_option maxRecDepth 100000 in
theorem c_X8_isLike {l : Launch} {D : va_G} {cA : Nat → ClassId} {f : HF} {sz : Nat} {a b : Nat} {g1 j1 j2 j3 g2 m1 m2 m3 : Value} {t1 t2 nr : Int32} {l1 l2 l3 k1 k2 k3 : Int64}  (h0 : f a = some (eO 8 [g1, j1, j2, j3, .long l1, .long l2, .long l3, .int t1])) (h1 : f b = some (eO 8 [g2, m1, m2, m3, .long k1, .long k2, .long k3, .int t2])) : Met l yX8_isLike wsX8_isLike ({ frames := 1, cells := 0, slots := 0, locals := 24 } : Room) (va_Pc [.ref a, .ref b, .int nr] (hB D cA f sz)) (va_Qi (fun r f1 => bI (t2 = t1 ∧ nrA nr l1 l3 k1 k3 ∧ nrA nr l2 l3 k2 k3) = r ∧ f = f1) (hE D f sz) (hA f sz)) 0 0 (hA f sz) := by
  refine h_of (cc := cX8_isLike) (maxL := 5) (ret := (some .boolean)) (by decide +kernel) rfl (Nat.le_of_ble_eq_true rfl) ?_
  intro p e s m below meth c ls C hr hlk hnm hw hl
  have hx := C.1.1
  have hb := C.1.2.1
  have hl : lv_has ls 5 [(0, .ref a), (1, .ref b), (2, .int nr)] := hl
  have lk0 : Cond.fieldLink RX8 37 "FallingLight$Triangle" "turn" "I" ∈ wsX8_isLike := by decide +kernel
  have lk1 : ∀ w ∈ u_ws RX8 TX8 8, w ∈ wsX8_isLike := by decide +kernel
  have lk2 : Cond.fieldLink RX8 47 "FallingLight$Triangle" "most" "J" ∈ wsX8_isLike := by decide +kernel
  have lk3 : Cond.fieldLink RX8 40 "FallingLight$Triangle" "least" "J" ∈ wsX8_isLike := by decide +kernel
  have lk4 : Cond.methodLink RX8 56 Lib.MathLoose.abs_long.x ∈ wsX8_isLike := by decide +kernel
  have lk5 : Cond.static Lib.MathLoose.abs_long.x ∈ wsX8_isLike := by decide +kernel
  have lk6 : Cond.initialized "java/lang/Math" ∈ wsX8_isLike := by decide +kernel
  have lk7 : Cond.code Lib.MathLoose.abs_long.x Lib.MathLoose.abs_long.code 2 (some .long) ∈ wsX8_isLike := by decide +kernel
  have lk8 : Cond.constantLong RX8 62 (100) ∈ wsX8_isLike := by decide +kernel
  have lk9 : Cond.fieldLink RX8 44 "FallingLight$Triangle" "mid" "J" ∈ wsX8_isLike := by decide +kernel
  refine lv_aload_n hx hb dX8_isLike_0 rfl (lv_at hl 0 rfl) ?_
  refine h_get C hw bX8 h0 lk1 7 (by decide) lk0 (v := .int t1) rfl dX8_isLike_1 ?_
  refine lv_aload_n hx hb dX8_isLike_4 rfl (lv_at hl 1 rfl) ?_
  refine h_get C hw bX8 h1 lk1 7 (by decide) lk0 (v := .int t2) rfl dX8_isLike_5 ?_
  refine lv_icmp_eq (tgt := 13) hx hb dX8_isLike_8 (by decide) (fun cq1 => ?_) (fun cq1 => ?_)
  · refine lv_iload_n hx hb dX8_isLike_13 rfl (lv_at hl 2 rfl) ?_
    refine lv_i2l hx hb dX8_isLike_14 rfl ?_
    refine lv_aload_n hx hb dX8_isLike_15 rfl (lv_at hl 0 rfl) ?_
    refine h_get C hw bX8 h0 lk1 6 (by decide) lk2 (v := .long l3) rfl dX8_isLike_16 ?_
    refine lv_lmul hx hb dX8_isLike_19 ?_
    refine lv_aload_n hx hb dX8_isLike_20 rfl (lv_at hl 1 rfl) ?_
    refine h_get C hw bX8 h1 lk1 6 (by decide) lk2 (v := .long k3) rfl dX8_isLike_21 ?_
    refine lv_lmul hx hb dX8_isLike_24 ?_
    refine lv_lstore_n (lv' := [(3, _), (0, _), (1, _), (2, _)]) hx hb dX8_isLike_25 rfl hl (by decide) rfl (fun ls hl => ?_)
    refine lv_aload_n hx hb dX8_isLike_26 rfl (lv_at hl 1 rfl) ?_
    refine h_get C hw bX8 h0 lk1 4 (by decide) lk3 (v := .long l1) rfl dX8_isLike_27 ?_
    refine lv_aload_n hx hb dX8_isLike_30 rfl (lv_at hl 2 rfl) ?_
    refine h_get C hw bX8 h1 lk1 6 (by decide) lk2 (v := .long k3) rfl dX8_isLike_31 ?_
    refine lv_lmul hx hb dX8_isLike_34 ?_
    refine lv_aload_n hx hb dX8_isLike_35 rfl (lv_at hl 2 rfl) ?_
    refine h_get C hw bX8 h1 lk1 4 (by decide) lk3 (v := .long k1) rfl dX8_isLike_36 ?_
    refine lv_aload_n hx hb dX8_isLike_39 rfl (lv_at hl 1 rfl) ?_
    refine h_get C hw bX8 h0 lk1 6 (by decide) lk2 (v := .long l3) rfl dX8_isLike_40 ?_
    refine lv_lmul hx hb dX8_isLike_43 ?_
    refine lv_lsub hx hb dX8_isLike_44 ?_
    refine va_mabs_long hx hb (C.1.2.2.1.trans hl.1.symm) C.1.2.2.2.1 (C.1.2.2.2.2 _ lk4) (C.1.2.2.2.2 _ lk5) (C.1.2.2.2.2 _ lk6) (C.1.2.2.2.2 _ lk7) (Nat.le_of_ble_eq_true rfl) (Nat.le_of_ble_eq_true rfl) (by first | decide | omega) (by first | decide | omega) dX8_isLike_45 ?_
    refine lv_ldc2 hx hb C.1.2.2.2.1 (C.1.2.2.2.2 _ lk8) dX8_isLike_48 ?_
    refine lv_lmul hx hb dX8_isLike_51 ?_
    refine lv_lload_n hx hb dX8_isLike_52 rfl (lv_at hl 0 rfl) ?_
    refine W.lcmp hx hb dX8_isLike_53 ?_
    refine l_ifgt C (tgt := 92) dX8_isLike_54 (by decide) (fun cq2 => ?_) (fun cq2 => ?_)
    · refine lv_iconst (v := nI 0) hx hb dX8_isLike_92 (by decide) ?_
      exact h_zret C hr (by first | rfl | decide) hlk hw (⟨bI_f (fun h9 => h9.2.1 cq2), rfl⟩) dX8_isLike_93
    · refine lv_aload_n hx hb dX8_isLike_57 rfl (lv_at hl 1 rfl) ?_
      refine h_get C hw bX8 h0 lk1 5 (by decide) lk9 (v := .long l2) rfl dX8_isLike_58 ?_
      refine lv_aload_n hx hb dX8_isLike_61 rfl (lv_at hl 2 rfl) ?_
      refine h_get C hw bX8 h1 lk1 6 (by decide) lk2 (v := .long k3) rfl dX8_isLike_62 ?_
      refine lv_lmul hx hb dX8_isLike_65 ?_
      refine lv_aload_n hx hb dX8_isLike_66 rfl (lv_at hl 2 rfl) ?_
      refine h_get C hw bX8 h1 lk1 5 (by decide) lk9 (v := .long k2) rfl dX8_isLike_67 ?_
      refine lv_aload_n hx hb dX8_isLike_70 rfl (lv_at hl 1 rfl) ?_
      refine h_get C hw bX8 h0 lk1 6 (by decide) lk2 (v := .long l3) rfl dX8_isLike_71 ?_
      refine lv_lmul hx hb dX8_isLike_74 ?_
      refine lv_lsub hx hb dX8_isLike_75 ?_
      refine va_mabs_long hx hb (C.1.2.2.1.trans hl.1.symm) C.1.2.2.2.1 (C.1.2.2.2.2 _ lk4) (C.1.2.2.2.2 _ lk5) (C.1.2.2.2.2 _ lk6) (C.1.2.2.2.2 _ lk7) (Nat.le_of_ble_eq_true rfl) (Nat.le_of_ble_eq_true rfl) (by first | decide | omega) (by first | decide | omega) dX8_isLike_76 ?_
      refine lv_ldc2 hx hb C.1.2.2.2.1 (C.1.2.2.2.2 _ lk8) dX8_isLike_79 ?_
      refine lv_lmul hx hb dX8_isLike_82 ?_
      refine lv_lload_n hx hb dX8_isLike_83 rfl (lv_at hl 0 rfl) ?_
      refine W.lcmp hx hb dX8_isLike_84 ?_
      refine l_ifgt C (tgt := 92) dX8_isLike_85 (by decide) (fun cq3 => ?_) (fun cq3 => ?_)
      · refine lv_iconst (v := nI 0) hx hb dX8_isLike_92 (by decide) ?_
        exact h_zret C hr (by first | rfl | decide) hlk hw (⟨bI_f (fun h9 => h9.2.2 cq3), rfl⟩) dX8_isLike_93
      · refine lv_iconst (v := nI 1) hx hb dX8_isLike_88 (by decide) ?_
        refine lv_goto (tgt := 93) hx hb dX8_isLike_89 (by decide) ?_
        exact h_zret C hr (by first | rfl | decide) hlk hw (⟨bI_t ⟨cq1.symm, cq2, cq3⟩, rfl⟩) dX8_isLike_93
  · refine lv_iconst (v := nI 0) hx hb dX8_isLike_11 (by decide) ?_
    exact h_zret C hr (by first | rfl | decide) hlk hw (⟨bI_f (fun h9 => cq1 h9.1.symm), rfl⟩) dX8_isLike_12
set_option maxHeartbeats 4000000 in
set_option maxRecDepth 100000 in
theorem c_X8_init {l : Launch} {D : va_G} {cA : Nat → ClassId} {f : HF} {sz : Nat} {a : Nat} {v0 v1 v2 v3 v4 v5 v6 v7 : Value}  (h0 : f a = some (eO 8 [v0, v1, v2, v3, v4, v5, v6, v7])) : Met l yX8_init wsX8_init ({ frames := 1, cells := 0, slots := 0, locals := 20 } : Room) (va_Pc [.ref a] (hB D cA f sz)) (va_Qv (fun f1 => f1 = va_up f a (some (eO 8 [.int (nI 0), v1, v2, v3, v4, v5, v6, v7]))) (hE D f sz) (hA f sz)) 0 0 (hA f sz) := by
  refine h_of (cc := cX8_init) (maxL := 1) (ret := none) (by decide +kernel) rfl (Nat.le_of_ble_eq_true rfl) ?_
  intro p e s m below meth c ls C hr hlk hnm hw hl
  have hx := C.1.1
  have hb := C.1.2.1
  have hl : lv_has ls 1 [(0, .ref a)] := hl
  have lk0 : Cond.methodLink RX8 1 objectInit ∈ wsX8_init := by decide +kernel
  have lk1 : Cond.instanceMethod objectInit ∈ wsX8_init := by decide +kernel
  have lk2 : Cond.code objectInit ⟨#[0xb1]⟩ 1 none ∈ wsX8_init := by decide +kernel
  have lk3 : Cond.fieldLink RX8 7 "FallingLight$Triangle" "good" "Z" ∈ wsX8_init := by decide +kernel
  have lk4 : ∀ w ∈ u_ws RX8 TX8 8, w ∈ wsX8_init := by decide +kernel
  refine lv_aload_n hx hb dX8_init_0 rfl (lv_at hl 0 rfl) ?_
  refine W.objInit hx hb C.1.2.2.2.1 (C.1.2.2.2.2 _ lk0) (C.1.2.2.2.2 _ lk1) (C.1.2.2.2.2 _ lk2) rfl (hl.1.trans C.1.2.2.1.symm) rfl dX8_init_1 (Nat.le_of_ble_eq_true rfl) (Nat.le_of_ble_eq_true rfl) ?_
  refine W.eq (g2 := F0 m 4 ls []) rfl ?_
  refine lv_aload_n hx hb dX8_init_4 rfl (lv_at hl 0 rfl) ?_
  refine lv_iconst (v := nI 0) hx hb dX8_init_5 (by decide) ?_
  refine h_put1 C hw bX8 h0 lk4 0 (by decide) lk3 rfl (by first | rfl | decide) rfl (Nat.le_of_ble_eq_true rfl) dX8_init_6 (fun f1 H locs e2 hw => ?_)
  have k3 : f1 a = some (eO 8 [.int (nI 0), v1, v2, v3, v4, v5, v6, v7]) := up_s e2
  exact h_vret C hr hlk hw (e2) dX8_init_9
set_option maxHeartbeats 4000000 in
set_option maxRecDepth 100000 in
theorem c_X5_isMissing {l : Launch} {D : va_G} {cA : Nat → ClassId} {f : HF} {sz : Nat} {a : Nat} {u : Value} {n : Int32}  (h0 : f a = some (eO 5 [u, .int n])) : Met l yX5_isMissing wsX5_isMissing ({ frames := 0, cells := 0, slots := 0, locals := 0 } : Room) (va_Pc [.ref a] (hB D cA f sz)) (va_Qi (fun r f1 => bI (n < 0) = r ∧ f = f1) (hE D f sz) (hA f sz)) 0 0 (hA f sz) := by
  refine h_of (cc := cX5_isMissing) (maxL := 1) (ret := (some .boolean)) (by decide +kernel) rfl (Nat.le_of_ble_eq_true rfl) ?_
  intro p e s m below meth c ls C hr hlk hnm hw hl
  have hx := C.1.1
  have hb := C.1.2.1
  have hl : lv_has ls 1 [(0, .ref a)] := hl
  have lk0 : Cond.fieldLink RX5 15 "FallingLight$Row" "length" "I" ∈ wsX5_isMissing := by decide +kernel
  have lk1 : ∀ w ∈ u_ws RX5 TX5 2, w ∈ wsX5_isMissing := by decide +kernel
  refine lv_aload_n hx hb dX5_isMissing_0 rfl (lv_at hl 0 rfl) ?_
  refine h_get C hw bX5 h0 lk1 1 (by decide) lk0 (v := .int n) rfl dX5_isMissing_1 ?_
  refine lv_if_ge (tgt := 11) hx hb dX5_isMissing_4 (by decide) (fun cq1 => ?_) (fun cq1 => ?_)
  · refine lv_iconst (v := nI 0) hx hb dX5_isMissing_11 (by decide) ?_
    exact h_zret C hr (by first | rfl | decide) hlk hw (⟨bI_f (Int32.not_lt.mpr cq1), rfl⟩) dX5_isMissing_12
  · refine lv_iconst (v := nI 1) hx hb dX5_isMissing_7 (by decide) ?_
    refine lv_goto (tgt := 12) hx hb dX5_isMissing_8 (by decide) ?_
    exact h_zret C hr (by first | rfl | decide) hlk hw (⟨bI_t (Int32.not_le.mp cq1), rfl⟩) dX5_isMissing_12
set_option maxHeartbeats 4000000 in
set_option maxRecDepth 100000 in
theorem c_X5_begin {l : Launch} {D : va_G} {cA : Nat → ClassId} {f : HF} {sz : Nat} {a pa : Nat} {w : Int32} {u : Value} {g : Nat → Int32}  (h0 : f a = some (eO 5 [.ref pa, u])) (h1 : f pa = some (eS cA 24 g)) : Met l yX5_begin wsX5_begin ({ frames := 0, cells := 0, slots := 0, locals := 0 } : Room) (va_Pc [.ref a, .int w] (hB D cA f sz)) (va_Qv (fun f1 => f1 = va_up (va_up f a (some (eO 5 [.ref pa, .int w]))) pa (some (eS cA 24 (bgF g 24)))) (hE D f sz) (hA f sz)) 0 0 (hA f sz) := by
  refine h_of (cc := cX5_begin) (maxL := 3) (ret := none) (by decide +kernel) rfl (Nat.le_of_ble_eq_true rfl) ?_
  intro p e s m below meth c ls C hr hlk hnm hw hl
  have hx := C.1.1
  have hb := C.1.2.1
  have hl : lv_has ls 3 [(0, .ref a), (1, .int w)] := hl
  have lk0 : Cond.fieldLink RX5 15 "FallingLight$Row" "length" "I" ∈ wsX5_begin := by decide +kernel
  have lk1 : ∀ w ∈ u_ws RX5 TX5 2, w ∈ wsX5_begin := by decide +kernel
  have lk2 : Cond.fieldLink RX5 9 "FallingLight$Row" "places" "[S" ∈ wsX5_begin := by decide +kernel
  refine lv_aload_n hx hb dX5_begin_0 rfl (lv_at hl 0 rfl) ?_
  refine lv_iload_n hx hb dX5_begin_1 rfl (lv_at hl 1 rfl) ?_
  refine h_put1 C hw bX5 h0 lk1 1 (by decide) lk0 rfl rfl rfl (Nat.le_of_ble_eq_true rfl) dX5_begin_2 (fun f1 H locs e2 hw => ?_)
  have k3 := up_o e2 (ne_kd h1 h0 (Nat.ne_of_beq_eq_false rfl)) h1
  have k4 : f1 a = some (eO 5 [.ref pa, .int w]) := up_s e2
  refine lv_iconst (v := nI 0) hx hb dX5_begin_5 (by decide) ?_
  refine lv_istore_n (lv' := [(2, _), (0, _), (1, _)]) hx hb dX5_begin_6 rfl hl (by decide) rfl (fun ls hl => ?_)
  have lp7 : ∀ (n : Nat) (k : Nat) (f9 : HF) (H1 : Heap) (locs1 : List Loc) (ls1 : Array Slot), hW D (hA f sz) s.heap f9 H1 locs1 → lv_has ls1 3 [(0, .ref a), (1, .int w), (2, .int (nI k))] → (k ≤ 24) → (f9 = va_up (va_up f a (some (eO 5 [.ref pa, .int w]))) pa (some (eS cA 24 (bgF g k)))) → (f9 a = some (eO 5 [.ref pa, .int w])) → (f9 pa = some (eS cA 24 (bgF g k))) → 24 - k < n → W p l e ({ frames := 0, cells := 0, slots := 0, locals := 0 } : Room) s m ([.ref a, .int w]).toArray below meth c H1 locs1 0 0 (MQ below (va_Qv (fun f1 => f1 = va_up (va_up f a (some (eO 5 [.ref pa, .int w]))) pa (some (eS cA 24 (bgF g 24)))) (hE D f sz) (hA f sz)) ([.ref a, .int w]).toArray s 0 0 (hA f sz)) (F0 m 7 ls1 []) := by
    intro n
    induction n with
    | zero => intros; omega
    | succ n ih7 =>
      intro k f9 H locs ls hw hl hk he9 ha9 hp9 hmu
      refine lv_iload_n hx hb dX5_begin_7 rfl (lv_at hl 2 rfl) ?_
      refine lv_aload_n hx hb dX5_begin_8 rfl (lv_at hl 0 rfl) ?_
      refine h_get C hw bX5 ha9 lk1 0 (by decide) lk2 (v := .ref pa) rfl dX5_begin_9 ?_
      refine h_alen C hw 2 hp9 rfl dX5_begin_12 ?_
      refine n_cge C (by omega) (by omega) (tgt := 29) dX5_begin_13 (by decide) (fun cq5 => ?_) (fun cq5 => ?_)
      · obtain rfl : k = 24 := by omega
        exact h_vret C hr hlk hw (he9) dX5_begin_29
      · refine lv_aload_n hx hb dX5_begin_16 rfl (lv_at hl 0 rfl) ?_
        refine h_get C hw bX5 ha9 lk1 0 (by decide) lk2 (v := .ref pa) rfl dX5_begin_17 ?_
        refine lv_iload_n hx hb dX5_begin_20 rfl (lv_at hl 2 rfl) ?_
        refine lv_iconst (v := (-1)) hx hb dX5_begin_21 (by decide) ?_
        refine h_sast1 C hw hp9 (show k < 24 from (by omega)) (by first | omega | decide) dX5_begin_22 (fun f6 H locs e7 hw => ?_)
        have k8 := up_o e7 (ne_kd ha9 hp9 (Nat.ne_of_beq_eq_false rfl)) ha9
        have k9 : f6 pa = some (eS cA 24 (upd (bgF g k) k (vp_nar .short (-1)))) := up_s e7
        refine n_iinc C (lv' := [(2, _), (0, _), (1, _)]) dX5_begin_23 hl (k := 2) rfl (by decide) rfl (fun ls hl => ?_)
        refine lv_goto (tgt := 7) hx hb dX5_begin_26 (by decide) ?_
        exact ih7 (k + 1) f6 _ _ _ hw (lv_sub hl [1, 2, 0] rfl) (by omega) (by rw [e7, he9, va_up2, bg_s]) k8 (by rw [← bg_s]; exact k9) (by omega)
  exact lp7 _ 0 f1 _ _ _ hw (lv_sub hl [1, 2, 0] rfl) (by omega) (by rw [← bg_0]; exact (va_same k3).symm.trans (congrArg (fun z => va_up z pa _) e2)) k4 (by rw [← bg_0]; exact k3) (Nat.lt_succ_self _)
