/-! ===== the class: Way (laid by program) ===== -/
theorem va_up2 {α : Type} (f : Nat → α) (a : Nat) (u v : α) : va_up (va_up f a u) a v = va_up f a v := by
  funext b
  by_cases h : b = a
  · subst h; rw [va_up_self, va_up_self]
  · rw [va_up_ne _ _ h, va_up_ne _ _ h, va_up_ne _ _ h]
theorem va_up3 {α : Type} (f : Nat → α) (a : Nat) (u v w : α) : va_up (va_up (va_up f a u) a v) a w = va_up f a w := by rw [va_up2, va_up2]
def alW (x y z : Int64) (k : Int32) : Int64 := if k = 0 then x else if k = nI 1 then y else z
set_option maxHeartbeats 4000000 in
set_option maxRecDepth 100000 in
theorem c_X10_init {l : Launch} {D : va_G} {cA : Nat → ClassId} {f : HF} {sz : Nat} {a : Nat} {x y z : Int64} {v0 v1 v2 : Value} (h0 : f a = some (eO 10 [v0, v1, v2])) : Met l yX10_init wsX10_init ({ frames := 1, cells := 0, slots := 0, locals := 20 } : Room) (va_Pc [.ref a, .long x, .long y, .long z] (hB D cA f sz)) (va_Qv (fun f1 => f1 = va_up f a (some (eO 10 [.long x, .long y, .long z]))) (hE D f sz) (hA f sz)) 0 0 (hA f sz) := by
  refine h_of (cc := cX10_init) (maxL := 7) (ret := none) (by decide +kernel) rfl (Nat.le_of_ble_eq_true rfl) ?_
  intro p e s m below meth c ls C hr hlk hnm hw hl
  have hx := C.1.1
  have hb := C.1.2.1
  have hl : lv_has ls 7 [(0, .ref a), (1, .long x), (3, .long y), (5, .long z)] := hl
  have lk0 : Cond.methodLink RX10 1 objectInit ∈ wsX10_init := by decide +kernel
  have lk1 : Cond.instanceMethod objectInit ∈ wsX10_init := by decide +kernel
  have lk2 : Cond.code objectInit ⟨#[0xb1]⟩ 1 none ∈ wsX10_init := by decide +kernel
  have lk3 : Cond.fieldLink RX10 7 "FallingLight$Way" "x" "J" ∈ wsX10_init := by decide +kernel
  have lk4 : ∀ w ∈ u_ws RX10 TX10 3, w ∈ wsX10_init := by decide +kernel
  have lk5 : Cond.fieldLink RX10 13 "FallingLight$Way" "y" "J" ∈ wsX10_init := by decide +kernel
  have lk6 : Cond.fieldLink RX10 16 "FallingLight$Way" "z" "J" ∈ wsX10_init := by decide +kernel
  refine lv_aload_n hx hb dX10_init_0 rfl (lv_at hl 0 rfl) ?_
  refine W.objInit hx hb C.1.2.2.2.1 (C.1.2.2.2.2 _ lk0) (C.1.2.2.2.2 _ lk1) (C.1.2.2.2.2 _ lk2) rfl (hl.1.trans C.1.2.2.1.symm) rfl dX10_init_1 (Nat.le_of_ble_eq_true rfl) (Nat.le_of_ble_eq_true rfl) ?_
  refine W.eq (g2 := F0 m 4 ls []) rfl ?_
  refine lv_aload_n hx hb dX10_init_4 rfl (lv_at hl 0 rfl) ?_
  refine lv_lload_n hx hb dX10_init_5 rfl (lv_at hl 1 rfl) ?_
  refine h_putF1 C hw bX10 h0 lk4 0 (by decide) lk3 rfl hnm rfl rfl rfl (Nat.le_of_ble_eq_true rfl) dX10_init_6 (fun f1 H locs e2 hw => ?_)
  have k3 : f1 a = some (eO 10 [.long x, v1, v2]) := up_s e2
  refine lv_aload_n hx hb dX10_init_9 rfl (lv_at hl 0 rfl) ?_
  refine lv_lload_n hx hb dX10_init_10 rfl (lv_at hl 2 rfl) ?_
  refine h_putF1 C hw bX10 k3 lk4 1 (by decide) lk5 rfl hnm rfl rfl rfl (Nat.le_of_ble_eq_true rfl) dX10_init_11 (fun f4 H locs e5 hw => ?_)
  have k6 : f4 a = some (eO 10 [.long x, .long y, v2]) := up_s e5
  refine lv_aload_n hx hb dX10_init_14 rfl (lv_at hl 0 rfl) ?_
  refine lv_lload hx hb dX10_init_15 (lv_at hl 3 rfl) ?_
  refine h_putF1 C hw bX10 k6 lk4 2 (by decide) lk6 rfl hnm rfl rfl rfl (Nat.le_of_ble_eq_true rfl) dX10_init_17 (fun f7 H locs e8 hw => ?_)
  have k9 : f7 a = some (eO 10 [.long x, .long y, .long z]) := up_s e8
  exact h_vret C hr hlk hw (by rw [e8, e5, e2]; exact va_up3 f a _ _ _) dX10_init_20
set_option maxHeartbeats 4000000 in
set_option maxRecDepth 100000 in
theorem c_X10_isZero {l : Launch} {D : va_G} {cA : Nat → ClassId} {f : HF} {sz : Nat} {a : Nat} {x y z : Int64}  (h0 : f a = some (eO 10 [.long x, .long y, .long z])) : Met l yX10_isZero wsX10_isZero ({ frames := 0, cells := 0, slots := 0, locals := 0 } : Room) (va_Pc [.ref a] (hB D cA f sz)) (va_Qi (fun r f1 => bI (x = 0 ∧ y = 0 ∧ z = 0) = r ∧ f = f1) (hE D f sz) (hA f sz)) 0 0 (hA f sz) := by
  refine h_of (cc := cX10_isZero) (maxL := 1) (ret := (some .boolean)) (by decide +kernel) rfl (Nat.le_of_ble_eq_true rfl) ?_
  intro p e s m below meth c ls C hr hlk hnm hw hl
  have hx := C.1.1
  have hb := C.1.2.1
  have hl : lv_has ls 1 [(0, .ref a)] := hl
  have lk0 : Cond.fieldLink RX10 7 "FallingLight$Way" "x" "J" ∈ wsX10_isZero := by decide +kernel
  have lk1 : ∀ w ∈ u_ws RX10 TX10 3, w ∈ wsX10_isZero := by decide +kernel
  have lk2 : Cond.fieldLink RX10 13 "FallingLight$Way" "y" "J" ∈ wsX10_isZero := by decide +kernel
  have lk3 : Cond.fieldLink RX10 16 "FallingLight$Way" "z" "J" ∈ wsX10_isZero := by decide +kernel
  refine lv_aload_n hx hb dX10_isZero_0 rfl (lv_at hl 0 rfl) ?_
  refine h_get C hw bX10 h0 lk1 0 (by decide) lk0 (v := .long x) rfl dX10_isZero_1 ?_
  refine lv_lconst (v := 0) hx hb dX10_isZero_4 (by decide) ?_
  refine W.lcmp hx hb dX10_isZero_5 ?_
  refine l_ifne C (tgt := 31) dX10_isZero_6 (by decide) (fun cq1 => ?_) (fun cq1 => ?_)
  · refine lv_iconst (v := nI 0) hx hb dX10_isZero_31 (by decide) ?_
    exact h_zret C hr (by first | rfl | decide) hlk hw (⟨bI_f (by grind), rfl⟩) dX10_isZero_32
  · refine lv_aload_n hx hb dX10_isZero_9 rfl (lv_at hl 0 rfl) ?_
    refine h_get C hw bX10 h0 lk1 1 (by decide) lk2 (v := .long y) rfl dX10_isZero_10 ?_
    refine lv_lconst (v := 0) hx hb dX10_isZero_13 (by decide) ?_
    refine W.lcmp hx hb dX10_isZero_14 ?_
    refine l_ifne C (tgt := 31) dX10_isZero_15 (by decide) (fun cq2 => ?_) (fun cq2 => ?_)
    · refine lv_iconst (v := nI 0) hx hb dX10_isZero_31 (by decide) ?_
      exact h_zret C hr (by first | rfl | decide) hlk hw (⟨bI_f (by grind), rfl⟩) dX10_isZero_32
    · refine lv_aload_n hx hb dX10_isZero_18 rfl (lv_at hl 0 rfl) ?_
      refine h_get C hw bX10 h0 lk1 2 (by decide) lk3 (v := .long z) rfl dX10_isZero_19 ?_
      refine lv_lconst (v := 0) hx hb dX10_isZero_22 (by decide) ?_
      refine W.lcmp hx hb dX10_isZero_23 ?_
      refine l_ifne C (tgt := 31) dX10_isZero_24 (by decide) (fun cq3 => ?_) (fun cq3 => ?_)
      · refine lv_iconst (v := nI 0) hx hb dX10_isZero_31 (by decide) ?_
        exact h_zret C hr (by first | rfl | decide) hlk hw (⟨bI_f (by grind), rfl⟩) dX10_isZero_32
      · refine lv_iconst (v := nI 1) hx hb dX10_isZero_27 (by decide) ?_
        refine lv_goto (tgt := 32) hx hb dX10_isZero_28 (by decide) ?_
        exact h_zret C hr (by first | rfl | decide) hlk hw (⟨bI_t (by grind), rfl⟩) dX10_isZero_32
set_option maxHeartbeats 4000000 in
set_option maxRecDepth 100000 in
theorem c_X10_along {l : Launch} {D : va_G} {cA : Nat → ClassId} {f : HF} {sz : Nat} {a : Nat} {x y z : Int64} {k : Int32}  (h0 : f a = some (eO 10 [.long x, .long y, .long z])) : Met l yX10_along wsX10_along ({ frames := 0, cells := 0, slots := 0, locals := 0 } : Room) (va_Pc [.ref a, .int k] (hB D cA f sz)) (va_Ql (fun r f1 => alW x y z k = r ∧ f = f1) (hE D f sz) (hA f sz)) 0 0 (hA f sz) := by
  refine h_of (cc := cX10_along) (maxL := 2) (ret := (some .long)) (by decide +kernel) rfl (Nat.le_of_ble_eq_true rfl) ?_
  intro p e s m below meth c ls C hr hlk hnm hw hl
  have hx := C.1.1
  have hb := C.1.2.1
  have hl : lv_has ls 2 [(0, .ref a), (1, .int k)] := hl
  have lk0 : Cond.fieldLink RX10 16 "FallingLight$Way" "z" "J" ∈ wsX10_along := by decide +kernel
  have lk1 : ∀ w ∈ u_ws RX10 TX10 3, w ∈ wsX10_along := by decide +kernel
  have lk2 : Cond.fieldLink RX10 13 "FallingLight$Way" "y" "J" ∈ wsX10_along := by decide +kernel
  have lk3 : Cond.fieldLink RX10 7 "FallingLight$Way" "x" "J" ∈ wsX10_along := by decide +kernel
  refine lv_iload_n hx hb dX10_along_0 rfl (lv_at hl 1 rfl) ?_
  refine lv_if_ne (tgt := 9) hx hb dX10_along_1 (by decide) (fun cq1 => ?_) (fun cq1 => ?_)
  · refine lv_iload_n hx hb dX10_along_9 rfl (lv_at hl 1 rfl) ?_
    refine lv_iconst (v := nI 1) hx hb dX10_along_10 (by decide) ?_
    refine lv_icmp_ne (tgt := 21) hx hb dX10_along_11 (by decide) (fun cq2 => ?_) (fun cq2 => ?_)
    · refine lv_aload_n hx hb dX10_along_21 rfl (lv_at hl 0 rfl) ?_
      refine h_get C hw bX10 h0 lk1 2 (by decide) lk0 (v := .long z) rfl dX10_along_22 ?_
      exact h_lret C hr hlk hw (⟨by rw [alW, if_neg cq1, if_neg cq2], rfl⟩) dX10_along_25
    · refine lv_aload_n hx hb dX10_along_14 rfl (lv_at hl 0 rfl) ?_
      refine h_get C hw bX10 h0 lk1 1 (by decide) lk2 (v := .long y) rfl dX10_along_15 ?_
      refine lv_goto (tgt := 25) hx hb dX10_along_18 (by decide) ?_
      exact h_lret C hr hlk hw (⟨by rw [alW, if_neg cq1, if_pos cq2], rfl⟩) dX10_along_25
  · refine lv_aload_n hx hb dX10_along_4 rfl (lv_at hl 0 rfl) ?_
    refine h_get C hw bX10 h0 lk1 0 (by decide) lk3 (v := .long x) rfl dX10_along_5 ?_
    exact h_lret C hr hlk hw (⟨by rw [alW, if_pos cq1], rfl⟩) dX10_along_8
set_option maxHeartbeats 4000000 in
set_option maxRecDepth 100000 in
theorem c_X10_dot {l : Launch} {D : va_G} {cA : Nat → ClassId} {f : HF} {sz : Nat} {a b : Nat} {x y z x2 y2 z2 : Int64}  (h0 : f a = some (eO 10 [.long x, .long y, .long z])) (h1 : f b = some (eO 10 [.long x2, .long y2, .long z2])) : Met l yX10_dot wsX10_dot ({ frames := 0, cells := 0, slots := 0, locals := 0 } : Room) (va_Pc [.ref a, .ref b] (hB D cA f sz)) (va_Ql (fun r f1 => x * x2 + y * y2 + z * z2 = r ∧ f = f1) (hE D f sz) (hA f sz)) 0 0 (hA f sz) := by
  refine h_of (cc := cX10_dot) (maxL := 2) (ret := (some .long)) (by decide +kernel) rfl (Nat.le_of_ble_eq_true rfl) ?_
  intro p e s m below meth c ls C hr hlk hnm hw hl
  have hx := C.1.1
  have hb := C.1.2.1
  have hl : lv_has ls 2 [(0, .ref a), (1, .ref b)] := hl
  have lk0 : Cond.fieldLink RX10 7 "FallingLight$Way" "x" "J" ∈ wsX10_dot := by decide +kernel
  have lk1 : ∀ w ∈ u_ws RX10 TX10 3, w ∈ wsX10_dot := by decide +kernel
  have lk2 : Cond.fieldLink RX10 13 "FallingLight$Way" "y" "J" ∈ wsX10_dot := by decide +kernel
  have lk3 : Cond.fieldLink RX10 16 "FallingLight$Way" "z" "J" ∈ wsX10_dot := by decide +kernel
  refine lv_aload_n hx hb dX10_dot_0 rfl (lv_at hl 0 rfl) ?_
  refine h_get C hw bX10 h0 lk1 0 (by decide) lk0 (v := .long x) rfl dX10_dot_1 ?_
  refine lv_aload_n hx hb dX10_dot_4 rfl (lv_at hl 1 rfl) ?_
  refine h_get C hw bX10 h1 lk1 0 (by decide) lk0 (v := .long x2) rfl dX10_dot_5 ?_
  refine lv_lmul hx hb dX10_dot_8 ?_
  refine lv_aload_n hx hb dX10_dot_9 rfl (lv_at hl 0 rfl) ?_
  refine h_get C hw bX10 h0 lk1 1 (by decide) lk2 (v := .long y) rfl dX10_dot_10 ?_
  refine lv_aload_n hx hb dX10_dot_13 rfl (lv_at hl 1 rfl) ?_
  refine h_get C hw bX10 h1 lk1 1 (by decide) lk2 (v := .long y2) rfl dX10_dot_14 ?_
  refine lv_lmul hx hb dX10_dot_17 ?_
  refine lv_ladd hx hb dX10_dot_18 ?_
  refine lv_aload_n hx hb dX10_dot_19 rfl (lv_at hl 0 rfl) ?_
  refine h_get C hw bX10 h0 lk1 2 (by decide) lk3 (v := .long z) rfl dX10_dot_20 ?_
  refine lv_aload_n hx hb dX10_dot_23 rfl (lv_at hl 1 rfl) ?_
  refine h_get C hw bX10 h1 lk1 2 (by decide) lk3 (v := .long z2) rfl dX10_dot_24 ?_
  refine lv_lmul hx hb dX10_dot_27 ?_
  refine lv_ladd hx hb dX10_dot_28 ?_
  exact h_lret C hr hlk hw (⟨rfl, rfl⟩) dX10_dot_29
set_option maxHeartbeats 4000000 in
set_option maxRecDepth 100000 in
theorem c_X10_cross {l : Launch} {D : va_G} {cA : Nat → ClassId} {f : HF} {sz : Nat} {a b : Nat} {x y z x2 y2 z2 : Int64}  (h0 : f a = some (eO 10 [.long x, .long y, .long z])) (h1 : f b = some (eO 10 [.long x2, .long y2, .long z2])) : Met l yX10_cross wsX10_cross ({ frames := 2, cells := 1, slots := 3, locals := 46 } : Room) (va_Pc [.ref a, .ref b] (hB D cA f sz)) (va_Qq (fun r f1 => hle f f1 ∧ ∃ q, r = some q ∧ f1 q = some (eO 10 [.long (y * z2 - z * y2), .long (z * x2 - x * z2), .long (x * y2 - y * x2)]) ∧ f q = none) (hE D f sz) (hA f sz)) 1 3 (hA f sz) := by
  refine h_of (cc := cX10_cross) (maxL := 2) (ret := (some (.object "FallingLight$Way"))) (by decide +kernel) rfl (Nat.le_of_ble_eq_true rfl) ?_
  intro p e s m below meth c ls C hr hlk hnm hw hl
  have hx := C.1.1
  have hb := C.1.2.1
  have hl : lv_has ls 2 [(0, .ref a), (1, .ref b)] := hl
  have lk0 : ∀ w ∈ u_ws RX10 TX10 3, w ∈ wsX10_cross := by decide +kernel
  have lk1 : Cond.classLink RX10 8 RX10 ∈ wsX10_cross := by decide +kernel
  have lk2 : Cond.instantiable RX10 3 ∈ wsX10_cross := by decide +kernel
  have lk3 : Cond.initialized RX10 ∈ wsX10_cross := by decide +kernel
  have lk4 : Cond.fieldLink RX10 13 "FallingLight$Way" "y" "J" ∈ wsX10_cross := by decide +kernel
  have lk5 : Cond.fieldLink RX10 16 "FallingLight$Way" "z" "J" ∈ wsX10_cross := by decide +kernel
  have lk6 : Cond.fieldLink RX10 7 "FallingLight$Way" "x" "J" ∈ wsX10_cross := by decide +kernel
  have lk7 : Cond.methodLink RX10 19 yX10_init ∈ wsX10_cross := by decide +kernel
  have lk8 : Cond.instanceMethod yX10_init ∈ wsX10_cross := by decide +kernel
  refine h_new1 C hw bX10 lk0 lk1 lk2 lk3 dfX10 (by first | decide | omega | (dsimp only; omega)) (by first | decide | omega | (dsimp only; omega)) dX10_cross_0 (fun q1 f2 H hq4 e3 hw => ?_)
  have n5 := ne_new h0 hq4
  have k6 := up_n e3 hq4 h0
  have n7 := ne_new h1 hq4
  have k8 := up_n e3 hq4 h1
  have k9 : f2 q1 = some (eO 10 [.long 0, .long 0, .long 0]) := up_s e3
  have fr10 := hle_no (hle.rf f) hq4
  have le11 := hle_new (hle.rf f) hq4 e3
  refine lv_dup hx hb dX10_cross_3 rfl ?_
  refine lv_aload_n hx hb dX10_cross_4 rfl (lv_at hl 0 rfl) ?_
  refine h_get C hw bX10 k6 lk0 1 (by decide) lk4 (v := .long y) rfl dX10_cross_5 ?_
  refine lv_aload_n hx hb dX10_cross_8 rfl (lv_at hl 1 rfl) ?_
  refine h_get C hw bX10 k8 lk0 2 (by decide) lk5 (v := .long z2) rfl dX10_cross_9 ?_
  refine lv_lmul hx hb dX10_cross_12 ?_
  refine lv_aload_n hx hb dX10_cross_13 rfl (lv_at hl 0 rfl) ?_
  refine h_get C hw bX10 k6 lk0 2 (by decide) lk5 (v := .long z) rfl dX10_cross_14 ?_
  refine lv_aload_n hx hb dX10_cross_17 rfl (lv_at hl 1 rfl) ?_
  refine h_get C hw bX10 k8 lk0 1 (by decide) lk4 (v := .long y2) rfl dX10_cross_18 ?_
  refine lv_lmul hx hb dX10_cross_21 ?_
  refine lv_lsub hx hb dX10_cross_22 ?_
  refine lv_aload_n hx hb dX10_cross_23 rfl (lv_at hl 0 rfl) ?_
  refine h_get C hw bX10 k6 lk0 2 (by decide) lk5 (v := .long z) rfl dX10_cross_24 ?_
  refine lv_aload_n hx hb dX10_cross_27 rfl (lv_at hl 1 rfl) ?_
  refine h_get C hw bX10 k8 lk0 0 (by decide) lk6 (v := .long x2) rfl dX10_cross_28 ?_
  refine lv_lmul hx hb dX10_cross_31 ?_
  refine lv_aload_n hx hb dX10_cross_32 rfl (lv_at hl 0 rfl) ?_
  refine h_get C hw bX10 k6 lk0 0 (by decide) lk6 (v := .long x) rfl dX10_cross_33 ?_
  refine lv_aload_n hx hb dX10_cross_36 rfl (lv_at hl 1 rfl) ?_
  refine h_get C hw bX10 k8 lk0 2 (by decide) lk5 (v := .long z2) rfl dX10_cross_37 ?_
  refine lv_lmul hx hb dX10_cross_40 ?_
  refine lv_lsub hx hb dX10_cross_41 ?_
  refine lv_aload_n hx hb dX10_cross_42 rfl (lv_at hl 0 rfl) ?_
  refine h_get C hw bX10 k6 lk0 0 (by decide) lk6 (v := .long x) rfl dX10_cross_43 ?_
  refine lv_aload_n hx hb dX10_cross_46 rfl (lv_at hl 1 rfl) ?_
  refine h_get C hw bX10 k8 lk0 1 (by decide) lk4 (v := .long y2) rfl dX10_cross_47 ?_
  refine lv_lmul hx hb dX10_cross_50 ?_
  refine lv_aload_n hx hb dX10_cross_51 rfl (lv_at hl 0 rfl) ?_
  refine h_get C hw bX10 k6 lk0 1 (by decide) lk4 (v := .long y) rfl dX10_cross_52 ?_
  refine lv_aload_n hx hb dX10_cross_55 rfl (lv_at hl 1 rfl) ?_
  refine h_get C hw bX10 k8 lk0 0 (by decide) lk6 (v := .long x2) rfl dX10_cross_56 ?_
  refine lv_lmul hx hb dX10_cross_59 ?_
  refine lv_lsub hx hb dX10_cross_60 ?_
  refine h_callv hw (h_runI (n := 3) (As := [.long ((y * z2) - (z * y2)), .long ((z * x2) - (x * z2)), .long ((x * y2) - (y * x2))]) (rest := [.ref q1]) C hw (c_X10_init k9) gX10_cross_X10_init rfl rfl rfl lk3 lk7 lk8 rfl (by decide +kernel) ⟨by decide, by decide⟩ rfl hl.1 rfl (Nat.le_of_ble_eq_true rfl) dX10_cross_61 ⟨by first | decide | omega, by first | decide | omega⟩) (fun  f12 H locs hp hw => ?_)
  have e13 := hp
  have k14 := up_o e13 n5 k6
  have k15 := up_o e13 n7 k8
  have k16 : f12 q1 = some (eO 10 [.long ((y * z2) - (z * y2)), .long ((z * x2) - (x * z2)), .long ((x * y2) - (y * x2))]) := up_s e13
  have le17 := hle_up le11 fr10 e13
  refine W.widen (k := 1) (n := 3) (by first | decide | omega | (dsimp only; omega)) (by first | decide | omega | (dsimp only; omega)) ?_
  exact h_qret (v := some q1) C hr hlk hw (⟨le17, q1, rfl, k16, fr10⟩) dX10_cross_64
set_option maxHeartbeats 4000000 in
set_option maxRecDepth 100000 in
theorem c_X10_plus {l : Launch} {D : va_G} {cA : Nat → ClassId} {f : HF} {sz : Nat} {a b : Nat} {x y z x2 y2 z2 : Int64}  (h0 : f a = some (eO 10 [.long x, .long y, .long z])) (h1 : f b = some (eO 10 [.long x2, .long y2, .long z2])) : Met l yX10_plus wsX10_plus ({ frames := 2, cells := 1, slots := 3, locals := 46 } : Room) (va_Pc [.ref a, .ref b] (hB D cA f sz)) (va_Qq (fun r f1 => hle f f1 ∧ ∃ q, r = some q ∧ f1 q = some (eO 10 [.long (x + x2), .long (y + y2), .long (z + z2)]) ∧ f q = none) (hE D f sz) (hA f sz)) 1 3 (hA f sz) := by
  refine h_of (cc := cX10_plus) (maxL := 2) (ret := (some (.object "FallingLight$Way"))) (by decide +kernel) rfl (Nat.le_of_ble_eq_true rfl) ?_
  intro p e s m below meth c ls C hr hlk hnm hw hl
  have hx := C.1.1
  have hb := C.1.2.1
  have hl : lv_has ls 2 [(0, .ref a), (1, .ref b)] := hl
  have lk0 : ∀ w ∈ u_ws RX10 TX10 3, w ∈ wsX10_plus := by decide +kernel
  have lk1 : Cond.classLink RX10 8 RX10 ∈ wsX10_plus := by decide +kernel
  have lk2 : Cond.instantiable RX10 3 ∈ wsX10_plus := by decide +kernel
  have lk3 : Cond.initialized RX10 ∈ wsX10_plus := by decide +kernel
  have lk4 : Cond.fieldLink RX10 7 "FallingLight$Way" "x" "J" ∈ wsX10_plus := by decide +kernel
  have lk5 : Cond.fieldLink RX10 13 "FallingLight$Way" "y" "J" ∈ wsX10_plus := by decide +kernel
  have lk6 : Cond.fieldLink RX10 16 "FallingLight$Way" "z" "J" ∈ wsX10_plus := by decide +kernel
  have lk7 : Cond.methodLink RX10 19 yX10_init ∈ wsX10_plus := by decide +kernel
  have lk8 : Cond.instanceMethod yX10_init ∈ wsX10_plus := by decide +kernel
  refine h_new1 C hw bX10 lk0 lk1 lk2 lk3 dfX10 (by first | decide | omega | (dsimp only; omega)) (by first | decide | omega | (dsimp only; omega)) dX10_plus_0 (fun q1 f2 H hq4 e3 hw => ?_)
  have n5 := ne_new h0 hq4
  have k6 := up_n e3 hq4 h0
  have n7 := ne_new h1 hq4
  have k8 := up_n e3 hq4 h1
  have k9 : f2 q1 = some (eO 10 [.long 0, .long 0, .long 0]) := up_s e3
  have fr10 := hle_no (hle.rf f) hq4
  have le11 := hle_new (hle.rf f) hq4 e3
  refine lv_dup hx hb dX10_plus_3 rfl ?_
  refine lv_aload_n hx hb dX10_plus_4 rfl (lv_at hl 0 rfl) ?_
  refine h_get C hw bX10 k6 lk0 0 (by decide) lk4 (v := .long x) rfl dX10_plus_5 ?_
  refine lv_aload_n hx hb dX10_plus_8 rfl (lv_at hl 1 rfl) ?_
  refine h_get C hw bX10 k8 lk0 0 (by decide) lk4 (v := .long x2) rfl dX10_plus_9 ?_
  refine lv_ladd hx hb dX10_plus_12 ?_
  refine lv_aload_n hx hb dX10_plus_13 rfl (lv_at hl 0 rfl) ?_
  refine h_get C hw bX10 k6 lk0 1 (by decide) lk5 (v := .long y) rfl dX10_plus_14 ?_
  refine lv_aload_n hx hb dX10_plus_17 rfl (lv_at hl 1 rfl) ?_
  refine h_get C hw bX10 k8 lk0 1 (by decide) lk5 (v := .long y2) rfl dX10_plus_18 ?_
  refine lv_ladd hx hb dX10_plus_21 ?_
  refine lv_aload_n hx hb dX10_plus_22 rfl (lv_at hl 0 rfl) ?_
  refine h_get C hw bX10 k6 lk0 2 (by decide) lk6 (v := .long z) rfl dX10_plus_23 ?_
  refine lv_aload_n hx hb dX10_plus_26 rfl (lv_at hl 1 rfl) ?_
  refine h_get C hw bX10 k8 lk0 2 (by decide) lk6 (v := .long z2) rfl dX10_plus_27 ?_
  refine lv_ladd hx hb dX10_plus_30 ?_
  refine h_callv hw (h_runI (n := 3) (As := [.long (x + x2), .long (y + y2), .long (z + z2)]) (rest := [.ref q1]) C hw (c_X10_init k9) gX10_plus_X10_init rfl rfl rfl lk3 lk7 lk8 rfl (by decide +kernel) ⟨by decide, by decide⟩ rfl hl.1 rfl (Nat.le_of_ble_eq_true rfl) dX10_plus_31 ⟨by first | decide | omega, by first | decide | omega⟩) (fun  f12 H locs hp hw => ?_)
  have e13 := hp
  have k14 := up_o e13 n5 k6
  have k15 := up_o e13 n7 k8
  have k16 : f12 q1 = some (eO 10 [.long (x + x2), .long (y + y2), .long (z + z2)]) := up_s e13
  have le17 := hle_up le11 fr10 e13
  refine W.widen (k := 1) (n := 3) (by first | decide | omega | (dsimp only; omega)) (by first | decide | omega | (dsimp only; omega)) ?_
  exact h_qret (v := some q1) C hr hlk hw (⟨le17, q1, rfl, k16, fr10⟩) dX10_plus_34
set_option maxHeartbeats 4000000 in
set_option maxRecDepth 100000 in
theorem c_X10_minus {l : Launch} {D : va_G} {cA : Nat → ClassId} {f : HF} {sz : Nat} {a b : Nat} {x y z x2 y2 z2 : Int64}  (h0 : f a = some (eO 10 [.long x, .long y, .long z])) (h1 : f b = some (eO 10 [.long x2, .long y2, .long z2])) : Met l yX10_minus wsX10_minus ({ frames := 2, cells := 1, slots := 3, locals := 46 } : Room) (va_Pc [.ref a, .ref b] (hB D cA f sz)) (va_Qq (fun r f1 => hle f f1 ∧ ∃ q, r = some q ∧ f1 q = some (eO 10 [.long (x - x2), .long (y - y2), .long (z - z2)]) ∧ f q = none) (hE D f sz) (hA f sz)) 1 3 (hA f sz) := by
  refine h_of (cc := cX10_minus) (maxL := 2) (ret := (some (.object "FallingLight$Way"))) (by decide +kernel) rfl (Nat.le_of_ble_eq_true rfl) ?_
  intro p e s m below meth c ls C hr hlk hnm hw hl
  have hx := C.1.1
  have hb := C.1.2.1
  have hl : lv_has ls 2 [(0, .ref a), (1, .ref b)] := hl
  have lk0 : ∀ w ∈ u_ws RX10 TX10 3, w ∈ wsX10_minus := by decide +kernel
  have lk1 : Cond.classLink RX10 8 RX10 ∈ wsX10_minus := by decide +kernel
  have lk2 : Cond.instantiable RX10 3 ∈ wsX10_minus := by decide +kernel
  have lk3 : Cond.initialized RX10 ∈ wsX10_minus := by decide +kernel
  have lk4 : Cond.fieldLink RX10 7 "FallingLight$Way" "x" "J" ∈ wsX10_minus := by decide +kernel
  have lk5 : Cond.fieldLink RX10 13 "FallingLight$Way" "y" "J" ∈ wsX10_minus := by decide +kernel
  have lk6 : Cond.fieldLink RX10 16 "FallingLight$Way" "z" "J" ∈ wsX10_minus := by decide +kernel
  have lk7 : Cond.methodLink RX10 19 yX10_init ∈ wsX10_minus := by decide +kernel
  have lk8 : Cond.instanceMethod yX10_init ∈ wsX10_minus := by decide +kernel
  refine h_new1 C hw bX10 lk0 lk1 lk2 lk3 dfX10 (by first | decide | omega | (dsimp only; omega)) (by first | decide | omega | (dsimp only; omega)) dX10_minus_0 (fun q1 f2 H hq4 e3 hw => ?_)
  have n5 := ne_new h0 hq4
  have k6 := up_n e3 hq4 h0
  have n7 := ne_new h1 hq4
  have k8 := up_n e3 hq4 h1
  have k9 : f2 q1 = some (eO 10 [.long 0, .long 0, .long 0]) := up_s e3
  have fr10 := hle_no (hle.rf f) hq4
  have le11 := hle_new (hle.rf f) hq4 e3
  refine lv_dup hx hb dX10_minus_3 rfl ?_
  refine lv_aload_n hx hb dX10_minus_4 rfl (lv_at hl 0 rfl) ?_
  refine h_get C hw bX10 k6 lk0 0 (by decide) lk4 (v := .long x) rfl dX10_minus_5 ?_
  refine lv_aload_n hx hb dX10_minus_8 rfl (lv_at hl 1 rfl) ?_
  refine h_get C hw bX10 k8 lk0 0 (by decide) lk4 (v := .long x2) rfl dX10_minus_9 ?_
  refine lv_lsub hx hb dX10_minus_12 ?_
  refine lv_aload_n hx hb dX10_minus_13 rfl (lv_at hl 0 rfl) ?_
  refine h_get C hw bX10 k6 lk0 1 (by decide) lk5 (v := .long y) rfl dX10_minus_14 ?_
  refine lv_aload_n hx hb dX10_minus_17 rfl (lv_at hl 1 rfl) ?_
  refine h_get C hw bX10 k8 lk0 1 (by decide) lk5 (v := .long y2) rfl dX10_minus_18 ?_
  refine lv_lsub hx hb dX10_minus_21 ?_
  refine lv_aload_n hx hb dX10_minus_22 rfl (lv_at hl 0 rfl) ?_
  refine h_get C hw bX10 k6 lk0 2 (by decide) lk6 (v := .long z) rfl dX10_minus_23 ?_
  refine lv_aload_n hx hb dX10_minus_26 rfl (lv_at hl 1 rfl) ?_
  refine h_get C hw bX10 k8 lk0 2 (by decide) lk6 (v := .long z2) rfl dX10_minus_27 ?_
  refine lv_lsub hx hb dX10_minus_30 ?_
  refine h_callv hw (h_runI (n := 3) (As := [.long (x - x2), .long (y - y2), .long (z - z2)]) (rest := [.ref q1]) C hw (c_X10_init k9) gX10_minus_X10_init rfl rfl rfl lk3 lk7 lk8 rfl (by decide +kernel) ⟨by decide, by decide⟩ rfl hl.1 rfl (Nat.le_of_ble_eq_true rfl) dX10_minus_31 ⟨by first | decide | omega, by first | decide | omega⟩) (fun  f12 H locs hp hw => ?_)
  have e13 := hp
  have k14 := up_o e13 n5 k6
  have k15 := up_o e13 n7 k8
  have k16 : f12 q1 = some (eO 10 [.long (x - x2), .long (y - y2), .long (z - z2)]) := up_s e13
  have le17 := hle_up le11 fr10 e13
  refine W.widen (k := 1) (n := 3) (by first | decide | omega | (dsimp only; omega)) (by first | decide | omega | (dsimp only; omega)) ?_
  exact h_qret (v := some q1) C hr hlk hw (⟨le17, q1, rfl, k16, fr10⟩) dX10_minus_34
set_option maxHeartbeats 4000000 in
set_option maxRecDepth 100000 in
theorem c_X10_times {l : Launch} {D : va_G} {cA : Nat → ClassId} {f : HF} {sz : Nat} {a : Nat} {x y z : Int64} {k : Int64}  (h0 : f a = some (eO 10 [.long x, .long y, .long z])) : Met l yX10_times wsX10_times ({ frames := 2, cells := 1, slots := 3, locals := 46 } : Room) (va_Pc [.ref a, .long k] (hB D cA f sz)) (va_Qq (fun r f1 => hle f f1 ∧ ∃ q, r = some q ∧ f1 q = some (eO 10 [.long (k * x), .long (k * y), .long (k * z)]) ∧ f q = none) (hE D f sz) (hA f sz)) 1 3 (hA f sz) := by
  refine h_of (cc := cX10_times) (maxL := 3) (ret := (some (.object "FallingLight$Way"))) (by decide +kernel) rfl (Nat.le_of_ble_eq_true rfl) ?_
  intro p e s m below meth c ls C hr hlk hnm hw hl
  have hx := C.1.1
  have hb := C.1.2.1
  have hl : lv_has ls 3 [(0, .ref a), (1, .long k)] := hl
  have lk0 : ∀ w ∈ u_ws RX10 TX10 3, w ∈ wsX10_times := by decide +kernel
  have lk1 : Cond.classLink RX10 8 RX10 ∈ wsX10_times := by decide +kernel
  have lk2 : Cond.instantiable RX10 3 ∈ wsX10_times := by decide +kernel
  have lk3 : Cond.initialized RX10 ∈ wsX10_times := by decide +kernel
  have lk4 : Cond.fieldLink RX10 7 "FallingLight$Way" "x" "J" ∈ wsX10_times := by decide +kernel
  have lk5 : Cond.fieldLink RX10 13 "FallingLight$Way" "y" "J" ∈ wsX10_times := by decide +kernel
  have lk6 : Cond.fieldLink RX10 16 "FallingLight$Way" "z" "J" ∈ wsX10_times := by decide +kernel
  have lk7 : Cond.methodLink RX10 19 yX10_init ∈ wsX10_times := by decide +kernel
  have lk8 : Cond.instanceMethod yX10_init ∈ wsX10_times := by decide +kernel
  refine h_new1 C hw bX10 lk0 lk1 lk2 lk3 dfX10 (by first | decide | omega | (dsimp only; omega)) (by first | decide | omega | (dsimp only; omega)) dX10_times_0 (fun q1 f2 H hq4 e3 hw => ?_)
  have n5 := ne_new h0 hq4
  have k6 := up_n e3 hq4 h0
  have k7 : f2 q1 = some (eO 10 [.long 0, .long 0, .long 0]) := up_s e3
  have fr8 := hle_no (hle.rf f) hq4
  have le9 := hle_new (hle.rf f) hq4 e3
  refine lv_dup hx hb dX10_times_3 rfl ?_
  refine lv_lload_n hx hb dX10_times_4 rfl (lv_at hl 1 rfl) ?_
  refine lv_aload_n hx hb dX10_times_5 rfl (lv_at hl 0 rfl) ?_
  refine h_get C hw bX10 k6 lk0 0 (by decide) lk4 (v := .long x) rfl dX10_times_6 ?_
  refine lv_lmul hx hb dX10_times_9 ?_
  refine lv_lload_n hx hb dX10_times_10 rfl (lv_at hl 1 rfl) ?_
  refine lv_aload_n hx hb dX10_times_11 rfl (lv_at hl 0 rfl) ?_
  refine h_get C hw bX10 k6 lk0 1 (by decide) lk5 (v := .long y) rfl dX10_times_12 ?_
  refine lv_lmul hx hb dX10_times_15 ?_
  refine lv_lload_n hx hb dX10_times_16 rfl (lv_at hl 1 rfl) ?_
  refine lv_aload_n hx hb dX10_times_17 rfl (lv_at hl 0 rfl) ?_
  refine h_get C hw bX10 k6 lk0 2 (by decide) lk6 (v := .long z) rfl dX10_times_18 ?_
  refine lv_lmul hx hb dX10_times_21 ?_
  refine h_callv hw (h_runI (n := 3) (As := [.long (k * x), .long (k * y), .long (k * z)]) (rest := [.ref q1]) C hw (c_X10_init k7) gX10_times_X10_init rfl rfl rfl lk3 lk7 lk8 rfl (by decide +kernel) ⟨by decide, by decide⟩ rfl hl.1 rfl (Nat.le_of_ble_eq_true rfl) dX10_times_22 ⟨by first | decide | omega, by first | decide | omega⟩) (fun  f10 H locs hp hw => ?_)
  have e11 := hp
  have k12 := up_o e11 n5 k6
  have k13 : f10 q1 = some (eO 10 [.long (k * x), .long (k * y), .long (k * z)]) := up_s e11
  have le14 := hle_up le9 fr8 e11
  refine W.widen (k := 1) (n := 3) (by first | decide | omega | (dsimp only; omega)) (by first | decide | omega | (dsimp only; omega)) ?_
  exact h_qret (v := some q1) C hr hlk hw (⟨le14, q1, rfl, k13, fr8⟩) dX10_times_25
