/-! ===== the class: Fraction, Meeting, Points, tests (laid by program) ===== -/
theorem gd_s (X Y : Nat) : Nat.gcd Y (X % Y) = Nat.gcd X Y := by rw [Nat.gcd_comm, ← Nat.gcd_rec, Nat.gcd_comm]
def gst (k X Y : Nat) : Prop := (k = 0 ∧ X * Y < 2 ^ 96) ∨ (0 < k ∧ Y < X ∧ X * Y * 2 ^ k < 2 ^ 97)
theorem gst_0 {X Y : Nat} (hX : X < 2 ^ 48) (hY : Y < 2 ^ 48) : gst 0 X Y := Or.inl ⟨rfl, by
  have h := Nat.mul_le_mul (Nat.le_of_lt hX) (Nat.le_of_lt_succ (Nat.lt_succ_of_lt hY))
  rcases Nat.eq_zero_or_pos X with h0 | h0
  · subst h0; rw [Nat.zero_mul]; decide
  · have h1 : X * Y < X * 2 ^ 48 := Nat.mul_lt_mul_of_pos_left hY h0
    have h2 : X * 2 ^ 48 ≤ 2 ^ 48 * 2 ^ 48 := Nat.mul_le_mul_right _ (Nat.le_of_lt hX)
    exact Nat.lt_of_lt_of_le h1 h2⟩
theorem gst_s {k X Y : Nat} (hY : 0 < Y) (h : gst k X Y) : gst (k + 1) Y (X % Y) := by
  have hm := Nat.mod_lt X hY
  refine Or.inr ⟨Nat.succ_pos k, hm, ?_⟩
  rcases h with ⟨h0, h1⟩ | ⟨h0, h1, h2⟩
  · subst h0
    have h3 : Y * (X % Y) ≤ Y * X := Nat.mul_le_mul_left Y (Nat.mod_le X Y)
    rw [Nat.mul_comm Y X] at h3
    omega
  · have h4 : 2 * (X % Y) ≤ X := by
      have h5 := Nat.div_add_mod X Y
      have h6 : 1 ≤ X / Y := (Nat.one_le_div_iff hY).mpr (Nat.le_of_lt h1)
      have h7 : Y * 1 ≤ Y * (X / Y) := Nat.mul_le_mul_left Y h6
      omega
    have h8 : Y * (X % Y) * 2 ^ (k + 1) = Y * (2 * (X % Y)) * 2 ^ k := by
      rw [Nat.pow_succ, Nat.mul_comm (2 ^ k) 2, ← Nat.mul_assoc, Nat.mul_assoc Y (X % Y) 2, Nat.mul_comm (X % Y) 2]
    have h9 : Y * (2 * (X % Y)) * 2 ^ k ≤ Y * X * 2 ^ k := Nat.mul_le_mul_right _ (Nat.mul_le_mul_left Y h4)
    rw [Nat.mul_comm Y X] at h9
    rw [h8]
    exact Nat.lt_of_le_of_lt h9 h2
theorem gst_e {k X Y : Nat} (h : gst k X Y) (hk : 100 ≤ k) : Y = 0 := by
  rcases h with ⟨h0, h1⟩ | ⟨h0, h1, h2⟩
  · omega
  · rcases Nat.eq_zero_or_pos Y with h3 | h3
    · exact h3
    · exfalso
      have h4 : 1 ≤ X * Y := Nat.mul_pos (Nat.lt_trans h3 h1) h3
      have h5 : 2 ^ 100 ≤ 2 ^ k := Nat.pow_le_pow_right (by decide) hk
      have h6 : 1 * 2 ^ 100 ≤ X * Y * 2 ^ k := Nat.mul_le_mul h4 h5
      have h7 : (2 : Nat) ^ 97 ≤ 1 * 2 ^ 100 := by decide
      omega
theorem mx1 {g : Nat} (h : 0 < g) (h2 : g < 2 ^ 63) : (if lN g < 1 then 1 else lN g) = lN g := if_neg (fun h3 => by
  have h4 := (pk_lLT (a := g) (b := 1) h2 (by decide)).mp h3
  omega)
theorem fr_n {x : Int64} {g : Nat} (hg : 0 < g) (hg2 : g < 2 ^ 48) (hx : lA x < 2 ^ 48) : (-1) * (x / lN g) = x / (-lN g) := by
  have hgt : (lN g).toInt = (g : Int) := pk_lT (Nat.lt_trans hg2 (by decide))
  have hx2 : -281474976710656 < x.toInt ∧ x.toInt < 281474976710656 := by unfold lA at hx; omega
  have hng : (-lN g).toInt = -(g : Int) := by rw [Int64.toInt_neg, hgt, fb_bmodL (by omega) (by omega)]
  have ha : (x.toInt.tdiv g).natAbs ≤ x.toInt.natAbs := by rw [Int.natAbs_tdiv]; exact Nat.div_le_self _ _
  have hd : (x / lN g).toInt = x.toInt.tdiv g := by rw [Int64.toInt_div, hgt, fb_bmodL (by omega) (by omega)]
  have hd2 : (x / (-lN g)).toInt = -(x.toInt.tdiv g) := by rw [Int64.toInt_div, hng, Int.tdiv_neg, fb_bmodL (by omega) (by omega)]
  apply (c_int64 _ _).mpr
  have h1 : (-1 : Int64).toInt = -1 := rfl
  rw [hd2, Int64.toInt_mul, hd, h1, fb_bmodL (by omega) (by omega)]
  omega
theorem gd48 {x y : Int64} (hy : ¬ y = 0) (hb : lA y < 2 ^ 48) : Nat.gcd (lA x) (lA y) < 2 ^ 48 := Nat.lt_of_le_of_lt (Nat.gcd_le_right _ (lA_0 hy)) hb
theorem p48 {n : Nat} (h : n < 2 ^ 48) : n < 2 ^ 63 := Nat.lt_trans h (by decide)
def sdF (u v : Int64) (w : Int32) : Int64 := if w = 0 then u else v
theorem sd_pr (x y : Int64) (w : Int32) : sdF (prL x y 0) (prL x y 1) w = prL x y w := by
  unfold sdF prL
  by_cases h : w = 0
  · rw [if_pos h, if_pos h, if_pos rfl]
  · rw [if_neg h, if_neg h, if_neg (by decide)]
theorem hs_eq {k : Int32} {n : Nat} (hn : n ≤ 12) : (¬ k < nI 0 ∧ k < nI n) ↔ rg (nI 0) (nI n - nI 1) k := by
  have h1 : (nI n - nI 1).toInt = (n : Int) - 1 := pk_sub_toInt (by omega) (by decide)
  have h2 : (nI n).toInt = (n : Int) := nI_toInt (by omega)
  unfold rg
  rw [Int32.lt_iff_toInt_lt, Int32.lt_iff_toInt_lt, Int32.lt_iff_toInt_lt, h1, h2]
  omega
def sqC (gx gy : Nat → Int32) (i j : Nat) : Int64 := (gx j - gx i).toInt64 * (gx j - gx i).toInt64 + (gy j - gy i).toInt64 * (gy j - gy i).toInt64
def sfC (gx gy : Nat → Int32) (i : Nat) (bx b2 cx c2 : Int64) : Int64 := (bx - (gx i).toInt64) * (c2 - (gy i).toInt64) - (b2 - (gy i).toInt64) * (cx - (gx i).toInt64)
abbrev spC (gx gy : Nat → Int32) (i j k : Nat) : Int64 := sfC gx gy i (gx j).toInt64 (gy j).toInt64 (gx k).toInt64 (gy k).toInt64
theorem ge_succ {v : Int32} {n : Nat} (hn : n < 2 ^ 30) : nI (n + 1) ≤ v ↔ nI n < v := by
  rw [Int32.le_iff_toInt_le, Int32.lt_iff_toInt_lt, nI_toInt (by omega), nI_toInt (by omega)]
  omega
set_option maxHeartbeats 4000000 in
set_option maxRecDepth 100000 in
theorem c_X0_commonDivisor {l : Launch} {D : va_G} {cA : Nat → ClassId} {f : HF} {sz : Nat} {x0 y0 : Nat} (hx0 : x0 < 2 ^ 48) (hy0 : y0 < 2 ^ 48) : Met l yX0_commonDivisor wsX0_commonDivisor ({ frames := 0, cells := 0, slots := 0, locals := 0 } : Room) (va_Pc [.long (lN x0), .long (lN y0)] (hB D cA f sz)) (va_Ql (fun r f1 => lN (Nat.gcd x0 y0) = r ∧ f = f1) (hE D f sz) (hA f sz)) 0 0 (hA f sz) := by
  refine h_of (cc := cX0_commonDivisor) (maxL := 11) (ret := (some .long)) (by decide +kernel) rfl (Nat.le_of_ble_eq_true rfl) ?_
  intro p e s m below meth c ls C hr hlk hnm hw hl
  have hx := C.1.1
  have hb := C.1.2.1
  have hl : lv_has ls 11 [(0, .long (lN x0)), (2, .long (lN y0))] := hl
  refine lv_lload_n hx hb dX0_commonDivisor_0 rfl (lv_at hl 0 rfl) ?_
  refine lv_lstore (lv' := [(4, _), (0, _), (2, _)]) hx hb dX0_commonDivisor_1 hl (by decide) rfl (fun ls hl => ?_)
  refine lv_lload_n hx hb dX0_commonDivisor_3 rfl (lv_at hl 2 rfl) ?_
  refine lv_lstore (lv' := [(6, _), (4, _), (0, _), (2, _)]) hx hb dX0_commonDivisor_4 hl (by decide) rfl (fun ls hl => ?_)
  refine lv_iconst (v := nI 0) hx hb dX0_commonDivisor_6 (by decide) ?_
  refine lv_istore (lv' := [(8, _), (6, _), (4, _), (0, _), (2, _)]) hx hb dX0_commonDivisor_7 hl (by decide) rfl (fun ls hl => ?_)
  have lp9 : ∀ (n : Nat) (X : Nat) (Y : Nat) (k : Nat) (H1 : Heap) (locs1 : List Loc) (ls1 : Array Slot), hW D (hA f sz) s.heap f H1 locs1 → lv_has ls1 11 [(0, .long (lN x0)), (2, .long (lN y0)), (4, .long (lN X)), (6, .long (lN Y)), (8, .int (nI k))] → (k ≤ 100) → (X < 2 ^ 63) → (Y < 2 ^ 63) → (Nat.gcd X Y = Nat.gcd x0 y0) → (gst k X Y) → 100 - k < n → W p l e ({ frames := 0, cells := 0, slots := 0, locals := 0 } : Room) s m ([.long (lN x0), .long (lN y0)]).toArray below meth c H1 locs1 0 0 (MQ below (va_Ql (fun r f1 => lN (Nat.gcd x0 y0) = r ∧ f = f1) (hE D f sz) (hA f sz)) ([.long (lN x0), .long (lN y0)]).toArray s 0 0 (hA f sz)) (F0 m 9 ls1 []) := by
    intro n
    induction n with
    | zero => intros; omega
    | succ n ih9 =>
      intro X Y k H locs ls hw hl hk hX hY hg hgs hmu
      refine lv_iload hx hb dX0_commonDivisor_9 (lv_at hl 4 rfl) ?_
      refine lv_bipush (v := nI 100) hx hb dX0_commonDivisor_11 (by decide) ?_
      refine n_cge C (by omega) (by omega) (tgt := 44) dX0_commonDivisor_13 (by decide) (fun cq1 => ?_) (fun cq1 => ?_)
      · have hs0 : Y = 0 := gst_e hgs cq1
        refine lv_lload hx hb dX0_commonDivisor_44 (lv_at hl 2 rfl) ?_
        exact h_lret C hr hlk hw (⟨by rw [← hg, hs0, Nat.gcd_zero_right], rfl⟩) dX0_commonDivisor_46
      · refine lv_lload hx hb dX0_commonDivisor_16 (lv_at hl 3 rfl) ?_
        refine lv_lconst (v := 0) hx hb dX0_commonDivisor_18 (by decide) ?_
        refine W.lcmp hx hb dX0_commonDivisor_19 ?_
        refine l_ifeq C (tgt := 44) dX0_commonDivisor_20 (by decide) (fun cq2 => ?_) (fun cq2 => ?_)
        · have hs0 : Y = 0 := (pk_lEQ (b := 0) hY (by decide)).mp cq2
          refine lv_lload hx hb dX0_commonDivisor_44 (lv_at hl 2 rfl) ?_
          exact h_lret C hr hlk hw (⟨by rw [← hg, hs0, Nat.gcd_zero_right], rfl⟩) dX0_commonDivisor_46
        · have hz : 0 < Y := Nat.pos_of_ne_zero (fun h => cq2 (by rw [h]; rfl))
          refine lv_lload hx hb dX0_commonDivisor_23 (lv_at hl 2 rfl) ?_
          refine lv_lload hx hb dX0_commonDivisor_25 (lv_at hl 3 rfl) ?_
          refine n_lrem C hX hz hY dX0_commonDivisor_27 ?_
          refine lv_lstore (lv' := [(9, _), (0, _), (2, _), (4, _), (6, _), (8, _)]) hx hb dX0_commonDivisor_28 hl (by decide) rfl (fun ls hl => ?_)
          refine lv_lload hx hb dX0_commonDivisor_30 (lv_at hl 4 rfl) ?_
          refine lv_lstore (lv' := [(4, _), (9, _), (0, _), (2, _), (6, _), (8, _)]) hx hb dX0_commonDivisor_32 hl (by decide) rfl (fun ls hl => ?_)
          refine lv_lload hx hb dX0_commonDivisor_34 (lv_at hl 1 rfl) ?_
          refine lv_lstore (lv' := [(6, _), (4, _), (9, _), (0, _), (2, _), (8, _)]) hx hb dX0_commonDivisor_36 hl (by decide) rfl (fun ls hl => ?_)
          refine n_iinc C (lv' := [(8, _), (6, _), (4, _), (9, _), (0, _), (2, _)]) dX0_commonDivisor_38 hl (k := 5) rfl (by decide) rfl (fun ls hl => ?_)
          refine lv_goto (tgt := 9) hx hb dX0_commonDivisor_41 (by decide) ?_
          exact ih9 Y (X % Y) (k + 1) _ _ _ hw (lv_sub hl [4, 5, 2, 1, 0] rfl) (by omega) hY (Nat.lt_trans (Nat.mod_lt _ hz) hY) ((gd_s X Y).trans hg) (gst_s hz hgs) (by omega)
  exact lp9 _ x0 y0 0 _ _ _ hw (lv_sub hl [3, 4, 2, 1, 0] rfl) (by omega) (p48 hx0) (p48 hy0) rfl (gst_0 hx0 hy0) (Nat.lt_succ_self _)
set_option maxHeartbeats 4000000 in
set_option maxRecDepth 100000 in
theorem c_X0_init {l : Launch} {D : va_G} {cA : Nat → ClassId} {f : HF} {sz : Nat} {a : Nat} {x y : Int64} {v0 v1 : Value} (h0 : f a = some (eO 0 [v0, v1])) (ha : lA x < 2 ^ 48) (hb2 : lA y < 2 ^ 48) (hu : ¬ y = 0) : Met l yX0_init wsX0_init ({ frames := 1, cells := 0, slots := 0, locals := 30 } : Room) (va_Pc [.ref a, .long x, .long y] (hB D cA f sz)) (va_Qv (fun f1 => f1 = va_up f a (some (eO 0 [.long (prL x y 0), .long (prL x y 1)]))) (hE D f sz) (hA f sz)) 0 0 (hA f sz) := by
  refine h_of (cc := cX0_init) (maxL := 9) (ret := none) (by decide +kernel) rfl (Nat.le_of_ble_eq_true rfl) ?_
  intro p e s m below meth c ls C hr hlk hnm hw hl
  have hx := C.1.1
  have hb := C.1.2.1
  have hl : lv_has ls 9 [(0, .ref a), (1, .long x), (3, .long y)] := hl
  have lk0 : Cond.methodLink RX0 1 objectInit ∈ wsX0_init := by decide +kernel
  have lk1 : Cond.instanceMethod objectInit ∈ wsX0_init := by decide +kernel
  have lk2 : Cond.code objectInit ⟨#[0xb1]⟩ 1 none ∈ wsX0_init := by decide +kernel
  have lk3 : Cond.methodLink RX0 7 Lib.MathLoose.abs_long.x ∈ wsX0_init := by decide +kernel
  have lk4 : Cond.static Lib.MathLoose.abs_long.x ∈ wsX0_init := by decide +kernel
  have lk5 : Cond.initialized "java/lang/Math" ∈ wsX0_init := by decide +kernel
  have lk6 : Cond.code Lib.MathLoose.abs_long.x Lib.MathLoose.abs_long.code 2 (some .long) ∈ wsX0_init := by decide +kernel
  have lk7 : Cond.methodLink RX0 19 Lib.MathLoose.max_long.x ∈ wsX0_init := by decide +kernel
  have lk8 : Cond.static Lib.MathLoose.max_long.x ∈ wsX0_init := by decide +kernel
  have lk9 : Cond.code Lib.MathLoose.max_long.x Lib.MathLoose.max_long.code 4 (some .long) ∈ wsX0_init := by decide +kernel
  have lk10 : Cond.fieldLink RX0 24 "FallingLight$Fraction" "above" "J" ∈ wsX0_init := by decide +kernel
  have lk11 : ∀ w ∈ u_ws RX0 TX0 2, w ∈ wsX0_init := by decide +kernel
  have lk12 : Cond.fieldLink RX0 28 "FallingLight$Fraction" "below" "J" ∈ wsX0_init := by decide +kernel
  have lk13 : Cond.constantLong RX0 22 (-1) ∈ wsX0_init := by decide +kernel
  refine lv_aload_n hx hb dX0_init_0 rfl (lv_at hl 0 rfl) ?_
  refine W.objInit hx hb C.1.2.2.2.1 (C.1.2.2.2.2 _ lk0) (C.1.2.2.2.2 _ lk1) (C.1.2.2.2.2 _ lk2) rfl (hl.1.trans C.1.2.2.1.symm) rfl dX0_init_1 (Nat.le_of_ble_eq_true rfl) (Nat.le_of_ble_eq_true rfl) ?_
  refine W.eq (g2 := F0 m 4 ls []) rfl ?_
  refine lv_lconst (v := 1) hx hb dX0_init_4 (by decide) ?_
  refine lv_lload_n hx hb dX0_init_5 rfl (lv_at hl 1 rfl) ?_
  refine va_mabs_long hx hb (C.1.2.2.1.trans hl.1.symm) C.1.2.2.2.1 (C.1.2.2.2.2 _ lk3) (C.1.2.2.2.2 _ lk4) (C.1.2.2.2.2 _ lk5) (C.1.2.2.2.2 _ lk6) (Nat.le_of_ble_eq_true rfl) (Nat.le_of_ble_eq_true rfl) (by first | decide | omega) (by first | decide | omega) dX0_init_6 ?_
  refine W.eq (g2 := F0 m 9 ls [.long (lN (lA x)), _]) (by rw [lA_abs (p48 ha)]) ?_
  refine lv_lload_n hx hb dX0_init_9 rfl (lv_at hl 2 rfl) ?_
  refine va_mabs_long hx hb (C.1.2.2.1.trans hl.1.symm) C.1.2.2.2.1 (C.1.2.2.2.2 _ lk3) (C.1.2.2.2.2 _ lk4) (C.1.2.2.2.2 _ lk5) (C.1.2.2.2.2 _ lk6) (Nat.le_of_ble_eq_true rfl) (Nat.le_of_ble_eq_true rfl) (by first | decide | omega) (by first | decide | omega) dX0_init_10 ?_
  refine W.eq (g2 := F0 m 13 ls [.long (lN (lA y)), _, _]) (by rw [lA_abs (p48 hb2)]) ?_
  refine h_calll hw (h_runS (n := 2) (As := [.long (lN (lA x)), .long (lN (lA y))]) (rest := [.long (1 : Int64)]) C hw (c_X0_commonDivisor ha hb2) gX0_init_X0_commonDivisor rfl rfl rfl (by decide +kernel) ⟨by decide, by decide⟩ rfl hl.1 rfl (Nat.le_of_ble_eq_true rfl) dX0_init_13 ⟨by first | decide | omega, by first | decide | omega⟩) (fun r1 f2 H locs hp hw => ?_)
  obtain ⟨rfl, rfl⟩ := hp
  refine va_mmax_long hx hb (C.1.2.2.1.trans hl.1.symm) C.1.2.2.2.1 (C.1.2.2.2.2 _ lk7) (C.1.2.2.2.2 _ lk8) (C.1.2.2.2.2 _ lk5) (C.1.2.2.2.2 _ lk9) (Nat.le_of_ble_eq_true rfl) (Nat.le_of_ble_eq_true rfl) (by first | decide | omega) (by first | decide | omega) dX0_init_16 ?_
  refine W.eq (g2 := F0 m 19 ls [.long (lN (Nat.gcd (lA x) (lA y)))]) (by rw [mx1 (gd_pos hu) (gd_lt hu (p48 hb2))]) ?_
  refine lv_lstore (lv' := [(5, _), (0, _), (1, _), (3, _)]) hx hb dX0_init_19 hl (by decide) rfl (fun ls hl => ?_)
  refine lv_lload_n hx hb dX0_init_21 rfl (lv_at hl 3 rfl) ?_
  refine lv_lconst (v := 0) hx hb dX0_init_22 (by decide) ?_
  refine W.lcmp hx hb dX0_init_23 ?_
  refine l_ifge C (tgt := 33) dX0_init_24 (by decide) (fun cq3 => ?_) (fun cq3 => ?_)
  · refine lv_lconst (v := 1) hx hb dX0_init_33 (by decide) ?_
    refine lv_lstore (lv' := [(7, _), (5, _), (0, _), (1, _), (3, _)]) hx hb dX0_init_34 hl (by decide) rfl (fun ls hl => ?_)
    refine lv_aload_n hx hb dX0_init_36 rfl (lv_at hl 2 rfl) ?_
    refine lv_lload hx hb dX0_init_37 (lv_at hl 0 rfl) ?_
    refine lv_lload_n hx hb dX0_init_39 rfl (lv_at hl 3 rfl) ?_
    refine lv_lload hx hb dX0_init_40 (lv_at hl 1 rfl) ?_
    refine lv_ldiv hx hb dX0_init_42 (gd_ne hu (p48 hb2)) ?_
    refine lv_lmul hx hb dX0_init_43 ?_
    refine h_putF1 C hw bX0 h0 lk11 0 (by decide) lk10 rfl hnm rfl rfl rfl (Nat.le_of_ble_eq_true rfl) dX0_init_44 (fun f4 H locs e5 hw => ?_)
    have k6 : f4 a = some (eO 0 [.long ((1 : Int64) * (x / (lN (Nat.gcd (lA x) (lA y))))), v1]) := up_s e5
    refine lv_aload_n hx hb dX0_init_47 rfl (lv_at hl 2 rfl) ?_
    refine lv_lload hx hb dX0_init_48 (lv_at hl 0 rfl) ?_
    refine lv_lload_n hx hb dX0_init_50 rfl (lv_at hl 4 rfl) ?_
    refine lv_lload hx hb dX0_init_51 (lv_at hl 1 rfl) ?_
    refine lv_ldiv hx hb dX0_init_53 (gd_ne hu (p48 hb2)) ?_
    refine lv_lmul hx hb dX0_init_54 ?_
    refine h_putF1 C hw bX0 k6 lk11 1 (by decide) lk12 rfl hnm rfl rfl rfl (Nat.le_of_ble_eq_true rfl) dX0_init_55 (fun f7 H locs e8 hw => ?_)
    have k9 : f7 a = some (eO 0 [.long ((1 : Int64) * (x / (lN (Nat.gcd (lA x) (lA y))))), .long ((1 : Int64) * (y / (lN (Nat.gcd (lA x) (lA y)))))]) := up_s e8
    exact h_vret C hr hlk hw (by rw [e8, e5, va_up2, prL, prL, if_pos rfl, if_neg (by decide), gdL, if_neg cq3, Int64.one_mul, Int64.one_mul]; rfl) dX0_init_58
  · refine lv_ldc2 hx hb C.1.2.2.2.1 (C.1.2.2.2.2 _ lk13) dX0_init_27 ?_
    refine lv_goto (tgt := 34) hx hb dX0_init_30 (by decide) ?_
    refine lv_lstore (lv' := [(7, _), (5, _), (0, _), (1, _), (3, _)]) hx hb dX0_init_34 hl (by decide) rfl (fun ls hl => ?_)
    refine lv_aload_n hx hb dX0_init_36 rfl (lv_at hl 2 rfl) ?_
    refine lv_lload hx hb dX0_init_37 (lv_at hl 0 rfl) ?_
    refine lv_lload_n hx hb dX0_init_39 rfl (lv_at hl 3 rfl) ?_
    refine lv_lload hx hb dX0_init_40 (lv_at hl 1 rfl) ?_
    refine lv_ldiv hx hb dX0_init_42 (gd_ne hu (p48 hb2)) ?_
    refine lv_lmul hx hb dX0_init_43 ?_
    refine h_putF1 C hw bX0 h0 lk11 0 (by decide) lk10 rfl hnm rfl rfl rfl (Nat.le_of_ble_eq_true rfl) dX0_init_44 (fun f10 H locs e11 hw => ?_)
    have k12 : f10 a = some (eO 0 [.long ((-1 : Int64) * (x / (lN (Nat.gcd (lA x) (lA y))))), v1]) := up_s e11
    refine lv_aload_n hx hb dX0_init_47 rfl (lv_at hl 2 rfl) ?_
    refine lv_lload hx hb dX0_init_48 (lv_at hl 0 rfl) ?_
    refine lv_lload_n hx hb dX0_init_50 rfl (lv_at hl 4 rfl) ?_
    refine lv_lload hx hb dX0_init_51 (lv_at hl 1 rfl) ?_
    refine lv_ldiv hx hb dX0_init_53 (gd_ne hu (p48 hb2)) ?_
    refine lv_lmul hx hb dX0_init_54 ?_
    refine h_putF1 C hw bX0 k12 lk11 1 (by decide) lk12 rfl hnm rfl rfl rfl (Nat.le_of_ble_eq_true rfl) dX0_init_55 (fun f13 H locs e14 hw => ?_)
    have k15 : f13 a = some (eO 0 [.long ((-1 : Int64) * (x / (lN (Nat.gcd (lA x) (lA y))))), .long ((-1 : Int64) * (y / (lN (Nat.gcd (lA x) (lA y)))))]) := up_s e14
    exact h_vret C hr hlk hw (by rw [e14, e11, va_up2, prL, prL, if_pos rfl, if_neg (by decide), gdL, if_pos cq3, ← fr_n (gd_pos hu) (gd48 hu hb2) ha, ← fr_n (gd_pos hu) (gd48 hu hb2) hb2]; rfl) dX0_init_58
set_option maxHeartbeats 4000000 in
set_option maxRecDepth 100000 in
theorem c_X0_side {l : Launch} {D : va_G} {cA : Nat → ClassId} {f : HF} {sz : Nat} {a : Nat} {x y : Int64} {w : Int32}  (h0 : f a = some (eO 0 [.long x, .long y])) : Met l yX0_side wsX0_side ({ frames := 0, cells := 0, slots := 0, locals := 0 } : Room) (va_Pc [.ref a, .int w] (hB D cA f sz)) (va_Ql (fun r f1 => sdF x y w = r ∧ f = f1) (hE D f sz) (hA f sz)) 0 0 (hA f sz) := by
  refine h_of (cc := cX0_side) (maxL := 2) (ret := (some .long)) (by decide +kernel) rfl (Nat.le_of_ble_eq_true rfl) ?_
  intro p e s m below meth c ls C hr hlk hnm hw hl
  have hx := C.1.1
  have hb := C.1.2.1
  have hl : lv_has ls 2 [(0, .ref a), (1, .int w)] := hl
  have lk0 : Cond.fieldLink RX0 24 "FallingLight$Fraction" "above" "J" ∈ wsX0_side := by decide +kernel
  have lk1 : ∀ w ∈ u_ws RX0 TX0 2, w ∈ wsX0_side := by decide +kernel
  have lk2 : Cond.fieldLink RX0 28 "FallingLight$Fraction" "below" "J" ∈ wsX0_side := by decide +kernel
  refine lv_iload_n hx hb dX0_side_0 rfl (lv_at hl 1 rfl) ?_
  refine lv_if_eq (tgt := 11) hx hb dX0_side_1 (by decide) (fun cq1 => ?_) (fun cq1 => ?_)
  · refine lv_aload_n hx hb dX0_side_11 rfl (lv_at hl 0 rfl) ?_
    refine h_get C hw bX0 h0 lk1 0 (by decide) lk0 (v := .long x) rfl dX0_side_12 ?_
    exact h_lret C hr hlk hw (⟨by rw [sdF, if_pos cq1], rfl⟩) dX0_side_15
  · refine lv_aload_n hx hb dX0_side_4 rfl (lv_at hl 0 rfl) ?_
    refine h_get C hw bX0 h0 lk1 1 (by decide) lk2 (v := .long y) rfl dX0_side_5 ?_
    refine lv_goto (tgt := 15) hx hb dX0_side_8 (by decide) ?_
    exact h_lret C hr hlk hw (⟨by rw [sdF, if_neg cq1], rfl⟩) dX0_side_15
set_option maxHeartbeats 4000000 in
set_option maxRecDepth 100000 in
theorem c_X0_isLess {l : Launch} {D : va_G} {cA : Nat → ClassId} {f : HF} {sz : Nat} {a b : Nat} {x y x2 y2 : Int64}  (h0 : f a = some (eO 0 [.long x, .long y])) (h1 : f b = some (eO 0 [.long x2, .long y2])) : Met l yX0_isLess wsX0_isLess ({ frames := 0, cells := 0, slots := 0, locals := 0 } : Room) (va_Pc [.ref a, .ref b] (hB D cA f sz)) (va_Qi (fun r f1 => bI (x * y2 < x2 * y) = r ∧ f = f1) (hE D f sz) (hA f sz)) 0 0 (hA f sz) := by
  refine h_of (cc := cX0_isLess) (maxL := 2) (ret := (some .boolean)) (by decide +kernel) rfl (Nat.le_of_ble_eq_true rfl) ?_
  intro p e s m below meth c ls C hr hlk hnm hw hl
  have hx := C.1.1
  have hb := C.1.2.1
  have hl : lv_has ls 2 [(0, .ref a), (1, .ref b)] := hl
  have lk0 : Cond.fieldLink RX0 24 "FallingLight$Fraction" "above" "J" ∈ wsX0_isLess := by decide +kernel
  have lk1 : ∀ w ∈ u_ws RX0 TX0 2, w ∈ wsX0_isLess := by decide +kernel
  have lk2 : Cond.fieldLink RX0 28 "FallingLight$Fraction" "below" "J" ∈ wsX0_isLess := by decide +kernel
  refine lv_aload_n hx hb dX0_isLess_0 rfl (lv_at hl 0 rfl) ?_
  refine h_get C hw bX0 h0 lk1 0 (by decide) lk0 (v := .long x) rfl dX0_isLess_1 ?_
  refine lv_aload_n hx hb dX0_isLess_4 rfl (lv_at hl 1 rfl) ?_
  refine h_get C hw bX0 h1 lk1 1 (by decide) lk2 (v := .long y2) rfl dX0_isLess_5 ?_
  refine lv_lmul hx hb dX0_isLess_8 ?_
  refine lv_aload_n hx hb dX0_isLess_9 rfl (lv_at hl 1 rfl) ?_
  refine h_get C hw bX0 h1 lk1 0 (by decide) lk0 (v := .long x2) rfl dX0_isLess_10 ?_
  refine lv_aload_n hx hb dX0_isLess_13 rfl (lv_at hl 0 rfl) ?_
  refine h_get C hw bX0 h0 lk1 1 (by decide) lk2 (v := .long y) rfl dX0_isLess_14 ?_
  refine lv_lmul hx hb dX0_isLess_17 ?_
  refine W.lcmp hx hb dX0_isLess_18 ?_
  refine l_ifge C (tgt := 26) dX0_isLess_19 (by decide) (fun cq1 => ?_) (fun cq1 => ?_)
  · refine lv_iconst (v := nI 0) hx hb dX0_isLess_26 (by decide) ?_
    exact h_zret C hr (by first | rfl | decide) hlk hw (⟨bI_f (by grind), rfl⟩) dX0_isLess_27
  · refine lv_iconst (v := nI 1) hx hb dX0_isLess_22 (by decide) ?_
    refine lv_goto (tgt := 27) hx hb dX0_isLess_23 (by decide) ?_
    exact h_zret C hr (by first | rfl | decide) hlk hw (⟨bI_t (by grind), rfl⟩) dX0_isLess_27
set_option maxHeartbeats 4000000 in
set_option maxRecDepth 100000 in
theorem c_X2_init {l : Launch} {D : va_G} {cA : Nat → ClassId} {f : HF} {sz : Nat} {a b : Nat} {y : Int64} {v0 v1 : Value} (h0 : f a = some (eO 2 [v0, v1])) : Met l yX2_init wsX2_init ({ frames := 1, cells := 0, slots := 0, locals := 20 } : Room) (va_Pc [.ref a, .ref b, .long y] (hB D cA f sz)) (va_Qv (fun f1 => f1 = va_up f a (some (eO 2 [.ref b, .long y]))) (hE D f sz) (hA f sz)) 0 0 (hA f sz) := by
  refine h_of (cc := cX2_init) (maxL := 4) (ret := none) (by decide +kernel) rfl (Nat.le_of_ble_eq_true rfl) ?_
  intro p e s m below meth c ls C hr hlk hnm hw hl
  have hx := C.1.1
  have hb := C.1.2.1
  have hl : lv_has ls 4 [(0, .ref a), (1, .ref b), (2, .long y)] := hl
  have lk0 : Cond.methodLink RX2 1 objectInit ∈ wsX2_init := by decide +kernel
  have lk1 : Cond.instanceMethod objectInit ∈ wsX2_init := by decide +kernel
  have lk2 : Cond.code objectInit ⟨#[0xb1]⟩ 1 none ∈ wsX2_init := by decide +kernel
  have lk3 : Cond.fieldLink RX2 7 "FallingLight$Meeting" "above" "LFallingLight$Way;" ∈ wsX2_init := by decide +kernel
  have lk4 : ∀ w ∈ u_ws RX2 TX2 2, w ∈ wsX2_init := by decide +kernel
  have lk5 : Cond.fieldLink RX2 13 "FallingLight$Meeting" "below" "J" ∈ wsX2_init := by decide +kernel
  refine lv_aload_n hx hb dX2_init_0 rfl (lv_at hl 0 rfl) ?_
  refine W.objInit hx hb C.1.2.2.2.1 (C.1.2.2.2.2 _ lk0) (C.1.2.2.2.2 _ lk1) (C.1.2.2.2.2 _ lk2) rfl (hl.1.trans C.1.2.2.1.symm) rfl dX2_init_1 (Nat.le_of_ble_eq_true rfl) (Nat.le_of_ble_eq_true rfl) ?_
  refine W.eq (g2 := F0 m 4 ls []) rfl ?_
  refine lv_aload_n hx hb dX2_init_4 rfl (lv_at hl 0 rfl) ?_
  refine lv_aload_n hx hb dX2_init_5 rfl (lv_at hl 1 rfl) ?_
  refine h_putF1 C hw bX2 h0 lk4 0 (by decide) lk3 rfl hnm rfl rfl rfl (Nat.le_of_ble_eq_true rfl) dX2_init_6 (fun f1 H locs e2 hw => ?_)
  have k3 : f1 a = some (eO 2 [.ref b, v1]) := up_s e2
  refine lv_aload_n hx hb dX2_init_9 rfl (lv_at hl 0 rfl) ?_
  refine lv_lload_n hx hb dX2_init_10 rfl (lv_at hl 2 rfl) ?_
  refine h_putF1 C hw bX2 k3 lk4 1 (by decide) lk5 rfl hnm rfl rfl rfl (Nat.le_of_ble_eq_true rfl) dX2_init_11 (fun f4 H locs e5 hw => ?_)
  have k6 : f4 a = some (eO 2 [.ref b, .long y]) := up_s e5
  exact h_vret C hr hlk hw (by rw [e5, e2]; exact va_up2 f a _ _) dX2_init_14
set_option maxHeartbeats 4000000 in
set_option maxRecDepth 100000 in
theorem c_X2_coordinate {l : Launch} {D : va_G} {cA : Nat → ClassId} {f : HF} {sz : Nat} {a b : Nat} {x y z d : Int64} {k : Int32} (h0 : f a = some (eO 2 [.ref b, .long d])) (h1 : f b = some (eO 10 [.long x, .long y, .long z])) (ha : lA (alW x y z k) < 2 ^ 48) (hb2 : lA d < 2 ^ 48) (hu : ¬ d = 0) : Met l yX2_coordinate wsX2_coordinate ({ frames := 2, cells := 1, slots := 2, locals := 58 } : Room) (va_Pc [.ref a, .int k] (hB D cA f sz)) (va_Qq (fun r f1 => hle f f1 ∧ ∃ q, r = some q ∧ f1 q = some (eO 0 [.long (prL (alW x y z k) d 0), .long (prL (alW x y z k) d 1)]) ∧ f q = none) (hE D f sz) (hA f sz)) 1 2 (hA f sz) := by
  refine h_of (cc := cX2_coordinate) (maxL := 2) (ret := (some (.object "FallingLight$Fraction"))) (by decide +kernel) rfl (Nat.le_of_ble_eq_true rfl) ?_
  intro p e s m below meth c ls C hr hlk hnm hw hl
  have hx := C.1.1
  have hb := C.1.2.1
  have hl : lv_has ls 2 [(0, .ref a), (1, .int k)] := hl
  have lk0 : ∀ w ∈ u_ws RX0 TX0 2, w ∈ wsX2_coordinate := by decide +kernel
  have lk1 : Cond.classLink RX2 17 RX0 ∈ wsX2_coordinate := by decide +kernel
  have lk2 : Cond.instantiable RX0 2 ∈ wsX2_coordinate := by decide +kernel
  have lk3 : Cond.initialized RX0 ∈ wsX2_coordinate := by decide +kernel
  have lk4 : Cond.fieldLink RX2 7 "FallingLight$Meeting" "above" "LFallingLight$Way;" ∈ wsX2_coordinate := by decide +kernel
  have lk5 : ∀ w ∈ u_ws RX2 TX2 2, w ∈ wsX2_coordinate := by decide +kernel
  have lk6 : Cond.fieldLink RX2 13 "FallingLight$Meeting" "below" "J" ∈ wsX2_coordinate := by decide +kernel
  have lk7 : Cond.methodLink RX2 25 yX0_init ∈ wsX2_coordinate := by decide +kernel
  have lk8 : Cond.instanceMethod yX0_init ∈ wsX2_coordinate := by decide +kernel
  refine h_new1 C hw bX0 lk0 lk1 lk2 lk3 dfX0 (by first | decide | omega | (dsimp only; omega)) (by first | decide | omega | (dsimp only; omega)) dX2_coordinate_0 (fun q1 f2 H hq4 e3 hw => ?_)
  have k5 := up_n e3 hq4 h0
  have k6 := up_n e3 hq4 h1
  have k7 : f2 q1 = some (eO 0 [.long 0, .long 0]) := up_s e3
  have fr8 := hle_no (hle.rf f) hq4
  have le9 := hle_new (hle.rf f) hq4 e3
  refine lv_dup hx hb dX2_coordinate_3 rfl ?_
  refine lv_aload_n hx hb dX2_coordinate_4 rfl (lv_at hl 0 rfl) ?_
  refine h_get C hw bX2 k5 lk5 0 (by decide) lk4 (v := .ref b) rfl dX2_coordinate_5 ?_
  refine lv_iload_n hx hb dX2_coordinate_8 rfl (lv_at hl 1 rfl) ?_
  refine h_calll hw (h_runV (n := 1) (As := [.int k]) (rest := [.ref q1, .ref q1]) C hw (c_X10_along k6) gX2_coordinate_X10_along rfl rfl rfl (by decide +kernel) ⟨by decide, by decide⟩ bX10 k6 rfl hl.1 rfl (Nat.le_of_ble_eq_true rfl) dX2_coordinate_9 ⟨by first | decide | omega, by first | decide | omega⟩) (fun r10 f11 H locs hp hw => ?_)
  obtain ⟨rfl, rfl⟩ := hp
  refine lv_aload_n hx hb dX2_coordinate_12 rfl (lv_at hl 0 rfl) ?_
  refine h_get C hw bX2 k5 lk5 1 (by decide) lk6 (v := .long d) rfl dX2_coordinate_13 ?_
  refine h_callv hw (h_runI (n := 2) (As := [.long (alW x y z k), .long d]) (rest := [.ref q1]) C hw (c_X0_init k7 ha hb2 hu) gX2_coordinate_X0_init rfl rfl rfl lk3 lk7 lk8 rfl (by decide +kernel) ⟨by decide, by decide⟩ rfl hl.1 rfl (Nat.le_of_ble_eq_true rfl) dX2_coordinate_16 ⟨by first | decide | omega, by first | decide | omega⟩) (fun  f12 H locs hp hw => ?_)
  have e13 := hp
  have k14 := up_o e13 (ne_kd k5 k7 (Nat.ne_of_beq_eq_false rfl)) k5
  have k15 := up_o e13 (ne_kd k6 k7 (Nat.ne_of_beq_eq_false rfl)) k6
  have k16 : f12 q1 = some (eO 0 [.long (prL (alW x y z k) d 0), .long (prL (alW x y z k) d 1)]) := up_s e13
  have le17 := hle_up le9 fr8 e13
  refine W.widen (k := 1) (n := 2) (by first | decide | omega | (dsimp only; omega)) (by first | decide | omega | (dsimp only; omega)) ?_
  exact h_qret (v := some q1) C hr hlk hw (⟨le17, q1, rfl, k16, fr8⟩) dX2_coordinate_19
set_option maxHeartbeats 4000000 in
set_option maxRecDepth 100000 in
theorem c_X4_has {l : Launch} {D : va_G} {cA : Nat → ClassId} {f : HF} {sz : Nat} {a n : Nat} {u x0 x1 : Value} {k : Int32}  (h0 : f a = some (eO 4 [u, x0, x1, .int (nI n)])) (hn : n ≤ 12) : Met l yX4_has wsX4_has ({ frames := 0, cells := 0, slots := 0, locals := 0 } : Room) (va_Pc [.ref a, .int k] (hB D cA f sz)) (va_Qi (fun r f1 => bI (rg (nI 0) (nI n - nI 1) k) = r ∧ f = f1) (hE D f sz) (hA f sz)) 0 0 (hA f sz) := by
  refine h_of (cc := cX4_has) (maxL := 2) (ret := (some .boolean)) (by decide +kernel) rfl (Nat.le_of_ble_eq_true rfl) ?_
  intro p e s m below meth c ls C hr hlk hnm hw hl
  have hx := C.1.1
  have hb := C.1.2.1
  have hl : lv_has ls 2 [(0, .ref a), (1, .int k)] := hl
  have lk0 : Cond.fieldLink RX4 20 "FallingLight$Points" "size" "I" ∈ wsX4_has := by decide +kernel
  have lk1 : ∀ w ∈ u_ws RX4 TX4 4, w ∈ wsX4_has := by decide +kernel
  refine lv_iload_n hx hb dX4_has_0 rfl (lv_at hl 1 rfl) ?_
  refine lv_if_lt (tgt := 16) hx hb dX4_has_1 (by decide) (fun cq1 => ?_) (fun cq1 => ?_)
  · refine lv_iconst (v := nI 0) hx hb dX4_has_16 (by decide) ?_
    exact h_zret C hr (by first | rfl | decide) hlk hw (⟨bI_f (fun h9 => ((hs_eq hn).mpr h9).1 cq1), rfl⟩) dX4_has_17
  · refine lv_iload_n hx hb dX4_has_4 rfl (lv_at hl 1 rfl) ?_
    refine lv_aload_n hx hb dX4_has_5 rfl (lv_at hl 0 rfl) ?_
    refine h_get C hw bX4 h0 lk1 3 (by decide) lk0 (v := .int (nI n)) rfl dX4_has_6 ?_
    refine lv_icmp_ge (tgt := 16) hx hb dX4_has_9 (by decide) (fun cq2 => ?_) (fun cq2 => ?_)
    · refine lv_iconst (v := nI 0) hx hb dX4_has_16 (by decide) ?_
      exact h_zret C hr (by first | rfl | decide) hlk hw (⟨bI_f (fun h9 => Int32.not_le.mpr ((hs_eq hn).mpr h9).2 cq2), rfl⟩) dX4_has_17
    · refine lv_iconst (v := nI 1) hx hb dX4_has_12 (by decide) ?_
      refine lv_goto (tgt := 17) hx hb dX4_has_13 (by decide) ?_
      exact h_zret C hr (by first | rfl | decide) hlk hw (⟨bI_t ((hs_eq hn).mp ⟨cq1, Int32.not_le.mp cq2⟩), rfl⟩) dX4_has_17
set_option maxHeartbeats 4000000 in
set_option maxRecDepth 100000 in
theorem c_X4_squareBetween {l : Launch} {D : va_G} {cA : Nat → ClassId} {f : HF} {sz : Nat} {a xa ya n lm : Nat} {gx gy : Nat → Int32} {i j : Nat}  (h0 : f a = some (eO 4 [.int (nI lm), .ref xa, .ref ya, .int (nI n)])) (hx1 : f xa = some (eI cA lm gx)) (hy1 : f ya = some (eI cA lm gy)) (hlm : lm ≤ 12) (hi : i < lm) (hj : j < lm) : Met l yX4_squareBetween wsX4_squareBetween ({ frames := 0, cells := 0, slots := 0, locals := 0 } : Room) (va_Pc [.ref a, .int (nI i), .int (nI j)] (hB D cA f sz)) (va_Ql (fun r f1 => sqC gx gy i j = r ∧ f = f1) (hE D f sz) (hA f sz)) 0 0 (hA f sz) := by
  refine h_of (cc := cX4_squareBetween) (maxL := 7) (ret := (some .long)) (by decide +kernel) rfl (Nat.le_of_ble_eq_true rfl) ?_
  intro p e s m below meth c ls C hr hlk hnm hw hl
  have hx := C.1.1
  have hb := C.1.2.1
  have hl : lv_has ls 7 [(0, .ref a), (1, .int (nI i)), (2, .int (nI j))] := hl
  have lk0 : Cond.fieldLink RX4 13 "FallingLight$Points" "x" "[I" ∈ wsX4_squareBetween := by decide +kernel
  have lk1 : ∀ w ∈ u_ws RX4 TX4 4, w ∈ wsX4_squareBetween := by decide +kernel
  have lk2 : Cond.fieldLink RX4 17 "FallingLight$Points" "y" "[I" ∈ wsX4_squareBetween := by decide +kernel
  refine lv_aload_n hx hb dX4_squareBetween_0 rfl (lv_at hl 0 rfl) ?_
  refine h_get C hw bX4 h0 lk1 1 (by decide) lk0 (v := .ref xa) rfl dX4_squareBetween_1 ?_
  refine lv_iload_n hx hb dX4_squareBetween_4 rfl (lv_at hl 2 rfl) ?_
  refine h_iald1 C hw (v := gx j) hx1 rfl (show j < lm from (by omega)) (by first | omega | decide) dX4_squareBetween_5 ?_
  refine lv_aload_n hx hb dX4_squareBetween_6 rfl (lv_at hl 0 rfl) ?_
  refine h_get C hw bX4 h0 lk1 1 (by decide) lk0 (v := .ref xa) rfl dX4_squareBetween_7 ?_
  refine lv_iload_n hx hb dX4_squareBetween_10 rfl (lv_at hl 1 rfl) ?_
  refine h_iald1 C hw (v := gx i) hx1 rfl (show i < lm from (by omega)) (by first | omega | decide) dX4_squareBetween_11 ?_
  refine lv_isub hx hb dX4_squareBetween_12 ?_
  refine lv_i2l hx hb dX4_squareBetween_13 rfl ?_
  refine lv_lstore_n (lv' := [(3, _), (0, _), (1, _), (2, _)]) hx hb dX4_squareBetween_14 rfl hl (by decide) rfl (fun ls hl => ?_)
  refine lv_aload_n hx hb dX4_squareBetween_15 rfl (lv_at hl 1 rfl) ?_
  refine h_get C hw bX4 h0 lk1 2 (by decide) lk2 (v := .ref ya) rfl dX4_squareBetween_16 ?_
  refine lv_iload_n hx hb dX4_squareBetween_19 rfl (lv_at hl 3 rfl) ?_
  refine h_iald1 C hw (v := gy j) hy1 rfl (show j < lm from (by omega)) (by first | omega | decide) dX4_squareBetween_20 ?_
  refine lv_aload_n hx hb dX4_squareBetween_21 rfl (lv_at hl 1 rfl) ?_
  refine h_get C hw bX4 h0 lk1 2 (by decide) lk2 (v := .ref ya) rfl dX4_squareBetween_22 ?_
  refine lv_iload_n hx hb dX4_squareBetween_25 rfl (lv_at hl 2 rfl) ?_
  refine h_iald1 C hw (v := gy i) hy1 rfl (show i < lm from (by omega)) (by first | omega | decide) dX4_squareBetween_26 ?_
  refine lv_isub hx hb dX4_squareBetween_27 ?_
  refine lv_i2l hx hb dX4_squareBetween_28 rfl ?_
  refine lv_lstore (lv' := [(5, _), (3, _), (0, _), (1, _), (2, _)]) hx hb dX4_squareBetween_29 hl (by decide) rfl (fun ls hl => ?_)
  refine lv_lload_n hx hb dX4_squareBetween_31 rfl (lv_at hl 1 rfl) ?_
  refine lv_lload_n hx hb dX4_squareBetween_32 rfl (lv_at hl 1 rfl) ?_
  refine lv_lmul hx hb dX4_squareBetween_33 ?_
  refine lv_lload hx hb dX4_squareBetween_34 (lv_at hl 0 rfl) ?_
  refine lv_lload hx hb dX4_squareBetween_36 (lv_at hl 0 rfl) ?_
  refine lv_lmul hx hb dX4_squareBetween_38 ?_
  refine lv_ladd hx hb dX4_squareBetween_39 ?_
  exact h_lret C hr hlk hw (⟨rfl, rfl⟩) dX4_squareBetween_40
set_option maxHeartbeats 4000000 in
set_option maxRecDepth 100000 in
theorem c_X4_spreadFrom {l : Launch} {D : va_G} {cA : Nat → ClassId} {f : HF} {sz : Nat} {a xa ya n lm : Nat} {gx gy : Nat → Int32} {i : Nat} {bx b2 cx c2 : Int64}  (h0 : f a = some (eO 4 [.int (nI lm), .ref xa, .ref ya, .int (nI n)])) (hx1 : f xa = some (eI cA lm gx)) (hy1 : f ya = some (eI cA lm gy)) (hlm : lm ≤ 12) (hi : i < lm) : Met l yX4_spreadFrom wsX4_spreadFrom ({ frames := 0, cells := 0, slots := 0, locals := 0 } : Room) (va_Pc [.ref a, .int (nI i), .long bx, .long b2, .long cx, .long c2] (hB D cA f sz)) (va_Ql (fun r f1 => sfC gx gy i bx b2 cx c2 = r ∧ f = f1) (hE D f sz) (hA f sz)) 0 0 (hA f sz) := by
  refine h_of (cc := cX4_spreadFrom) (maxL := 10) (ret := (some .long)) (by decide +kernel) rfl (Nat.le_of_ble_eq_true rfl) ?_
  intro p e s m below meth c ls C hr hlk hnm hw hl
  have hx := C.1.1
  have hb := C.1.2.1
  have hl : lv_has ls 10 [(0, .ref a), (1, .int (nI i)), (2, .long bx), (4, .long b2), (6, .long cx), (8, .long c2)] := hl
  have lk0 : Cond.fieldLink RX4 13 "FallingLight$Points" "x" "[I" ∈ wsX4_spreadFrom := by decide +kernel
  have lk1 : ∀ w ∈ u_ws RX4 TX4 4, w ∈ wsX4_spreadFrom := by decide +kernel
  have lk2 : Cond.fieldLink RX4 17 "FallingLight$Points" "y" "[I" ∈ wsX4_spreadFrom := by decide +kernel
  refine lv_lload_n hx hb dX4_spreadFrom_0 rfl (lv_at hl 2 rfl) ?_
  refine lv_aload_n hx hb dX4_spreadFrom_1 rfl (lv_at hl 0 rfl) ?_
  refine h_get C hw bX4 h0 lk1 1 (by decide) lk0 (v := .ref xa) rfl dX4_spreadFrom_2 ?_
  refine lv_iload_n hx hb dX4_spreadFrom_5 rfl (lv_at hl 1 rfl) ?_
  refine h_iald1 C hw (v := gx i) hx1 rfl (show i < lm from (by omega)) (by first | omega | decide) dX4_spreadFrom_6 ?_
  refine lv_i2l hx hb dX4_spreadFrom_7 rfl ?_
  refine lv_lsub hx hb dX4_spreadFrom_8 ?_
  refine lv_lload hx hb dX4_spreadFrom_9 (lv_at hl 5 rfl) ?_
  refine lv_aload_n hx hb dX4_spreadFrom_11 rfl (lv_at hl 0 rfl) ?_
  refine h_get C hw bX4 h0 lk1 2 (by decide) lk2 (v := .ref ya) rfl dX4_spreadFrom_12 ?_
  refine lv_iload_n hx hb dX4_spreadFrom_15 rfl (lv_at hl 1 rfl) ?_
  refine h_iald1 C hw (v := gy i) hy1 rfl (show i < lm from (by omega)) (by first | omega | decide) dX4_spreadFrom_16 ?_
  refine lv_i2l hx hb dX4_spreadFrom_17 rfl ?_
  refine lv_lsub hx hb dX4_spreadFrom_18 ?_
  refine lv_lmul hx hb dX4_spreadFrom_19 ?_
  refine lv_lload hx hb dX4_spreadFrom_20 (lv_at hl 3 rfl) ?_
  refine lv_aload_n hx hb dX4_spreadFrom_22 rfl (lv_at hl 0 rfl) ?_
  refine h_get C hw bX4 h0 lk1 2 (by decide) lk2 (v := .ref ya) rfl dX4_spreadFrom_23 ?_
  refine lv_iload_n hx hb dX4_spreadFrom_26 rfl (lv_at hl 1 rfl) ?_
  refine h_iald1 C hw (v := gy i) hy1 rfl (show i < lm from (by omega)) (by first | omega | decide) dX4_spreadFrom_27 ?_
  refine lv_i2l hx hb dX4_spreadFrom_28 rfl ?_
  refine lv_lsub hx hb dX4_spreadFrom_29 ?_
  refine lv_lload hx hb dX4_spreadFrom_30 (lv_at hl 4 rfl) ?_
  refine lv_aload_n hx hb dX4_spreadFrom_32 rfl (lv_at hl 0 rfl) ?_
  refine h_get C hw bX4 h0 lk1 1 (by decide) lk0 (v := .ref xa) rfl dX4_spreadFrom_33 ?_
  refine lv_iload_n hx hb dX4_spreadFrom_36 rfl (lv_at hl 1 rfl) ?_
  refine h_iald1 C hw (v := gx i) hx1 rfl (show i < lm from (by omega)) (by first | omega | decide) dX4_spreadFrom_37 ?_
  refine lv_i2l hx hb dX4_spreadFrom_38 rfl ?_
  refine lv_lsub hx hb dX4_spreadFrom_39 ?_
  refine lv_lmul hx hb dX4_spreadFrom_40 ?_
  refine lv_lsub hx hb dX4_spreadFrom_41 ?_
  exact h_lret C hr hlk hw (⟨rfl, rfl⟩) dX4_spreadFrom_42
set_option maxHeartbeats 4000000 in
set_option maxRecDepth 100000 in
theorem c_X4_spread {l : Launch} {D : va_G} {cA : Nat → ClassId} {f : HF} {sz : Nat} {a xa ya n lm : Nat} {gx gy : Nat → Int32} {i j k : Nat}  (h0 : f a = some (eO 4 [.int (nI lm), .ref xa, .ref ya, .int (nI n)])) (hx1 : f xa = some (eI cA lm gx)) (hy1 : f ya = some (eI cA lm gy)) (hlm : lm ≤ 12) (hi : i < lm) (hj : j < lm) (hk : k < lm) : Met l yX4_spread wsX4_spread ({ frames := 1, cells := 0, slots := 0, locals := 29 } : Room) (va_Pc [.ref a, .int (nI i), .int (nI j), .int (nI k)] (hB D cA f sz)) (va_Ql (fun r f1 => spC gx gy i j k = r ∧ f = f1) (hE D f sz) (hA f sz)) 0 0 (hA f sz) := by
  refine h_of (cc := cX4_spread) (maxL := 4) (ret := (some .long)) (by decide +kernel) rfl (Nat.le_of_ble_eq_true rfl) ?_
  intro p e s m below meth c ls C hr hlk hnm hw hl
  have hx := C.1.1
  have hb := C.1.2.1
  have hl : lv_has ls 4 [(0, .ref a), (1, .int (nI i)), (2, .int (nI j)), (3, .int (nI k))] := hl
  have lk0 : Cond.fieldLink RX4 13 "FallingLight$Points" "x" "[I" ∈ wsX4_spread := by decide +kernel
  have lk1 : ∀ w ∈ u_ws RX4 TX4 4, w ∈ wsX4_spread := by decide +kernel
  have lk2 : Cond.fieldLink RX4 17 "FallingLight$Points" "y" "[I" ∈ wsX4_spread := by decide +kernel
  refine lv_aload_n hx hb dX4_spread_0 rfl (lv_at hl 0 rfl) ?_
  refine lv_iload_n hx hb dX4_spread_1 rfl (lv_at hl 1 rfl) ?_
  refine lv_aload_n hx hb dX4_spread_2 rfl (lv_at hl 0 rfl) ?_
  refine h_get C hw bX4 h0 lk1 1 (by decide) lk0 (v := .ref xa) rfl dX4_spread_3 ?_
  refine lv_iload_n hx hb dX4_spread_6 rfl (lv_at hl 2 rfl) ?_
  refine h_iald1 C hw (v := gx j) hx1 rfl (show j < lm from (by omega)) (by first | omega | decide) dX4_spread_7 ?_
  refine lv_i2l hx hb dX4_spread_8 rfl ?_
  refine lv_aload_n hx hb dX4_spread_9 rfl (lv_at hl 0 rfl) ?_
  refine h_get C hw bX4 h0 lk1 2 (by decide) lk2 (v := .ref ya) rfl dX4_spread_10 ?_
  refine lv_iload_n hx hb dX4_spread_13 rfl (lv_at hl 2 rfl) ?_
  refine h_iald1 C hw (v := gy j) hy1 rfl (show j < lm from (by omega)) (by first | omega | decide) dX4_spread_14 ?_
  refine lv_i2l hx hb dX4_spread_15 rfl ?_
  refine lv_aload_n hx hb dX4_spread_16 rfl (lv_at hl 0 rfl) ?_
  refine h_get C hw bX4 h0 lk1 1 (by decide) lk0 (v := .ref xa) rfl dX4_spread_17 ?_
  refine lv_iload_n hx hb dX4_spread_20 rfl (lv_at hl 3 rfl) ?_
  refine h_iald1 C hw (v := gx k) hx1 rfl (show k < lm from (by omega)) (by first | omega | decide) dX4_spread_21 ?_
  refine lv_i2l hx hb dX4_spread_22 rfl ?_
  refine lv_aload_n hx hb dX4_spread_23 rfl (lv_at hl 0 rfl) ?_
  refine h_get C hw bX4 h0 lk1 2 (by decide) lk2 (v := .ref ya) rfl dX4_spread_24 ?_
  refine lv_iload_n hx hb dX4_spread_27 rfl (lv_at hl 3 rfl) ?_
  refine h_iald1 C hw (v := gy k) hy1 rfl (show k < lm from (by omega)) (by first | omega | decide) dX4_spread_28 ?_
  refine lv_i2l hx hb dX4_spread_29 rfl ?_
  refine h_calll hw (h_runV (n := 5) (As := [.int (nI i), .long ((gx j).toInt64), .long ((gy j).toInt64), .long ((gx k).toInt64), .long ((gy k).toInt64)]) (rest := []) C hw (c_X4_spreadFrom h0 hx1 hy1 (by omega) (by omega)) gX4_spread_X4_spreadFrom rfl rfl rfl (by decide +kernel) ⟨by decide, by decide⟩ bX4 h0 rfl hl.1 rfl (Nat.le_of_ble_eq_true rfl) dX4_spread_30 ⟨by first | decide | omega, by first | decide | omega⟩) (fun r1 f2 H locs hp hw => ?_)
  obtain ⟨rfl, rfl⟩ := hp
  exact h_lret C hr hlk hw (⟨rfl, rfl⟩) dX4_spread_33
set_option maxHeartbeats 4000000 in
set_option maxRecDepth 100000 in
theorem c_X4_add {l : Launch} {D : va_G} {cA : Nat → ClassId} {f : HF} {sz : Nat} {a xa ya n lm : Nat} {gx gy : Nat → Int32} {u v : Int32}  (h0 : f a = some (eO 4 [.int (nI lm), .ref xa, .ref ya, .int (nI n)])) (hx1 : f xa = some (eI cA lm gx)) (hy1 : f ya = some (eI cA lm gy)) (hlm : lm ≤ 12) (hn : n < lm) (hne : xa ≠ ya) : Met l yX4_add wsX4_add ({ frames := 0, cells := 0, slots := 0, locals := 0 } : Room) (va_Pc [.ref a, .int u, .int v] (hB D cA f sz)) (va_Qi (fun r f1 => nI n = r ∧ f1 = va_up (va_up (va_up f xa (some (eI cA lm (upd gx n u)))) ya (some (eI cA lm (upd gy n v)))) a (some (eO 4 [.int (nI lm), .ref xa, .ref ya, .int (nI (n + 1))]))) (hE D f sz) (hA f sz)) 0 0 (hA f sz) := by
  refine h_of (cc := cX4_add) (maxL := 3) (ret := (some .int)) (by decide +kernel) rfl (Nat.le_of_ble_eq_true rfl) ?_
  intro p e s m below meth c ls C hr hlk hnm hw hl
  have hx := C.1.1
  have hb := C.1.2.1
  have hl : lv_has ls 3 [(0, .ref a), (1, .int u), (2, .int v)] := hl
  have lk0 : Cond.fieldLink RX4 20 "FallingLight$Points" "size" "I" ∈ wsX4_add := by decide +kernel
  have lk1 : ∀ w ∈ u_ws RX4 TX4 4, w ∈ wsX4_add := by decide +kernel
  have lk2 : Cond.fieldLink RX4 7 "FallingLight$Points" "limit" "I" ∈ wsX4_add := by decide +kernel
  have lk3 : Cond.fieldLink RX4 13 "FallingLight$Points" "x" "[I" ∈ wsX4_add := by decide +kernel
  have lk4 : Cond.fieldLink RX4 17 "FallingLight$Points" "y" "[I" ∈ wsX4_add := by decide +kernel
  refine lv_aload_n hx hb dX4_add_0 rfl (lv_at hl 0 rfl) ?_
  refine h_get C hw bX4 h0 lk1 3 (by decide) lk0 (v := .int (nI n)) rfl dX4_add_1 ?_
  refine lv_aload_n hx hb dX4_add_4 rfl (lv_at hl 0 rfl) ?_
  refine h_get C hw bX4 h0 lk1 0 (by decide) lk2 (v := .int (nI lm)) rfl dX4_add_5 ?_
  refine n_clt C (by omega) (by omega) (tgt := 13) dX4_add_8 (by decide) (fun cq1 => ?_) (fun cq1 => ?_)
  · refine lv_aload_n hx hb dX4_add_13 rfl (lv_at hl 0 rfl) ?_
    refine h_get C hw bX4 h0 lk1 1 (by decide) lk3 (v := .ref xa) rfl dX4_add_14 ?_
    refine lv_aload_n hx hb dX4_add_17 rfl (lv_at hl 0 rfl) ?_
    refine h_get C hw bX4 h0 lk1 3 (by decide) lk0 (v := .int (nI n)) rfl dX4_add_18 ?_
    refine lv_iload_n hx hb dX4_add_21 rfl (lv_at hl 1 rfl) ?_
    refine h_iast1 C hw hx1 (show n < lm from (by omega)) (by first | omega | decide) dX4_add_22 (fun f2 H locs e3 hw => ?_)
    have k4 := up_o e3 (ne_kd h0 hx1 (Nat.ne_of_beq_eq_false rfl)) h0
    have k5 := up_o e3 (Ne.symm hne) hy1
    have k6 : f2 xa = some (eI cA lm (upd gx n u)) := up_s e3
    refine lv_aload_n hx hb dX4_add_23 rfl (lv_at hl 0 rfl) ?_
    refine h_get C hw bX4 k4 lk1 2 (by decide) lk4 (v := .ref ya) rfl dX4_add_24 ?_
    refine lv_aload_n hx hb dX4_add_27 rfl (lv_at hl 0 rfl) ?_
    refine h_get C hw bX4 k4 lk1 3 (by decide) lk0 (v := .int (nI n)) rfl dX4_add_28 ?_
    refine lv_iload_n hx hb dX4_add_31 rfl (lv_at hl 2 rfl) ?_
    refine h_iast1 C hw k5 (show n < lm from (by omega)) (by first | omega | decide) dX4_add_32 (fun f7 H locs e8 hw => ?_)
    have k9 := up_o e8 (ne_kd k4 k5 (Nat.ne_of_beq_eq_false rfl)) k4
    have k10 := up_o e8 hne k6
    have k11 : f7 ya = some (eI cA lm (upd gy n v)) := up_s e8
    refine lv_aload_n hx hb dX4_add_33 rfl (lv_at hl 0 rfl) ?_
    refine lv_dup hx hb dX4_add_34 rfl ?_
    refine h_get C hw bX4 k9 lk1 3 (by decide) lk0 (v := .int (nI n)) rfl dX4_add_35 ?_
    refine lv_iconst (v := nI 1) hx hb dX4_add_38 (by decide) ?_
    refine n_iadd C dX4_add_39 ?_
    refine h_put1 C hw bX4 k9 lk1 3 (by decide) lk0 rfl rfl rfl (Nat.le_of_ble_eq_true rfl) dX4_add_40 (fun f12 H locs e13 hw => ?_)
    have k14 := up_o e13 (ne_kd k10 k9 (Nat.ne_of_beq_eq_false rfl)) k10
    have k15 := up_o e13 (ne_kd k11 k9 (Nat.ne_of_beq_eq_false rfl)) k11
    have k16 : f12 a = some (eO 4 [.int (nI lm), .ref xa, .ref ya, .int (nI (n + 1))]) := up_s e13
    refine lv_aload_n hx hb dX4_add_43 rfl (lv_at hl 0 rfl) ?_
    refine h_get C hw bX4 k16 lk1 3 (by decide) lk0 (v := .int (nI (n + 1))) rfl dX4_add_44 ?_
    refine lv_iconst (v := nI 1) hx hb dX4_add_47 (by decide) ?_
    refine n_isub C (by omega) dX4_add_48 ?_
    exact h_iret C hr hlk hw (⟨by rw [Nat.add_sub_cancel], by rw [e13, e8, e3]; rfl⟩) dX4_add_49
  · exact absurd cq1 (Nat.not_le.mpr hn)
set_option maxHeartbeats 4000000 in
set_option maxRecDepth 100000 in
theorem c_X11_isOnPlate {l : Launch} {D : va_G} {cA : Nat → ClassId} {f : HF} {sz : Nat} {v : Int32}   : Met l yX11_isOnPlate wsX11_isOnPlate ({ frames := 0, cells := 0, slots := 0, locals := 0 } : Room) (va_Pc [.int v] (hB D cA f sz)) (va_Qi (fun r f1 => bI (rg (nI 0) (nI 199) v) = r ∧ f = f1) (hE D f sz) (hA f sz)) 0 0 (hA f sz) := by
  refine h_of (cc := cX11_isOnPlate) (maxL := 1) (ret := (some .boolean)) (by decide +kernel) rfl (Nat.le_of_ble_eq_true rfl) ?_
  intro p e s m below meth c ls C hr hlk hnm hw hl
  have hx := C.1.1
  have hb := C.1.2.1
  have hl : lv_has ls 1 [(0, .int v)] := hl
  refine lv_iload_n hx hb dX11_isOnPlate_0 rfl (lv_at hl 0 rfl) ?_
  refine lv_if_lt (tgt := 15) hx hb dX11_isOnPlate_1 (by decide) (fun cq1 => ?_) (fun cq1 => ?_)
  · refine lv_iconst (v := nI 0) hx hb dX11_isOnPlate_15 (by decide) ?_
    exact h_zret C hr (by first | rfl | decide) hlk hw (⟨bI_f (fun h9 => h9.1 cq1), rfl⟩) dX11_isOnPlate_16
  · refine lv_iload_n hx hb dX11_isOnPlate_4 rfl (lv_at hl 0 rfl) ?_
    refine lv_sipush (v := nI 199) hx hb dX11_isOnPlate_5 (by decide) ?_
    refine lv_icmp_gt (tgt := 15) hx hb dX11_isOnPlate_8 (by decide) (fun cq2 => ?_) (fun cq2 => ?_)
    · refine lv_iconst (v := nI 0) hx hb dX11_isOnPlate_15 (by decide) ?_
      exact h_zret C hr (by first | rfl | decide) hlk hw (⟨bI_f (fun h9 => h9.2 (cq2)), rfl⟩) dX11_isOnPlate_16
    · refine lv_iconst (v := nI 1) hx hb dX11_isOnPlate_11 (by decide) ?_
      refine lv_goto (tgt := 16) hx hb dX11_isOnPlate_12 (by decide) ?_
      exact h_zret C hr (by first | rfl | decide) hlk hw (⟨bI_t ⟨cq1, cq2⟩, rfl⟩) dX11_isOnPlate_16
set_option maxHeartbeats 4000000 in
set_option maxRecDepth 100000 in
theorem c_X11_isRow {l : Launch} {D : va_G} {cA : Nat → ClassId} {f : HF} {sz : Nat} {v : Int32}   : Met l yX11_isRow wsX11_isRow ({ frames := 0, cells := 0, slots := 0, locals := 0 } : Room) (va_Pc [.int v] (hB D cA f sz)) (va_Qi (fun r f1 => bI (rg (nI 0) (nI 1) v) = r ∧ f = f1) (hE D f sz) (hA f sz)) 0 0 (hA f sz) := by
  refine h_of (cc := cX11_isRow) (maxL := 1) (ret := (some .boolean)) (by decide +kernel) rfl (Nat.le_of_ble_eq_true rfl) ?_
  intro p e s m below meth c ls C hr hlk hnm hw hl
  have hx := C.1.1
  have hb := C.1.2.1
  have hl : lv_has ls 1 [(0, .int v)] := hl
  refine lv_iload_n hx hb dX11_isRow_0 rfl (lv_at hl 0 rfl) ?_
  refine lv_if_lt (tgt := 13) hx hb dX11_isRow_1 (by decide) (fun cq1 => ?_) (fun cq1 => ?_)
  · refine lv_iconst (v := nI 0) hx hb dX11_isRow_13 (by decide) ?_
    exact h_zret C hr (by first | rfl | decide) hlk hw (⟨bI_f (fun h9 => h9.1 cq1), rfl⟩) dX11_isRow_14
  · refine lv_iload_n hx hb dX11_isRow_4 rfl (lv_at hl 0 rfl) ?_
    refine lv_iconst (v := nI 2) hx hb dX11_isRow_5 (by decide) ?_
    refine lv_icmp_ge (tgt := 13) hx hb dX11_isRow_6 (by decide) (fun cq2 => ?_) (fun cq2 => ?_)
    · refine lv_iconst (v := nI 0) hx hb dX11_isRow_13 (by decide) ?_
      exact h_zret C hr (by first | rfl | decide) hlk hw (⟨bI_f (fun h9 => h9.2 ((ge_succ (by decide)).mp cq2)), rfl⟩) dX11_isRow_14
    · refine lv_iconst (v := nI 1) hx hb dX11_isRow_9 (by decide) ?_
      refine lv_goto (tgt := 14) hx hb dX11_isRow_10 (by decide) ?_
      exact h_zret C hr (by first | rfl | decide) hlk hw (⟨bI_t ⟨cq1, fun h9 => cq2 ((ge_succ (by decide)).mpr h9)⟩, rfl⟩) dX11_isRow_14
set_option maxHeartbeats 4000000 in
set_option maxRecDepth 100000 in
theorem c_X11_isStation {l : Launch} {D : va_G} {cA : Nat → ClassId} {f : HF} {sz : Nat} {v : Int32}   : Met l yX11_isStation wsX11_isStation ({ frames := 0, cells := 0, slots := 0, locals := 0 } : Room) (va_Pc [.int v] (hB D cA f sz)) (va_Qi (fun r f1 => bI (rg (nI 0) (nI 3) v) = r ∧ f = f1) (hE D f sz) (hA f sz)) 0 0 (hA f sz) := by
  refine h_of (cc := cX11_isStation) (maxL := 1) (ret := (some .boolean)) (by decide +kernel) rfl (Nat.le_of_ble_eq_true rfl) ?_
  intro p e s m below meth c ls C hr hlk hnm hw hl
  have hx := C.1.1
  have hb := C.1.2.1
  have hl : lv_has ls 1 [(0, .int v)] := hl
  refine lv_iload_n hx hb dX11_isStation_0 rfl (lv_at hl 0 rfl) ?_
  refine lv_if_lt (tgt := 13) hx hb dX11_isStation_1 (by decide) (fun cq1 => ?_) (fun cq1 => ?_)
  · refine lv_iconst (v := nI 0) hx hb dX11_isStation_13 (by decide) ?_
    exact h_zret C hr (by first | rfl | decide) hlk hw (⟨bI_f (fun h9 => h9.1 cq1), rfl⟩) dX11_isStation_14
  · refine lv_iload_n hx hb dX11_isStation_4 rfl (lv_at hl 0 rfl) ?_
    refine lv_iconst (v := nI 4) hx hb dX11_isStation_5 (by decide) ?_
    refine lv_icmp_ge (tgt := 13) hx hb dX11_isStation_6 (by decide) (fun cq2 => ?_) (fun cq2 => ?_)
    · refine lv_iconst (v := nI 0) hx hb dX11_isStation_13 (by decide) ?_
      exact h_zret C hr (by first | rfl | decide) hlk hw (⟨bI_f (fun h9 => h9.2 ((ge_succ (by decide)).mp cq2)), rfl⟩) dX11_isStation_14
    · refine lv_iconst (v := nI 1) hx hb dX11_isStation_9 (by decide) ?_
      refine lv_goto (tgt := 14) hx hb dX11_isStation_10 (by decide) ?_
      exact h_zret C hr (by first | rfl | decide) hlk hw (⟨bI_t ⟨cq1, fun h9 => cq2 ((ge_succ (by decide)).mpr h9)⟩, rfl⟩) dX11_isStation_14
set_option maxHeartbeats 4000000 in
set_option maxRecDepth 100000 in
theorem c_X11_isMeteor {l : Launch} {D : va_G} {cA : Nat → ClassId} {f : HF} {sz : Nat} {v : Int32}   : Met l yX11_isMeteor wsX11_isMeteor ({ frames := 0, cells := 0, slots := 0, locals := 0 } : Room) (va_Pc [.int v] (hB D cA f sz)) (va_Qi (fun r f1 => bI (rg (nI 0) (nI 5) v) = r ∧ f = f1) (hE D f sz) (hA f sz)) 0 0 (hA f sz) := by
  refine h_of (cc := cX11_isMeteor) (maxL := 1) (ret := (some .boolean)) (by decide +kernel) rfl (Nat.le_of_ble_eq_true rfl) ?_
  intro p e s m below meth c ls C hr hlk hnm hw hl
  have hx := C.1.1
  have hb := C.1.2.1
  have hl : lv_has ls 1 [(0, .int v)] := hl
  refine lv_iload_n hx hb dX11_isMeteor_0 rfl (lv_at hl 0 rfl) ?_
  refine lv_if_lt (tgt := 14) hx hb dX11_isMeteor_1 (by decide) (fun cq1 => ?_) (fun cq1 => ?_)
  · refine lv_iconst (v := nI 0) hx hb dX11_isMeteor_14 (by decide) ?_
    exact h_zret C hr (by first | rfl | decide) hlk hw (⟨bI_f (fun h9 => h9.1 cq1), rfl⟩) dX11_isMeteor_15
  · refine lv_iload_n hx hb dX11_isMeteor_4 rfl (lv_at hl 0 rfl) ?_
    refine lv_bipush (v := nI 6) hx hb dX11_isMeteor_5 (by decide) ?_
    refine lv_icmp_ge (tgt := 14) hx hb dX11_isMeteor_7 (by decide) (fun cq2 => ?_) (fun cq2 => ?_)
    · refine lv_iconst (v := nI 0) hx hb dX11_isMeteor_14 (by decide) ?_
      exact h_zret C hr (by first | rfl | decide) hlk hw (⟨bI_f (fun h9 => h9.2 ((ge_succ (by decide)).mp cq2)), rfl⟩) dX11_isMeteor_15
    · refine lv_iconst (v := nI 1) hx hb dX11_isMeteor_10 (by decide) ?_
      refine lv_goto (tgt := 15) hx hb dX11_isMeteor_11 (by decide) ?_
      exact h_zret C hr (by first | rfl | decide) hlk hw (⟨bI_t ⟨cq1, fun h9 => cq2 ((ge_succ (by decide)).mpr h9)⟩, rfl⟩) dX11_isMeteor_15
set_option maxHeartbeats 4000000 in
set_option maxRecDepth 100000 in
theorem c_X11_isKind {l : Launch} {D : va_G} {cA : Nat → ClassId} {f : HF} {sz : Nat} {v : Int32}   : Met l yX11_isKind wsX11_isKind ({ frames := 0, cells := 0, slots := 0, locals := 0 } : Room) (va_Pc [.int v] (hB D cA f sz)) (va_Qi (fun r f1 => bI (rg (nI 0) (nI 2) v) = r ∧ f = f1) (hE D f sz) (hA f sz)) 0 0 (hA f sz) := by
  refine h_of (cc := cX11_isKind) (maxL := 1) (ret := (some .boolean)) (by decide +kernel) rfl (Nat.le_of_ble_eq_true rfl) ?_
  intro p e s m below meth c ls C hr hlk hnm hw hl
  have hx := C.1.1
  have hb := C.1.2.1
  have hl : lv_has ls 1 [(0, .int v)] := hl
  refine lv_iload_n hx hb dX11_isKind_0 rfl (lv_at hl 0 rfl) ?_
  refine lv_if_lt (tgt := 13) hx hb dX11_isKind_1 (by decide) (fun cq1 => ?_) (fun cq1 => ?_)
  · refine lv_iconst (v := nI 0) hx hb dX11_isKind_13 (by decide) ?_
    exact h_zret C hr (by first | rfl | decide) hlk hw (⟨bI_f (fun h9 => h9.1 cq1), rfl⟩) dX11_isKind_14
  · refine lv_iload_n hx hb dX11_isKind_4 rfl (lv_at hl 0 rfl) ?_
    refine lv_iconst (v := nI 2) hx hb dX11_isKind_5 (by decide) ?_
    refine lv_icmp_gt (tgt := 13) hx hb dX11_isKind_6 (by decide) (fun cq2 => ?_) (fun cq2 => ?_)
    · refine lv_iconst (v := nI 0) hx hb dX11_isKind_13 (by decide) ?_
      exact h_zret C hr (by first | rfl | decide) hlk hw (⟨bI_f (fun h9 => h9.2 (cq2)), rfl⟩) dX11_isKind_14
    · refine lv_iconst (v := nI 1) hx hb dX11_isKind_9 (by decide) ?_
      refine lv_goto (tgt := 14) hx hb dX11_isKind_10 (by decide) ?_
      exact h_zret C hr (by first | rfl | decide) hlk hw (⟨bI_t ⟨cq1, cq2⟩, rfl⟩) dX11_isKind_14
set_option maxHeartbeats 4000000 in
set_option maxRecDepth 100000 in
theorem c_X11_isAxis {l : Launch} {D : va_G} {cA : Nat → ClassId} {f : HF} {sz : Nat} {v : Int32}   : Met l yX11_isAxis wsX11_isAxis ({ frames := 0, cells := 0, slots := 0, locals := 0 } : Room) (va_Pc [.int v] (hB D cA f sz)) (va_Qi (fun r f1 => bI (rg (nI 0) (nI 2) v) = r ∧ f = f1) (hE D f sz) (hA f sz)) 0 0 (hA f sz) := by
  refine h_of (cc := cX11_isAxis) (maxL := 1) (ret := (some .boolean)) (by decide +kernel) rfl (Nat.le_of_ble_eq_true rfl) ?_
  intro p e s m below meth c ls C hr hlk hnm hw hl
  have hx := C.1.1
  have hb := C.1.2.1
  have hl : lv_has ls 1 [(0, .int v)] := hl
  refine lv_iload_n hx hb dX11_isAxis_0 rfl (lv_at hl 0 rfl) ?_
  refine lv_if_lt (tgt := 13) hx hb dX11_isAxis_1 (by decide) (fun cq1 => ?_) (fun cq1 => ?_)
  · refine lv_iconst (v := nI 0) hx hb dX11_isAxis_13 (by decide) ?_
    exact h_zret C hr (by first | rfl | decide) hlk hw (⟨bI_f (fun h9 => h9.1 cq1), rfl⟩) dX11_isAxis_14
  · refine lv_iload_n hx hb dX11_isAxis_4 rfl (lv_at hl 0 rfl) ?_
    refine lv_iconst (v := nI 3) hx hb dX11_isAxis_5 (by decide) ?_
    refine lv_icmp_ge (tgt := 13) hx hb dX11_isAxis_6 (by decide) (fun cq2 => ?_) (fun cq2 => ?_)
    · refine lv_iconst (v := nI 0) hx hb dX11_isAxis_13 (by decide) ?_
      exact h_zret C hr (by first | rfl | decide) hlk hw (⟨bI_f (fun h9 => h9.2 ((ge_succ (by decide)).mp cq2)), rfl⟩) dX11_isAxis_14
    · refine lv_iconst (v := nI 1) hx hb dX11_isAxis_9 (by decide) ?_
      refine lv_goto (tgt := 14) hx hb dX11_isAxis_10 (by decide) ?_
      exact h_zret C hr (by first | rfl | decide) hlk hw (⟨bI_t ⟨cq1, fun h9 => cq2 ((ge_succ (by decide)).mpr h9)⟩, rfl⟩) dX11_isAxis_14
set_option maxHeartbeats 4000000 in
set_option maxRecDepth 100000 in
theorem c_X11_within {l : Launch} {D : va_G} {cA : Nat → ClassId} {f : HF} {sz : Nat} {v w lo : Int32}  (hlo : -w = lo) : Met l yX11_within wsX11_within ({ frames := 0, cells := 0, slots := 0, locals := 0 } : Room) (va_Pc [.int v, .int w] (hB D cA f sz)) (va_Qi (fun r f1 => bI (rg lo w v) = r ∧ f = f1) (hE D f sz) (hA f sz)) 0 0 (hA f sz) := by
  refine h_of (cc := cX11_within) (maxL := 2) (ret := (some .boolean)) (by decide +kernel) rfl (Nat.le_of_ble_eq_true rfl) ?_
  intro p e s m below meth c ls C hr hlk hnm hw hl
  have hx := C.1.1
  have hb := C.1.2.1
  have hl : lv_has ls 2 [(0, .int v), (1, .int w)] := hl
  refine lv_iload_n hx hb dX11_within_0 rfl (lv_at hl 0 rfl) ?_
  refine lv_iload_n hx hb dX11_within_1 rfl (lv_at hl 1 rfl) ?_
  refine lv_ineg hx hb dX11_within_2 ?_
  refine lv_icmp_lt (tgt := 15) hx hb dX11_within_3 (by decide) (fun cq1 => ?_) (fun cq1 => ?_)
  · refine lv_iconst (v := nI 0) hx hb dX11_within_15 (by decide) ?_
    exact h_zret C hr (by first | rfl | decide) hlk hw (⟨by subst hlo; exact bI_f (fun h9 => h9.1 cq1), rfl⟩) dX11_within_16
  · refine lv_iload_n hx hb dX11_within_6 rfl (lv_at hl 0 rfl) ?_
    refine lv_iload_n hx hb dX11_within_7 rfl (lv_at hl 1 rfl) ?_
    refine lv_icmp_gt (tgt := 15) hx hb dX11_within_8 (by decide) (fun cq2 => ?_) (fun cq2 => ?_)
    · refine lv_iconst (v := nI 0) hx hb dX11_within_15 (by decide) ?_
      exact h_zret C hr (by first | rfl | decide) hlk hw (⟨by subst hlo; exact bI_f (fun h9 => h9.2 cq2), rfl⟩) dX11_within_16
    · refine lv_iconst (v := nI 1) hx hb dX11_within_11 (by decide) ?_
      refine lv_goto (tgt := 16) hx hb dX11_within_12 (by decide) ?_
      exact h_zret C hr (by first | rfl | decide) hlk hw (⟨by subst hlo; exact bI_t ⟨cq1, cq2⟩, rfl⟩) dX11_within_16
