/-! ===== the class: the table (laid by program) ===== -/
theorem ptR.c0 {A : MA} {lm : Nat} {gx gy : Nat → Int32} (h : ptR A 0 lm gx gy) {i j k : Nat} (hi : i < lm) (hj : j < lm) (hk : k < lm) : crA A i j k = spC gx gy i j k := by
  have := h.cr hi hj hk
  rw [Nat.zero_add, Nat.zero_add, Nat.zero_add] at this
  exact this
theorem sky_eq {A : MA} {lm : Nat} {gx gy : Nat → Int32} (h : ptR A 0 lm gx gy) {a b c : Nat} (ha : a < lm) (hb : b < lm) (hc : c < lm) {u v : Int32} (hu : ib 199 u) (hv : ib 199 v) : sfC gx gy a u.toInt64 v.toInt64 (gx c).toInt64 (gy c).toInt64 = ctA A c a u v ∧ sfC gx gy a (gx b).toInt64 (gy b).toInt64 u.toInt64 v.toInt64 = ctA A a b u v ∧ crA A a b c = ctA A b c u v + ctA A c a u v + ctA A a b u v := by
  have hl := h.1
  have e2 : ∀ i j, i < lm → j < lm → (A 2 i - A 2 j).toInt64 = (A 2 i).toInt64 - (A 2 j).toInt64 := fun i j hi hj => ib_dif (h.2.2.1 i (by omega)) (h.2.2.1 j (by omega))
  have e3 : ∀ i j, i < lm → j < lm → (A 3 i - A 3 j).toInt64 = (A 3 i).toInt64 - (A 3 j).toInt64 := fun i j hi hj => ib_dif (h.2.2.2 i (by omega)) (h.2.2.2 j (by omega))
  have eu : ∀ j, j < lm → (u - A 2 j).toInt64 = u.toInt64 - (A 2 j).toInt64 := fun j hj => ib_dif hu (h.2.2.1 j (by omega))
  have ev : ∀ j, j < lm → (v - A 3 j).toInt64 = v.toInt64 - (A 3 j).toInt64 := fun j hj => ib_dif hv (h.2.2.2 j (by omega))
  have gxe : ∀ i, i < lm → gx i = A 2 i := fun i hi => by have := (h.2.1 i hi).1; rw [Nat.zero_add] at this; exact this
  have gye : ∀ i, i < lm → gy i = A 3 i := fun i hi => by have := (h.2.1 i hi).2; rw [Nat.zero_add] at this; exact this
  unfold sfC ctA crA
  rw [gxe a ha, gxe b hb, gxe c hc, gye a ha, gye b hb, gye c hc, e2 a c ha hc, e3 a c ha hc, e2 b a hb ha, e3 b a hb ha, e2 c b hc hb, e3 c b hc hb, e3 c a hc ha, e2 c a hc ha, eu a ha, eu b hb, eu c hc, ev a ha, ev b hb, ev c hc]
  generalize (A 2 a).toInt64 = xa
  generalize (A 2 b).toInt64 = xb
  generalize (A 2 c).toInt64 = xc
  generalize (A 3 a).toInt64 = ya
  generalize (A 3 b).toInt64 = yb
  generalize (A 3 c).toInt64 = yc
  generalize u.toInt64 = uu
  generalize v.toInt64 = ww
  refine ⟨?_, ?_, ?_⟩ <;> grind
theorem sky_s {X Y Z W p q r : Int64} (h : W = p + q + r) : X * W + (Y - X) * q + (Z - X) * r = p * X + q * Y + r * Z := by
  subst h
  grind
theorem mo_i {A : MA} {ns nt p : Nat} (h : (mA A ns nt p).isSome = true) : oI (mA A ns nt p) = nI (mo0 A ns nt p) ∧ mo0 A ns nt p < nt := by
  obtain ⟨b, hb⟩ := Option.isSome_iff_exists.mp h
  unfold mo0
  rw [hb]
  exact ⟨rfl, mt_lt hb⟩
def yK (e : Int32) : Nat := if e = 0 then 2 else 3
theorem pn48 {A : MA} (hpx : ∀ j, j < 22 → ib 199 (A 2 j)) (hpy : ∀ j, j < 22 → ib 199 (A 3 j)) {a b d m0 m1 m2 k : Nat} {u v : Int32} (hk : k = 2 ∨ k = 3) (ha : a < 22) (hb : b < 22) (hd : d < 22) (h0 : m0 < 22) (h1 : m1 < 22) (h2 : m2 < 22) (hu : ib 199 u) (hv : ib 199 v) : lA (ctA A b d u v * (A k m0).toInt64 + ctA A d a u v * (A k m1).toInt64 + ctA A a b u v * (A k m2).toInt64) < 2 ^ 48 := by
  have hi : ∀ j, j < 22 → lA (A k j).toInt64 ≤ 199 := fun j hj => by
    rcases hk with rfl | rfl
    · exact ib_l (hpx j hj)
    · exact ib_l (hpy j hj)
  exact Nat.lt_of_le_of_lt (bd_add (bd_add (bd_mul (ct_bd hpx hpy hb hd hu hv) (hi m0 h0) (by decide)).2 (bd_mul (ct_bd hpx hpy hd ha hu hv) (hi m1 h1) (by decide)).2 (by decide)).2 (bd_mul (ct_bd hpx hpy ha hb hu hv) (hi m2 h2) (by decide)).2 (by decide)).2 (by decide)
set_option maxHeartbeats 4000000 in
set_option maxRecDepth 100000 in
theorem c_X1_partnered {l : Launch} {D : va_G} {cA : Nat → ClassId} {f : HF} {sz : Nat} {ad : Nat → Nat} {K : KK} {G : GG} {A : MA} {ns nt : Nat}  (hc : co cA ad K G f) (hKs : K 2 0 = nI ns) (hKt : K 1 0 = nI nt) (hM : ∀ p, p < ns → K 19 p = oI (mA A ns nt p)) (hns2 : ns ≤ 10) (hnt2 : nt ≤ 12) : Met l yX1_partnered wsX1_partnered ({ frames := 0, cells := 0, slots := 0, locals := 0 } : Room) (va_Pc [.ref (ad 3)] (hB D cA f sz)) (va_Qi (fun r f1 => nI (cM A ns nt ns) = r ∧ f = f1) (hE D f sz) (hA f sz)) 0 0 (hA f sz) := by
  refine h_of (cc := cX1_partnered) (maxL := 3) (ret := (some .int)) (by decide +kernel) rfl (Nat.le_of_ble_eq_true rfl) ?_
  intro p e s m below meth c ls C hr hlk hnm hw hl
  have hx := C.1.1
  have hb := C.1.2.1
  have hl : lv_has ls 3 [(0, .ref (ad 3))] := hl
  have lk0 : Cond.fieldLink RX1 9 "FallingLight$Matching" "spots" "LFallingLight$Points;" ∈ wsX1_partnered := by decide +kernel
  have lk1 : ∀ w ∈ u_ws RX1 TX1 10, w ∈ wsX1_partnered := by decide +kernel
  have lk2 : Cond.fieldLink RX1 60 "FallingLight$Points" "size" "I" ∈ wsX1_partnered := by decide +kernel
  have lk3 : ∀ w ∈ u_ws RX4 TX4 4, w ∈ wsX1_partnered := by decide +kernel
  have lk4 : Cond.fieldLink RX1 35 "FallingLight$Matching" "partners" "[I" ∈ wsX1_partnered := by decide +kernel
  refine lv_iconst (v := nI 0) hx hb dX1_partnered_0 (by decide) ?_
  refine lv_istore_n (lv' := [(1, _), (0, _)]) hx hb dX1_partnered_1 rfl hl (by decide) rfl (fun ls hl => ?_)
  refine lv_iconst (v := nI 0) hx hb dX1_partnered_2 (by decide) ?_
  refine lv_istore_n (lv' := [(2, _), (1, _), (0, _)]) hx hb dX1_partnered_3 rfl hl (by decide) rfl (fun ls hl => ?_)
  have lp4 : ∀ (n : Nat) (k : Nat) (H1 : Heap) (locs1 : List Loc) (ls1 : Array Slot), hW D (hA f sz) s.heap f H1 locs1 → lv_has ls1 3 [(0, .ref (ad 3)), (1, .int (nI (cM A ns nt k))), (2, .int (nI k))] → (k ≤ ns) → ns - k < n → W p l e ({ frames := 0, cells := 0, slots := 0, locals := 0 } : Room) s m ([.ref (ad 3)]).toArray below meth c H1 locs1 0 0 (MQ below (va_Qi (fun r f1 => nI (cM A ns nt ns) = r ∧ f = f1) (hE D f sz) (hA f sz)) ([.ref (ad 3)]).toArray s 0 0 (hA f sz)) (F0 m 4 ls1 []) := by
    intro n
    induction n with
    | zero => intros; omega
    | succ n ih4 =>
      intro k H locs ls hw hl hk hmu
      refine lv_iload_n hx hb dX1_partnered_4 rfl (lv_at hl 2 rfl) ?_
      refine lv_aload_n hx hb dX1_partnered_5 rfl (lv_at hl 0 rfl) ?_
      refine h_get C hw bX1 (co.a3 hc) lk1 0 (by decide) lk0 (v := .ref (ad 2)) rfl dX1_partnered_6 ?_
      refine h_get C hw bX4 (co.a2 hc) lk3 3 (by decide) lk2 (v := .int (nI ns)) (congrArg (fun z => some (Value.int z)) hKs) dX1_partnered_9 ?_
      refine n_cge C (by omega) (by omega) (tgt := 33) dX1_partnered_12 (by decide) (fun cq1 => ?_) (fun cq1 => ?_)
      · have hk9 : k = ns := by omega
        refine lv_iload_n hx hb dX1_partnered_33 rfl (lv_at hl 1 rfl) ?_
        exact h_iret C hr hlk hw (⟨by rw [hk9], rfl⟩) dX1_partnered_34
      · refine lv_aload_n hx hb dX1_partnered_15 rfl (lv_at hl 0 rfl) ?_
        refine h_get C hw bX1 (co.a3 hc) lk1 5 (by decide) lk4 (v := .ref (ad 19)) rfl dX1_partnered_16 ?_
        refine lv_iload_n hx hb dX1_partnered_19 rfl (lv_at hl 2 rfl) ?_
        refine h_iald1 C hw (v := oI (mA A ns nt k)) (co.a19 hc) (hM k (by omega)) (show k < 10 from (by omega)) (by first | omega | decide) dX1_partnered_20 ?_
        refine lv_if_lt (tgt := 27) hx hb dX1_partnered_21 (by decide) (fun cq2 => ?_) (fun cq2 => ?_)
        · have hbb := oI_lt (fun b h9 => by have := mt_lt h9; omega) cq2
          rw [show cM A ns nt k = cM A ns nt (k + 1) from (cM_n hbb).symm] at hl
          refine n_iinc C (lv' := [(2, _), (0, _), (1, _)]) dX1_partnered_27 hl (k := 2) rfl (by decide) rfl (fun ls hl => ?_)
          refine lv_goto (tgt := 4) hx hb dX1_partnered_30 (by decide) ?_
          exact ih4 (k + 1) _ _ _ hw (lv_sub hl [1, 2, 0] rfl) (by omega) (by omega)
        · obtain ⟨b, hbb, hbI⟩ := oI_nn cq2
          refine n_iinc C (lv' := [(1, _), (0, _), (2, _)]) dX1_partnered_24 hl (k := 1) rfl (by decide) rfl (fun ls hl => ?_)
          rw [← cM_s hbb] at hl
          refine n_iinc C (lv' := [(2, _), (1, _), (0, _)]) dX1_partnered_27 hl (k := 2) rfl (by decide) rfl (fun ls hl => ?_)
          refine lv_goto (tgt := 4) hx hb dX1_partnered_30 (by decide) ?_
          exact ih4 (k + 1) _ _ _ hw (lv_sub hl [2, 1, 0] rfl) (by omega) (by omega)
  exact lp4 _ 0 _ _ _ hw (lv_sub hl [2, 1, 0] rfl) (by omega) (Nat.lt_succ_self _)
set_option maxHeartbeats 4000000 in
set_option maxRecDepth 100000 in
theorem c_X1_isBase {l : Launch} {D : va_G} {cA : Nat → ClassId} {f : HF} {sz : Nat} {ad : Nat → Nat} {K : KK} {G : GG} {A : MA} {ns nt a1 b1 d1 : Nat}  (hc : co cA ad K G f) (hKs : K 2 0 = nI ns) (hKt : K 1 0 = nI nt) (hM : ∀ p, p < ns → K 19 p = oI (mA A ns nt p)) (hns2 : ns ≤ 10) (hnt2 : nt ≤ 12) (hP : pts K A) (hpx : ∀ j, j < 22 → ib 199 (A 2 j)) (hpy : ∀ j, j < 22 → ib 199 (A 3 j)) (ha1 : a1 < ns) (hb9 : b1 < ns) (hd1 : d1 < ns) : Met l yX1_isBase wsX1_isBase ({ frames := 2, cells := 0, slots := 0, locals := 52 } : Room) (va_Pc [.ref (ad 3), .int (nI a1), .int (nI b1), .int (nI d1)] (hB D cA f sz)) (va_Qi (fun r f1 => bI (tkA A ns nt a1 b1 d1) = r ∧ f = f1) (hE D f sz) (hA f sz)) 0 0 (hA f sz) := by
  refine h_of (cc := cX1_isBase) (maxL := 4) (ret := (some .boolean)) (by decide +kernel) rfl (Nat.le_of_ble_eq_true rfl) ?_
  intro p e s m below meth c ls C hr hlk hnm hw hl
  have hx := C.1.1
  have hb := C.1.2.1
  have hl : lv_has ls 4 [(0, .ref (ad 3)), (1, .int (nI a1)), (2, .int (nI b1)), (3, .int (nI d1))] := hl
  have lk0 : Cond.fieldLink RX1 35 "FallingLight$Matching" "partners" "[I" ∈ wsX1_isBase := by decide +kernel
  have lk1 : ∀ w ∈ u_ws RX1 TX1 10, w ∈ wsX1_isBase := by decide +kernel
  have lk2 : Cond.fieldLink RX1 9 "FallingLight$Matching" "spots" "LFallingLight$Points;" ∈ wsX1_isBase := by decide +kernel
  refine lv_aload_n hx hb dX1_isBase_0 rfl (lv_at hl 0 rfl) ?_
  refine h_get C hw bX1 (co.a3 hc) lk1 5 (by decide) lk0 (v := .ref (ad 19)) rfl dX1_isBase_1 ?_
  refine lv_iload_n hx hb dX1_isBase_4 rfl (lv_at hl 1 rfl) ?_
  refine h_iald1 C hw (v := oI (mA A ns nt a1)) (co.a19 hc) (hM a1 (by omega)) (show a1 < 10 from (by omega)) (by first | omega | decide) dX1_isBase_5 ?_
  refine lv_if_lt (tgt := 46) hx hb dX1_isBase_6 (by decide) (fun cq1 => ?_) (fun cq1 => ?_)
  · have hb1 := oI_lt (fun b h9 => by have := mt_lt h9; omega) cq1
    refine lv_iconst (v := nI 0) hx hb dX1_isBase_46 (by decide) ?_
    exact h_zret C hr (by first | rfl | decide) hlk hw (⟨bI_f (fun h9 => is_n hb1 h9.1), rfl⟩) dX1_isBase_47
  · obtain ⟨m1, hb1, hbI1⟩ := oI_nn cq1
    refine lv_aload_n hx hb dX1_isBase_9 rfl (lv_at hl 0 rfl) ?_
    refine h_get C hw bX1 (co.a3 hc) lk1 5 (by decide) lk0 (v := .ref (ad 19)) rfl dX1_isBase_10 ?_
    refine lv_iload_n hx hb dX1_isBase_13 rfl (lv_at hl 2 rfl) ?_
    refine h_iald1 C hw (v := oI (mA A ns nt b1)) (co.a19 hc) (hM b1 (by omega)) (show b1 < 10 from (by omega)) (by first | omega | decide) dX1_isBase_14 ?_
    refine lv_if_lt (tgt := 46) hx hb dX1_isBase_15 (by decide) (fun cq2 => ?_) (fun cq2 => ?_)
    · have hb2 := oI_lt (fun b h9 => by have := mt_lt h9; omega) cq2
      refine lv_iconst (v := nI 0) hx hb dX1_isBase_46 (by decide) ?_
      exact h_zret C hr (by first | rfl | decide) hlk hw (⟨bI_f (fun h9 => is_n hb2 h9.2.1), rfl⟩) dX1_isBase_47
    · obtain ⟨m2, hb2, hbI2⟩ := oI_nn cq2
      refine lv_aload_n hx hb dX1_isBase_18 rfl (lv_at hl 0 rfl) ?_
      refine h_get C hw bX1 (co.a3 hc) lk1 5 (by decide) lk0 (v := .ref (ad 19)) rfl dX1_isBase_19 ?_
      refine lv_iload_n hx hb dX1_isBase_22 rfl (lv_at hl 3 rfl) ?_
      refine h_iald1 C hw (v := oI (mA A ns nt d1)) (co.a19 hc) (hM d1 (by omega)) (show d1 < 10 from (by omega)) (by first | omega | decide) dX1_isBase_23 ?_
      refine lv_if_lt (tgt := 46) hx hb dX1_isBase_24 (by decide) (fun cq3 => ?_) (fun cq3 => ?_)
      · have hb3 := oI_lt (fun b h9 => by have := mt_lt h9; omega) cq3
        refine lv_iconst (v := nI 0) hx hb dX1_isBase_46 (by decide) ?_
        exact h_zret C hr (by first | rfl | decide) hlk hw (⟨bI_f (fun h9 => is_n hb3 h9.2.2.1), rfl⟩) dX1_isBase_47
      · obtain ⟨m3, hb3, hbI3⟩ := oI_nn cq3
        refine lv_aload_n hx hb dX1_isBase_27 rfl (lv_at hl 0 rfl) ?_
        refine h_get C hw bX1 (co.a3 hc) lk1 0 (by decide) lk2 (v := .ref (ad 2)) rfl dX1_isBase_28 ?_
        refine lv_iload_n hx hb dX1_isBase_31 rfl (lv_at hl 1 rfl) ?_
        refine lv_iload_n hx hb dX1_isBase_32 rfl (lv_at hl 2 rfl) ?_
        refine lv_iload_n hx hb dX1_isBase_33 rfl (lv_at hl 3 rfl) ?_
        refine h_calll hw (h_runV (n := 3) (As := [.int (nI a1), .int (nI b1), .int (nI d1)]) (rest := []) C hw (c_X4_spread ((co.a2 hc).trans (by rw [hKs])) (co.a14 hc) (co.a15 hc) (by decide) (by omega) (by omega) (by omega)) gX1_isBase_X4_spread rfl rfl rfl (by decide +kernel) ⟨by decide, by decide⟩ bX4 (co.a2 hc) rfl hl.1 rfl (Nat.le_of_ble_eq_true rfl) dX1_isBase_34 ⟨by first | decide | omega | (dsimp only; omega), by first | decide | omega | (dsimp only; omega)⟩) (fun r4 f5 H locs hp hw => ?_)
        obtain ⟨rfl, rfl⟩ := hp
        refine W.eq (g2 := F0 m 37 ls [.long (crA A a1 b1 d1)]) (by rw [(hP.sp hpx hpy).c0 (show a1 < 10 by omega) (show b1 < 10 by omega) (show d1 < 10 by omega)]) ?_
        refine lv_lconst (v := 0) hx hb dX1_isBase_37 (by decide) ?_
        refine W.lcmp hx hb dX1_isBase_38 ?_
        refine l_ifeq C (tgt := 46) dX1_isBase_39 (by decide) (fun cq6 => ?_) (fun cq6 => ?_)
        · refine lv_iconst (v := nI 0) hx hb dX1_isBase_46 (by decide) ?_
          exact h_zret C hr (by first | rfl | decide) hlk hw (⟨bI_f (fun h9 => h9.2.2.2 cq6), rfl⟩) dX1_isBase_47
        · refine lv_iconst (v := nI 1) hx hb dX1_isBase_42 (by decide) ?_
          refine lv_goto (tgt := 47) hx hb dX1_isBase_43 (by decide) ?_
          exact h_zret C hr (by first | rfl | decide) hlk hw (⟨bI_t ⟨is_s hb1, is_s hb2, is_s hb3, cq6⟩, rfl⟩) dX1_isBase_47
set_option maxHeartbeats 4000000 in
set_option maxRecDepth 100000 in
theorem c_X1_findBase {l : Launch} {D : va_G} {cA : Nat → ClassId} {f : HF} {sz : Nat} {ad : Nat → Nat} {K : KK} {G : GG} {A : MA} {ns nt : Nat}  (hc : co cA ad K G f) (hKs : K 2 0 = nI ns) (hKt : K 1 0 = nI nt) (hM : ∀ p, p < ns → K 19 p = oI (mA A ns nt p)) (hns2 : ns ≤ 10) (hnt2 : nt ≤ 12) (hP : pts K A) (hpx : ∀ j, j < 22 → ib 199 (A 2 j)) (hpy : ∀ j, j < 22 → ib 199 (A 3 j)) : Met l yX1_findBase wsX1_findBase ({ frames := 3, cells := 0, slots := 0, locals := 75 } : Room) (va_Pc [.ref (ad 3)] (hB D cA f sz)) (va_Qi (fun r f1 => bI ((tbA A ns nt).isSome = true) = r ∧ ∃ K1, co cA ad K1 G f1 ∧ kp f f1 ∧ (∀ j, j ≠ 20 → K1 j = K j) ∧ ∀ t, tbA A ns nt = some t → K1 20 0 = nI t.1 ∧ K1 20 1 = nI t.2.1 ∧ K1 20 2 = nI t.2.2) (hE D f sz) (hA f sz)) 0 0 (hA f sz) := by
  refine h_of (cc := cX1_findBase) (maxL := 4) (ret := (some .boolean)) (by decide +kernel) rfl (Nat.le_of_ble_eq_true rfl) ?_
  intro p e s m below meth c ls C hr hlk hnm hw hl
  have hx := C.1.1
  have hb := C.1.2.1
  have hl : lv_has ls 4 [(0, .ref (ad 3))] := hl
  have lk0 : Cond.fieldLink RX1 9 "FallingLight$Matching" "spots" "LFallingLight$Points;" ∈ wsX1_findBase := by decide +kernel
  have lk1 : ∀ w ∈ u_ws RX1 TX1 10, w ∈ wsX1_findBase := by decide +kernel
  have lk2 : Cond.fieldLink RX1 60 "FallingLight$Points" "size" "I" ∈ wsX1_findBase := by decide +kernel
  have lk3 : ∀ w ∈ u_ws RX4 TX4 4, w ∈ wsX1_findBase := by decide +kernel
  have lk4 : Cond.fieldLink RX1 39 "FallingLight$Matching" "base" "[I" ∈ wsX1_findBase := by decide +kernel
  refine lv_iconst (v := nI 0) hx hb dX1_findBase_0 (by decide) ?_
  refine lv_istore_n (lv' := [(1, _), (0, _)]) hx hb dX1_findBase_1 rfl hl (by decide) rfl (fun ls hl => ?_)
  have lp2 : ∀ (n : Nat) (a : Nat) (H1 : Heap) (locs1 : List Loc) (ls1 : Array Slot), hW D (hA f sz) s.heap f H1 locs1 → lv_has ls1 4 [(0, .ref (ad 3)), (1, .int (nI a))] → (a ≤ ns) → (tAA A ns nt a = tbA A ns nt) → ns - a < n → W p l e ({ frames := 3, cells := 0, slots := 0, locals := 75 } : Room) s m ([.ref (ad 3)]).toArray below meth c H1 locs1 0 0 (MQ below (va_Qi (fun r f1 => bI ((tbA A ns nt).isSome = true) = r ∧ ∃ K1, co cA ad K1 G f1 ∧ kp f f1 ∧ (∀ j, j ≠ 20 → K1 j = K j) ∧ ∀ t, tbA A ns nt = some t → K1 20 0 = nI t.1 ∧ K1 20 1 = nI t.2.1 ∧ K1 20 2 = nI t.2.2) (hE D f sz) (hA f sz)) ([.ref (ad 3)]).toArray s 0 0 (hA f sz)) (F0 m 2 ls1 []) := by
    intro n
    induction n with
    | zero => intros; omega
    | succ n ih2 =>
      intro a H locs ls hw hl hale htot hmu
      refine lv_iload_n hx hb dX1_findBase_2 rfl (lv_at hl 1 rfl) ?_
      refine lv_aload_n hx hb dX1_findBase_3 rfl (lv_at hl 0 rfl) ?_
      refine h_get C hw bX1 (co.a3 hc) lk1 0 (by decide) lk0 (v := .ref (ad 2)) rfl dX1_findBase_4 ?_
      refine h_get C hw bX4 (co.a2 hc) lk3 3 (by decide) lk2 (v := .int (nI ns)) (congrArg (fun z => some (Value.int z)) hKs) dX1_findBase_7 ?_
      refine n_cge C (by omega) (by omega) (tgt := 94) dX1_findBase_10 (by decide) (fun cq1 => ?_) (fun cq1 => ?_)
      · refine lv_iconst (v := nI 0) hx hb dX1_findBase_94 (by decide) ?_
        exact h_zret C hr (by first | rfl | decide) hlk hw (by rw [tA_e (show ns ≤ a by omega)] at htot; exact ⟨bI_f (is_n htot.symm), K, hc, kp.rf _, fun _ _ => rfl, fun t ht => by rw [← htot] at ht; cases ht⟩) dX1_findBase_95
      · refine lv_iload_n hx hb dX1_findBase_13 rfl (lv_at hl 1 rfl) ?_
        refine lv_iconst (v := nI 1) hx hb dX1_findBase_14 (by decide) ?_
        refine n_iadd C dX1_findBase_15 ?_
        refine lv_istore_n (lv' := [(2, _), (0, _), (1, _)]) hx hb dX1_findBase_16 rfl hl (by decide) rfl (fun ls hl => ?_)
        have lp17 : ∀ (n : Nat) (b : Nat) (H1 : Heap) (locs1 : List Loc) (ls1 : Array Slot), hW D (hA f sz) s.heap f H1 locs1 → lv_has ls1 4 [(0, .ref (ad 3)), (1, .int (nI a)), (2, .int (nI b))] → (b ≤ ns) → (a < ns) → (orE (tB A ns nt a b) (tAA A ns nt (a + 1)) = tbA A ns nt) → ns - b < n → W p l e ({ frames := 3, cells := 0, slots := 0, locals := 75 } : Room) s m ([.ref (ad 3)]).toArray below meth c H1 locs1 0 0 (MQ below (va_Qi (fun r f1 => bI ((tbA A ns nt).isSome = true) = r ∧ ∃ K1, co cA ad K1 G f1 ∧ kp f f1 ∧ (∀ j, j ≠ 20 → K1 j = K j) ∧ ∀ t, tbA A ns nt = some t → K1 20 0 = nI t.1 ∧ K1 20 1 = nI t.2.1 ∧ K1 20 2 = nI t.2.2) (hE D f sz) (hA f sz)) ([.ref (ad 3)]).toArray s 0 0 (hA f sz)) (F0 m 17 ls1 []) := by
          intro n
          induction n with
          | zero => intros; omega
          | succ n ih17 =>
            intro b H locs ls hw hl hble ha3 htot hmu
            refine lv_iload_n hx hb dX1_findBase_17 rfl (lv_at hl 2 rfl) ?_
            refine lv_aload_n hx hb dX1_findBase_18 rfl (lv_at hl 0 rfl) ?_
            refine h_get C hw bX1 (co.a3 hc) lk1 0 (by decide) lk0 (v := .ref (ad 2)) rfl dX1_findBase_19 ?_
            refine h_get C hw bX4 (co.a2 hc) lk3 3 (by decide) lk2 (v := .int (nI ns)) (congrArg (fun z => some (Value.int z)) hKs) dX1_findBase_22 ?_
            refine n_cge C (by omega) (by omega) (tgt := 88) dX1_findBase_25 (by decide) (fun cq2 => ?_) (fun cq2 => ?_)
            · refine n_iinc C (lv' := [(1, _), (0, _), (2, _)]) dX1_findBase_88 hl (k := 1) rfl (by decide) rfl (fun ls hl => ?_)
              refine lv_goto (tgt := 2) hx hb dX1_findBase_91 (by decide) ?_
              exact ih2 (a + 1) _ _ _ hw (lv_sub hl [1, 0] rfl) (by omega) (by rw [tB_e (show ns ≤ b by omega), orE_n] at htot; exact htot) (by omega)
            · refine lv_iload_n hx hb dX1_findBase_28 rfl (lv_at hl 2 rfl) ?_
              refine lv_iconst (v := nI 1) hx hb dX1_findBase_29 (by decide) ?_
              refine n_iadd C dX1_findBase_30 ?_
              refine lv_istore_n (lv' := [(3, _), (0, _), (1, _), (2, _)]) hx hb dX1_findBase_31 rfl hl (by decide) rfl (fun ls hl => ?_)
              have lp32 : ∀ (n : Nat) (d : Nat) (H1 : Heap) (locs1 : List Loc) (ls1 : Array Slot), hW D (hA f sz) s.heap f H1 locs1 → lv_has ls1 4 [(0, .ref (ad 3)), (1, .int (nI a)), (2, .int (nI b)), (3, .int (nI d))] → (d ≤ ns) → (a < ns) → (b < ns) → (orE (tC A ns nt a b d) (orE (tB A ns nt a (b + 1)) (tAA A ns nt (a + 1))) = tbA A ns nt) → ns - d < n → W p l e ({ frames := 3, cells := 0, slots := 0, locals := 75 } : Room) s m ([.ref (ad 3)]).toArray below meth c H1 locs1 0 0 (MQ below (va_Qi (fun r f1 => bI ((tbA A ns nt).isSome = true) = r ∧ ∃ K1, co cA ad K1 G f1 ∧ kp f f1 ∧ (∀ j, j ≠ 20 → K1 j = K j) ∧ ∀ t, tbA A ns nt = some t → K1 20 0 = nI t.1 ∧ K1 20 1 = nI t.2.1 ∧ K1 20 2 = nI t.2.2) (hE D f sz) (hA f sz)) ([.ref (ad 3)]).toArray s 0 0 (hA f sz)) (F0 m 32 ls1 []) := by
                intro n
                induction n with
                | zero => intros; omega
                | succ n ih32 =>
                  intro d H locs ls hw hl hdle ha3 hb9 htot hmu
                  refine lv_iload_n hx hb dX1_findBase_32 rfl (lv_at hl 3 rfl) ?_
                  refine lv_aload_n hx hb dX1_findBase_33 rfl (lv_at hl 0 rfl) ?_
                  refine h_get C hw bX1 (co.a3 hc) lk1 0 (by decide) lk0 (v := .ref (ad 2)) rfl dX1_findBase_34 ?_
                  refine h_get C hw bX4 (co.a2 hc) lk3 3 (by decide) lk2 (v := .int (nI ns)) (congrArg (fun z => some (Value.int z)) hKs) dX1_findBase_37 ?_
                  refine n_cge C (by omega) (by omega) (tgt := 82) dX1_findBase_40 (by decide) (fun cq3 => ?_) (fun cq3 => ?_)
                  · refine n_iinc C (lv' := [(2, _), (0, _), (1, _), (3, _)]) dX1_findBase_82 hl (k := 2) rfl (by decide) rfl (fun ls hl => ?_)
                    refine lv_goto (tgt := 17) hx hb dX1_findBase_85 (by decide) ?_
                    exact ih17 (b + 1) _ _ _ hw (lv_sub hl [1, 2, 0] rfl) (by omega) ha3 (by rw [tC_e (show ns ≤ d by omega), orE_n] at htot; exact htot) (by omega)
                  · refine lv_aload_n hx hb dX1_findBase_43 rfl (lv_at hl 0 rfl) ?_
                    refine lv_iload_n hx hb dX1_findBase_44 rfl (lv_at hl 1 rfl) ?_
                    refine lv_iload_n hx hb dX1_findBase_45 rfl (lv_at hl 2 rfl) ?_
                    refine lv_iload_n hx hb dX1_findBase_46 rfl (lv_at hl 3 rfl) ?_
                    refine h_calli hw (h_runV (n := 3) (As := [.int (nI a), .int (nI b), .int (nI d)]) (rest := []) C hw (c_X1_isBase hc hKs hKt hM hns2 hnt2 hP hpx hpy (by omega) (by omega) (by omega)) gX1_findBase_X1_isBase rfl rfl rfl (by decide +kernel) ⟨by decide, by decide⟩ bX1 (co.a3 hc) rfl hl.1 rfl (Nat.le_of_ble_eq_true rfl) dX1_findBase_47 ⟨by first | decide | omega | (dsimp only; omega), by first | decide | omega | (dsimp only; omega)⟩) (fun r4 f5 H locs hp hw => ?_)
                    obtain ⟨rfl, rfl⟩ := hp
                    refine n_ifeqB C (tgt := 76) dX1_findBase_50 (by decide) (fun cq6 => ?_) (fun cq6 => ?_)
                    · refine n_iinc C (lv' := [(3, _), (0, _), (1, _), (2, _)]) dX1_findBase_76 hl (k := 3) rfl (by decide) rfl (fun ls hl => ?_)
                      refine lv_goto (tgt := 32) hx hb dX1_findBase_79 (by decide) ?_
                      exact ih32 (d + 1) _ _ _ hw (lv_sub hl [1, 2, 3, 0] rfl) (by omega) ha3 hb9 (by rw [tC_s (show d < ns by omega), t1_n cq6, orE_n] at htot; exact htot) (by omega)
                    · refine lv_aload_n hx hb dX1_findBase_53 rfl (lv_at hl 0 rfl) ?_
                      refine h_get C hw bX1 (co.a3 hc) lk1 6 (by decide) lk4 (v := .ref (ad 20)) rfl dX1_findBase_54 ?_
                      refine lv_iconst (v := nI 0) hx hb dX1_findBase_57 (by decide) ?_
                      refine lv_iload_n hx hb dX1_findBase_58 rfl (lv_at hl 1 rfl) ?_
                      refine h_iast1 C hw (co.a20 hc) (show 0 < 3 from (by omega)) (by first | omega | decide) dX1_findBase_59 (fun f7 H locs e8 hw => ?_)
                      obtain ⟨K9, eK10, hc2⟩ := hc.upK 20 (κ := upd (K 20) 0 (nI a)) (e := eI cA 3 (upd (K 20) 0 (nI a))) (by omega) rfl
                      have hc3 := hc
                      have hc := hc2.of e8
                      have kpK9 := kp_up hc3 20 (by omega) e8
                      have kfK9 := kp.tr (kp_le (hle.rf f)) kpK9
                      have kn11 : K9 1 0 = nI nt := by rw [eK10, va_up_ne _ _ (by first | decide | omega)]; exact hKt
                      have kn12 : K9 2 0 = nI ns := by rw [eK10, va_up_ne _ _ (by first | decide | omega)]; exact hKs
                      refine lv_aload_n hx hb dX1_findBase_60 rfl (lv_at hl 0 rfl) ?_
                      refine h_get C hw bX1 (co.a3 hc) lk1 6 (by decide) lk4 (v := .ref (ad 20)) rfl dX1_findBase_61 ?_
                      refine lv_iconst (v := nI 1) hx hb dX1_findBase_64 (by decide) ?_
                      refine lv_iload_n hx hb dX1_findBase_65 rfl (lv_at hl 2 rfl) ?_
                      refine h_iast1 C hw (co.a20 hc) (show 1 < 3 from (by omega)) (by first | omega | decide) dX1_findBase_66 (fun f13 H locs e14 hw => ?_)
                      obtain ⟨K15, eK16, hc2⟩ := hc.upK 20 (κ := upd (K9 20) 1 (nI b)) (e := eI cA 3 (upd (K9 20) 1 (nI b))) (by omega) rfl
                      have hc3 := hc
                      have hc := hc2.of e14
                      have kpK15 := kp_up hc3 20 (by omega) e14
                      have kfK15 := kp.tr kfK9 kpK15
                      have kn17 : K15 1 0 = nI nt := by rw [eK16, va_up_ne _ _ (by first | decide | omega)]; exact kn11
                      have kn18 : K15 2 0 = nI ns := by rw [eK16, va_up_ne _ _ (by first | decide | omega)]; exact kn12
                      refine lv_aload_n hx hb dX1_findBase_67 rfl (lv_at hl 0 rfl) ?_
                      refine h_get C hw bX1 (co.a3 hc) lk1 6 (by decide) lk4 (v := .ref (ad 20)) rfl dX1_findBase_68 ?_
                      refine lv_iconst (v := nI 2) hx hb dX1_findBase_71 (by decide) ?_
                      refine lv_iload_n hx hb dX1_findBase_72 rfl (lv_at hl 3 rfl) ?_
                      refine h_iast1 C hw (co.a20 hc) (show 2 < 3 from (by omega)) (by first | omega | decide) dX1_findBase_73 (fun f19 H locs e20 hw => ?_)
                      obtain ⟨K21, eK22, hc2⟩ := hc.upK 20 (κ := upd (K15 20) 2 (nI d)) (e := eI cA 3 (upd (K15 20) 2 (nI d))) (by omega) rfl
                      have hc3 := hc
                      have hc := hc2.of e20
                      have kpK21 := kp_up hc3 20 (by omega) e20
                      have kfK21 := kp.tr kfK15 kpK21
                      have kn23 : K21 1 0 = nI nt := by rw [eK22, va_up_ne _ _ (by first | decide | omega)]; exact kn17
                      have kn24 : K21 2 0 = nI ns := by rw [eK22, va_up_ne _ _ (by first | decide | omega)]; exact kn18
                      refine lv_iconst (v := nI 1) hx hb dX1_findBase_74 (by decide) ?_
                      have hts : some (a, b, d) = tbA A ns nt := by rw [tC_s (show d < ns by omega), t1_s cq6] at htot; exact htot
                      exact h_zret C hr (by first | rfl | decide) hlk hw (⟨bI_t (is_s hts.symm), _, hc, kfK21, (fun jj hj => by rw [eK22, va_up_ne _ _ hj, eK16, va_up_ne _ _ hj, eK10, va_up_ne _ _ hj]), (fun t ht => by rw [← hts] at ht; cases ht; exact ⟨by rw [eK22, va_up_self, pk_un (by decide), eK16, va_up_self, pk_un (by decide), eK10, va_up_self, pk_us], by rw [eK22, va_up_self, pk_un (by decide), eK16, va_up_self, pk_us], by rw [eK22, va_up_self, pk_us]⟩)⟩) dX1_findBase_75
              exact lp32 _ (b + 1) _ _ _ hw (lv_sub hl [1, 2, 3, 0] rfl) (by omega) (by omega) (by omega) (by rw [tB_s (show b < ns by omega), orE_a] at htot; exact htot) (Nat.lt_succ_self _)
        exact lp17 _ (a + 1) _ _ _ hw (lv_sub hl [1, 2, 0] rfl) (by omega) (by omega) (by rw [tA_s (show a < ns by omega)] at htot; exact htot) (Nat.lt_succ_self _)
  exact lp2 _ 0 _ _ _ hw (lv_sub hl [1, 0] rfl) (by omega) rfl (Nat.lt_succ_self _)
set_option maxHeartbeats 4000000 in
set_option maxRecDepth 100000 in
theorem c_X1_skyOf {l : Launch} {D : va_G} {cA : Nat → ClassId} {f : HF} {sz : Nat} {ad : Nat → Nat} {K : KK} {G : GG} {A : MA} {ns nt : Nat} {t : N3} {u v e1 : Int32}  (hc : co cA ad K G f) (hKs : K 2 0 = nI ns) (hKt : K 1 0 = nI nt) (hM : ∀ p, p < ns → K 19 p = oI (mA A ns nt p)) (hns2 : ns ≤ 10) (hnt2 : nt ≤ 12) (hP : pts K A) (hpx : ∀ j, j < 22 → ib 199 (A 2 j)) (hpy : ∀ j, j < 22 → ib 199 (A 3 j)) (htb : tbA A ns nt = some t) (hb0 : K 20 0 = nI t.1) (hb1 : K 20 1 = nI t.2.1) (hb2 : K 20 2 = nI t.2.2) (hu : ib 199 u) (hv : ib 199 v) : Met l yX1_skyOf wsX1_skyOf ({ frames := 2, cells := 1, slots := 2, locals := 58 } : Room) (va_Pc [.ref (ad 3), .int u, .int v, .int e1] (hB D cA f sz)) (va_Qq (fun r f1 => hle f f1 ∧ ∃ q, r = some q ∧ f1 q = some (eO 0 [.long (prL (plN A ns nt t (yK e1) u v) (crA A t.1 t.2.1 t.2.2) 0), .long (prL (plN A ns nt t (yK e1) u v) (crA A t.1 t.2.1 t.2.2) 1)]) ∧ f q = none) (hE D f sz) (hA f sz)) 1 2 (hA f sz) := by
  refine h_of (cc := cX1_skyOf) (maxL := 18) (ret := (some (.object "FallingLight$Fraction"))) (by decide +kernel) rfl (Nat.le_of_ble_eq_true rfl) ?_
  intro p e s m below meth c ls C hr hlk hnm hw hl
  have hx := C.1.1
  have hb := C.1.2.1
  have hl : lv_has ls 18 [(0, .ref (ad 3)), (1, .int u), (2, .int v), (3, .int e1)] := hl
  have lk0 : Cond.fieldLink RX1 39 "FallingLight$Matching" "base" "[I" ∈ wsX1_skyOf := by decide +kernel
  have lk1 : ∀ w ∈ u_ws RX1 TX1 10, w ∈ wsX1_skyOf := by decide +kernel
  have lk2 : Cond.fieldLink RX1 15 "FallingLight$Matching" "stars" "LFallingLight$Points;" ∈ wsX1_skyOf := by decide +kernel
  have lk3 : Cond.fieldLink RX1 112 "FallingLight$Points" "x" "[I" ∈ wsX1_skyOf := by decide +kernel
  have lk4 : ∀ w ∈ u_ws RX4 TX4 4, w ∈ wsX1_skyOf := by decide +kernel
  have lk5 : Cond.fieldLink RX1 35 "FallingLight$Matching" "partners" "[I" ∈ wsX1_skyOf := by decide +kernel
  have lk6 : Cond.fieldLink RX1 9 "FallingLight$Matching" "spots" "LFallingLight$Points;" ∈ wsX1_skyOf := by decide +kernel
  have lk7 : Cond.fieldLink RX1 109 "FallingLight$Points" "y" "[I" ∈ wsX1_skyOf := by decide +kernel
  have lk8 : ∀ w ∈ u_ws RX0 TX0 2, w ∈ wsX1_skyOf := by decide +kernel
  have lk9 : Cond.classLink RX1 119 RX0 ∈ wsX1_skyOf := by decide +kernel
  have lk10 : Cond.instantiable RX0 2 ∈ wsX1_skyOf := by decide +kernel
  have lk11 : Cond.initialized RX0 ∈ wsX1_skyOf := by decide +kernel
  have lk12 : Cond.methodLink RX1 121 yX0_init ∈ wsX1_skyOf := by decide +kernel
  have lk13 : Cond.instanceMethod yX0_init ∈ wsX1_skyOf := by decide +kernel
  obtain ⟨t1, t2, t3, hm1, hm2, hm3, hcr0⟩ := tb_ok htb
  obtain ⟨hi1, hl1⟩ := id (mo_i hm1)
  obtain ⟨hi2, hl2⟩ := id (mo_i hm2)
  obtain ⟨hi3, hl3⟩ := id (mo_i hm3)
  obtain ⟨hsB, hsC, hsW⟩ := sky_eq (hP.sp hpx hpy) (show t.1 < 10 by omega) (show t.2.1 < 10 by omega) (show t.2.2 < 10 by omega) hu hv
  refine lv_aload_n hx hb dX1_skyOf_0 rfl (lv_at hl 0 rfl) ?_
  refine h_get C hw bX1 (co.a3 hc) lk1 6 (by decide) lk0 (v := .ref (ad 20)) rfl dX1_skyOf_1 ?_
  refine lv_iconst (v := nI 0) hx hb dX1_skyOf_4 (by decide) ?_
  refine h_iald1 C hw (v := nI t.1) (co.a20 hc) hb0 (show 0 < 3 from (by omega)) (by first | omega | decide) dX1_skyOf_5 ?_
  refine lv_istore (lv' := [(4, _), (0, _), (1, _), (2, _), (3, _)]) hx hb dX1_skyOf_6 hl (by decide) rfl (fun ls hl => ?_)
  refine lv_aload_n hx hb dX1_skyOf_8 rfl (lv_at hl 1 rfl) ?_
  refine h_get C hw bX1 (co.a3 hc) lk1 6 (by decide) lk0 (v := .ref (ad 20)) rfl dX1_skyOf_9 ?_
  refine lv_iconst (v := nI 1) hx hb dX1_skyOf_12 (by decide) ?_
  refine h_iald1 C hw (v := nI t.2.1) (co.a20 hc) hb1 (show 1 < 3 from (by omega)) (by first | omega | decide) dX1_skyOf_13 ?_
  refine lv_istore (lv' := [(5, _), (4, _), (0, _), (1, _), (2, _), (3, _)]) hx hb dX1_skyOf_14 hl (by decide) rfl (fun ls hl => ?_)
  refine lv_aload_n hx hb dX1_skyOf_16 rfl (lv_at hl 2 rfl) ?_
  refine h_get C hw bX1 (co.a3 hc) lk1 6 (by decide) lk0 (v := .ref (ad 20)) rfl dX1_skyOf_17 ?_
  refine lv_iconst (v := nI 2) hx hb dX1_skyOf_20 (by decide) ?_
  refine h_iald1 C hw (v := nI t.2.2) (co.a20 hc) hb2 (show 2 < 3 from (by omega)) (by first | omega | decide) dX1_skyOf_21 ?_
  refine lv_istore (lv' := [(6, _), (5, _), (4, _), (0, _), (1, _), (2, _), (3, _)]) hx hb dX1_skyOf_22 hl (by decide) rfl (fun ls hl => ?_)
  refine lv_iload_n hx hb dX1_skyOf_24 rfl (lv_at hl 6 rfl) ?_
  refine lv_if_eq (tgt := 38) hx hb dX1_skyOf_25 (by decide) (fun cq1 => ?_) (fun cq1 => ?_)
  · refine lv_aload_n hx hb dX1_skyOf_38 rfl (lv_at hl 3 rfl) ?_
    refine h_get C hw bX1 (co.a3 hc) lk1 1 (by decide) lk2 (v := .ref (ad 1)) rfl dX1_skyOf_39 ?_
    refine h_get C hw bX4 (co.a1 hc) lk4 1 (by decide) lk3 (v := .ref (ad 12)) rfl dX1_skyOf_42 ?_
    refine lv_astore (lv' := [(7, _), (6, _), (5, _), (4, _), (0, _), (1, _), (2, _), (3, _)]) hx hb dX1_skyOf_45 hl (by decide) rfl (fun ls hl => ?_)
    refine lv_aload hx hb dX1_skyOf_47 (lv_at hl 0 rfl) ?_
    refine lv_aload_n hx hb dX1_skyOf_49 rfl (lv_at hl 4 rfl) ?_
    refine h_get C hw bX1 (co.a3 hc) lk1 5 (by decide) lk5 (v := .ref (ad 19)) rfl dX1_skyOf_50 ?_
    refine lv_iload hx hb dX1_skyOf_53 (lv_at hl 3 rfl) ?_
    refine h_iald1 C hw (v := nI (mo0 A ns nt t.1)) (co.a19 hc) ((hM t.1 (by omega)).trans (mo_i hm1).1) (show t.1 < 10 from (by omega)) (by first | omega | decide) dX1_skyOf_55 ?_
    refine h_iald1 C hw (v := A 2 (10 + mo0 A ns nt t.1)) (co.a12 hc) (hP.2.2.1 _ (by omega)).1 (show mo0 A ns nt t.1 < 12 from (by omega)) (by first | omega | decide) dX1_skyOf_56 ?_
    refine lv_i2l hx hb dX1_skyOf_57 rfl ?_
    refine lv_lstore (lv' := [(8, _), (7, _), (6, _), (5, _), (4, _), (0, _), (1, _), (2, _), (3, _)]) hx hb dX1_skyOf_58 hl (by decide) rfl (fun ls hl => ?_)
    refine lv_aload_n hx hb dX1_skyOf_60 rfl (lv_at hl 5 rfl) ?_
    refine h_get C hw bX1 (co.a3 hc) lk1 0 (by decide) lk6 (v := .ref (ad 2)) rfl dX1_skyOf_61 ?_
    refine lv_iload hx hb dX1_skyOf_64 (lv_at hl 4 rfl) ?_
    refine lv_iload hx hb dX1_skyOf_66 (lv_at hl 3 rfl) ?_
    refine lv_iload hx hb dX1_skyOf_68 (lv_at hl 2 rfl) ?_
    refine h_calll hw (h_runV (n := 3) (As := [.int (nI t.1), .int (nI t.2.1), .int (nI t.2.2)]) (rest := []) C hw (c_X4_spread ((co.a2 hc).trans (by rw [hKs])) (co.a14 hc) (co.a15 hc) (by decide) (by omega) (by omega) (by omega)) gX1_skyOf_X4_spread rfl rfl rfl (by decide +kernel) ⟨by decide, by decide⟩ bX4 (co.a2 hc) rfl hl.1 rfl (Nat.le_of_ble_eq_true rfl) dX1_skyOf_70 ⟨by first | decide | omega | (dsimp only; omega), by first | decide | omega | (dsimp only; omega)⟩) (fun r2 f3 H locs hp hw => ?_)
    obtain ⟨rfl, rfl⟩ := hp
    refine W.eq (g2 := F0 m 73 ls [.long (crA A t.1 t.2.1 t.2.2)]) (by rw [(hP.sp hpx hpy).c0 (show t.1 < 10 by omega) (show t.2.1 < 10 by omega) (show t.2.2 < 10 by omega)]) ?_
    refine lv_lstore (lv' := [(10, _), (8, _), (7, _), (6, _), (5, _), (4, _), (0, _), (1, _), (2, _), (3, _)]) hx hb dX1_skyOf_73 hl (by decide) rfl (fun ls hl => ?_)
    refine lv_aload_n hx hb dX1_skyOf_75 rfl (lv_at hl 6 rfl) ?_
    refine h_get C hw bX1 (co.a3 hc) lk1 0 (by decide) lk6 (v := .ref (ad 2)) rfl dX1_skyOf_76 ?_
    refine lv_iload hx hb dX1_skyOf_79 (lv_at hl 5 rfl) ?_
    refine lv_iload_n hx hb dX1_skyOf_81 rfl (lv_at hl 7 rfl) ?_
    refine lv_i2l hx hb dX1_skyOf_82 rfl ?_
    refine lv_iload_n hx hb dX1_skyOf_83 rfl (lv_at hl 8 rfl) ?_
    refine lv_i2l hx hb dX1_skyOf_84 rfl ?_
    refine lv_aload_n hx hb dX1_skyOf_85 rfl (lv_at hl 6 rfl) ?_
    refine h_get C hw bX1 (co.a3 hc) lk1 0 (by decide) lk6 (v := .ref (ad 2)) rfl dX1_skyOf_86 ?_
    refine h_get C hw bX4 (co.a2 hc) lk4 1 (by decide) lk3 (v := .ref (ad 14)) rfl dX1_skyOf_89 ?_
    refine lv_iload hx hb dX1_skyOf_92 (lv_at hl 3 rfl) ?_
    refine h_iald1 C hw (v := (K 14) t.2.2) (co.a14 hc) rfl (show t.2.2 < 10 from (by omega)) (by first | omega | decide) dX1_skyOf_94 ?_
    refine lv_i2l hx hb dX1_skyOf_95 rfl ?_
    refine lv_aload_n hx hb dX1_skyOf_96 rfl (lv_at hl 6 rfl) ?_
    refine h_get C hw bX1 (co.a3 hc) lk1 0 (by decide) lk6 (v := .ref (ad 2)) rfl dX1_skyOf_97 ?_
    refine h_get C hw bX4 (co.a2 hc) lk4 2 (by decide) lk7 (v := .ref (ad 15)) rfl dX1_skyOf_100 ?_
    refine lv_iload hx hb dX1_skyOf_103 (lv_at hl 3 rfl) ?_
    refine h_iald1 C hw (v := (K 15) t.2.2) (co.a15 hc) rfl (show t.2.2 < 10 from (by omega)) (by first | omega | decide) dX1_skyOf_105 ?_
    refine lv_i2l hx hb dX1_skyOf_106 rfl ?_
    refine h_calll hw (h_runV (n := 5) (As := [.int (nI t.1), .long u.toInt64, .long v.toInt64, .long (((K 14) t.2.2).toInt64), .long (((K 15) t.2.2).toInt64)]) (rest := []) C hw (c_X4_spreadFrom ((co.a2 hc).trans (by rw [hKs])) (co.a14 hc) (co.a15 hc) (by decide) (by omega)) gX1_skyOf_X4_spreadFrom rfl rfl rfl (by decide +kernel) ⟨by decide, by decide⟩ bX4 (co.a2 hc) rfl hl.1 rfl (Nat.le_of_ble_eq_true rfl) dX1_skyOf_107 ⟨by first | decide | omega | (dsimp only; omega), by first | decide | omega | (dsimp only; omega)⟩) (fun r4 f5 H locs hp hw => ?_)
    obtain ⟨rfl, rfl⟩ := hp
    refine W.eq (g2 := F0 m 110 ls [.long (ctA A t.2.2 t.1 u v)]) (by rw [hsB]) ?_
    refine lv_lstore (lv' := [(12, _), (10, _), (8, _), (7, _), (6, _), (5, _), (4, _), (0, _), (1, _), (2, _), (3, _)]) hx hb dX1_skyOf_110 hl (by decide) rfl (fun ls hl => ?_)
    refine lv_aload_n hx hb dX1_skyOf_112 rfl (lv_at hl 7 rfl) ?_
    refine h_get C hw bX1 (co.a3 hc) lk1 0 (by decide) lk6 (v := .ref (ad 2)) rfl dX1_skyOf_113 ?_
    refine lv_iload hx hb dX1_skyOf_116 (lv_at hl 6 rfl) ?_
    refine lv_aload_n hx hb dX1_skyOf_118 rfl (lv_at hl 7 rfl) ?_
    refine h_get C hw bX1 (co.a3 hc) lk1 0 (by decide) lk6 (v := .ref (ad 2)) rfl dX1_skyOf_119 ?_
    refine h_get C hw bX4 (co.a2 hc) lk4 1 (by decide) lk3 (v := .ref (ad 14)) rfl dX1_skyOf_122 ?_
    refine lv_iload hx hb dX1_skyOf_125 (lv_at hl 5 rfl) ?_
    refine h_iald1 C hw (v := (K 14) t.2.1) (co.a14 hc) rfl (show t.2.1 < 10 from (by omega)) (by first | omega | decide) dX1_skyOf_127 ?_
    refine lv_i2l hx hb dX1_skyOf_128 rfl ?_
    refine lv_aload_n hx hb dX1_skyOf_129 rfl (lv_at hl 7 rfl) ?_
    refine h_get C hw bX1 (co.a3 hc) lk1 0 (by decide) lk6 (v := .ref (ad 2)) rfl dX1_skyOf_130 ?_
    refine h_get C hw bX4 (co.a2 hc) lk4 2 (by decide) lk7 (v := .ref (ad 15)) rfl dX1_skyOf_133 ?_
    refine lv_iload hx hb dX1_skyOf_136 (lv_at hl 5 rfl) ?_
    refine h_iald1 C hw (v := (K 15) t.2.1) (co.a15 hc) rfl (show t.2.1 < 10 from (by omega)) (by first | omega | decide) dX1_skyOf_138 ?_
    refine lv_i2l hx hb dX1_skyOf_139 rfl ?_
    refine lv_iload_n hx hb dX1_skyOf_140 rfl (lv_at hl 8 rfl) ?_
    refine lv_i2l hx hb dX1_skyOf_141 rfl ?_
    refine lv_iload_n hx hb dX1_skyOf_142 rfl (lv_at hl 9 rfl) ?_
    refine lv_i2l hx hb dX1_skyOf_143 rfl ?_
    refine h_calll hw (h_runV (n := 5) (As := [.int (nI t.1), .long (((K 14) t.2.1).toInt64), .long (((K 15) t.2.1).toInt64), .long u.toInt64, .long v.toInt64]) (rest := []) C hw (c_X4_spreadFrom ((co.a2 hc).trans (by rw [hKs])) (co.a14 hc) (co.a15 hc) (by decide) (by omega)) gX1_skyOf_X4_spreadFrom rfl rfl rfl (by decide +kernel) ⟨by decide, by decide⟩ bX4 (co.a2 hc) rfl hl.1 rfl (Nat.le_of_ble_eq_true rfl) dX1_skyOf_144 ⟨by first | decide | omega | (dsimp only; omega), by first | decide | omega | (dsimp only; omega)⟩) (fun r6 f7 H locs hp hw => ?_)
    obtain ⟨rfl, rfl⟩ := hp
    refine W.eq (g2 := F0 m 147 ls [.long (ctA A t.1 t.2.1 u v)]) (by rw [hsC]) ?_
    refine lv_lstore (lv' := [(14, _), (12, _), (10, _), (8, _), (7, _), (6, _), (5, _), (4, _), (0, _), (1, _), (2, _), (3, _)]) hx hb dX1_skyOf_147 hl (by decide) rfl (fun ls hl => ?_)
    refine lv_lload hx hb dX1_skyOf_149 (lv_at hl 3 rfl) ?_
    refine lv_lload hx hb dX1_skyOf_151 (lv_at hl 2 rfl) ?_
    refine lv_lmul hx hb dX1_skyOf_153 ?_
    refine lv_aload hx hb dX1_skyOf_154 (lv_at hl 4 rfl) ?_
    refine lv_aload_n hx hb dX1_skyOf_156 rfl (lv_at hl 8 rfl) ?_
    refine h_get C hw bX1 (co.a3 hc) lk1 5 (by decide) lk5 (v := .ref (ad 19)) rfl dX1_skyOf_157 ?_
    refine lv_iload hx hb dX1_skyOf_160 (lv_at hl 6 rfl) ?_
    refine h_iald1 C hw (v := nI (mo0 A ns nt t.2.1)) (co.a19 hc) ((hM t.2.1 (by omega)).trans (mo_i hm2).1) (show t.2.1 < 10 from (by omega)) (by first | omega | decide) dX1_skyOf_162 ?_
    refine h_iald1 C hw (v := A 2 (10 + mo0 A ns nt t.2.1)) (co.a12 hc) (hP.2.2.1 _ (by omega)).1 (show mo0 A ns nt t.2.1 < 12 from (by omega)) (by first | omega | decide) dX1_skyOf_163 ?_
    refine lv_i2l hx hb dX1_skyOf_164 rfl ?_
    refine lv_lload hx hb dX1_skyOf_165 (lv_at hl 3 rfl) ?_
    refine lv_lsub hx hb dX1_skyOf_167 ?_
    refine lv_lload hx hb dX1_skyOf_168 (lv_at hl 1 rfl) ?_
    refine lv_lmul hx hb dX1_skyOf_170 ?_
    refine lv_ladd hx hb dX1_skyOf_171 ?_
    refine lv_aload hx hb dX1_skyOf_172 (lv_at hl 4 rfl) ?_
    refine lv_aload_n hx hb dX1_skyOf_174 rfl (lv_at hl 8 rfl) ?_
    refine h_get C hw bX1 (co.a3 hc) lk1 5 (by decide) lk5 (v := .ref (ad 19)) rfl dX1_skyOf_175 ?_
    refine lv_iload hx hb dX1_skyOf_178 (lv_at hl 5 rfl) ?_
    refine h_iald1 C hw (v := nI (mo0 A ns nt t.2.2)) (co.a19 hc) ((hM t.2.2 (by omega)).trans (mo_i hm3).1) (show t.2.2 < 10 from (by omega)) (by first | omega | decide) dX1_skyOf_180 ?_
    refine h_iald1 C hw (v := A 2 (10 + mo0 A ns nt t.2.2)) (co.a12 hc) (hP.2.2.1 _ (by omega)).1 (show mo0 A ns nt t.2.2 < 12 from (by omega)) (by first | omega | decide) dX1_skyOf_181 ?_
    refine lv_i2l hx hb dX1_skyOf_182 rfl ?_
    refine lv_lload hx hb dX1_skyOf_183 (lv_at hl 3 rfl) ?_
    refine lv_lsub hx hb dX1_skyOf_185 ?_
    refine lv_lload hx hb dX1_skyOf_186 (lv_at hl 0 rfl) ?_
    refine lv_lmul hx hb dX1_skyOf_188 ?_
    refine lv_ladd hx hb dX1_skyOf_189 ?_
    refine W.eq (g2 := F0 m 190 ls [.long (plN A ns nt t 2 u v)]) (by rw [sky_s hsW]; rfl) ?_
    refine lv_lstore (lv' := [(16, _), (14, _), (12, _), (10, _), (8, _), (7, _), (6, _), (5, _), (4, _), (0, _), (1, _), (2, _), (3, _)]) hx hb dX1_skyOf_190 hl (by decide) rfl (fun ls hl => ?_)
    refine h_new1 C hw bX0 lk8 lk9 lk10 lk11 dfX0 (by first | decide | omega | (dsimp only; omega)) (by first | decide | omega | (dsimp only; omega)) dX1_skyOf_192 (fun q8 f9 H hq11 e10 hw => ?_)
    have k12 : f9 q8 = some (eO 0 [.long 0, .long 0]) := up_s e10
    have hc := hc.mono (hle_new (hle.rf _) hq11 e10)
    have fr13 := hle_no (hle.rf f) hq11
    have le14 := hle_new (hle.rf f) hq11 e10
    refine lv_dup hx hb dX1_skyOf_195 rfl ?_
    refine lv_lload hx hb dX1_skyOf_196 (lv_at hl 0 rfl) ?_
    refine lv_lload hx hb dX1_skyOf_198 (lv_at hl 3 rfl) ?_
    refine h_callv hw (h_runI (n := 2) (As := [.long (plN A ns nt t 2 u v), .long (crA A t.1 t.2.1 t.2.2)]) (rest := [.ref q8]) C hw (c_X0_init k12 (pn48 hpx hpy (Or.inl rfl) (by omega) (by omega) (by omega) (by omega) (by omega) (by omega) hu hv) (Nat.lt_of_le_of_lt (cr_bd hpx hpy (show t.1 < 22 by omega) (show t.2.1 < 22 by omega) (show t.2.2 < 22 by omega)) (by decide)) hcr0) gX1_skyOf_X0_init rfl rfl rfl lk11 lk12 lk13 rfl (by decide +kernel) ⟨by decide, by decide⟩ rfl hl.1 rfl (Nat.le_of_ble_eq_true rfl) dX1_skyOf_200 ⟨by first | decide | omega | (dsimp only; omega), by first | decide | omega | (dsimp only; omega)⟩) (fun  f15 H locs hp hw => ?_)
    have e16 := hp
    have k17 : f15 q8 = some (eO 0 [.long (prL (plN A ns nt t 2 u v) (crA A t.1 t.2.1 t.2.2) 0), .long (prL (plN A ns nt t 2 u v) (crA A t.1 t.2.1 t.2.2) 1)]) := up_s e16
    have le18 := hle_up le14 fr13 e16
    have hc := hc.wr8 (by omega) k12 e16
    refine W.widen (k := 1) (n := 2) (by first | decide | omega | (dsimp only; omega)) (by first | decide | omega | (dsimp only; omega)) ?_
    exact h_qret (v := some q8) C hr hlk hw (⟨le18, q8, rfl, (by rw [yK, if_pos cq1]; exact k17), fr13⟩) dX1_skyOf_203
  · refine lv_aload_n hx hb dX1_skyOf_28 rfl (lv_at hl 3 rfl) ?_
    refine h_get C hw bX1 (co.a3 hc) lk1 1 (by decide) lk2 (v := .ref (ad 1)) rfl dX1_skyOf_29 ?_
    refine h_get C hw bX4 (co.a1 hc) lk4 2 (by decide) lk7 (v := .ref (ad 13)) rfl dX1_skyOf_32 ?_
    refine lv_goto (tgt := 45) hx hb dX1_skyOf_35 (by decide) ?_
    refine lv_astore (lv' := [(7, _), (6, _), (5, _), (4, _), (0, _), (1, _), (2, _), (3, _)]) hx hb dX1_skyOf_45 hl (by decide) rfl (fun ls hl => ?_)
    refine lv_aload hx hb dX1_skyOf_47 (lv_at hl 0 rfl) ?_
    refine lv_aload_n hx hb dX1_skyOf_49 rfl (lv_at hl 4 rfl) ?_
    refine h_get C hw bX1 (co.a3 hc) lk1 5 (by decide) lk5 (v := .ref (ad 19)) rfl dX1_skyOf_50 ?_
    refine lv_iload hx hb dX1_skyOf_53 (lv_at hl 3 rfl) ?_
    refine h_iald1 C hw (v := nI (mo0 A ns nt t.1)) (co.a19 hc) ((hM t.1 (by omega)).trans (mo_i hm1).1) (show t.1 < 10 from (by omega)) (by first | omega | decide) dX1_skyOf_55 ?_
    refine h_iald1 C hw (v := A 3 (10 + mo0 A ns nt t.1)) (co.a13 hc) (hP.2.2.1 _ (by omega)).2 (show mo0 A ns nt t.1 < 12 from (by omega)) (by first | omega | decide) dX1_skyOf_56 ?_
    refine lv_i2l hx hb dX1_skyOf_57 rfl ?_
    refine lv_lstore (lv' := [(8, _), (7, _), (6, _), (5, _), (4, _), (0, _), (1, _), (2, _), (3, _)]) hx hb dX1_skyOf_58 hl (by decide) rfl (fun ls hl => ?_)
    refine lv_aload_n hx hb dX1_skyOf_60 rfl (lv_at hl 5 rfl) ?_
    refine h_get C hw bX1 (co.a3 hc) lk1 0 (by decide) lk6 (v := .ref (ad 2)) rfl dX1_skyOf_61 ?_
    refine lv_iload hx hb dX1_skyOf_64 (lv_at hl 4 rfl) ?_
    refine lv_iload hx hb dX1_skyOf_66 (lv_at hl 3 rfl) ?_
    refine lv_iload hx hb dX1_skyOf_68 (lv_at hl 2 rfl) ?_
    refine h_calll hw (h_runV (n := 3) (As := [.int (nI t.1), .int (nI t.2.1), .int (nI t.2.2)]) (rest := []) C hw (c_X4_spread ((co.a2 hc).trans (by rw [hKs])) (co.a14 hc) (co.a15 hc) (by decide) (by omega) (by omega) (by omega)) gX1_skyOf_X4_spread rfl rfl rfl (by decide +kernel) ⟨by decide, by decide⟩ bX4 (co.a2 hc) rfl hl.1 rfl (Nat.le_of_ble_eq_true rfl) dX1_skyOf_70 ⟨by first | decide | omega | (dsimp only; omega), by first | decide | omega | (dsimp only; omega)⟩) (fun r19 f20 H locs hp hw => ?_)
    obtain ⟨rfl, rfl⟩ := hp
    refine W.eq (g2 := F0 m 73 ls [.long (crA A t.1 t.2.1 t.2.2)]) (by rw [(hP.sp hpx hpy).c0 (show t.1 < 10 by omega) (show t.2.1 < 10 by omega) (show t.2.2 < 10 by omega)]) ?_
    refine lv_lstore (lv' := [(10, _), (8, _), (7, _), (6, _), (5, _), (4, _), (0, _), (1, _), (2, _), (3, _)]) hx hb dX1_skyOf_73 hl (by decide) rfl (fun ls hl => ?_)
    refine lv_aload_n hx hb dX1_skyOf_75 rfl (lv_at hl 6 rfl) ?_
    refine h_get C hw bX1 (co.a3 hc) lk1 0 (by decide) lk6 (v := .ref (ad 2)) rfl dX1_skyOf_76 ?_
    refine lv_iload hx hb dX1_skyOf_79 (lv_at hl 5 rfl) ?_
    refine lv_iload_n hx hb dX1_skyOf_81 rfl (lv_at hl 7 rfl) ?_
    refine lv_i2l hx hb dX1_skyOf_82 rfl ?_
    refine lv_iload_n hx hb dX1_skyOf_83 rfl (lv_at hl 8 rfl) ?_
    refine lv_i2l hx hb dX1_skyOf_84 rfl ?_
    refine lv_aload_n hx hb dX1_skyOf_85 rfl (lv_at hl 6 rfl) ?_
    refine h_get C hw bX1 (co.a3 hc) lk1 0 (by decide) lk6 (v := .ref (ad 2)) rfl dX1_skyOf_86 ?_
    refine h_get C hw bX4 (co.a2 hc) lk4 1 (by decide) lk3 (v := .ref (ad 14)) rfl dX1_skyOf_89 ?_
    refine lv_iload hx hb dX1_skyOf_92 (lv_at hl 3 rfl) ?_
    refine h_iald1 C hw (v := (K 14) t.2.2) (co.a14 hc) rfl (show t.2.2 < 10 from (by omega)) (by first | omega | decide) dX1_skyOf_94 ?_
    refine lv_i2l hx hb dX1_skyOf_95 rfl ?_
    refine lv_aload_n hx hb dX1_skyOf_96 rfl (lv_at hl 6 rfl) ?_
    refine h_get C hw bX1 (co.a3 hc) lk1 0 (by decide) lk6 (v := .ref (ad 2)) rfl dX1_skyOf_97 ?_
    refine h_get C hw bX4 (co.a2 hc) lk4 2 (by decide) lk7 (v := .ref (ad 15)) rfl dX1_skyOf_100 ?_
    refine lv_iload hx hb dX1_skyOf_103 (lv_at hl 3 rfl) ?_
    refine h_iald1 C hw (v := (K 15) t.2.2) (co.a15 hc) rfl (show t.2.2 < 10 from (by omega)) (by first | omega | decide) dX1_skyOf_105 ?_
    refine lv_i2l hx hb dX1_skyOf_106 rfl ?_
    refine h_calll hw (h_runV (n := 5) (As := [.int (nI t.1), .long u.toInt64, .long v.toInt64, .long (((K 14) t.2.2).toInt64), .long (((K 15) t.2.2).toInt64)]) (rest := []) C hw (c_X4_spreadFrom ((co.a2 hc).trans (by rw [hKs])) (co.a14 hc) (co.a15 hc) (by decide) (by omega)) gX1_skyOf_X4_spreadFrom rfl rfl rfl (by decide +kernel) ⟨by decide, by decide⟩ bX4 (co.a2 hc) rfl hl.1 rfl (Nat.le_of_ble_eq_true rfl) dX1_skyOf_107 ⟨by first | decide | omega | (dsimp only; omega), by first | decide | omega | (dsimp only; omega)⟩) (fun r21 f22 H locs hp hw => ?_)
    obtain ⟨rfl, rfl⟩ := hp
    refine W.eq (g2 := F0 m 110 ls [.long (ctA A t.2.2 t.1 u v)]) (by rw [hsB]) ?_
    refine lv_lstore (lv' := [(12, _), (10, _), (8, _), (7, _), (6, _), (5, _), (4, _), (0, _), (1, _), (2, _), (3, _)]) hx hb dX1_skyOf_110 hl (by decide) rfl (fun ls hl => ?_)
    refine lv_aload_n hx hb dX1_skyOf_112 rfl (lv_at hl 7 rfl) ?_
    refine h_get C hw bX1 (co.a3 hc) lk1 0 (by decide) lk6 (v := .ref (ad 2)) rfl dX1_skyOf_113 ?_
    refine lv_iload hx hb dX1_skyOf_116 (lv_at hl 6 rfl) ?_
    refine lv_aload_n hx hb dX1_skyOf_118 rfl (lv_at hl 7 rfl) ?_
    refine h_get C hw bX1 (co.a3 hc) lk1 0 (by decide) lk6 (v := .ref (ad 2)) rfl dX1_skyOf_119 ?_
    refine h_get C hw bX4 (co.a2 hc) lk4 1 (by decide) lk3 (v := .ref (ad 14)) rfl dX1_skyOf_122 ?_
    refine lv_iload hx hb dX1_skyOf_125 (lv_at hl 5 rfl) ?_
    refine h_iald1 C hw (v := (K 14) t.2.1) (co.a14 hc) rfl (show t.2.1 < 10 from (by omega)) (by first | omega | decide) dX1_skyOf_127 ?_
    refine lv_i2l hx hb dX1_skyOf_128 rfl ?_
    refine lv_aload_n hx hb dX1_skyOf_129 rfl (lv_at hl 7 rfl) ?_
    refine h_get C hw bX1 (co.a3 hc) lk1 0 (by decide) lk6 (v := .ref (ad 2)) rfl dX1_skyOf_130 ?_
    refine h_get C hw bX4 (co.a2 hc) lk4 2 (by decide) lk7 (v := .ref (ad 15)) rfl dX1_skyOf_133 ?_
    refine lv_iload hx hb dX1_skyOf_136 (lv_at hl 5 rfl) ?_
    refine h_iald1 C hw (v := (K 15) t.2.1) (co.a15 hc) rfl (show t.2.1 < 10 from (by omega)) (by first | omega | decide) dX1_skyOf_138 ?_
    refine lv_i2l hx hb dX1_skyOf_139 rfl ?_
    refine lv_iload_n hx hb dX1_skyOf_140 rfl (lv_at hl 8 rfl) ?_
    refine lv_i2l hx hb dX1_skyOf_141 rfl ?_
    refine lv_iload_n hx hb dX1_skyOf_142 rfl (lv_at hl 9 rfl) ?_
    refine lv_i2l hx hb dX1_skyOf_143 rfl ?_
    refine h_calll hw (h_runV (n := 5) (As := [.int (nI t.1), .long (((K 14) t.2.1).toInt64), .long (((K 15) t.2.1).toInt64), .long u.toInt64, .long v.toInt64]) (rest := []) C hw (c_X4_spreadFrom ((co.a2 hc).trans (by rw [hKs])) (co.a14 hc) (co.a15 hc) (by decide) (by omega)) gX1_skyOf_X4_spreadFrom rfl rfl rfl (by decide +kernel) ⟨by decide, by decide⟩ bX4 (co.a2 hc) rfl hl.1 rfl (Nat.le_of_ble_eq_true rfl) dX1_skyOf_144 ⟨by first | decide | omega | (dsimp only; omega), by first | decide | omega | (dsimp only; omega)⟩) (fun r23 f24 H locs hp hw => ?_)
    obtain ⟨rfl, rfl⟩ := hp
    refine W.eq (g2 := F0 m 147 ls [.long (ctA A t.1 t.2.1 u v)]) (by rw [hsC]) ?_
    refine lv_lstore (lv' := [(14, _), (12, _), (10, _), (8, _), (7, _), (6, _), (5, _), (4, _), (0, _), (1, _), (2, _), (3, _)]) hx hb dX1_skyOf_147 hl (by decide) rfl (fun ls hl => ?_)
    refine lv_lload hx hb dX1_skyOf_149 (lv_at hl 3 rfl) ?_
    refine lv_lload hx hb dX1_skyOf_151 (lv_at hl 2 rfl) ?_
    refine lv_lmul hx hb dX1_skyOf_153 ?_
    refine lv_aload hx hb dX1_skyOf_154 (lv_at hl 4 rfl) ?_
    refine lv_aload_n hx hb dX1_skyOf_156 rfl (lv_at hl 8 rfl) ?_
    refine h_get C hw bX1 (co.a3 hc) lk1 5 (by decide) lk5 (v := .ref (ad 19)) rfl dX1_skyOf_157 ?_
    refine lv_iload hx hb dX1_skyOf_160 (lv_at hl 6 rfl) ?_
    refine h_iald1 C hw (v := nI (mo0 A ns nt t.2.1)) (co.a19 hc) ((hM t.2.1 (by omega)).trans (mo_i hm2).1) (show t.2.1 < 10 from (by omega)) (by first | omega | decide) dX1_skyOf_162 ?_
    refine h_iald1 C hw (v := A 3 (10 + mo0 A ns nt t.2.1)) (co.a13 hc) (hP.2.2.1 _ (by omega)).2 (show mo0 A ns nt t.2.1 < 12 from (by omega)) (by first | omega | decide) dX1_skyOf_163 ?_
    refine lv_i2l hx hb dX1_skyOf_164 rfl ?_
    refine lv_lload hx hb dX1_skyOf_165 (lv_at hl 3 rfl) ?_
    refine lv_lsub hx hb dX1_skyOf_167 ?_
    refine lv_lload hx hb dX1_skyOf_168 (lv_at hl 1 rfl) ?_
    refine lv_lmul hx hb dX1_skyOf_170 ?_
    refine lv_ladd hx hb dX1_skyOf_171 ?_
    refine lv_aload hx hb dX1_skyOf_172 (lv_at hl 4 rfl) ?_
    refine lv_aload_n hx hb dX1_skyOf_174 rfl (lv_at hl 8 rfl) ?_
    refine h_get C hw bX1 (co.a3 hc) lk1 5 (by decide) lk5 (v := .ref (ad 19)) rfl dX1_skyOf_175 ?_
    refine lv_iload hx hb dX1_skyOf_178 (lv_at hl 5 rfl) ?_
    refine h_iald1 C hw (v := nI (mo0 A ns nt t.2.2)) (co.a19 hc) ((hM t.2.2 (by omega)).trans (mo_i hm3).1) (show t.2.2 < 10 from (by omega)) (by first | omega | decide) dX1_skyOf_180 ?_
    refine h_iald1 C hw (v := A 3 (10 + mo0 A ns nt t.2.2)) (co.a13 hc) (hP.2.2.1 _ (by omega)).2 (show mo0 A ns nt t.2.2 < 12 from (by omega)) (by first | omega | decide) dX1_skyOf_181 ?_
    refine lv_i2l hx hb dX1_skyOf_182 rfl ?_
    refine lv_lload hx hb dX1_skyOf_183 (lv_at hl 3 rfl) ?_
    refine lv_lsub hx hb dX1_skyOf_185 ?_
    refine lv_lload hx hb dX1_skyOf_186 (lv_at hl 0 rfl) ?_
    refine lv_lmul hx hb dX1_skyOf_188 ?_
    refine lv_ladd hx hb dX1_skyOf_189 ?_
    refine W.eq (g2 := F0 m 190 ls [.long (plN A ns nt t 3 u v)]) (by rw [sky_s hsW]; rfl) ?_
    refine lv_lstore (lv' := [(16, _), (14, _), (12, _), (10, _), (8, _), (7, _), (6, _), (5, _), (4, _), (0, _), (1, _), (2, _), (3, _)]) hx hb dX1_skyOf_190 hl (by decide) rfl (fun ls hl => ?_)
    refine h_new1 C hw bX0 lk8 lk9 lk10 lk11 dfX0 (by first | decide | omega | (dsimp only; omega)) (by first | decide | omega | (dsimp only; omega)) dX1_skyOf_192 (fun q25 f26 H hq28 e27 hw => ?_)
    have k29 : f26 q25 = some (eO 0 [.long 0, .long 0]) := up_s e27
    have hc := hc.mono (hle_new (hle.rf _) hq28 e27)
    have fr30 := hle_no (hle.rf f) hq28
    have le31 := hle_new (hle.rf f) hq28 e27
    refine lv_dup hx hb dX1_skyOf_195 rfl ?_
    refine lv_lload hx hb dX1_skyOf_196 (lv_at hl 0 rfl) ?_
    refine lv_lload hx hb dX1_skyOf_198 (lv_at hl 3 rfl) ?_
    refine h_callv hw (h_runI (n := 2) (As := [.long (plN A ns nt t 3 u v), .long (crA A t.1 t.2.1 t.2.2)]) (rest := [.ref q25]) C hw (c_X0_init k29 (pn48 hpx hpy (Or.inr rfl) (by omega) (by omega) (by omega) (by omega) (by omega) (by omega) hu hv) (Nat.lt_of_le_of_lt (cr_bd hpx hpy (show t.1 < 22 by omega) (show t.2.1 < 22 by omega) (show t.2.2 < 22 by omega)) (by decide)) hcr0) gX1_skyOf_X0_init rfl rfl rfl lk11 lk12 lk13 rfl (by decide +kernel) ⟨by decide, by decide⟩ rfl hl.1 rfl (Nat.le_of_ble_eq_true rfl) dX1_skyOf_200 ⟨by first | decide | omega | (dsimp only; omega), by first | decide | omega | (dsimp only; omega)⟩) (fun  f32 H locs hp hw => ?_)
    have e33 := hp
    have k34 : f32 q25 = some (eO 0 [.long (prL (plN A ns nt t 3 u v) (crA A t.1 t.2.1 t.2.2) 0), .long (prL (plN A ns nt t 3 u v) (crA A t.1 t.2.1 t.2.2) 1)]) := up_s e33
    have le35 := hle_up le31 fr30 e33
    have hc := hc.wr8 (by omega) k29 e33
    refine W.widen (k := 1) (n := 2) (by first | decide | omega | (dsimp only; omega)) (by first | decide | omega | (dsimp only; omega)) ?_
    exact h_qret (v := some q25) C hr hlk hw (⟨le35, q25, rfl, (by rw [yK, if_neg cq1]; exact k34), fr30⟩) dX1_skyOf_203
