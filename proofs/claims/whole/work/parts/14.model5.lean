/-! ===== the reference, fifth methods (laid by program) ===== -/
abbrev T3 : Type := (Nat × Int64) × (Nat × Int64) × (Nat × Int64)
def sw1 (t : T3) : T3 := if t.2.1.2 < t.1.2 then (t.2.1, t.1, t.2.2) else t
def sw2 (t : T3) : T3 := if t.2.2.2 < t.2.1.2 then (t.1, t.2.2, t.2.1) else t
def triT (A : MA) (a b d : Nat) : T3 := sw1 (sw2 (sw1 ((a, sqA A b d), (b, sqA A a d), (d, sqA A a b))))
abbrev tgA (A : MA) (a b d : Nat) : Prop := ¬ crA A a b d = 0 ∧ ¬ sqA A b d = sqA A a d ∧ ¬ sqA A b d = sqA A a b ∧ ¬ sqA A a d = sqA A a b
def tnA (A : MA) (t : T3) : Int32 := if 0 < crA A t.1.1 t.2.1.1 t.2.2.1 then nI 1 else -1
theorem sq_c {A A1 : MA} {a b : Nat} (h2 : A1 2 = A 2) (h3 : A1 3 = A 3) : sqA A1 a b = sqA A a b := by unfold sqA; rw [h2, h3]
theorem cr_c {A A1 : MA} {a b d : Nat} (h2 : A1 2 = A 2) (h3 : A1 3 = A 3) : crA A1 a b d = crA A a b d := by unfold crA; rw [h2, h3]
abbrev nrA (n : Int32) (a c d e : Int64) : Prop := ¬ n.toInt64 * c * e < (if 0 < a * e - d * c then a * e - d * c else -(a * e - d * c)) * 100
theorem upd_uu {f : Nat → Int32} {k : Nat} {x9 : Int32} {y9 : Int32} (j : Nat) : True := trivial
set_option maxHeartbeats 4000000 in
set_option maxRecDepth 100000 in
theorem c_X12_exchange {l : Launch} {D : va_G} {cA : Nat → ClassId} {f : HF} {sz : Nat} {q : Nat → Nat} {A : MA} {B : MB} {i k : Nat} (hm : mo cA q A B f) (hi : i < 3) (hk : k < 3) : Met l yX12_exchange wsX12_exchange ({ frames := 0, cells := 0, slots := 0, locals := 0 } : Room) (va_Pc [.ref (q 0), .int (nI i), .int (nI k)] (hB D cA f sz)) (va_Qv (fun f1 => ∃ A1 B1, mo cA q A1 B1 f1 ∧ A1 = va_up A 16 (upd (upd (A 16) i (A 16 k)) k (A 16 i)) ∧ B1 = va_up B 17 (vp_updL (vp_updL (B 17) i (B 17 k)) k (B 17 i))) (hE D f sz) (hA f sz)) 0 0 (hA f sz) := by
  refine h_of (cc := cX12_exchange) (maxL := 6) (ret := none) (by decide +kernel) rfl (Nat.le_of_ble_eq_true rfl) ?_
  intro p e s m below meth c ls C hr hlk hnm hw hl
  have hx := C.1.1
  have hb := C.1.2.1
  have hl : lv_has ls 6 [(0, .ref (q 0)), (1, .int (nI i)), (2, .int (nI k))] := hl
  have lk0 : Cond.fieldLink RX12 51 "FallingLightModel" "cornerAt" "[I" ∈ wsX12_exchange := by decide +kernel
  have lk1 : ∀ w ∈ u_ws RX12 TX12 27, w ∈ wsX12_exchange := by decide +kernel
  have lk2 : Cond.fieldLink RX12 54 "FallingLightModel" "squareAt" "[J" ∈ wsX12_exchange := by decide +kernel
  refine lv_aload_n hx hb dX12_exchange_0 rfl (lv_at hl 0 rfl) ?_
  refine m_fld C hw hm lk1 16 (by decide) lk0 (v := .ref (q 16)) rfl dX12_exchange_1 ?_
  refine lv_iload_n hx hb dX12_exchange_4 rfl (lv_at hl 1 rfl) ?_
  refine m_iald C hw hm 16 rfl (v := A 16 i) rfl (show i < 3 from (by omega)) dX12_exchange_5 ?_
  refine lv_istore_n (lv' := [(3, _), (0, _), (1, _), (2, _)]) hx hb dX12_exchange_6 rfl hl (by decide) rfl (fun ls hl => ?_)
  refine lv_aload_n hx hb dX12_exchange_7 rfl (lv_at hl 1 rfl) ?_
  refine m_fld C hw hm lk1 16 (by decide) lk0 (v := .ref (q 16)) rfl dX12_exchange_8 ?_
  refine lv_iload_n hx hb dX12_exchange_11 rfl (lv_at hl 2 rfl) ?_
  refine lv_aload_n hx hb dX12_exchange_12 rfl (lv_at hl 1 rfl) ?_
  refine m_fld C hw hm lk1 16 (by decide) lk0 (v := .ref (q 16)) rfl dX12_exchange_13 ?_
  refine lv_iload_n hx hb dX12_exchange_16 rfl (lv_at hl 3 rfl) ?_
  refine m_iald C hw hm 16 rfl (v := A 16 k) rfl (show k < 3 from (by omega)) dX12_exchange_17 ?_
  refine m_iast C hw hm 16 rfl (show i < 3 from (by omega)) dX12_exchange_18 (fun A1 f2 H locs eA1 hw hm => ?_)
  refine lv_aload_n hx hb dX12_exchange_19 rfl (lv_at hl 1 rfl) ?_
  refine m_fld C hw hm lk1 16 (by decide) lk0 (v := .ref (q 16)) rfl dX12_exchange_20 ?_
  refine lv_iload_n hx hb dX12_exchange_23 rfl (lv_at hl 3 rfl) ?_
  refine lv_iload_n hx hb dX12_exchange_24 rfl (lv_at hl 0 rfl) ?_
  refine m_iast C hw hm 16 rfl (show k < 3 from (by omega)) dX12_exchange_25 (fun A3 f4 H locs eA3 hw hm => ?_)
  refine lv_aload_n hx hb dX12_exchange_26 rfl (lv_at hl 1 rfl) ?_
  refine m_fld C hw hm lk1 17 (by decide) lk2 (v := .ref (q 17)) rfl dX12_exchange_27 ?_
  refine lv_iload_n hx hb dX12_exchange_30 rfl (lv_at hl 2 rfl) ?_
  refine m_lald C hw hm 17 rfl (v := B 17 i) rfl (show i < 3 from (by omega)) dX12_exchange_31 ?_
  refine lv_lstore (lv' := [(4, _), (3, _), (0, _), (1, _), (2, _)]) hx hb dX12_exchange_32 hl (by decide) rfl (fun ls hl => ?_)
  refine lv_aload_n hx hb dX12_exchange_34 rfl (lv_at hl 2 rfl) ?_
  refine m_fld C hw hm lk1 17 (by decide) lk2 (v := .ref (q 17)) rfl dX12_exchange_35 ?_
  refine lv_iload_n hx hb dX12_exchange_38 rfl (lv_at hl 3 rfl) ?_
  refine lv_aload_n hx hb dX12_exchange_39 rfl (lv_at hl 2 rfl) ?_
  refine m_fld C hw hm lk1 17 (by decide) lk2 (v := .ref (q 17)) rfl dX12_exchange_40 ?_
  refine lv_iload_n hx hb dX12_exchange_43 rfl (lv_at hl 4 rfl) ?_
  refine m_lald C hw hm 17 rfl (v := B 17 k) rfl (show k < 3 from (by omega)) dX12_exchange_44 ?_
  refine m_last C hw hm 17 rfl (show i < 3 from (by omega)) dX12_exchange_45 (fun B5 f6 H locs eB5 hw hm => ?_)
  refine lv_aload_n hx hb dX12_exchange_46 rfl (lv_at hl 2 rfl) ?_
  refine m_fld C hw hm lk1 17 (by decide) lk2 (v := .ref (q 17)) rfl dX12_exchange_47 ?_
  refine lv_iload_n hx hb dX12_exchange_50 rfl (lv_at hl 4 rfl) ?_
  refine lv_lload hx hb dX12_exchange_51 (lv_at hl 0 rfl) ?_
  refine m_last C hw hm 17 rfl (show k < 3 from (by omega)) dX12_exchange_53 (fun B7 f8 H locs eB7 hw hm => ?_)
  exact h_vret C hr hlk hw (⟨_, _, hm, by rw [eA3, eA1, va_up_self, bx_uu], by rw [eB7, eB5, va_up_self, bx_uu]⟩) dX12_exchange_54
set_option maxHeartbeats 4000000 in
set_option maxRecDepth 100000 in
theorem c_X12_layOut {l : Launch} {D : va_G} {cA : Nat → ClassId} {f : HF} {sz : Nat} {q : Nat → Nat} {A : MA} {B : MB} {a b d : Nat} (hm : mo cA q A B f) (ha : a < 22) (hb2 : b < 22) (hd : d < 22) : Met l yX12_layOut wsX12_layOut ({ frames := 1, cells := 0, slots := 0, locals := 26 } : Room) (va_Pc [.ref (q 0), .int (nI a), .int (nI b), .int (nI d)] (hB D cA f sz)) (va_Qi (fun r f1 => bI (tgA A a b d) = r ∧ ∃ A1 B1, mo cA q A1 B1 f1 ∧ (∀ k, k ≠ 16 → k ≠ 18 → A1 k = A k) ∧ (∀ k, k ≠ 17 → B1 k = B k) ∧ (tgA A a b d → A1 16 0 = nI (triT A a b d).1.1 ∧ A1 16 1 = nI (triT A a b d).2.1.1 ∧ A1 16 2 = nI (triT A a b d).2.2.1 ∧ B1 17 0 = (triT A a b d).1.2 ∧ B1 17 1 = (triT A a b d).2.1.2 ∧ B1 17 2 = (triT A a b d).2.2.2 ∧ A1 18 0 = tnA A (triT A a b d))) (hE D f sz) (hA f sz)) 0 0 (hA f sz) := by
  refine h_of (cc := cX12_layOut) (maxL := 4) (ret := (some .boolean)) (by decide +kernel) rfl (Nat.le_of_ble_eq_true rfl) ?_
  intro p e s m below meth c ls C hr hlk hnm hw hl
  have hx := C.1.1
  have hb := C.1.2.1
  have hl : lv_has ls 4 [(0, .ref (q 0)), (1, .int (nI a)), (2, .int (nI b)), (3, .int (nI d))] := hl
  have lk0 : Cond.fieldLink RX12 51 "FallingLightModel" "cornerAt" "[I" ∈ wsX12_layOut := by decide +kernel
  have lk1 : ∀ w ∈ u_ws RX12 TX12 27, w ∈ wsX12_layOut := by decide +kernel
  have lk2 : Cond.fieldLink RX12 54 "FallingLightModel" "squareAt" "[J" ∈ wsX12_layOut := by decide +kernel
  have lk3 : Cond.fieldLink RX12 120 "FallingLightModel" "turn" "I" ∈ wsX12_layOut := by decide +kernel
  refine lv_aload_n hx hb dX12_layOut_0 rfl (lv_at hl 0 rfl) ?_
  refine m_fld C hw hm lk1 16 (by decide) lk0 (v := .ref (q 16)) rfl dX12_layOut_1 ?_
  refine lv_iconst (v := nI 0) hx hb dX12_layOut_4 (by decide) ?_
  refine lv_iload_n hx hb dX12_layOut_5 rfl (lv_at hl 1 rfl) ?_
  refine m_iast C hw hm 16 rfl (show 0 < 3 from (by omega)) dX12_layOut_6 (fun A1 f2 H locs eA1 hw hm => ?_)
  have kn3 : A1 16 0 = nI a := by rw [eA1, va_up_self, pk_us]
  refine lv_aload_n hx hb dX12_layOut_7 rfl (lv_at hl 0 rfl) ?_
  refine m_fld C hw hm lk1 16 (by decide) lk0 (v := .ref (q 16)) rfl dX12_layOut_8 ?_
  refine lv_iconst (v := nI 1) hx hb dX12_layOut_11 (by decide) ?_
  refine lv_iload_n hx hb dX12_layOut_12 rfl (lv_at hl 2 rfl) ?_
  refine m_iast C hw hm 16 rfl (show 1 < 3 from (by omega)) dX12_layOut_13 (fun A4 f5 H locs eA4 hw hm => ?_)
  have kn6 : A4 16 0 = nI a := by rw [eA4, va_up_self, pk_un (by decide)]; exact kn3
  have kn7 : A4 16 1 = nI b := by rw [eA4, va_up_self, pk_us]
  refine lv_aload_n hx hb dX12_layOut_14 rfl (lv_at hl 0 rfl) ?_
  refine m_fld C hw hm lk1 16 (by decide) lk0 (v := .ref (q 16)) rfl dX12_layOut_15 ?_
  refine lv_iconst (v := nI 2) hx hb dX12_layOut_18 (by decide) ?_
  refine lv_iload_n hx hb dX12_layOut_19 rfl (lv_at hl 3 rfl) ?_
  refine m_iast C hw hm 16 rfl (show 2 < 3 from (by omega)) dX12_layOut_20 (fun A8 f9 H locs eA8 hw hm => ?_)
  have kn10 : A8 16 0 = nI a := by rw [eA8, va_up_self, pk_un (by decide)]; exact kn6
  have kn11 : A8 16 1 = nI b := by rw [eA8, va_up_self, pk_un (by decide)]; exact kn7
  have kn12 : A8 16 2 = nI d := by rw [eA8, va_up_self, pk_us]
  refine lv_aload_n hx hb dX12_layOut_21 rfl (lv_at hl 0 rfl) ?_
  refine m_fld C hw hm lk1 17 (by decide) lk2 (v := .ref (q 17)) rfl dX12_layOut_22 ?_
  refine lv_iconst (v := nI 0) hx hb dX12_layOut_25 (by decide) ?_
  refine lv_aload_n hx hb dX12_layOut_26 rfl (lv_at hl 0 rfl) ?_
  refine lv_iload_n hx hb dX12_layOut_27 rfl (lv_at hl 2 rfl) ?_
  refine lv_iload_n hx hb dX12_layOut_28 rfl (lv_at hl 3 rfl) ?_
  refine h_calll hw (h_runV (n := 2) (As := [.int (nI b), .int (nI d)]) (rest := [.int (nI 0), .ref (q 17)]) C hw (c_X12_square hm (by omega) (by omega)) gX12_layOut_X12_square rfl rfl rfl (by decide +kernel) ⟨by decide, by decide⟩ bX12 hm.1 rfl hl.1 rfl (Nat.le_of_ble_eq_true rfl) dX12_layOut_29 ⟨by first | decide | omega, by first | decide | omega⟩) (fun r13 f14 H locs hp hw => ?_)
  obtain ⟨rfl, rfl⟩ := hp
  have h2s : A8 2 = A 2 := by rw [eA8, va_up_ne _ _ (by decide), eA4, va_up_ne _ _ (by decide), eA1, va_up_ne _ _ (by decide)]
  have h3s : A8 3 = A 3 := by rw [eA8, va_up_ne _ _ (by decide), eA4, va_up_ne _ _ (by decide), eA1, va_up_ne _ _ (by decide)]
  refine W.eq (g2 := F0 m 32 ls [.long (sqA A b d), _, _]) (by rw [sq_c h2s h3s]) ?_
  refine m_last C hw hm 17 rfl (show 0 < 3 from (by omega)) dX12_layOut_32 (fun B15 f16 H locs eB15 hw hm => ?_)
  have kn17 : B15 17 0 = sqA A b d := by rw [eB15, va_up_self, pk_uLs]
  refine lv_aload_n hx hb dX12_layOut_33 rfl (lv_at hl 0 rfl) ?_
  refine m_fld C hw hm lk1 17 (by decide) lk2 (v := .ref (q 17)) rfl dX12_layOut_34 ?_
  refine lv_iconst (v := nI 1) hx hb dX12_layOut_37 (by decide) ?_
  refine lv_aload_n hx hb dX12_layOut_38 rfl (lv_at hl 0 rfl) ?_
  refine lv_iload_n hx hb dX12_layOut_39 rfl (lv_at hl 1 rfl) ?_
  refine lv_iload_n hx hb dX12_layOut_40 rfl (lv_at hl 3 rfl) ?_
  refine h_calll hw (h_runV (n := 2) (As := [.int (nI a), .int (nI d)]) (rest := [.int (nI 1), .ref (q 17)]) C hw (c_X12_square hm (by omega) (by omega)) gX12_layOut_X12_square rfl rfl rfl (by decide +kernel) ⟨by decide, by decide⟩ bX12 hm.1 rfl hl.1 rfl (Nat.le_of_ble_eq_true rfl) dX12_layOut_41 ⟨by first | decide | omega, by first | decide | omega⟩) (fun r18 f19 H locs hp hw => ?_)
  obtain ⟨rfl, rfl⟩ := hp
  have h2s : A8 2 = A 2 := by rw [eA8, va_up_ne _ _ (by decide), eA4, va_up_ne _ _ (by decide), eA1, va_up_ne _ _ (by decide)]
  have h3s : A8 3 = A 3 := by rw [eA8, va_up_ne _ _ (by decide), eA4, va_up_ne _ _ (by decide), eA1, va_up_ne _ _ (by decide)]
  refine W.eq (g2 := F0 m 44 ls [.long (sqA A a d), _, _]) (by rw [sq_c h2s h3s]) ?_
  refine m_last C hw hm 17 rfl (show 1 < 3 from (by omega)) dX12_layOut_44 (fun B20 f21 H locs eB20 hw hm => ?_)
  have kn22 : B20 17 0 = sqA A b d := by rw [eB20, va_up_self, pk_uLn (by decide)]; exact kn17
  have kn23 : B20 17 1 = sqA A a d := by rw [eB20, va_up_self, pk_uLs]
  refine lv_aload_n hx hb dX12_layOut_45 rfl (lv_at hl 0 rfl) ?_
  refine m_fld C hw hm lk1 17 (by decide) lk2 (v := .ref (q 17)) rfl dX12_layOut_46 ?_
  refine lv_iconst (v := nI 2) hx hb dX12_layOut_49 (by decide) ?_
  refine lv_aload_n hx hb dX12_layOut_50 rfl (lv_at hl 0 rfl) ?_
  refine lv_iload_n hx hb dX12_layOut_51 rfl (lv_at hl 1 rfl) ?_
  refine lv_iload_n hx hb dX12_layOut_52 rfl (lv_at hl 2 rfl) ?_
  refine h_calll hw (h_runV (n := 2) (As := [.int (nI a), .int (nI b)]) (rest := [.int (nI 2), .ref (q 17)]) C hw (c_X12_square hm (by omega) (by omega)) gX12_layOut_X12_square rfl rfl rfl (by decide +kernel) ⟨by decide, by decide⟩ bX12 hm.1 rfl hl.1 rfl (Nat.le_of_ble_eq_true rfl) dX12_layOut_53 ⟨by first | decide | omega, by first | decide | omega⟩) (fun r24 f25 H locs hp hw => ?_)
  obtain ⟨rfl, rfl⟩ := hp
  have h2s : A8 2 = A 2 := by rw [eA8, va_up_ne _ _ (by decide), eA4, va_up_ne _ _ (by decide), eA1, va_up_ne _ _ (by decide)]
  have h3s : A8 3 = A 3 := by rw [eA8, va_up_ne _ _ (by decide), eA4, va_up_ne _ _ (by decide), eA1, va_up_ne _ _ (by decide)]
  refine W.eq (g2 := F0 m 56 ls [.long (sqA A a b), _, _]) (by rw [sq_c h2s h3s]) ?_
  refine m_last C hw hm 17 rfl (show 2 < 3 from (by omega)) dX12_layOut_56 (fun B26 f27 H locs eB26 hw hm => ?_)
  have kn28 : B26 17 0 = sqA A b d := by rw [eB26, va_up_self, pk_uLn (by decide)]; exact kn22
  have kn29 : B26 17 1 = sqA A a d := by rw [eB26, va_up_self, pk_uLn (by decide)]; exact kn23
  have kn30 : B26 17 2 = sqA A a b := by rw [eB26, va_up_self, pk_uLs]
  refine lv_aload_n hx hb dX12_layOut_57 rfl (lv_at hl 0 rfl) ?_
  refine lv_iload_n hx hb dX12_layOut_58 rfl (lv_at hl 1 rfl) ?_
  refine lv_iload_n hx hb dX12_layOut_59 rfl (lv_at hl 2 rfl) ?_
  refine lv_iload_n hx hb dX12_layOut_60 rfl (lv_at hl 3 rfl) ?_
  refine h_calll hw (h_runV (n := 3) (As := [.int (nI a), .int (nI b), .int (nI d)]) (rest := []) C hw (c_X12_cross hm (by omega) (by omega) (by omega)) gX12_layOut_X12_cross rfl rfl rfl (by decide +kernel) ⟨by decide, by decide⟩ bX12 hm.1 rfl hl.1 rfl (Nat.le_of_ble_eq_true rfl) dX12_layOut_61 ⟨by first | decide | omega, by first | decide | omega⟩) (fun r31 f32 H locs hp hw => ?_)
  obtain ⟨rfl, rfl⟩ := hp
  have h2s : A8 2 = A 2 := by rw [eA8, va_up_ne _ _ (by decide), eA4, va_up_ne _ _ (by decide), eA1, va_up_ne _ _ (by decide)]
  have h3s : A8 3 = A 3 := by rw [eA8, va_up_ne _ _ (by decide), eA4, va_up_ne _ _ (by decide), eA1, va_up_ne _ _ (by decide)]
  refine W.eq (g2 := F0 m 64 ls [.long (crA A a b d)]) (by rw [cr_c h2s h3s]) ?_
  refine lv_lconst (v := 0) hx hb dX12_layOut_64 (by decide) ?_
  refine W.lcmp hx hb dX12_layOut_65 ?_
  refine l_ifeq C (tgt := 117) dX12_layOut_66 (by decide) (fun c33 => ?_) (fun c33 => ?_)
  · refine lv_iconst (v := nI 0) hx hb dX12_layOut_117 (by decide) ?_
    exact h_zret C hr (by first | rfl | decide) hlk hw (⟨bI_f (fun h => h.1 c33), _, _, hm, fun k9 h16 h18 => by rw [eA8, va_up_ne _ _ (by first | decide | assumption), eA4, va_up_ne _ _ (by first | decide | assumption), eA1, va_up_ne _ _ (by first | decide | assumption)], fun k9 h17 => by rw [eB26, va_up_ne _ _ (by first | decide | assumption), eB20, va_up_ne _ _ (by first | decide | assumption), eB15, va_up_ne _ _ (by first | decide | assumption)], fun h => absurd (h.1 c33) (fun z => z)⟩) dX12_layOut_118
  · refine lv_aload_n hx hb dX12_layOut_69 rfl (lv_at hl 0 rfl) ?_
    refine m_fld C hw hm lk1 17 (by decide) lk2 (v := .ref (q 17)) rfl dX12_layOut_70 ?_
    refine lv_iconst (v := nI 0) hx hb dX12_layOut_73 (by decide) ?_
    refine m_lald C hw hm 17 rfl (v := sqA A b d) kn28 (show 0 < 3 from (by omega)) dX12_layOut_74 ?_
    refine lv_aload_n hx hb dX12_layOut_75 rfl (lv_at hl 0 rfl) ?_
    refine m_fld C hw hm lk1 17 (by decide) lk2 (v := .ref (q 17)) rfl dX12_layOut_76 ?_
    refine lv_iconst (v := nI 1) hx hb dX12_layOut_79 (by decide) ?_
    refine m_lald C hw hm 17 rfl (v := sqA A a d) kn29 (show 1 < 3 from (by omega)) dX12_layOut_80 ?_
    refine W.lcmp hx hb dX12_layOut_81 ?_
    refine l_ifeq C (tgt := 117) dX12_layOut_82 (by decide) (fun c34 => ?_) (fun c34 => ?_)
    · refine lv_iconst (v := nI 0) hx hb dX12_layOut_117 (by decide) ?_
      exact h_zret C hr (by first | rfl | decide) hlk hw (⟨bI_f (fun h => h.2.1 c34), _, _, hm, fun k9 h16 h18 => by rw [eA8, va_up_ne _ _ (by first | decide | assumption), eA4, va_up_ne _ _ (by first | decide | assumption), eA1, va_up_ne _ _ (by first | decide | assumption)], fun k9 h17 => by rw [eB26, va_up_ne _ _ (by first | decide | assumption), eB20, va_up_ne _ _ (by first | decide | assumption), eB15, va_up_ne _ _ (by first | decide | assumption)], fun h => absurd (h.2.1 c34) (fun z => z)⟩) dX12_layOut_118
    · refine lv_aload_n hx hb dX12_layOut_85 rfl (lv_at hl 0 rfl) ?_
      refine m_fld C hw hm lk1 17 (by decide) lk2 (v := .ref (q 17)) rfl dX12_layOut_86 ?_
      refine lv_iconst (v := nI 0) hx hb dX12_layOut_89 (by decide) ?_
      refine m_lald C hw hm 17 rfl (v := sqA A b d) kn28 (show 0 < 3 from (by omega)) dX12_layOut_90 ?_
      refine lv_aload_n hx hb dX12_layOut_91 rfl (lv_at hl 0 rfl) ?_
      refine m_fld C hw hm lk1 17 (by decide) lk2 (v := .ref (q 17)) rfl dX12_layOut_92 ?_
      refine lv_iconst (v := nI 2) hx hb dX12_layOut_95 (by decide) ?_
      refine m_lald C hw hm 17 rfl (v := sqA A a b) kn30 (show 2 < 3 from (by omega)) dX12_layOut_96 ?_
      refine W.lcmp hx hb dX12_layOut_97 ?_
      refine l_ifeq C (tgt := 117) dX12_layOut_98 (by decide) (fun c35 => ?_) (fun c35 => ?_)
      · refine lv_iconst (v := nI 0) hx hb dX12_layOut_117 (by decide) ?_
        exact h_zret C hr (by first | rfl | decide) hlk hw (⟨bI_f (fun h => h.2.2.1 c35), _, _, hm, fun k9 h16 h18 => by rw [eA8, va_up_ne _ _ (by first | decide | assumption), eA4, va_up_ne _ _ (by first | decide | assumption), eA1, va_up_ne _ _ (by first | decide | assumption)], fun k9 h17 => by rw [eB26, va_up_ne _ _ (by first | decide | assumption), eB20, va_up_ne _ _ (by first | decide | assumption), eB15, va_up_ne _ _ (by first | decide | assumption)], fun h => absurd (h.2.2.1 c35) (fun z => z)⟩) dX12_layOut_118
      · refine lv_aload_n hx hb dX12_layOut_101 rfl (lv_at hl 0 rfl) ?_
        refine m_fld C hw hm lk1 17 (by decide) lk2 (v := .ref (q 17)) rfl dX12_layOut_102 ?_
        refine lv_iconst (v := nI 1) hx hb dX12_layOut_105 (by decide) ?_
        refine m_lald C hw hm 17 rfl (v := sqA A a d) kn29 (show 1 < 3 from (by omega)) dX12_layOut_106 ?_
        refine lv_aload_n hx hb dX12_layOut_107 rfl (lv_at hl 0 rfl) ?_
        refine m_fld C hw hm lk1 17 (by decide) lk2 (v := .ref (q 17)) rfl dX12_layOut_108 ?_
        refine lv_iconst (v := nI 2) hx hb dX12_layOut_111 (by decide) ?_
        refine m_lald C hw hm 17 rfl (v := sqA A a b) kn30 (show 2 < 3 from (by omega)) dX12_layOut_112 ?_
        refine W.lcmp hx hb dX12_layOut_113 ?_
        refine l_ifne C (tgt := 119) dX12_layOut_114 (by decide) (fun c36 => ?_) (fun c36 => ?_)
        · refine lv_aload_n hx hb dX12_layOut_119 rfl (lv_at hl 0 rfl) ?_
          refine m_fld C hw hm lk1 17 (by decide) lk2 (v := .ref (q 17)) rfl dX12_layOut_120 ?_
          refine lv_iconst (v := nI 0) hx hb dX12_layOut_123 (by decide) ?_
          refine m_lald C hw hm 17 rfl (v := sqA A b d) kn28 (show 0 < 3 from (by omega)) dX12_layOut_124 ?_
          refine lv_aload_n hx hb dX12_layOut_125 rfl (lv_at hl 0 rfl) ?_
          refine m_fld C hw hm lk1 17 (by decide) lk2 (v := .ref (q 17)) rfl dX12_layOut_126 ?_
          refine lv_iconst (v := nI 1) hx hb dX12_layOut_129 (by decide) ?_
          refine m_lald C hw hm 17 rfl (v := sqA A a d) kn29 (show 1 < 3 from (by omega)) dX12_layOut_130 ?_
          refine W.lcmp hx hb dX12_layOut_131 ?_
          refine l_ifle C (tgt := 141) dX12_layOut_132 (by decide) (fun c37 => ?_) (fun c37 => ?_)
          · refine lv_aload_n hx hb dX12_layOut_141 rfl (lv_at hl 0 rfl) ?_
            refine m_fld C hw hm lk1 17 (by decide) lk2 (v := .ref (q 17)) rfl dX12_layOut_142 ?_
            refine lv_iconst (v := nI 1) hx hb dX12_layOut_145 (by decide) ?_
            refine m_lald C hw hm 17 rfl (v := sqA A a d) kn29 (show 1 < 3 from (by omega)) dX12_layOut_146 ?_
            refine lv_aload_n hx hb dX12_layOut_147 rfl (lv_at hl 0 rfl) ?_
            refine m_fld C hw hm lk1 17 (by decide) lk2 (v := .ref (q 17)) rfl dX12_layOut_148 ?_
            refine lv_iconst (v := nI 2) hx hb dX12_layOut_151 (by decide) ?_
            refine m_lald C hw hm 17 rfl (v := sqA A a b) kn30 (show 2 < 3 from (by omega)) dX12_layOut_152 ?_
            refine W.lcmp hx hb dX12_layOut_153 ?_
            refine l_ifle C (tgt := 163) dX12_layOut_154 (by decide) (fun c38 => ?_) (fun c38 => ?_)
            · refine lv_aload_n hx hb dX12_layOut_163 rfl (lv_at hl 0 rfl) ?_
              refine m_fld C hw hm lk1 17 (by decide) lk2 (v := .ref (q 17)) rfl dX12_layOut_164 ?_
              refine lv_iconst (v := nI 0) hx hb dX12_layOut_167 (by decide) ?_
              refine m_lald C hw hm 17 rfl (v := sqA A b d) kn28 (show 0 < 3 from (by omega)) dX12_layOut_168 ?_
              refine lv_aload_n hx hb dX12_layOut_169 rfl (lv_at hl 0 rfl) ?_
              refine m_fld C hw hm lk1 17 (by decide) lk2 (v := .ref (q 17)) rfl dX12_layOut_170 ?_
              refine lv_iconst (v := nI 1) hx hb dX12_layOut_173 (by decide) ?_
              refine m_lald C hw hm 17 rfl (v := sqA A a d) kn29 (show 1 < 3 from (by omega)) dX12_layOut_174 ?_
              refine W.lcmp hx hb dX12_layOut_175 ?_
              refine l_ifle C (tgt := 185) dX12_layOut_176 (by decide) (fun c39 => ?_) (fun c39 => ?_)
              · refine lv_aload_n hx hb dX12_layOut_185 rfl (lv_at hl 0 rfl) ?_
                refine lv_aload_n hx hb dX12_layOut_186 rfl (lv_at hl 0 rfl) ?_
                refine lv_aload_n hx hb dX12_layOut_187 rfl (lv_at hl 0 rfl) ?_
                refine m_fld C hw hm lk1 16 (by decide) lk0 (v := .ref (q 16)) rfl dX12_layOut_188 ?_
                refine lv_iconst (v := nI 0) hx hb dX12_layOut_191 (by decide) ?_
                refine m_iald C hw hm 16 rfl (v := nI a) kn10 (show 0 < 3 from (by omega)) dX12_layOut_192 ?_
                refine lv_aload_n hx hb dX12_layOut_193 rfl (lv_at hl 0 rfl) ?_
                refine m_fld C hw hm lk1 16 (by decide) lk0 (v := .ref (q 16)) rfl dX12_layOut_194 ?_
                refine lv_iconst (v := nI 1) hx hb dX12_layOut_197 (by decide) ?_
                refine m_iald C hw hm 16 rfl (v := nI b) kn11 (show 1 < 3 from (by omega)) dX12_layOut_198 ?_
                refine lv_aload_n hx hb dX12_layOut_199 rfl (lv_at hl 0 rfl) ?_
                refine m_fld C hw hm lk1 16 (by decide) lk0 (v := .ref (q 16)) rfl dX12_layOut_200 ?_
                refine lv_iconst (v := nI 2) hx hb dX12_layOut_203 (by decide) ?_
                refine m_iald C hw hm 16 rfl (v := nI d) kn12 (show 2 < 3 from (by omega)) dX12_layOut_204 ?_
                refine h_calll hw (h_runV (n := 3) (As := [.int (nI a), .int (nI b), .int (nI d)]) (rest := [.ref (q 0)]) C hw (c_X12_cross hm (by omega) (by omega) (by omega)) gX12_layOut_X12_cross rfl rfl rfl (by decide +kernel) ⟨by decide, by decide⟩ bX12 hm.1 rfl hl.1 rfl (Nat.le_of_ble_eq_true rfl) dX12_layOut_205 ⟨by first | decide | omega, by first | decide | omega⟩) (fun r40 f41 H locs hp hw => ?_)
                obtain ⟨rfl, rfl⟩ := hp
                have h2s : A8 2 = A 2 := by rw [eA8, va_up_ne _ _ (by decide), eA4, va_up_ne _ _ (by decide), eA1, va_up_ne _ _ (by decide)]
                have h3s : A8 3 = A 3 := by rw [eA8, va_up_ne _ _ (by decide), eA4, va_up_ne _ _ (by decide), eA1, va_up_ne _ _ (by decide)]
                refine W.eq (g2 := F0 m 208 ls [.long (crA A a b d), _]) (by rw [cr_c h2s h3s]) ?_
                refine lv_lconst (v := 0) hx hb dX12_layOut_208 (by decide) ?_
                refine W.lcmp hx hb dX12_layOut_209 ?_
                refine l_ifle C (tgt := 217) dX12_layOut_210 (by decide) (fun c42 => ?_) (fun c42 => ?_)
                · refine lv_iconst (v := (-1)) hx hb dX12_layOut_217 (by decide) ?_
                  refine m_puti C hw hm lk1 18 rfl (by decide) rfl rfl lk3 dX12_layOut_218 (fun A43 f44 H locs eA43 hw hm => ?_)
                  have kn45 : A43 16 0 = nI a := by rw [eA43, va_up_ne _ _ (by decide)]; exact kn10
                  have kn46 : A43 16 1 = nI b := by rw [eA43, va_up_ne _ _ (by decide)]; exact kn11
                  have kn47 : A43 16 2 = nI d := by rw [eA43, va_up_ne _ _ (by decide)]; exact kn12
                  refine lv_iconst (v := nI 1) hx hb dX12_layOut_221 (by decide) ?_
                  exact h_zret C hr (by first | rfl | decide) hlk hw (⟨bI_t ⟨c33, c34, c35, c36⟩, _, _, hm, fun k9 h16 h18 => by rw [eA43, va_up_ne _ _ (by first | decide | assumption), eA8, va_up_ne _ _ (by first | decide | assumption), eA4, va_up_ne _ _ (by first | decide | assumption), eA1, va_up_ne _ _ (by first | decide | assumption)], fun k9 h17 => by rw [eB26, va_up_ne _ _ (by first | decide | assumption), eB20, va_up_ne _ _ (by first | decide | assumption), eB15, va_up_ne _ _ (by first | decide | assumption)], fun _ => by
      have hT : triT A a b d = ((a, sqA A b d), (b, sqA A a d), (d, sqA A a b)) := by first | (simp only [triT, sw1, sw2, if_neg c37, if_neg c38, if_neg c39]; done) | exact absurd c37 c39
      rw [hT]
      exact ⟨kn45, kn46, kn47, kn28, kn29, kn30, by rw [eA43, va_up_self, tnA, if_neg c42]⟩⟩) dX12_layOut_222
                · refine lv_iconst (v := nI 1) hx hb dX12_layOut_213 (by decide) ?_
                  refine lv_goto (tgt := 218) hx hb dX12_layOut_214 (by decide) ?_
                  refine m_puti C hw hm lk1 18 rfl (by decide) rfl rfl lk3 dX12_layOut_218 (fun A48 f49 H locs eA48 hw hm => ?_)
                  have kn50 : A48 16 0 = nI a := by rw [eA48, va_up_ne _ _ (by decide)]; exact kn10
                  have kn51 : A48 16 1 = nI b := by rw [eA48, va_up_ne _ _ (by decide)]; exact kn11
                  have kn52 : A48 16 2 = nI d := by rw [eA48, va_up_ne _ _ (by decide)]; exact kn12
                  have hn53 : A48 18 0 = nI 1 := by rw [eA48, va_up_self]
                  refine lv_iconst (v := nI 1) hx hb dX12_layOut_221 (by decide) ?_
                  exact h_zret C hr (by first | rfl | decide) hlk hw (⟨bI_t ⟨c33, c34, c35, c36⟩, _, _, hm, fun k9 h16 h18 => by rw [eA48, va_up_ne _ _ (by first | decide | assumption), eA8, va_up_ne _ _ (by first | decide | assumption), eA4, va_up_ne _ _ (by first | decide | assumption), eA1, va_up_ne _ _ (by first | decide | assumption)], fun k9 h17 => by rw [eB26, va_up_ne _ _ (by first | decide | assumption), eB20, va_up_ne _ _ (by first | decide | assumption), eB15, va_up_ne _ _ (by first | decide | assumption)], fun _ => by
      have hT : triT A a b d = ((a, sqA A b d), (b, sqA A a d), (d, sqA A a b)) := by first | (simp only [triT, sw1, sw2, if_neg c37, if_neg c38, if_neg c39]; done) | exact absurd c37 c39
      rw [hT]
      exact ⟨kn50, kn51, kn52, kn28, kn29, kn30, by rw [eA48, va_up_self, tnA, if_pos c42]⟩⟩) dX12_layOut_222
              · refine lv_aload_n hx hb dX12_layOut_179 rfl (lv_at hl 0 rfl) ?_
                refine lv_iconst (v := nI 0) hx hb dX12_layOut_180 (by decide) ?_
                refine lv_iconst (v := nI 1) hx hb dX12_layOut_181 (by decide) ?_
                refine h_callv hw (h_runV (n := 2) (As := [.int (nI 0), .int (nI 1)]) (rest := []) C hw (c_X12_exchange hm (by omega) (by omega)) gX12_layOut_X12_exchange rfl rfl rfl (by decide +kernel) ⟨by decide, by decide⟩ bX12 hm.1 rfl hl.1 rfl (Nat.le_of_ble_eq_true rfl) dX12_layOut_182 ⟨by first | decide | omega, by first | decide | omega⟩) (fun  f54 H locs hp hw => ?_)
                obtain ⟨A55, B56, hm, eA55, eB56⟩ := hp
                have kn57 : A55 16 1 = nI a := by rw [eA55, va_up_self, pk_us]; exact kn10
                have kn58 : A55 16 0 = nI b := by rw [eA55, va_up_self, pk_un (by decide), pk_us]; exact kn11
                have kn59 : A55 16 2 = nI d := by rw [eA55, va_up_self, pk_un (by decide), pk_un (by decide)]; exact kn12
                have kn60 : B56 17 1 = sqA A b d := by rw [eB56, va_up_self, pk_uLs]; exact kn28
                have kn61 : B56 17 0 = sqA A a d := by rw [eB56, va_up_self, pk_uLn (by decide), pk_uLs]; exact kn29
                have kn62 : B56 17 2 = sqA A a b := by rw [eB56, va_up_self, pk_uLn (by decide), pk_uLn (by decide)]; exact kn30
                refine lv_aload_n hx hb dX12_layOut_185 rfl (lv_at hl 0 rfl) ?_
                refine lv_aload_n hx hb dX12_layOut_186 rfl (lv_at hl 0 rfl) ?_
                refine lv_aload_n hx hb dX12_layOut_187 rfl (lv_at hl 0 rfl) ?_
                refine m_fld C hw hm lk1 16 (by decide) lk0 (v := .ref (q 16)) rfl dX12_layOut_188 ?_
                refine lv_iconst (v := nI 0) hx hb dX12_layOut_191 (by decide) ?_
                refine m_iald C hw hm 16 rfl (v := nI b) kn58 (show 0 < 3 from (by omega)) dX12_layOut_192 ?_
                refine lv_aload_n hx hb dX12_layOut_193 rfl (lv_at hl 0 rfl) ?_
                refine m_fld C hw hm lk1 16 (by decide) lk0 (v := .ref (q 16)) rfl dX12_layOut_194 ?_
                refine lv_iconst (v := nI 1) hx hb dX12_layOut_197 (by decide) ?_
                refine m_iald C hw hm 16 rfl (v := nI a) kn57 (show 1 < 3 from (by omega)) dX12_layOut_198 ?_
                refine lv_aload_n hx hb dX12_layOut_199 rfl (lv_at hl 0 rfl) ?_
                refine m_fld C hw hm lk1 16 (by decide) lk0 (v := .ref (q 16)) rfl dX12_layOut_200 ?_
                refine lv_iconst (v := nI 2) hx hb dX12_layOut_203 (by decide) ?_
                refine m_iald C hw hm 16 rfl (v := nI d) kn59 (show 2 < 3 from (by omega)) dX12_layOut_204 ?_
                refine h_calll hw (h_runV (n := 3) (As := [.int (nI b), .int (nI a), .int (nI d)]) (rest := [.ref (q 0)]) C hw (c_X12_cross hm (by omega) (by omega) (by omega)) gX12_layOut_X12_cross rfl rfl rfl (by decide +kernel) ⟨by decide, by decide⟩ bX12 hm.1 rfl hl.1 rfl (Nat.le_of_ble_eq_true rfl) dX12_layOut_205 ⟨by first | decide | omega, by first | decide | omega⟩) (fun r63 f64 H locs hp hw => ?_)
                obtain ⟨rfl, rfl⟩ := hp
                have h2s : A55 2 = A 2 := by rw [eA55, va_up_ne _ _ (by decide), eA8, va_up_ne _ _ (by decide), eA4, va_up_ne _ _ (by decide), eA1, va_up_ne _ _ (by decide)]
                have h3s : A55 3 = A 3 := by rw [eA55, va_up_ne _ _ (by decide), eA8, va_up_ne _ _ (by decide), eA4, va_up_ne _ _ (by decide), eA1, va_up_ne _ _ (by decide)]
                refine W.eq (g2 := F0 m 208 ls [.long (crA A b a d), _]) (by rw [cr_c h2s h3s]) ?_
                refine lv_lconst (v := 0) hx hb dX12_layOut_208 (by decide) ?_
                refine W.lcmp hx hb dX12_layOut_209 ?_
                refine l_ifle C (tgt := 217) dX12_layOut_210 (by decide) (fun c65 => ?_) (fun c65 => ?_)
                · refine lv_iconst (v := (-1)) hx hb dX12_layOut_217 (by decide) ?_
                  refine m_puti C hw hm lk1 18 rfl (by decide) rfl rfl lk3 dX12_layOut_218 (fun A66 f67 H locs eA66 hw hm => ?_)
                  have kn68 : A66 16 1 = nI a := by rw [eA66, va_up_ne _ _ (by decide)]; exact kn57
                  have kn69 : A66 16 0 = nI b := by rw [eA66, va_up_ne _ _ (by decide)]; exact kn58
                  have kn70 : A66 16 2 = nI d := by rw [eA66, va_up_ne _ _ (by decide)]; exact kn59
                  refine lv_iconst (v := nI 1) hx hb dX12_layOut_221 (by decide) ?_
                  exact h_zret C hr (by first | rfl | decide) hlk hw (⟨bI_t ⟨c33, c34, c35, c36⟩, _, _, hm, fun k9 h16 h18 => by rw [eA66, va_up_ne _ _ (by first | decide | assumption), eA55, va_up_ne _ _ (by first | decide | assumption), eA8, va_up_ne _ _ (by first | decide | assumption), eA4, va_up_ne _ _ (by first | decide | assumption), eA1, va_up_ne _ _ (by first | decide | assumption)], fun k9 h17 => by rw [eB56, va_up_ne _ _ (by first | decide | assumption), eB26, va_up_ne _ _ (by first | decide | assumption), eB20, va_up_ne _ _ (by first | decide | assumption), eB15, va_up_ne _ _ (by first | decide | assumption)], fun _ => by
      have hT : triT A a b d = ((b, sqA A a d), (a, sqA A b d), (d, sqA A a b)) := by first | (simp only [triT, sw1, sw2, if_neg c37, if_neg c38, if_pos c39]; done) | exact absurd c39 c37
      rw [hT]
      exact ⟨kn69, kn68, kn70, kn61, kn60, kn62, by rw [eA66, va_up_self, tnA, if_neg c65]⟩⟩) dX12_layOut_222
                · refine lv_iconst (v := nI 1) hx hb dX12_layOut_213 (by decide) ?_
                  refine lv_goto (tgt := 218) hx hb dX12_layOut_214 (by decide) ?_
                  refine m_puti C hw hm lk1 18 rfl (by decide) rfl rfl lk3 dX12_layOut_218 (fun A71 f72 H locs eA71 hw hm => ?_)
                  have kn73 : A71 16 1 = nI a := by rw [eA71, va_up_ne _ _ (by decide)]; exact kn57
                  have kn74 : A71 16 0 = nI b := by rw [eA71, va_up_ne _ _ (by decide)]; exact kn58
                  have kn75 : A71 16 2 = nI d := by rw [eA71, va_up_ne _ _ (by decide)]; exact kn59
                  have hn76 : A71 18 0 = nI 1 := by rw [eA71, va_up_self]
                  refine lv_iconst (v := nI 1) hx hb dX12_layOut_221 (by decide) ?_
                  exact h_zret C hr (by first | rfl | decide) hlk hw (⟨bI_t ⟨c33, c34, c35, c36⟩, _, _, hm, fun k9 h16 h18 => by rw [eA71, va_up_ne _ _ (by first | decide | assumption), eA55, va_up_ne _ _ (by first | decide | assumption), eA8, va_up_ne _ _ (by first | decide | assumption), eA4, va_up_ne _ _ (by first | decide | assumption), eA1, va_up_ne _ _ (by first | decide | assumption)], fun k9 h17 => by rw [eB56, va_up_ne _ _ (by first | decide | assumption), eB26, va_up_ne _ _ (by first | decide | assumption), eB20, va_up_ne _ _ (by first | decide | assumption), eB15, va_up_ne _ _ (by first | decide | assumption)], fun _ => by
      have hT : triT A a b d = ((b, sqA A a d), (a, sqA A b d), (d, sqA A a b)) := by first | (simp only [triT, sw1, sw2, if_neg c37, if_neg c38, if_pos c39]; done) | exact absurd c39 c37
      rw [hT]
      exact ⟨kn74, kn73, kn75, kn61, kn60, kn62, by rw [eA71, va_up_self, tnA, if_pos c65]⟩⟩) dX12_layOut_222
            · refine lv_aload_n hx hb dX12_layOut_157 rfl (lv_at hl 0 rfl) ?_
              refine lv_iconst (v := nI 1) hx hb dX12_layOut_158 (by decide) ?_
              refine lv_iconst (v := nI 2) hx hb dX12_layOut_159 (by decide) ?_
              refine h_callv hw (h_runV (n := 2) (As := [.int (nI 1), .int (nI 2)]) (rest := []) C hw (c_X12_exchange hm (by omega) (by omega)) gX12_layOut_X12_exchange rfl rfl rfl (by decide +kernel) ⟨by decide, by decide⟩ bX12 hm.1 rfl hl.1 rfl (Nat.le_of_ble_eq_true rfl) dX12_layOut_160 ⟨by first | decide | omega, by first | decide | omega⟩) (fun  f77 H locs hp hw => ?_)
              obtain ⟨A78, B79, hm, eA78, eB79⟩ := hp
              have kn80 : A78 16 0 = nI a := by rw [eA78, va_up_self, pk_un (by decide), pk_un (by decide)]; exact kn10
              have kn81 : A78 16 2 = nI b := by rw [eA78, va_up_self, pk_us]; exact kn11
              have kn82 : A78 16 1 = nI d := by rw [eA78, va_up_self, pk_un (by decide), pk_us]; exact kn12
              have kn83 : B79 17 0 = sqA A b d := by rw [eB79, va_up_self, pk_uLn (by decide), pk_uLn (by decide)]; exact kn28
              have kn84 : B79 17 2 = sqA A a d := by rw [eB79, va_up_self, pk_uLs]; exact kn29
              have kn85 : B79 17 1 = sqA A a b := by rw [eB79, va_up_self, pk_uLn (by decide), pk_uLs]; exact kn30
              refine lv_aload_n hx hb dX12_layOut_163 rfl (lv_at hl 0 rfl) ?_
              refine m_fld C hw hm lk1 17 (by decide) lk2 (v := .ref (q 17)) rfl dX12_layOut_164 ?_
              refine lv_iconst (v := nI 0) hx hb dX12_layOut_167 (by decide) ?_
              refine m_lald C hw hm 17 rfl (v := sqA A b d) kn83 (show 0 < 3 from (by omega)) dX12_layOut_168 ?_
              refine lv_aload_n hx hb dX12_layOut_169 rfl (lv_at hl 0 rfl) ?_
              refine m_fld C hw hm lk1 17 (by decide) lk2 (v := .ref (q 17)) rfl dX12_layOut_170 ?_
              refine lv_iconst (v := nI 1) hx hb dX12_layOut_173 (by decide) ?_
              refine m_lald C hw hm 17 rfl (v := sqA A a b) kn85 (show 1 < 3 from (by omega)) dX12_layOut_174 ?_
              refine W.lcmp hx hb dX12_layOut_175 ?_
              refine l_ifle C (tgt := 185) dX12_layOut_176 (by decide) (fun c86 => ?_) (fun c86 => ?_)
              · refine lv_aload_n hx hb dX12_layOut_185 rfl (lv_at hl 0 rfl) ?_
                refine lv_aload_n hx hb dX12_layOut_186 rfl (lv_at hl 0 rfl) ?_
                refine lv_aload_n hx hb dX12_layOut_187 rfl (lv_at hl 0 rfl) ?_
                refine m_fld C hw hm lk1 16 (by decide) lk0 (v := .ref (q 16)) rfl dX12_layOut_188 ?_
                refine lv_iconst (v := nI 0) hx hb dX12_layOut_191 (by decide) ?_
                refine m_iald C hw hm 16 rfl (v := nI a) kn80 (show 0 < 3 from (by omega)) dX12_layOut_192 ?_
                refine lv_aload_n hx hb dX12_layOut_193 rfl (lv_at hl 0 rfl) ?_
                refine m_fld C hw hm lk1 16 (by decide) lk0 (v := .ref (q 16)) rfl dX12_layOut_194 ?_
                refine lv_iconst (v := nI 1) hx hb dX12_layOut_197 (by decide) ?_
                refine m_iald C hw hm 16 rfl (v := nI d) kn82 (show 1 < 3 from (by omega)) dX12_layOut_198 ?_
                refine lv_aload_n hx hb dX12_layOut_199 rfl (lv_at hl 0 rfl) ?_
                refine m_fld C hw hm lk1 16 (by decide) lk0 (v := .ref (q 16)) rfl dX12_layOut_200 ?_
                refine lv_iconst (v := nI 2) hx hb dX12_layOut_203 (by decide) ?_
                refine m_iald C hw hm 16 rfl (v := nI b) kn81 (show 2 < 3 from (by omega)) dX12_layOut_204 ?_
                refine h_calll hw (h_runV (n := 3) (As := [.int (nI a), .int (nI d), .int (nI b)]) (rest := [.ref (q 0)]) C hw (c_X12_cross hm (by omega) (by omega) (by omega)) gX12_layOut_X12_cross rfl rfl rfl (by decide +kernel) ⟨by decide, by decide⟩ bX12 hm.1 rfl hl.1 rfl (Nat.le_of_ble_eq_true rfl) dX12_layOut_205 ⟨by first | decide | omega, by first | decide | omega⟩) (fun r87 f88 H locs hp hw => ?_)
                obtain ⟨rfl, rfl⟩ := hp
                have h2s : A78 2 = A 2 := by rw [eA78, va_up_ne _ _ (by decide), eA8, va_up_ne _ _ (by decide), eA4, va_up_ne _ _ (by decide), eA1, va_up_ne _ _ (by decide)]
                have h3s : A78 3 = A 3 := by rw [eA78, va_up_ne _ _ (by decide), eA8, va_up_ne _ _ (by decide), eA4, va_up_ne _ _ (by decide), eA1, va_up_ne _ _ (by decide)]
                refine W.eq (g2 := F0 m 208 ls [.long (crA A a d b), _]) (by rw [cr_c h2s h3s]) ?_
                refine lv_lconst (v := 0) hx hb dX12_layOut_208 (by decide) ?_
                refine W.lcmp hx hb dX12_layOut_209 ?_
                refine l_ifle C (tgt := 217) dX12_layOut_210 (by decide) (fun c89 => ?_) (fun c89 => ?_)
                · refine lv_iconst (v := (-1)) hx hb dX12_layOut_217 (by decide) ?_
                  refine m_puti C hw hm lk1 18 rfl (by decide) rfl rfl lk3 dX12_layOut_218 (fun A90 f91 H locs eA90 hw hm => ?_)
                  have kn92 : A90 16 0 = nI a := by rw [eA90, va_up_ne _ _ (by decide)]; exact kn80
                  have kn93 : A90 16 2 = nI b := by rw [eA90, va_up_ne _ _ (by decide)]; exact kn81
                  have kn94 : A90 16 1 = nI d := by rw [eA90, va_up_ne _ _ (by decide)]; exact kn82
                  refine lv_iconst (v := nI 1) hx hb dX12_layOut_221 (by decide) ?_
                  exact h_zret C hr (by first | rfl | decide) hlk hw (⟨bI_t ⟨c33, c34, c35, c36⟩, _, _, hm, fun k9 h16 h18 => by rw [eA90, va_up_ne _ _ (by first | decide | assumption), eA78, va_up_ne _ _ (by first | decide | assumption), eA8, va_up_ne _ _ (by first | decide | assumption), eA4, va_up_ne _ _ (by first | decide | assumption), eA1, va_up_ne _ _ (by first | decide | assumption)], fun k9 h17 => by rw [eB79, va_up_ne _ _ (by first | decide | assumption), eB26, va_up_ne _ _ (by first | decide | assumption), eB20, va_up_ne _ _ (by first | decide | assumption), eB15, va_up_ne _ _ (by first | decide | assumption)], fun _ => by
      have hT : triT A a b d = ((a, sqA A b d), (d, sqA A a b), (b, sqA A a d)) := by first | (simp only [triT, sw1, sw2, if_neg c37, if_pos c38, if_neg c86]; done) | exact absurd c37 c86
      rw [hT]
      exact ⟨kn92, kn94, kn93, kn83, kn85, kn84, by rw [eA90, va_up_self, tnA, if_neg c89]⟩⟩) dX12_layOut_222
                · refine lv_iconst (v := nI 1) hx hb dX12_layOut_213 (by decide) ?_
                  refine lv_goto (tgt := 218) hx hb dX12_layOut_214 (by decide) ?_
                  refine m_puti C hw hm lk1 18 rfl (by decide) rfl rfl lk3 dX12_layOut_218 (fun A95 f96 H locs eA95 hw hm => ?_)
                  have kn97 : A95 16 0 = nI a := by rw [eA95, va_up_ne _ _ (by decide)]; exact kn80
                  have kn98 : A95 16 2 = nI b := by rw [eA95, va_up_ne _ _ (by decide)]; exact kn81
                  have kn99 : A95 16 1 = nI d := by rw [eA95, va_up_ne _ _ (by decide)]; exact kn82
                  have hn100 : A95 18 0 = nI 1 := by rw [eA95, va_up_self]
                  refine lv_iconst (v := nI 1) hx hb dX12_layOut_221 (by decide) ?_
                  exact h_zret C hr (by first | rfl | decide) hlk hw (⟨bI_t ⟨c33, c34, c35, c36⟩, _, _, hm, fun k9 h16 h18 => by rw [eA95, va_up_ne _ _ (by first | decide | assumption), eA78, va_up_ne _ _ (by first | decide | assumption), eA8, va_up_ne _ _ (by first | decide | assumption), eA4, va_up_ne _ _ (by first | decide | assumption), eA1, va_up_ne _ _ (by first | decide | assumption)], fun k9 h17 => by rw [eB79, va_up_ne _ _ (by first | decide | assumption), eB26, va_up_ne _ _ (by first | decide | assumption), eB20, va_up_ne _ _ (by first | decide | assumption), eB15, va_up_ne _ _ (by first | decide | assumption)], fun _ => by
      have hT : triT A a b d = ((a, sqA A b d), (d, sqA A a b), (b, sqA A a d)) := by first | (simp only [triT, sw1, sw2, if_neg c37, if_pos c38, if_neg c86]; done) | exact absurd c37 c86
      rw [hT]
      exact ⟨kn97, kn99, kn98, kn83, kn85, kn84, by rw [eA95, va_up_self, tnA, if_pos c89]⟩⟩) dX12_layOut_222
              · refine lv_aload_n hx hb dX12_layOut_179 rfl (lv_at hl 0 rfl) ?_
                refine lv_iconst (v := nI 0) hx hb dX12_layOut_180 (by decide) ?_
                refine lv_iconst (v := nI 1) hx hb dX12_layOut_181 (by decide) ?_
                refine h_callv hw (h_runV (n := 2) (As := [.int (nI 0), .int (nI 1)]) (rest := []) C hw (c_X12_exchange hm (by omega) (by omega)) gX12_layOut_X12_exchange rfl rfl rfl (by decide +kernel) ⟨by decide, by decide⟩ bX12 hm.1 rfl hl.1 rfl (Nat.le_of_ble_eq_true rfl) dX12_layOut_182 ⟨by first | decide | omega, by first | decide | omega⟩) (fun  f101 H locs hp hw => ?_)
                obtain ⟨A102, B103, hm, eA102, eB103⟩ := hp
                have kn104 : A102 16 1 = nI a := by rw [eA102, va_up_self, pk_us]; exact kn80
                have kn105 : A102 16 2 = nI b := by rw [eA102, va_up_self, pk_un (by decide), pk_un (by decide)]; exact kn81
                have kn106 : A102 16 0 = nI d := by rw [eA102, va_up_self, pk_un (by decide), pk_us]; exact kn82
                have kn107 : B103 17 1 = sqA A b d := by rw [eB103, va_up_self, pk_uLs]; exact kn83
                have kn108 : B103 17 2 = sqA A a d := by rw [eB103, va_up_self, pk_uLn (by decide), pk_uLn (by decide)]; exact kn84
                have kn109 : B103 17 0 = sqA A a b := by rw [eB103, va_up_self, pk_uLn (by decide), pk_uLs]; exact kn85
                refine lv_aload_n hx hb dX12_layOut_185 rfl (lv_at hl 0 rfl) ?_
                refine lv_aload_n hx hb dX12_layOut_186 rfl (lv_at hl 0 rfl) ?_
                refine lv_aload_n hx hb dX12_layOut_187 rfl (lv_at hl 0 rfl) ?_
                refine m_fld C hw hm lk1 16 (by decide) lk0 (v := .ref (q 16)) rfl dX12_layOut_188 ?_
                refine lv_iconst (v := nI 0) hx hb dX12_layOut_191 (by decide) ?_
                refine m_iald C hw hm 16 rfl (v := nI d) kn106 (show 0 < 3 from (by omega)) dX12_layOut_192 ?_
                refine lv_aload_n hx hb dX12_layOut_193 rfl (lv_at hl 0 rfl) ?_
                refine m_fld C hw hm lk1 16 (by decide) lk0 (v := .ref (q 16)) rfl dX12_layOut_194 ?_
                refine lv_iconst (v := nI 1) hx hb dX12_layOut_197 (by decide) ?_
                refine m_iald C hw hm 16 rfl (v := nI a) kn104 (show 1 < 3 from (by omega)) dX12_layOut_198 ?_
                refine lv_aload_n hx hb dX12_layOut_199 rfl (lv_at hl 0 rfl) ?_
                refine m_fld C hw hm lk1 16 (by decide) lk0 (v := .ref (q 16)) rfl dX12_layOut_200 ?_
                refine lv_iconst (v := nI 2) hx hb dX12_layOut_203 (by decide) ?_
                refine m_iald C hw hm 16 rfl (v := nI b) kn105 (show 2 < 3 from (by omega)) dX12_layOut_204 ?_
                refine h_calll hw (h_runV (n := 3) (As := [.int (nI d), .int (nI a), .int (nI b)]) (rest := [.ref (q 0)]) C hw (c_X12_cross hm (by omega) (by omega) (by omega)) gX12_layOut_X12_cross rfl rfl rfl (by decide +kernel) ⟨by decide, by decide⟩ bX12 hm.1 rfl hl.1 rfl (Nat.le_of_ble_eq_true rfl) dX12_layOut_205 ⟨by first | decide | omega, by first | decide | omega⟩) (fun r110 f111 H locs hp hw => ?_)
                obtain ⟨rfl, rfl⟩ := hp
                have h2s : A102 2 = A 2 := by rw [eA102, va_up_ne _ _ (by decide), eA78, va_up_ne _ _ (by decide), eA8, va_up_ne _ _ (by decide), eA4, va_up_ne _ _ (by decide), eA1, va_up_ne _ _ (by decide)]
                have h3s : A102 3 = A 3 := by rw [eA102, va_up_ne _ _ (by decide), eA78, va_up_ne _ _ (by decide), eA8, va_up_ne _ _ (by decide), eA4, va_up_ne _ _ (by decide), eA1, va_up_ne _ _ (by decide)]
                refine W.eq (g2 := F0 m 208 ls [.long (crA A d a b), _]) (by rw [cr_c h2s h3s]) ?_
                refine lv_lconst (v := 0) hx hb dX12_layOut_208 (by decide) ?_
                refine W.lcmp hx hb dX12_layOut_209 ?_
                refine l_ifle C (tgt := 217) dX12_layOut_210 (by decide) (fun c112 => ?_) (fun c112 => ?_)
                · refine lv_iconst (v := (-1)) hx hb dX12_layOut_217 (by decide) ?_
                  refine m_puti C hw hm lk1 18 rfl (by decide) rfl rfl lk3 dX12_layOut_218 (fun A113 f114 H locs eA113 hw hm => ?_)
                  have kn115 : A113 16 1 = nI a := by rw [eA113, va_up_ne _ _ (by decide)]; exact kn104
                  have kn116 : A113 16 2 = nI b := by rw [eA113, va_up_ne _ _ (by decide)]; exact kn105
                  have kn117 : A113 16 0 = nI d := by rw [eA113, va_up_ne _ _ (by decide)]; exact kn106
                  refine lv_iconst (v := nI 1) hx hb dX12_layOut_221 (by decide) ?_
                  exact h_zret C hr (by first | rfl | decide) hlk hw (⟨bI_t ⟨c33, c34, c35, c36⟩, _, _, hm, fun k9 h16 h18 => by rw [eA113, va_up_ne _ _ (by first | decide | assumption), eA102, va_up_ne _ _ (by first | decide | assumption), eA78, va_up_ne _ _ (by first | decide | assumption), eA8, va_up_ne _ _ (by first | decide | assumption), eA4, va_up_ne _ _ (by first | decide | assumption), eA1, va_up_ne _ _ (by first | decide | assumption)], fun k9 h17 => by rw [eB103, va_up_ne _ _ (by first | decide | assumption), eB79, va_up_ne _ _ (by first | decide | assumption), eB26, va_up_ne _ _ (by first | decide | assumption), eB20, va_up_ne _ _ (by first | decide | assumption), eB15, va_up_ne _ _ (by first | decide | assumption)], fun _ => by
      have hT : triT A a b d = ((d, sqA A a b), (a, sqA A b d), (b, sqA A a d)) := by first | (simp only [triT, sw1, sw2, if_neg c37, if_pos c38, if_pos c86]; done) | exact absurd c86 c37
      rw [hT]
      exact ⟨kn117, kn115, kn116, kn109, kn107, kn108, by rw [eA113, va_up_self, tnA, if_neg c112]⟩⟩) dX12_layOut_222
                · refine lv_iconst (v := nI 1) hx hb dX12_layOut_213 (by decide) ?_
                  refine lv_goto (tgt := 218) hx hb dX12_layOut_214 (by decide) ?_
                  refine m_puti C hw hm lk1 18 rfl (by decide) rfl rfl lk3 dX12_layOut_218 (fun A118 f119 H locs eA118 hw hm => ?_)
                  have kn120 : A118 16 1 = nI a := by rw [eA118, va_up_ne _ _ (by decide)]; exact kn104
                  have kn121 : A118 16 2 = nI b := by rw [eA118, va_up_ne _ _ (by decide)]; exact kn105
                  have kn122 : A118 16 0 = nI d := by rw [eA118, va_up_ne _ _ (by decide)]; exact kn106
                  have hn123 : A118 18 0 = nI 1 := by rw [eA118, va_up_self]
                  refine lv_iconst (v := nI 1) hx hb dX12_layOut_221 (by decide) ?_
                  exact h_zret C hr (by first | rfl | decide) hlk hw (⟨bI_t ⟨c33, c34, c35, c36⟩, _, _, hm, fun k9 h16 h18 => by rw [eA118, va_up_ne _ _ (by first | decide | assumption), eA102, va_up_ne _ _ (by first | decide | assumption), eA78, va_up_ne _ _ (by first | decide | assumption), eA8, va_up_ne _ _ (by first | decide | assumption), eA4, va_up_ne _ _ (by first | decide | assumption), eA1, va_up_ne _ _ (by first | decide | assumption)], fun k9 h17 => by rw [eB103, va_up_ne _ _ (by first | decide | assumption), eB79, va_up_ne _ _ (by first | decide | assumption), eB26, va_up_ne _ _ (by first | decide | assumption), eB20, va_up_ne _ _ (by first | decide | assumption), eB15, va_up_ne _ _ (by first | decide | assumption)], fun _ => by
      have hT : triT A a b d = ((d, sqA A a b), (a, sqA A b d), (b, sqA A a d)) := by first | (simp only [triT, sw1, sw2, if_neg c37, if_pos c38, if_pos c86]; done) | exact absurd c86 c37
      rw [hT]
      exact ⟨kn122, kn120, kn121, kn109, kn107, kn108, by rw [eA118, va_up_self, tnA, if_pos c112]⟩⟩) dX12_layOut_222
          · refine lv_aload_n hx hb dX12_layOut_135 rfl (lv_at hl 0 rfl) ?_
            refine lv_iconst (v := nI 0) hx hb dX12_layOut_136 (by decide) ?_
            refine lv_iconst (v := nI 1) hx hb dX12_layOut_137 (by decide) ?_
            refine h_callv hw (h_runV (n := 2) (As := [.int (nI 0), .int (nI 1)]) (rest := []) C hw (c_X12_exchange hm (by omega) (by omega)) gX12_layOut_X12_exchange rfl rfl rfl (by decide +kernel) ⟨by decide, by decide⟩ bX12 hm.1 rfl hl.1 rfl (Nat.le_of_ble_eq_true rfl) dX12_layOut_138 ⟨by first | decide | omega, by first | decide | omega⟩) (fun  f124 H locs hp hw => ?_)
            obtain ⟨A125, B126, hm, eA125, eB126⟩ := hp
            have kn127 : A125 16 1 = nI a := by rw [eA125, va_up_self, pk_us]; exact kn10
            have kn128 : A125 16 0 = nI b := by rw [eA125, va_up_self, pk_un (by decide), pk_us]; exact kn11
            have kn129 : A125 16 2 = nI d := by rw [eA125, va_up_self, pk_un (by decide), pk_un (by decide)]; exact kn12
            have kn130 : B126 17 1 = sqA A b d := by rw [eB126, va_up_self, pk_uLs]; exact kn28
            have kn131 : B126 17 0 = sqA A a d := by rw [eB126, va_up_self, pk_uLn (by decide), pk_uLs]; exact kn29
            have kn132 : B126 17 2 = sqA A a b := by rw [eB126, va_up_self, pk_uLn (by decide), pk_uLn (by decide)]; exact kn30
            refine lv_aload_n hx hb dX12_layOut_141 rfl (lv_at hl 0 rfl) ?_
            refine m_fld C hw hm lk1 17 (by decide) lk2 (v := .ref (q 17)) rfl dX12_layOut_142 ?_
            refine lv_iconst (v := nI 1) hx hb dX12_layOut_145 (by decide) ?_
            refine m_lald C hw hm 17 rfl (v := sqA A b d) kn130 (show 1 < 3 from (by omega)) dX12_layOut_146 ?_
            refine lv_aload_n hx hb dX12_layOut_147 rfl (lv_at hl 0 rfl) ?_
            refine m_fld C hw hm lk1 17 (by decide) lk2 (v := .ref (q 17)) rfl dX12_layOut_148 ?_
            refine lv_iconst (v := nI 2) hx hb dX12_layOut_151 (by decide) ?_
            refine m_lald C hw hm 17 rfl (v := sqA A a b) kn132 (show 2 < 3 from (by omega)) dX12_layOut_152 ?_
            refine W.lcmp hx hb dX12_layOut_153 ?_
            refine l_ifle C (tgt := 163) dX12_layOut_154 (by decide) (fun c133 => ?_) (fun c133 => ?_)
            · refine lv_aload_n hx hb dX12_layOut_163 rfl (lv_at hl 0 rfl) ?_
              refine m_fld C hw hm lk1 17 (by decide) lk2 (v := .ref (q 17)) rfl dX12_layOut_164 ?_
              refine lv_iconst (v := nI 0) hx hb dX12_layOut_167 (by decide) ?_
              refine m_lald C hw hm 17 rfl (v := sqA A a d) kn131 (show 0 < 3 from (by omega)) dX12_layOut_168 ?_
              refine lv_aload_n hx hb dX12_layOut_169 rfl (lv_at hl 0 rfl) ?_
              refine m_fld C hw hm lk1 17 (by decide) lk2 (v := .ref (q 17)) rfl dX12_layOut_170 ?_
              refine lv_iconst (v := nI 1) hx hb dX12_layOut_173 (by decide) ?_
              refine m_lald C hw hm 17 rfl (v := sqA A b d) kn130 (show 1 < 3 from (by omega)) dX12_layOut_174 ?_
              refine W.lcmp hx hb dX12_layOut_175 ?_
              refine l_ifle C (tgt := 185) dX12_layOut_176 (by decide) (fun c134 => ?_) (fun c134 => ?_)
              · refine lv_aload_n hx hb dX12_layOut_185 rfl (lv_at hl 0 rfl) ?_
                refine lv_aload_n hx hb dX12_layOut_186 rfl (lv_at hl 0 rfl) ?_
                refine lv_aload_n hx hb dX12_layOut_187 rfl (lv_at hl 0 rfl) ?_
                refine m_fld C hw hm lk1 16 (by decide) lk0 (v := .ref (q 16)) rfl dX12_layOut_188 ?_
                refine lv_iconst (v := nI 0) hx hb dX12_layOut_191 (by decide) ?_
                refine m_iald C hw hm 16 rfl (v := nI b) kn128 (show 0 < 3 from (by omega)) dX12_layOut_192 ?_
                refine lv_aload_n hx hb dX12_layOut_193 rfl (lv_at hl 0 rfl) ?_
                refine m_fld C hw hm lk1 16 (by decide) lk0 (v := .ref (q 16)) rfl dX12_layOut_194 ?_
                refine lv_iconst (v := nI 1) hx hb dX12_layOut_197 (by decide) ?_
                refine m_iald C hw hm 16 rfl (v := nI a) kn127 (show 1 < 3 from (by omega)) dX12_layOut_198 ?_
                refine lv_aload_n hx hb dX12_layOut_199 rfl (lv_at hl 0 rfl) ?_
                refine m_fld C hw hm lk1 16 (by decide) lk0 (v := .ref (q 16)) rfl dX12_layOut_200 ?_
                refine lv_iconst (v := nI 2) hx hb dX12_layOut_203 (by decide) ?_
                refine m_iald C hw hm 16 rfl (v := nI d) kn129 (show 2 < 3 from (by omega)) dX12_layOut_204 ?_
                refine h_calll hw (h_runV (n := 3) (As := [.int (nI b), .int (nI a), .int (nI d)]) (rest := [.ref (q 0)]) C hw (c_X12_cross hm (by omega) (by omega) (by omega)) gX12_layOut_X12_cross rfl rfl rfl (by decide +kernel) ⟨by decide, by decide⟩ bX12 hm.1 rfl hl.1 rfl (Nat.le_of_ble_eq_true rfl) dX12_layOut_205 ⟨by first | decide | omega, by first | decide | omega⟩) (fun r135 f136 H locs hp hw => ?_)
                obtain ⟨rfl, rfl⟩ := hp
                have h2s : A125 2 = A 2 := by rw [eA125, va_up_ne _ _ (by decide), eA8, va_up_ne _ _ (by decide), eA4, va_up_ne _ _ (by decide), eA1, va_up_ne _ _ (by decide)]
                have h3s : A125 3 = A 3 := by rw [eA125, va_up_ne _ _ (by decide), eA8, va_up_ne _ _ (by decide), eA4, va_up_ne _ _ (by decide), eA1, va_up_ne _ _ (by decide)]
                refine W.eq (g2 := F0 m 208 ls [.long (crA A b a d), _]) (by rw [cr_c h2s h3s]) ?_
                refine lv_lconst (v := 0) hx hb dX12_layOut_208 (by decide) ?_
                refine W.lcmp hx hb dX12_layOut_209 ?_
                refine l_ifle C (tgt := 217) dX12_layOut_210 (by decide) (fun c137 => ?_) (fun c137 => ?_)
                · refine lv_iconst (v := (-1)) hx hb dX12_layOut_217 (by decide) ?_
                  refine m_puti C hw hm lk1 18 rfl (by decide) rfl rfl lk3 dX12_layOut_218 (fun A138 f139 H locs eA138 hw hm => ?_)
                  have kn140 : A138 16 1 = nI a := by rw [eA138, va_up_ne _ _ (by decide)]; exact kn127
                  have kn141 : A138 16 0 = nI b := by rw [eA138, va_up_ne _ _ (by decide)]; exact kn128
                  have kn142 : A138 16 2 = nI d := by rw [eA138, va_up_ne _ _ (by decide)]; exact kn129
                  refine lv_iconst (v := nI 1) hx hb dX12_layOut_221 (by decide) ?_
                  exact h_zret C hr (by first | rfl | decide) hlk hw (⟨bI_t ⟨c33, c34, c35, c36⟩, _, _, hm, fun k9 h16 h18 => by rw [eA138, va_up_ne _ _ (by first | decide | assumption), eA125, va_up_ne _ _ (by first | decide | assumption), eA8, va_up_ne _ _ (by first | decide | assumption), eA4, va_up_ne _ _ (by first | decide | assumption), eA1, va_up_ne _ _ (by first | decide | assumption)], fun k9 h17 => by rw [eB126, va_up_ne _ _ (by first | decide | assumption), eB26, va_up_ne _ _ (by first | decide | assumption), eB20, va_up_ne _ _ (by first | decide | assumption), eB15, va_up_ne _ _ (by first | decide | assumption)], fun _ => by
      have hT : triT A a b d = ((b, sqA A a d), (a, sqA A b d), (d, sqA A a b)) := by first | (simp only [triT, sw1, sw2, if_pos c37, if_neg c133, if_neg c134]; done) | exact absurd c37 c134
      rw [hT]
      exact ⟨kn141, kn140, kn142, kn131, kn130, kn132, by rw [eA138, va_up_self, tnA, if_neg c137]⟩⟩) dX12_layOut_222
                · refine lv_iconst (v := nI 1) hx hb dX12_layOut_213 (by decide) ?_
                  refine lv_goto (tgt := 218) hx hb dX12_layOut_214 (by decide) ?_
                  refine m_puti C hw hm lk1 18 rfl (by decide) rfl rfl lk3 dX12_layOut_218 (fun A143 f144 H locs eA143 hw hm => ?_)
                  have kn145 : A143 16 1 = nI a := by rw [eA143, va_up_ne _ _ (by decide)]; exact kn127
                  have kn146 : A143 16 0 = nI b := by rw [eA143, va_up_ne _ _ (by decide)]; exact kn128
                  have kn147 : A143 16 2 = nI d := by rw [eA143, va_up_ne _ _ (by decide)]; exact kn129
                  have hn148 : A143 18 0 = nI 1 := by rw [eA143, va_up_self]
                  refine lv_iconst (v := nI 1) hx hb dX12_layOut_221 (by decide) ?_
                  exact h_zret C hr (by first | rfl | decide) hlk hw (⟨bI_t ⟨c33, c34, c35, c36⟩, _, _, hm, fun k9 h16 h18 => by rw [eA143, va_up_ne _ _ (by first | decide | assumption), eA125, va_up_ne _ _ (by first | decide | assumption), eA8, va_up_ne _ _ (by first | decide | assumption), eA4, va_up_ne _ _ (by first | decide | assumption), eA1, va_up_ne _ _ (by first | decide | assumption)], fun k9 h17 => by rw [eB126, va_up_ne _ _ (by first | decide | assumption), eB26, va_up_ne _ _ (by first | decide | assumption), eB20, va_up_ne _ _ (by first | decide | assumption), eB15, va_up_ne _ _ (by first | decide | assumption)], fun _ => by
      have hT : triT A a b d = ((b, sqA A a d), (a, sqA A b d), (d, sqA A a b)) := by first | (simp only [triT, sw1, sw2, if_pos c37, if_neg c133, if_neg c134]; done) | exact absurd c37 c134
      rw [hT]
      exact ⟨kn146, kn145, kn147, kn131, kn130, kn132, by rw [eA143, va_up_self, tnA, if_pos c137]⟩⟩) dX12_layOut_222
              · refine lv_aload_n hx hb dX12_layOut_179 rfl (lv_at hl 0 rfl) ?_
                refine lv_iconst (v := nI 0) hx hb dX12_layOut_180 (by decide) ?_
                refine lv_iconst (v := nI 1) hx hb dX12_layOut_181 (by decide) ?_
                refine h_callv hw (h_runV (n := 2) (As := [.int (nI 0), .int (nI 1)]) (rest := []) C hw (c_X12_exchange hm (by omega) (by omega)) gX12_layOut_X12_exchange rfl rfl rfl (by decide +kernel) ⟨by decide, by decide⟩ bX12 hm.1 rfl hl.1 rfl (Nat.le_of_ble_eq_true rfl) dX12_layOut_182 ⟨by first | decide | omega, by first | decide | omega⟩) (fun  f149 H locs hp hw => ?_)
                obtain ⟨A150, B151, hm, eA150, eB151⟩ := hp
                have kn152 : A150 16 0 = nI a := by rw [eA150, va_up_self, pk_un (by decide), pk_us]; exact kn127
                have kn153 : A150 16 1 = nI b := by rw [eA150, va_up_self, pk_us]; exact kn128
                have kn154 : A150 16 2 = nI d := by rw [eA150, va_up_self, pk_un (by decide), pk_un (by decide)]; exact kn129
                have kn155 : B151 17 0 = sqA A b d := by rw [eB151, va_up_self, pk_uLn (by decide), pk_uLs]; exact kn130
                have kn156 : B151 17 1 = sqA A a d := by rw [eB151, va_up_self, pk_uLs]; exact kn131
                have kn157 : B151 17 2 = sqA A a b := by rw [eB151, va_up_self, pk_uLn (by decide), pk_uLn (by decide)]; exact kn132
                refine lv_aload_n hx hb dX12_layOut_185 rfl (lv_at hl 0 rfl) ?_
                refine lv_aload_n hx hb dX12_layOut_186 rfl (lv_at hl 0 rfl) ?_
                refine lv_aload_n hx hb dX12_layOut_187 rfl (lv_at hl 0 rfl) ?_
                refine m_fld C hw hm lk1 16 (by decide) lk0 (v := .ref (q 16)) rfl dX12_layOut_188 ?_
                refine lv_iconst (v := nI 0) hx hb dX12_layOut_191 (by decide) ?_
                refine m_iald C hw hm 16 rfl (v := nI a) kn152 (show 0 < 3 from (by omega)) dX12_layOut_192 ?_
                refine lv_aload_n hx hb dX12_layOut_193 rfl (lv_at hl 0 rfl) ?_
                refine m_fld C hw hm lk1 16 (by decide) lk0 (v := .ref (q 16)) rfl dX12_layOut_194 ?_
                refine lv_iconst (v := nI 1) hx hb dX12_layOut_197 (by decide) ?_
                refine m_iald C hw hm 16 rfl (v := nI b) kn153 (show 1 < 3 from (by omega)) dX12_layOut_198 ?_
                refine lv_aload_n hx hb dX12_layOut_199 rfl (lv_at hl 0 rfl) ?_
                refine m_fld C hw hm lk1 16 (by decide) lk0 (v := .ref (q 16)) rfl dX12_layOut_200 ?_
                refine lv_iconst (v := nI 2) hx hb dX12_layOut_203 (by decide) ?_
                refine m_iald C hw hm 16 rfl (v := nI d) kn154 (show 2 < 3 from (by omega)) dX12_layOut_204 ?_
                refine h_calll hw (h_runV (n := 3) (As := [.int (nI a), .int (nI b), .int (nI d)]) (rest := [.ref (q 0)]) C hw (c_X12_cross hm (by omega) (by omega) (by omega)) gX12_layOut_X12_cross rfl rfl rfl (by decide +kernel) ⟨by decide, by decide⟩ bX12 hm.1 rfl hl.1 rfl (Nat.le_of_ble_eq_true rfl) dX12_layOut_205 ⟨by first | decide | omega, by first | decide | omega⟩) (fun r158 f159 H locs hp hw => ?_)
                obtain ⟨rfl, rfl⟩ := hp
                have h2s : A150 2 = A 2 := by rw [eA150, va_up_ne _ _ (by decide), eA125, va_up_ne _ _ (by decide), eA8, va_up_ne _ _ (by decide), eA4, va_up_ne _ _ (by decide), eA1, va_up_ne _ _ (by decide)]
                have h3s : A150 3 = A 3 := by rw [eA150, va_up_ne _ _ (by decide), eA125, va_up_ne _ _ (by decide), eA8, va_up_ne _ _ (by decide), eA4, va_up_ne _ _ (by decide), eA1, va_up_ne _ _ (by decide)]
                refine W.eq (g2 := F0 m 208 ls [.long (crA A a b d), _]) (by rw [cr_c h2s h3s]) ?_
                refine lv_lconst (v := 0) hx hb dX12_layOut_208 (by decide) ?_
                refine W.lcmp hx hb dX12_layOut_209 ?_
                refine l_ifle C (tgt := 217) dX12_layOut_210 (by decide) (fun c160 => ?_) (fun c160 => ?_)
                · refine lv_iconst (v := (-1)) hx hb dX12_layOut_217 (by decide) ?_
                  refine m_puti C hw hm lk1 18 rfl (by decide) rfl rfl lk3 dX12_layOut_218 (fun A161 f162 H locs eA161 hw hm => ?_)
                  have kn163 : A161 16 0 = nI a := by rw [eA161, va_up_ne _ _ (by decide)]; exact kn152
                  have kn164 : A161 16 1 = nI b := by rw [eA161, va_up_ne _ _ (by decide)]; exact kn153
                  have kn165 : A161 16 2 = nI d := by rw [eA161, va_up_ne _ _ (by decide)]; exact kn154
                  refine lv_iconst (v := nI 1) hx hb dX12_layOut_221 (by decide) ?_
                  exact h_zret C hr (by first | rfl | decide) hlk hw (⟨bI_t ⟨c33, c34, c35, c36⟩, _, _, hm, fun k9 h16 h18 => by rw [eA161, va_up_ne _ _ (by first | decide | assumption), eA150, va_up_ne _ _ (by first | decide | assumption), eA125, va_up_ne _ _ (by first | decide | assumption), eA8, va_up_ne _ _ (by first | decide | assumption), eA4, va_up_ne _ _ (by first | decide | assumption), eA1, va_up_ne _ _ (by first | decide | assumption)], fun k9 h17 => by rw [eB151, va_up_ne _ _ (by first | decide | assumption), eB126, va_up_ne _ _ (by first | decide | assumption), eB26, va_up_ne _ _ (by first | decide | assumption), eB20, va_up_ne _ _ (by first | decide | assumption), eB15, va_up_ne _ _ (by first | decide | assumption)], fun _ => by
      have hT : triT A a b d = ((a, sqA A b d), (b, sqA A a d), (d, sqA A a b)) := by first | (simp only [triT, sw1, sw2, if_pos c37, if_neg c133, if_pos c134]; done) | exact absurd c37 c134
      rw [hT]
      exact ⟨kn163, kn164, kn165, kn155, kn156, kn157, by rw [eA161, va_up_self, tnA, if_neg c160]⟩⟩) dX12_layOut_222
                · refine lv_iconst (v := nI 1) hx hb dX12_layOut_213 (by decide) ?_
                  refine lv_goto (tgt := 218) hx hb dX12_layOut_214 (by decide) ?_
                  refine m_puti C hw hm lk1 18 rfl (by decide) rfl rfl lk3 dX12_layOut_218 (fun A166 f167 H locs eA166 hw hm => ?_)
                  have kn168 : A166 16 0 = nI a := by rw [eA166, va_up_ne _ _ (by decide)]; exact kn152
                  have kn169 : A166 16 1 = nI b := by rw [eA166, va_up_ne _ _ (by decide)]; exact kn153
                  have kn170 : A166 16 2 = nI d := by rw [eA166, va_up_ne _ _ (by decide)]; exact kn154
                  have hn171 : A166 18 0 = nI 1 := by rw [eA166, va_up_self]
                  refine lv_iconst (v := nI 1) hx hb dX12_layOut_221 (by decide) ?_
                  exact h_zret C hr (by first | rfl | decide) hlk hw (⟨bI_t ⟨c33, c34, c35, c36⟩, _, _, hm, fun k9 h16 h18 => by rw [eA166, va_up_ne _ _ (by first | decide | assumption), eA150, va_up_ne _ _ (by first | decide | assumption), eA125, va_up_ne _ _ (by first | decide | assumption), eA8, va_up_ne _ _ (by first | decide | assumption), eA4, va_up_ne _ _ (by first | decide | assumption), eA1, va_up_ne _ _ (by first | decide | assumption)], fun k9 h17 => by rw [eB151, va_up_ne _ _ (by first | decide | assumption), eB126, va_up_ne _ _ (by first | decide | assumption), eB26, va_up_ne _ _ (by first | decide | assumption), eB20, va_up_ne _ _ (by first | decide | assumption), eB15, va_up_ne _ _ (by first | decide | assumption)], fun _ => by
      have hT : triT A a b d = ((a, sqA A b d), (b, sqA A a d), (d, sqA A a b)) := by first | (simp only [triT, sw1, sw2, if_pos c37, if_neg c133, if_pos c134]; done) | exact absurd c37 c134
      rw [hT]
      exact ⟨kn168, kn169, kn170, kn155, kn156, kn157, by rw [eA166, va_up_self, tnA, if_pos c160]⟩⟩) dX12_layOut_222
            · refine lv_aload_n hx hb dX12_layOut_157 rfl (lv_at hl 0 rfl) ?_
              refine lv_iconst (v := nI 1) hx hb dX12_layOut_158 (by decide) ?_
              refine lv_iconst (v := nI 2) hx hb dX12_layOut_159 (by decide) ?_
              refine h_callv hw (h_runV (n := 2) (As := [.int (nI 1), .int (nI 2)]) (rest := []) C hw (c_X12_exchange hm (by omega) (by omega)) gX12_layOut_X12_exchange rfl rfl rfl (by decide +kernel) ⟨by decide, by decide⟩ bX12 hm.1 rfl hl.1 rfl (Nat.le_of_ble_eq_true rfl) dX12_layOut_160 ⟨by first | decide | omega, by first | decide | omega⟩) (fun  f172 H locs hp hw => ?_)
              obtain ⟨A173, B174, hm, eA173, eB174⟩ := hp
              have kn175 : A173 16 2 = nI a := by rw [eA173, va_up_self, pk_us]; exact kn127
              have kn176 : A173 16 0 = nI b := by rw [eA173, va_up_self, pk_un (by decide), pk_un (by decide)]; exact kn128
              have kn177 : A173 16 1 = nI d := by rw [eA173, va_up_self, pk_un (by decide), pk_us]; exact kn129
              have kn178 : B174 17 2 = sqA A b d := by rw [eB174, va_up_self, pk_uLs]; exact kn130
              have kn179 : B174 17 0 = sqA A a d := by rw [eB174, va_up_self, pk_uLn (by decide), pk_uLn (by decide)]; exact kn131
              have kn180 : B174 17 1 = sqA A a b := by rw [eB174, va_up_self, pk_uLn (by decide), pk_uLs]; exact kn132
              refine lv_aload_n hx hb dX12_layOut_163 rfl (lv_at hl 0 rfl) ?_
              refine m_fld C hw hm lk1 17 (by decide) lk2 (v := .ref (q 17)) rfl dX12_layOut_164 ?_
              refine lv_iconst (v := nI 0) hx hb dX12_layOut_167 (by decide) ?_
              refine m_lald C hw hm 17 rfl (v := sqA A a d) kn179 (show 0 < 3 from (by omega)) dX12_layOut_168 ?_
              refine lv_aload_n hx hb dX12_layOut_169 rfl (lv_at hl 0 rfl) ?_
              refine m_fld C hw hm lk1 17 (by decide) lk2 (v := .ref (q 17)) rfl dX12_layOut_170 ?_
              refine lv_iconst (v := nI 1) hx hb dX12_layOut_173 (by decide) ?_
              refine m_lald C hw hm 17 rfl (v := sqA A a b) kn180 (show 1 < 3 from (by omega)) dX12_layOut_174 ?_
              refine W.lcmp hx hb dX12_layOut_175 ?_
              refine l_ifle C (tgt := 185) dX12_layOut_176 (by decide) (fun c181 => ?_) (fun c181 => ?_)
              · refine lv_aload_n hx hb dX12_layOut_185 rfl (lv_at hl 0 rfl) ?_
                refine lv_aload_n hx hb dX12_layOut_186 rfl (lv_at hl 0 rfl) ?_
                refine lv_aload_n hx hb dX12_layOut_187 rfl (lv_at hl 0 rfl) ?_
                refine m_fld C hw hm lk1 16 (by decide) lk0 (v := .ref (q 16)) rfl dX12_layOut_188 ?_
                refine lv_iconst (v := nI 0) hx hb dX12_layOut_191 (by decide) ?_
                refine m_iald C hw hm 16 rfl (v := nI b) kn176 (show 0 < 3 from (by omega)) dX12_layOut_192 ?_
                refine lv_aload_n hx hb dX12_layOut_193 rfl (lv_at hl 0 rfl) ?_
                refine m_fld C hw hm lk1 16 (by decide) lk0 (v := .ref (q 16)) rfl dX12_layOut_194 ?_
                refine lv_iconst (v := nI 1) hx hb dX12_layOut_197 (by decide) ?_
                refine m_iald C hw hm 16 rfl (v := nI d) kn177 (show 1 < 3 from (by omega)) dX12_layOut_198 ?_
                refine lv_aload_n hx hb dX12_layOut_199 rfl (lv_at hl 0 rfl) ?_
                refine m_fld C hw hm lk1 16 (by decide) lk0 (v := .ref (q 16)) rfl dX12_layOut_200 ?_
                refine lv_iconst (v := nI 2) hx hb dX12_layOut_203 (by decide) ?_
                refine m_iald C hw hm 16 rfl (v := nI a) kn175 (show 2 < 3 from (by omega)) dX12_layOut_204 ?_
                refine h_calll hw (h_runV (n := 3) (As := [.int (nI b), .int (nI d), .int (nI a)]) (rest := [.ref (q 0)]) C hw (c_X12_cross hm (by omega) (by omega) (by omega)) gX12_layOut_X12_cross rfl rfl rfl (by decide +kernel) ⟨by decide, by decide⟩ bX12 hm.1 rfl hl.1 rfl (Nat.le_of_ble_eq_true rfl) dX12_layOut_205 ⟨by first | decide | omega, by first | decide | omega⟩) (fun r182 f183 H locs hp hw => ?_)
                obtain ⟨rfl, rfl⟩ := hp
                have h2s : A173 2 = A 2 := by rw [eA173, va_up_ne _ _ (by decide), eA125, va_up_ne _ _ (by decide), eA8, va_up_ne _ _ (by decide), eA4, va_up_ne _ _ (by decide), eA1, va_up_ne _ _ (by decide)]
                have h3s : A173 3 = A 3 := by rw [eA173, va_up_ne _ _ (by decide), eA125, va_up_ne _ _ (by decide), eA8, va_up_ne _ _ (by decide), eA4, va_up_ne _ _ (by decide), eA1, va_up_ne _ _ (by decide)]
                refine W.eq (g2 := F0 m 208 ls [.long (crA A b d a), _]) (by rw [cr_c h2s h3s]) ?_
                refine lv_lconst (v := 0) hx hb dX12_layOut_208 (by decide) ?_
                refine W.lcmp hx hb dX12_layOut_209 ?_
                refine l_ifle C (tgt := 217) dX12_layOut_210 (by decide) (fun c184 => ?_) (fun c184 => ?_)
                · refine lv_iconst (v := (-1)) hx hb dX12_layOut_217 (by decide) ?_
                  refine m_puti C hw hm lk1 18 rfl (by decide) rfl rfl lk3 dX12_layOut_218 (fun A185 f186 H locs eA185 hw hm => ?_)
                  have kn187 : A185 16 2 = nI a := by rw [eA185, va_up_ne _ _ (by decide)]; exact kn175
                  have kn188 : A185 16 0 = nI b := by rw [eA185, va_up_ne _ _ (by decide)]; exact kn176
                  have kn189 : A185 16 1 = nI d := by rw [eA185, va_up_ne _ _ (by decide)]; exact kn177
                  refine lv_iconst (v := nI 1) hx hb dX12_layOut_221 (by decide) ?_
                  exact h_zret C hr (by first | rfl | decide) hlk hw (⟨bI_t ⟨c33, c34, c35, c36⟩, _, _, hm, fun k9 h16 h18 => by rw [eA185, va_up_ne _ _ (by first | decide | assumption), eA173, va_up_ne _ _ (by first | decide | assumption), eA125, va_up_ne _ _ (by first | decide | assumption), eA8, va_up_ne _ _ (by first | decide | assumption), eA4, va_up_ne _ _ (by first | decide | assumption), eA1, va_up_ne _ _ (by first | decide | assumption)], fun k9 h17 => by rw [eB174, va_up_ne _ _ (by first | decide | assumption), eB126, va_up_ne _ _ (by first | decide | assumption), eB26, va_up_ne _ _ (by first | decide | assumption), eB20, va_up_ne _ _ (by first | decide | assumption), eB15, va_up_ne _ _ (by first | decide | assumption)], fun _ => by
      have hT : triT A a b d = ((b, sqA A a d), (d, sqA A a b), (a, sqA A b d)) := by first | (simp only [triT, sw1, sw2, if_pos c37, if_pos c133, if_neg c181]; done) | exact absurd c37 c181
      rw [hT]
      exact ⟨kn188, kn189, kn187, kn179, kn180, kn178, by rw [eA185, va_up_self, tnA, if_neg c184]⟩⟩) dX12_layOut_222
                · refine lv_iconst (v := nI 1) hx hb dX12_layOut_213 (by decide) ?_
                  refine lv_goto (tgt := 218) hx hb dX12_layOut_214 (by decide) ?_
                  refine m_puti C hw hm lk1 18 rfl (by decide) rfl rfl lk3 dX12_layOut_218 (fun A190 f191 H locs eA190 hw hm => ?_)
                  have kn192 : A190 16 2 = nI a := by rw [eA190, va_up_ne _ _ (by decide)]; exact kn175
                  have kn193 : A190 16 0 = nI b := by rw [eA190, va_up_ne _ _ (by decide)]; exact kn176
                  have kn194 : A190 16 1 = nI d := by rw [eA190, va_up_ne _ _ (by decide)]; exact kn177
                  have hn195 : A190 18 0 = nI 1 := by rw [eA190, va_up_self]
                  refine lv_iconst (v := nI 1) hx hb dX12_layOut_221 (by decide) ?_
                  exact h_zret C hr (by first | rfl | decide) hlk hw (⟨bI_t ⟨c33, c34, c35, c36⟩, _, _, hm, fun k9 h16 h18 => by rw [eA190, va_up_ne _ _ (by first | decide | assumption), eA173, va_up_ne _ _ (by first | decide | assumption), eA125, va_up_ne _ _ (by first | decide | assumption), eA8, va_up_ne _ _ (by first | decide | assumption), eA4, va_up_ne _ _ (by first | decide | assumption), eA1, va_up_ne _ _ (by first | decide | assumption)], fun k9 h17 => by rw [eB174, va_up_ne _ _ (by first | decide | assumption), eB126, va_up_ne _ _ (by first | decide | assumption), eB26, va_up_ne _ _ (by first | decide | assumption), eB20, va_up_ne _ _ (by first | decide | assumption), eB15, va_up_ne _ _ (by first | decide | assumption)], fun _ => by
      have hT : triT A a b d = ((b, sqA A a d), (d, sqA A a b), (a, sqA A b d)) := by first | (simp only [triT, sw1, sw2, if_pos c37, if_pos c133, if_neg c181]; done) | exact absurd c37 c181
      rw [hT]
      exact ⟨kn193, kn194, kn192, kn179, kn180, kn178, by rw [eA190, va_up_self, tnA, if_pos c184]⟩⟩) dX12_layOut_222
              · refine lv_aload_n hx hb dX12_layOut_179 rfl (lv_at hl 0 rfl) ?_
                refine lv_iconst (v := nI 0) hx hb dX12_layOut_180 (by decide) ?_
                refine lv_iconst (v := nI 1) hx hb dX12_layOut_181 (by decide) ?_
                refine h_callv hw (h_runV (n := 2) (As := [.int (nI 0), .int (nI 1)]) (rest := []) C hw (c_X12_exchange hm (by omega) (by omega)) gX12_layOut_X12_exchange rfl rfl rfl (by decide +kernel) ⟨by decide, by decide⟩ bX12 hm.1 rfl hl.1 rfl (Nat.le_of_ble_eq_true rfl) dX12_layOut_182 ⟨by first | decide | omega, by first | decide | omega⟩) (fun  f196 H locs hp hw => ?_)
                obtain ⟨A197, B198, hm, eA197, eB198⟩ := hp
                have kn199 : A197 16 2 = nI a := by rw [eA197, va_up_self, pk_un (by decide), pk_un (by decide)]; exact kn175
                have kn200 : A197 16 1 = nI b := by rw [eA197, va_up_self, pk_us]; exact kn176
                have kn201 : A197 16 0 = nI d := by rw [eA197, va_up_self, pk_un (by decide), pk_us]; exact kn177
                have kn202 : B198 17 2 = sqA A b d := by rw [eB198, va_up_self, pk_uLn (by decide), pk_uLn (by decide)]; exact kn178
                have kn203 : B198 17 1 = sqA A a d := by rw [eB198, va_up_self, pk_uLs]; exact kn179
                have kn204 : B198 17 0 = sqA A a b := by rw [eB198, va_up_self, pk_uLn (by decide), pk_uLs]; exact kn180
                refine lv_aload_n hx hb dX12_layOut_185 rfl (lv_at hl 0 rfl) ?_
                refine lv_aload_n hx hb dX12_layOut_186 rfl (lv_at hl 0 rfl) ?_
                refine lv_aload_n hx hb dX12_layOut_187 rfl (lv_at hl 0 rfl) ?_
                refine m_fld C hw hm lk1 16 (by decide) lk0 (v := .ref (q 16)) rfl dX12_layOut_188 ?_
                refine lv_iconst (v := nI 0) hx hb dX12_layOut_191 (by decide) ?_
                refine m_iald C hw hm 16 rfl (v := nI d) kn201 (show 0 < 3 from (by omega)) dX12_layOut_192 ?_
                refine lv_aload_n hx hb dX12_layOut_193 rfl (lv_at hl 0 rfl) ?_
                refine m_fld C hw hm lk1 16 (by decide) lk0 (v := .ref (q 16)) rfl dX12_layOut_194 ?_
                refine lv_iconst (v := nI 1) hx hb dX12_layOut_197 (by decide) ?_
                refine m_iald C hw hm 16 rfl (v := nI b) kn200 (show 1 < 3 from (by omega)) dX12_layOut_198 ?_
                refine lv_aload_n hx hb dX12_layOut_199 rfl (lv_at hl 0 rfl) ?_
                refine m_fld C hw hm lk1 16 (by decide) lk0 (v := .ref (q 16)) rfl dX12_layOut_200 ?_
                refine lv_iconst (v := nI 2) hx hb dX12_layOut_203 (by decide) ?_
                refine m_iald C hw hm 16 rfl (v := nI a) kn199 (show 2 < 3 from (by omega)) dX12_layOut_204 ?_
                refine h_calll hw (h_runV (n := 3) (As := [.int (nI d), .int (nI b), .int (nI a)]) (rest := [.ref (q 0)]) C hw (c_X12_cross hm (by omega) (by omega) (by omega)) gX12_layOut_X12_cross rfl rfl rfl (by decide +kernel) ⟨by decide, by decide⟩ bX12 hm.1 rfl hl.1 rfl (Nat.le_of_ble_eq_true rfl) dX12_layOut_205 ⟨by first | decide | omega, by first | decide | omega⟩) (fun r205 f206 H locs hp hw => ?_)
                obtain ⟨rfl, rfl⟩ := hp
                have h2s : A197 2 = A 2 := by rw [eA197, va_up_ne _ _ (by decide), eA173, va_up_ne _ _ (by decide), eA125, va_up_ne _ _ (by decide), eA8, va_up_ne _ _ (by decide), eA4, va_up_ne _ _ (by decide), eA1, va_up_ne _ _ (by decide)]
                have h3s : A197 3 = A 3 := by rw [eA197, va_up_ne _ _ (by decide), eA173, va_up_ne _ _ (by decide), eA125, va_up_ne _ _ (by decide), eA8, va_up_ne _ _ (by decide), eA4, va_up_ne _ _ (by decide), eA1, va_up_ne _ _ (by decide)]
                refine W.eq (g2 := F0 m 208 ls [.long (crA A d b a), _]) (by rw [cr_c h2s h3s]) ?_
                refine lv_lconst (v := 0) hx hb dX12_layOut_208 (by decide) ?_
                refine W.lcmp hx hb dX12_layOut_209 ?_
                refine l_ifle C (tgt := 217) dX12_layOut_210 (by decide) (fun c207 => ?_) (fun c207 => ?_)
                · refine lv_iconst (v := (-1)) hx hb dX12_layOut_217 (by decide) ?_
                  refine m_puti C hw hm lk1 18 rfl (by decide) rfl rfl lk3 dX12_layOut_218 (fun A208 f209 H locs eA208 hw hm => ?_)
                  have kn210 : A208 16 2 = nI a := by rw [eA208, va_up_ne _ _ (by decide)]; exact kn199
                  have kn211 : A208 16 1 = nI b := by rw [eA208, va_up_ne _ _ (by decide)]; exact kn200
                  have kn212 : A208 16 0 = nI d := by rw [eA208, va_up_ne _ _ (by decide)]; exact kn201
                  refine lv_iconst (v := nI 1) hx hb dX12_layOut_221 (by decide) ?_
                  exact h_zret C hr (by first | rfl | decide) hlk hw (⟨bI_t ⟨c33, c34, c35, c36⟩, _, _, hm, fun k9 h16 h18 => by rw [eA208, va_up_ne _ _ (by first | decide | assumption), eA197, va_up_ne _ _ (by first | decide | assumption), eA173, va_up_ne _ _ (by first | decide | assumption), eA125, va_up_ne _ _ (by first | decide | assumption), eA8, va_up_ne _ _ (by first | decide | assumption), eA4, va_up_ne _ _ (by first | decide | assumption), eA1, va_up_ne _ _ (by first | decide | assumption)], fun k9 h17 => by rw [eB198, va_up_ne _ _ (by first | decide | assumption), eB174, va_up_ne _ _ (by first | decide | assumption), eB126, va_up_ne _ _ (by first | decide | assumption), eB26, va_up_ne _ _ (by first | decide | assumption), eB20, va_up_ne _ _ (by first | decide | assumption), eB15, va_up_ne _ _ (by first | decide | assumption)], fun _ => by
      have hT : triT A a b d = ((d, sqA A a b), (b, sqA A a d), (a, sqA A b d)) := by first | (simp only [triT, sw1, sw2, if_pos c37, if_pos c133, if_pos c181]; done) | exact absurd c37 c181
      rw [hT]
      exact ⟨kn212, kn211, kn210, kn204, kn203, kn202, by rw [eA208, va_up_self, tnA, if_neg c207]⟩⟩) dX12_layOut_222
                · refine lv_iconst (v := nI 1) hx hb dX12_layOut_213 (by decide) ?_
                  refine lv_goto (tgt := 218) hx hb dX12_layOut_214 (by decide) ?_
                  refine m_puti C hw hm lk1 18 rfl (by decide) rfl rfl lk3 dX12_layOut_218 (fun A213 f214 H locs eA213 hw hm => ?_)
                  have kn215 : A213 16 2 = nI a := by rw [eA213, va_up_ne _ _ (by decide)]; exact kn199
                  have kn216 : A213 16 1 = nI b := by rw [eA213, va_up_ne _ _ (by decide)]; exact kn200
                  have kn217 : A213 16 0 = nI d := by rw [eA213, va_up_ne _ _ (by decide)]; exact kn201
                  have hn218 : A213 18 0 = nI 1 := by rw [eA213, va_up_self]
                  refine lv_iconst (v := nI 1) hx hb dX12_layOut_221 (by decide) ?_
                  exact h_zret C hr (by first | rfl | decide) hlk hw (⟨bI_t ⟨c33, c34, c35, c36⟩, _, _, hm, fun k9 h16 h18 => by rw [eA213, va_up_ne _ _ (by first | decide | assumption), eA197, va_up_ne _ _ (by first | decide | assumption), eA173, va_up_ne _ _ (by first | decide | assumption), eA125, va_up_ne _ _ (by first | decide | assumption), eA8, va_up_ne _ _ (by first | decide | assumption), eA4, va_up_ne _ _ (by first | decide | assumption), eA1, va_up_ne _ _ (by first | decide | assumption)], fun k9 h17 => by rw [eB198, va_up_ne _ _ (by first | decide | assumption), eB174, va_up_ne _ _ (by first | decide | assumption), eB126, va_up_ne _ _ (by first | decide | assumption), eB26, va_up_ne _ _ (by first | decide | assumption), eB20, va_up_ne _ _ (by first | decide | assumption), eB15, va_up_ne _ _ (by first | decide | assumption)], fun _ => by
      have hT : triT A a b d = ((d, sqA A a b), (b, sqA A a d), (a, sqA A b d)) := by first | (simp only [triT, sw1, sw2, if_pos c37, if_pos c133, if_pos c181]; done) | exact absurd c37 c181
      rw [hT]
      exact ⟨kn217, kn216, kn215, kn204, kn203, kn202, by rw [eA213, va_up_self, tnA, if_pos c207]⟩⟩) dX12_layOut_222
        · refine lv_iconst (v := nI 0) hx hb dX12_layOut_117 (by decide) ?_
          exact h_zret C hr (by first | rfl | decide) hlk hw (⟨bI_f (fun h => h.2.2.2 c36), _, _, hm, fun k9 h16 h18 => by rw [eA8, va_up_ne _ _ (by first | decide | assumption), eA4, va_up_ne _ _ (by first | decide | assumption), eA1, va_up_ne _ _ (by first | decide | assumption)], fun k9 h17 => by rw [eB26, va_up_ne _ _ (by first | decide | assumption), eB20, va_up_ne _ _ (by first | decide | assumption), eB15, va_up_ne _ _ (by first | decide | assumption)], fun h => absurd (h.2.2.2 c36) (fun z => z)⟩) dX12_layOut_118
set_option maxHeartbeats 4000000 in
set_option maxRecDepth 100000 in
theorem c_X12_isNear {l : Launch} {D : va_G} {cA : Nat → ClassId} {f : HF} {sz : Nat} {q : Nat → Nat} {A : MA} {B : MB} {a c1 d1 e1 : Int64} (hm : mo cA q A B f) : Met l yX12_isNear wsX12_isNear ({ frames := 1, cells := 0, slots := 0, locals := 24 } : Room) (va_Pc [.ref (q 0), .long a, .long c1, .long d1, .long e1] (hB D cA f sz)) (va_Qi (fun r f1 => bI (nrA (A 4 0) a c1 d1 e1) = r ∧ f = f1) (hE D f sz) (hA f sz)) 0 0 (hA f sz) := by
  refine h_of (cc := cX12_isNear) (maxL := 9) (ret := (some .boolean)) (by decide +kernel) rfl (Nat.le_of_ble_eq_true rfl) ?_
  intro p e s m below meth c ls C hr hlk hnm hw hl
  have hx := C.1.1
  have hb := C.1.2.1
  have hl : lv_has ls 9 [(0, .ref (q 0)), (1, .long a), (3, .long c1), (5, .long d1), (7, .long e1)] := hl
  have lk0 : Cond.methodLink RX12 77 Lib.MathLoose.abs_long.x ∈ wsX12_isNear := by decide +kernel
  have lk1 : Cond.static Lib.MathLoose.abs_long.x ∈ wsX12_isNear := by decide +kernel
  have lk2 : Cond.initialized "java/lang/Math" ∈ wsX12_isNear := by decide +kernel
  have lk3 : Cond.code Lib.MathLoose.abs_long.x Lib.MathLoose.abs_long.code 2 (some .long) ∈ wsX12_isNear := by decide +kernel
  have lk4 : Cond.constantLong RX12 129 (100) ∈ wsX12_isNear := by decide +kernel
  have lk5 : Cond.fieldLink RX12 16 "FallingLightModel" "near" "I" ∈ wsX12_isNear := by decide +kernel
  have lk6 : ∀ w ∈ u_ws RX12 TX12 27, w ∈ wsX12_isNear := by decide +kernel
  refine lv_lload_n hx hb dX12_isNear_0 rfl (lv_at hl 1 rfl) ?_
  refine lv_lload hx hb dX12_isNear_1 (lv_at hl 4 rfl) ?_
  refine lv_lmul hx hb dX12_isNear_3 ?_
  refine lv_lload hx hb dX12_isNear_4 (lv_at hl 3 rfl) ?_
  refine lv_lload_n hx hb dX12_isNear_6 rfl (lv_at hl 2 rfl) ?_
  refine lv_lmul hx hb dX12_isNear_7 ?_
  refine lv_lsub hx hb dX12_isNear_8 ?_
  refine va_mabs_long hx hb (C.1.2.2.1.trans hl.1.symm) C.1.2.2.2.1 (C.1.2.2.2.2 _ lk0) (C.1.2.2.2.2 _ lk1) (C.1.2.2.2.2 _ lk2) (C.1.2.2.2.2 _ lk3) (Nat.le_of_ble_eq_true rfl) (Nat.le_of_ble_eq_true rfl) (by first | decide | omega) (by first | decide | omega) dX12_isNear_9 ?_
  refine lv_ldc2 hx hb C.1.2.2.2.1 (C.1.2.2.2.2 _ lk4) dX12_isNear_12 ?_
  refine lv_lmul hx hb dX12_isNear_15 ?_
  refine lv_aload_n hx hb dX12_isNear_16 rfl (lv_at hl 0 rfl) ?_
  refine m_fld C hw hm lk6 4 (by decide) lk5 (v := .int (A 4 0)) rfl dX12_isNear_17 ?_
  refine lv_i2l hx hb dX12_isNear_20 rfl ?_
  refine lv_lload_n hx hb dX12_isNear_21 rfl (lv_at hl 2 rfl) ?_
  refine lv_lmul hx hb dX12_isNear_22 ?_
  refine lv_lload hx hb dX12_isNear_23 (lv_at hl 4 rfl) ?_
  refine lv_lmul hx hb dX12_isNear_25 ?_
  refine W.lcmp hx hb dX12_isNear_26 ?_
  refine l_ifgt C (tgt := 34) dX12_isNear_27 (by decide) (fun c1 => ?_) (fun c1 => ?_)
  · refine lv_iconst (v := nI 0) hx hb dX12_isNear_34 (by decide) ?_
    exact h_zret C hr (by first | rfl | decide) hlk hw (⟨bI_f (by simp only [nrA]; grind), rfl⟩) dX12_isNear_35
  · refine lv_iconst (v := nI 1) hx hb dX12_isNear_30 (by decide) ?_
    refine lv_goto (tgt := 35) hx hb dX12_isNear_31 (by decide) ?_
    exact h_zret C hr (by first | rfl | decide) hlk hw (⟨bI_t (by simp only [nrA]; grind), rfl⟩) dX12_isNear_35
