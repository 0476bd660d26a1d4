/-! ===== the reference, first methods (laid by program) ===== -/
def lF (k : Nat) : Int64 := -1000000000000000000 - lN k
theorem lF_ix {k : Nat} (hk : k ≤ 5) : (lF 0 - lF k).toInt32 = nI k := by
  have h : k = 0 ∨ k = 1 ∨ k = 2 ∨ k = 3 ∨ k = 4 ∨ k = 5 := by omega
  rcases h with rfl | rfl | rfl | rfl | rfl | rfl <;> decide +kernel
def wyA (A : MA) (t w a : Nat) : Int64 := (A 11 (9 * t + 3 * w + a)).toInt64
def plA (A : MA) (t a : Nat) : Int64 := wyA A t 0 ((a + 1) % 3) * wyA A t 1 ((a + 2) % 3) - wyA A t 0 ((a + 2) % 3) * wyA A t 1 ((a + 1) % 3)
abbrev hpA (A : MA) (t : Nat) : Prop := ¬ plA A t 0 = 0 ∨ ¬ plA A t 1 = 0 ∨ ¬ plA A t 2 = 0
def faA (A : MA) (s t a : Nat) : Int64 := plA A s ((a + 1) % 3) * plA A t ((a + 2) % 3) - plA A s ((a + 2) % 3) * plA A t ((a + 1) % 3)
abbrev hfA (A : MA) (s t : Nat) : Prop := ¬ faA A s t 0 = 0 ∨ ¬ faA A s t 1 = 0 ∨ ¬ faA A s t 2 = 0
def scA (A : MA) (s t : Nat) : Int64 := plA A s 0 * plA A t 0 + plA A s 1 * plA A t 1 + plA A s 2 * plA A t 2
def sqA (A : MA) (a b : Nat) : Int64 := (A 2 a - A 2 b).toInt64 * (A 2 a - A 2 b).toInt64 + (A 3 a - A 3 b).toInt64 * (A 3 a - A 3 b).toInt64
def crA (A : MA) (a b c : Nat) : Int64 := (A 2 b - A 2 a).toInt64 * (A 3 c - A 3 a).toInt64 - (A 3 b - A 3 a).toInt64 * (A 2 c - A 2 a).toInt64
def ctA (A : MA) (a b : Nat) (u v : Int32) : Int64 := (A 2 b - A 2 a).toInt64 * (v - A 3 a).toInt64 - (A 3 b - A 3 a).toInt64 * (u - A 2 a).toInt64
set_option maxHeartbeats 4000000 in
set_option maxRecDepth 100000 in
theorem c_X12_in {l : Launch} {D : va_G} {cA : Nat → ClassId} {f : HF} {sz : Nat} {v lo hi : Int32}  : Met l yX12_in wsX12_in ({ frames := 0, cells := 0, slots := 0, locals := 0 } : Room) (va_Pc [.int v, .int lo, .int hi] (hB D cA f sz)) (va_Qi (fun r f1 => bI (¬ v < lo ∧ ¬ hi < v) = r ∧ f = f1) (hE D f sz) (hA f sz)) 0 0 (hA f sz) := by
  refine h_of (cc := cX12_in) (maxL := 3) (ret := (some .boolean)) (by decide +kernel) rfl (Nat.le_of_ble_eq_true rfl) ?_
  intro p e s m below meth c ls C hr hlk hnm hw hl
  have hx := C.1.1
  have hb := C.1.2.1
  have hl : lv_has ls 3 [(0, .int v), (1, .int lo), (2, .int hi)] := hl
  refine lv_iload_n hx hb dX12_in_0 rfl (lv_at hl 0 rfl) ?_
  refine lv_iload_n hx hb dX12_in_1 rfl (lv_at hl 1 rfl) ?_
  refine lv_icmp_lt (tgt := 14) hx hb dX12_in_2 (by decide) (fun c1 => ?_) (fun c1 => ?_)
  · refine lv_iconst (v := nI 0) hx hb dX12_in_14 (by decide) ?_
    exact h_zret C hr (by first | rfl | decide) hlk hw (⟨bI_f (by grind), rfl⟩) dX12_in_15
  · refine lv_iload_n hx hb dX12_in_5 rfl (lv_at hl 0 rfl) ?_
    refine lv_iload_n hx hb dX12_in_6 rfl (lv_at hl 2 rfl) ?_
    refine lv_icmp_gt (tgt := 14) hx hb dX12_in_7 (by decide) (fun c2 => ?_) (fun c2 => ?_)
    · refine lv_iconst (v := nI 0) hx hb dX12_in_14 (by decide) ?_
      exact h_zret C hr (by first | rfl | decide) hlk hw (⟨bI_f (by grind), rfl⟩) dX12_in_15
    · refine lv_iconst (v := nI 1) hx hb dX12_in_10 (by decide) ?_
      refine lv_goto (tgt := 15) hx hb dX12_in_11 (by decide) ?_
      exact h_zret C hr (by first | rfl | decide) hlk hw (⟨bI_t (by grind), rfl⟩) dX12_in_15
set_option maxHeartbeats 4000000 in
set_option maxRecDepth 100000 in
theorem c_X12_finding {l : Launch} {D : va_G} {cA : Nat → ClassId} {f : HF} {sz : Nat} {q : Nat → Nat} {A : MA} {B : MB} {k : Nat} (hm : mo cA q A B f) (hk : k ≤ 5) : Met l yX12_finding wsX12_finding ({ frames := 0, cells := 0, slots := 0, locals := 0 } : Room) (va_Pc [.ref (q 0), .long (lF k)] (hB D cA f sz)) (va_Ql (fun r f1 => lF k = r ∧ ∃ B1, B1 = va_up B 15 (vp_updL (B 15) k (B 15 k + 1)) ∧ mo cA q A B1 f1) (hE D f sz) (hA f sz)) 0 0 (hA f sz) := by
  refine h_of (cc := cX12_finding) (maxL := 3) (ret := (some .long)) (by decide +kernel) rfl (Nat.le_of_ble_eq_true rfl) ?_
  intro p e s m below meth c ls C hr hlk hnm hw hl
  have hx := C.1.1
  have hb := C.1.2.1
  have hl : lv_has ls 3 [(0, .ref (q 0)), (1, .long (lF k))] := hl
  have lk0 : Cond.fieldLink RX12 47 "FallingLightModel" "findings" "[J" ∈ wsX12_finding := by decide +kernel
  have lk1 : ∀ w ∈ u_ws RX12 TX12 27, w ∈ wsX12_finding := by decide +kernel
  have lk2 : Cond.constantLong RX12 75 (lF 0) ∈ wsX12_finding := by decide +kernel
  refine lv_aload_n hx hb dX12_finding_0 rfl (lv_at hl 0 rfl) ?_
  refine m_fld C hw hm lk1 15 (by decide) lk0 (v := .ref (q 15)) rfl dX12_finding_1 ?_
  refine lv_ldc2 hx hb C.1.2.2.2.1 (C.1.2.2.2.2 _ lk2) dX12_finding_4 ?_
  refine lv_lload_n hx hb dX12_finding_7 rfl (lv_at hl 1 rfl) ?_
  refine lv_lsub hx hb dX12_finding_8 ?_
  refine lv_l2i hx hb dX12_finding_9 (lF_ix hk) ?_
  refine lv_dup2_11 hx hb dX12_finding_10 rfl rfl ?_
  refine m_lald C hw hm 15 rfl (v := B 15 k) rfl (show k < 6 from (by omega)) dX12_finding_11 ?_
  refine lv_lconst (v := 1) hx hb dX12_finding_12 (by decide) ?_
  refine lv_ladd hx hb dX12_finding_13 ?_
  refine m_last C hw hm 15 rfl (show k < 6 from (by omega)) dX12_finding_14 (fun B1 f2 H locs eB1 hw hm => ?_)
  refine lv_lload_n hx hb dX12_finding_15 rfl (lv_at hl 1 rfl) ?_
  exact h_lret C hr hlk hw (⟨rfl, _, eB1, hm⟩) dX12_finding_16
set_option maxHeartbeats 4000000 in
set_option maxRecDepth 100000 in
theorem c_X12_square {l : Launch} {D : va_G} {cA : Nat → ClassId} {f : HF} {sz : Nat} {q : Nat → Nat} {A : MA} {B : MB} {a b : Nat} (hm : mo cA q A B f) (ha : a < 22) (hb2 : b < 22) : Met l yX12_square wsX12_square ({ frames := 0, cells := 0, slots := 0, locals := 0 } : Room) (va_Pc [.ref (q 0), .int (nI a), .int (nI b)] (hB D cA f sz)) (va_Ql (fun r f1 => sqA A a b = r ∧ f = f1) (hE D f sz) (hA f sz)) 0 0 (hA f sz) := by
  refine h_of (cc := cX12_square) (maxL := 7) (ret := (some .long)) (by decide +kernel) rfl (Nat.le_of_ble_eq_true rfl) ?_
  intro p e s m below meth c ls C hr hlk hnm hw hl
  have hx := C.1.1
  have hb := C.1.2.1
  have hl : lv_has ls 7 [(0, .ref (q 0)), (1, .int (nI a)), (2, .int (nI b))] := hl
  have lk0 : Cond.fieldLink RX12 9 "FallingLightModel" "pointX" "[I" ∈ wsX12_square := by decide +kernel
  have lk1 : ∀ w ∈ u_ws RX12 TX12 27, w ∈ wsX12_square := by decide +kernel
  have lk2 : Cond.fieldLink RX12 13 "FallingLightModel" "pointY" "[I" ∈ wsX12_square := by decide +kernel
  refine lv_aload_n hx hb dX12_square_0 rfl (lv_at hl 0 rfl) ?_
  refine m_fld C hw hm lk1 2 (by decide) lk0 (v := .ref (q 2)) rfl dX12_square_1 ?_
  refine lv_iload_n hx hb dX12_square_4 rfl (lv_at hl 1 rfl) ?_
  refine m_iald C hw hm 2 rfl (v := A 2 a) rfl (show a < 22 from (by omega)) dX12_square_5 ?_
  refine lv_aload_n hx hb dX12_square_6 rfl (lv_at hl 0 rfl) ?_
  refine m_fld C hw hm lk1 2 (by decide) lk0 (v := .ref (q 2)) rfl dX12_square_7 ?_
  refine lv_iload_n hx hb dX12_square_10 rfl (lv_at hl 2 rfl) ?_
  refine m_iald C hw hm 2 rfl (v := A 2 b) rfl (show b < 22 from (by omega)) dX12_square_11 ?_
  refine lv_isub hx hb dX12_square_12 ?_
  refine lv_i2l hx hb dX12_square_13 rfl ?_
  refine lv_lstore_n (lv' := [(3, _), (0, _), (1, _), (2, _)]) hx hb dX12_square_14 rfl hl (by decide) rfl (fun ls hl => ?_)
  refine lv_aload_n hx hb dX12_square_15 rfl (lv_at hl 1 rfl) ?_
  refine m_fld C hw hm lk1 3 (by decide) lk2 (v := .ref (q 3)) rfl dX12_square_16 ?_
  refine lv_iload_n hx hb dX12_square_19 rfl (lv_at hl 2 rfl) ?_
  refine m_iald C hw hm 3 rfl (v := A 3 a) rfl (show a < 22 from (by omega)) dX12_square_20 ?_
  refine lv_aload_n hx hb dX12_square_21 rfl (lv_at hl 1 rfl) ?_
  refine m_fld C hw hm lk1 3 (by decide) lk2 (v := .ref (q 3)) rfl dX12_square_22 ?_
  refine lv_iload_n hx hb dX12_square_25 rfl (lv_at hl 3 rfl) ?_
  refine m_iald C hw hm 3 rfl (v := A 3 b) rfl (show b < 22 from (by omega)) dX12_square_26 ?_
  refine lv_isub hx hb dX12_square_27 ?_
  refine lv_i2l hx hb dX12_square_28 rfl ?_
  refine lv_lstore (lv' := [(5, _), (3, _), (0, _), (1, _), (2, _)]) hx hb dX12_square_29 hl (by decide) rfl (fun ls hl => ?_)
  refine lv_lload_n hx hb dX12_square_31 rfl (lv_at hl 1 rfl) ?_
  refine lv_lload_n hx hb dX12_square_32 rfl (lv_at hl 1 rfl) ?_
  refine lv_lmul hx hb dX12_square_33 ?_
  refine lv_lload hx hb dX12_square_34 (lv_at hl 0 rfl) ?_
  refine lv_lload hx hb dX12_square_36 (lv_at hl 0 rfl) ?_
  refine lv_lmul hx hb dX12_square_38 ?_
  refine lv_ladd hx hb dX12_square_39 ?_
  exact h_lret C hr hlk hw (⟨rfl, rfl⟩) dX12_square_40
set_option maxHeartbeats 4000000 in
set_option maxRecDepth 100000 in
theorem c_X12_cross {l : Launch} {D : va_G} {cA : Nat → ClassId} {f : HF} {sz : Nat} {q : Nat → Nat} {A : MA} {B : MB} {a b d : Nat} (hm : mo cA q A B f) (ha : a < 22) (hb2 : b < 22) (hd : d < 22) : Met l yX12_cross wsX12_cross ({ frames := 0, cells := 0, slots := 0, locals := 0 } : Room) (va_Pc [.ref (q 0), .int (nI a), .int (nI b), .int (nI d)] (hB D cA f sz)) (va_Ql (fun r f1 => crA A a b d = r ∧ f = f1) (hE D f sz) (hA f sz)) 0 0 (hA f sz) := by
  refine h_of (cc := cX12_cross) (maxL := 4) (ret := (some .long)) (by decide +kernel) rfl (Nat.le_of_ble_eq_true rfl) ?_
  intro p e s m below meth c ls C hr hlk hnm hw hl
  have hx := C.1.1
  have hb := C.1.2.1
  have hl : lv_has ls 4 [(0, .ref (q 0)), (1, .int (nI a)), (2, .int (nI b)), (3, .int (nI d))] := hl
  have lk0 : Cond.fieldLink RX12 9 "FallingLightModel" "pointX" "[I" ∈ wsX12_cross := by decide +kernel
  have lk1 : ∀ w ∈ u_ws RX12 TX12 27, w ∈ wsX12_cross := by decide +kernel
  have lk2 : Cond.fieldLink RX12 13 "FallingLightModel" "pointY" "[I" ∈ wsX12_cross := by decide +kernel
  refine lv_aload_n hx hb dX12_cross_0 rfl (lv_at hl 0 rfl) ?_
  refine m_fld C hw hm lk1 2 (by decide) lk0 (v := .ref (q 2)) rfl dX12_cross_1 ?_
  refine lv_iload_n hx hb dX12_cross_4 rfl (lv_at hl 2 rfl) ?_
  refine m_iald C hw hm 2 rfl (v := A 2 b) rfl (show b < 22 from (by omega)) dX12_cross_5 ?_
  refine lv_aload_n hx hb dX12_cross_6 rfl (lv_at hl 0 rfl) ?_
  refine m_fld C hw hm lk1 2 (by decide) lk0 (v := .ref (q 2)) rfl dX12_cross_7 ?_
  refine lv_iload_n hx hb dX12_cross_10 rfl (lv_at hl 1 rfl) ?_
  refine m_iald C hw hm 2 rfl (v := A 2 a) rfl (show a < 22 from (by omega)) dX12_cross_11 ?_
  refine lv_isub hx hb dX12_cross_12 ?_
  refine lv_i2l hx hb dX12_cross_13 rfl ?_
  refine lv_aload_n hx hb dX12_cross_14 rfl (lv_at hl 0 rfl) ?_
  refine m_fld C hw hm lk1 3 (by decide) lk2 (v := .ref (q 3)) rfl dX12_cross_15 ?_
  refine lv_iload_n hx hb dX12_cross_18 rfl (lv_at hl 3 rfl) ?_
  refine m_iald C hw hm 3 rfl (v := A 3 d) rfl (show d < 22 from (by omega)) dX12_cross_19 ?_
  refine lv_aload_n hx hb dX12_cross_20 rfl (lv_at hl 0 rfl) ?_
  refine m_fld C hw hm lk1 3 (by decide) lk2 (v := .ref (q 3)) rfl dX12_cross_21 ?_
  refine lv_iload_n hx hb dX12_cross_24 rfl (lv_at hl 1 rfl) ?_
  refine m_iald C hw hm 3 rfl (v := A 3 a) rfl (show a < 22 from (by omega)) dX12_cross_25 ?_
  refine lv_isub hx hb dX12_cross_26 ?_
  refine lv_i2l hx hb dX12_cross_27 rfl ?_
  refine lv_lmul hx hb dX12_cross_28 ?_
  refine lv_aload_n hx hb dX12_cross_29 rfl (lv_at hl 0 rfl) ?_
  refine m_fld C hw hm lk1 3 (by decide) lk2 (v := .ref (q 3)) rfl dX12_cross_30 ?_
  refine lv_iload_n hx hb dX12_cross_33 rfl (lv_at hl 2 rfl) ?_
  refine m_iald C hw hm 3 rfl (v := A 3 b) rfl (show b < 22 from (by omega)) dX12_cross_34 ?_
  refine lv_aload_n hx hb dX12_cross_35 rfl (lv_at hl 0 rfl) ?_
  refine m_fld C hw hm lk1 3 (by decide) lk2 (v := .ref (q 3)) rfl dX12_cross_36 ?_
  refine lv_iload_n hx hb dX12_cross_39 rfl (lv_at hl 1 rfl) ?_
  refine m_iald C hw hm 3 rfl (v := A 3 a) rfl (show a < 22 from (by omega)) dX12_cross_40 ?_
  refine lv_isub hx hb dX12_cross_41 ?_
  refine lv_i2l hx hb dX12_cross_42 rfl ?_
  refine lv_aload_n hx hb dX12_cross_43 rfl (lv_at hl 0 rfl) ?_
  refine m_fld C hw hm lk1 2 (by decide) lk0 (v := .ref (q 2)) rfl dX12_cross_44 ?_
  refine lv_iload_n hx hb dX12_cross_47 rfl (lv_at hl 3 rfl) ?_
  refine m_iald C hw hm 2 rfl (v := A 2 d) rfl (show d < 22 from (by omega)) dX12_cross_48 ?_
  refine lv_aload_n hx hb dX12_cross_49 rfl (lv_at hl 0 rfl) ?_
  refine m_fld C hw hm lk1 2 (by decide) lk0 (v := .ref (q 2)) rfl dX12_cross_50 ?_
  refine lv_iload_n hx hb dX12_cross_53 rfl (lv_at hl 1 rfl) ?_
  refine m_iald C hw hm 2 rfl (v := A 2 a) rfl (show a < 22 from (by omega)) dX12_cross_54 ?_
  refine lv_isub hx hb dX12_cross_55 ?_
  refine lv_i2l hx hb dX12_cross_56 rfl ?_
  refine lv_lmul hx hb dX12_cross_57 ?_
  refine lv_lsub hx hb dX12_cross_58 ?_
  exact h_lret C hr hlk hw (⟨rfl, rfl⟩) dX12_cross_59
set_option maxHeartbeats 4000000 in
set_option maxRecDepth 100000 in
theorem c_X12_crossTo {l : Launch} {D : va_G} {cA : Nat → ClassId} {f : HF} {sz : Nat} {q : Nat → Nat} {A : MA} {B : MB} {a b : Nat} {u v : Int32} (hm : mo cA q A B f) (ha : a < 22) (hb2 : b < 22) : Met l yX12_crossTo wsX12_crossTo ({ frames := 0, cells := 0, slots := 0, locals := 0 } : Room) (va_Pc [.ref (q 0), .int (nI a), .int (nI b), .int u, .int v] (hB D cA f sz)) (va_Ql (fun r f1 => ctA A a b u v = r ∧ f = f1) (hE D f sz) (hA f sz)) 0 0 (hA f sz) := by
  refine h_of (cc := cX12_crossTo) (maxL := 5) (ret := (some .long)) (by decide +kernel) rfl (Nat.le_of_ble_eq_true rfl) ?_
  intro p e s m below meth c ls C hr hlk hnm hw hl
  have hx := C.1.1
  have hb := C.1.2.1
  have hl : lv_has ls 5 [(0, .ref (q 0)), (1, .int (nI a)), (2, .int (nI b)), (3, .int u), (4, .int v)] := hl
  have lk0 : Cond.fieldLink RX12 9 "FallingLightModel" "pointX" "[I" ∈ wsX12_crossTo := by decide +kernel
  have lk1 : ∀ w ∈ u_ws RX12 TX12 27, w ∈ wsX12_crossTo := by decide +kernel
  have lk2 : Cond.fieldLink RX12 13 "FallingLightModel" "pointY" "[I" ∈ wsX12_crossTo := by decide +kernel
  refine lv_aload_n hx hb dX12_crossTo_0 rfl (lv_at hl 0 rfl) ?_
  refine m_fld C hw hm lk1 2 (by decide) lk0 (v := .ref (q 2)) rfl dX12_crossTo_1 ?_
  refine lv_iload_n hx hb dX12_crossTo_4 rfl (lv_at hl 2 rfl) ?_
  refine m_iald C hw hm 2 rfl (v := A 2 b) rfl (show b < 22 from (by omega)) dX12_crossTo_5 ?_
  refine lv_aload_n hx hb dX12_crossTo_6 rfl (lv_at hl 0 rfl) ?_
  refine m_fld C hw hm lk1 2 (by decide) lk0 (v := .ref (q 2)) rfl dX12_crossTo_7 ?_
  refine lv_iload_n hx hb dX12_crossTo_10 rfl (lv_at hl 1 rfl) ?_
  refine m_iald C hw hm 2 rfl (v := A 2 a) rfl (show a < 22 from (by omega)) dX12_crossTo_11 ?_
  refine lv_isub hx hb dX12_crossTo_12 ?_
  refine lv_i2l hx hb dX12_crossTo_13 rfl ?_
  refine lv_iload hx hb dX12_crossTo_14 (lv_at hl 4 rfl) ?_
  refine lv_aload_n hx hb dX12_crossTo_16 rfl (lv_at hl 0 rfl) ?_
  refine m_fld C hw hm lk1 3 (by decide) lk2 (v := .ref (q 3)) rfl dX12_crossTo_17 ?_
  refine lv_iload_n hx hb dX12_crossTo_20 rfl (lv_at hl 1 rfl) ?_
  refine m_iald C hw hm 3 rfl (v := A 3 a) rfl (show a < 22 from (by omega)) dX12_crossTo_21 ?_
  refine lv_isub hx hb dX12_crossTo_22 ?_
  refine lv_i2l hx hb dX12_crossTo_23 rfl ?_
  refine lv_lmul hx hb dX12_crossTo_24 ?_
  refine lv_aload_n hx hb dX12_crossTo_25 rfl (lv_at hl 0 rfl) ?_
  refine m_fld C hw hm lk1 3 (by decide) lk2 (v := .ref (q 3)) rfl dX12_crossTo_26 ?_
  refine lv_iload_n hx hb dX12_crossTo_29 rfl (lv_at hl 2 rfl) ?_
  refine m_iald C hw hm 3 rfl (v := A 3 b) rfl (show b < 22 from (by omega)) dX12_crossTo_30 ?_
  refine lv_aload_n hx hb dX12_crossTo_31 rfl (lv_at hl 0 rfl) ?_
  refine m_fld C hw hm lk1 3 (by decide) lk2 (v := .ref (q 3)) rfl dX12_crossTo_32 ?_
  refine lv_iload_n hx hb dX12_crossTo_35 rfl (lv_at hl 1 rfl) ?_
  refine m_iald C hw hm 3 rfl (v := A 3 a) rfl (show a < 22 from (by omega)) dX12_crossTo_36 ?_
  refine lv_isub hx hb dX12_crossTo_37 ?_
  refine lv_i2l hx hb dX12_crossTo_38 rfl ?_
  refine lv_iload_n hx hb dX12_crossTo_39 rfl (lv_at hl 3 rfl) ?_
  refine lv_aload_n hx hb dX12_crossTo_40 rfl (lv_at hl 0 rfl) ?_
  refine m_fld C hw hm lk1 2 (by decide) lk0 (v := .ref (q 2)) rfl dX12_crossTo_41 ?_
  refine lv_iload_n hx hb dX12_crossTo_44 rfl (lv_at hl 1 rfl) ?_
  refine m_iald C hw hm 2 rfl (v := A 2 a) rfl (show a < 22 from (by omega)) dX12_crossTo_45 ?_
  refine lv_isub hx hb dX12_crossTo_46 ?_
  refine lv_i2l hx hb dX12_crossTo_47 rfl ?_
  refine lv_lmul hx hb dX12_crossTo_48 ?_
  refine lv_lsub hx hb dX12_crossTo_49 ?_
  exact h_lret C hr hlk hw (⟨rfl, rfl⟩) dX12_crossTo_50
set_option maxHeartbeats 4000000 in
set_option maxRecDepth 100000 in
theorem c_X12_way {l : Launch} {D : va_G} {cA : Nat → ClassId} {f : HF} {sz : Nat} {q : Nat → Nat} {A : MA} {B : MB} {t w a : Nat} (hm : mo cA q A B f) (ht : t < 24) (hw3 : w < 3) (ha : a < 3) : Met l yX12_way wsX12_way ({ frames := 0, cells := 0, slots := 0, locals := 0 } : Room) (va_Pc [.ref (q 0), .int (nI t), .int (nI w), .int (nI a)] (hB D cA f sz)) (va_Ql (fun r f1 => wyA A t w a = r ∧ f = f1) (hE D f sz) (hA f sz)) 0 0 (hA f sz) := by
  refine h_of (cc := cX12_way) (maxL := 4) (ret := (some .long)) (by decide +kernel) rfl (Nat.le_of_ble_eq_true rfl) ?_
  intro p e s m below meth c ls C hr hlk hnm hw hl
  have hx := C.1.1
  have hb := C.1.2.1
  have hl : lv_has ls 4 [(0, .ref (q 0)), (1, .int (nI t)), (2, .int (nI w)), (3, .int (nI a))] := hl
  have lk0 : Cond.fieldLink RX12 38 "FallingLightModel" "ways" "[I" ∈ wsX12_way := by decide +kernel
  have lk1 : ∀ w ∈ u_ws RX12 TX12 27, w ∈ wsX12_way := by decide +kernel
  refine lv_aload_n hx hb dX12_way_0 rfl (lv_at hl 0 rfl) ?_
  refine m_fld C hw hm lk1 11 (by decide) lk0 (v := .ref (q 11)) rfl dX12_way_1 ?_
  refine lv_bipush (v := nI 9) hx hb dX12_way_4 (by decide) ?_
  refine lv_iload_n hx hb dX12_way_6 rfl (lv_at hl 1 rfl) ?_
  refine n_imul C dX12_way_7 ?_
  refine lv_iconst (v := nI 3) hx hb dX12_way_8 (by decide) ?_
  refine lv_iload_n hx hb dX12_way_9 rfl (lv_at hl 2 rfl) ?_
  refine n_imul C dX12_way_10 ?_
  refine n_iadd C dX12_way_11 ?_
  refine lv_iload_n hx hb dX12_way_12 rfl (lv_at hl 3 rfl) ?_
  refine n_iadd C dX12_way_13 ?_
  refine m_iald C hw hm 11 rfl (v := A 11 (9 * t + (3 * w) + a)) rfl (show 9 * t + (3 * w) + a < 216 from (by omega)) dX12_way_14 ?_
  refine lv_i2l hx hb dX12_way_15 rfl ?_
  exact h_lret C hr hlk hw (⟨rfl, rfl⟩) dX12_way_16
set_option maxHeartbeats 4000000 in
set_option maxRecDepth 100000 in
theorem c_X12_plane {l : Launch} {D : va_G} {cA : Nat → ClassId} {f : HF} {sz : Nat} {q : Nat → Nat} {A : MA} {B : MB} {t a : Nat} (hm : mo cA q A B f) (ht : t < 24) (ha : a < 3) : Met l yX12_plane wsX12_plane ({ frames := 1, cells := 0, slots := 0, locals := 23 } : Room) (va_Pc [.ref (q 0), .int (nI t), .int (nI a)] (hB D cA f sz)) (va_Ql (fun r f1 => plA A t a = r ∧ f = f1) (hE D f sz) (hA f sz)) 0 0 (hA f sz) := by
  refine h_of (cc := cX12_plane) (maxL := 5) (ret := (some .long)) (by decide +kernel) rfl (Nat.le_of_ble_eq_true rfl) ?_
  intro p e s m below meth c ls C hr hlk hnm hw hl
  have hx := C.1.1
  have hb := C.1.2.1
  have hl : lv_has ls 5 [(0, .ref (q 0)), (1, .int (nI t)), (2, .int (nI a))] := hl
  refine lv_iload_n hx hb dX12_plane_0 rfl (lv_at hl 2 rfl) ?_
  refine lv_iconst (v := nI 1) hx hb dX12_plane_1 (by decide) ?_
  refine n_iadd C dX12_plane_2 ?_
  refine lv_iconst (v := nI 3) hx hb dX12_plane_3 (by decide) ?_
  refine n_irem C (by omega) (by decide) (by decide) dX12_plane_4 ?_
  refine lv_istore_n (lv' := [(3, _), (0, _), (1, _), (2, _)]) hx hb dX12_plane_5 rfl hl (by decide) rfl (fun ls hl => ?_)
  refine lv_iload_n hx hb dX12_plane_6 rfl (lv_at hl 3 rfl) ?_
  refine lv_iconst (v := nI 2) hx hb dX12_plane_7 (by decide) ?_
  refine n_iadd C dX12_plane_8 ?_
  refine lv_iconst (v := nI 3) hx hb dX12_plane_9 (by decide) ?_
  refine n_irem C (by omega) (by decide) (by decide) dX12_plane_10 ?_
  refine lv_istore (lv' := [(4, _), (3, _), (0, _), (1, _), (2, _)]) hx hb dX12_plane_11 hl (by decide) rfl (fun ls hl => ?_)
  refine lv_aload_n hx hb dX12_plane_13 rfl (lv_at hl 2 rfl) ?_
  refine lv_iload_n hx hb dX12_plane_14 rfl (lv_at hl 3 rfl) ?_
  refine lv_iconst (v := nI 0) hx hb dX12_plane_15 (by decide) ?_
  refine lv_iload_n hx hb dX12_plane_16 rfl (lv_at hl 1 rfl) ?_
  refine h_calll hw (h_runV (n := 3) (As := [.int (nI t), .int (nI 0), .int (nI ((a + 1) % 3))]) (rest := []) C hw (c_X12_way hm (by omega) (by omega) (by omega)) gX12_plane_X12_way rfl rfl rfl (by decide +kernel) ⟨by decide, by decide⟩ bX12 hm.1 rfl hl.1 rfl (Nat.le_of_ble_eq_true rfl) dX12_plane_17 ⟨by first | decide | omega, by first | decide | omega⟩) (fun r1 f2 H locs hp hw => ?_)
  obtain ⟨rfl, rfl⟩ := hp
  refine lv_aload_n hx hb dX12_plane_20 rfl (lv_at hl 2 rfl) ?_
  refine lv_iload_n hx hb dX12_plane_21 rfl (lv_at hl 3 rfl) ?_
  refine lv_iconst (v := nI 1) hx hb dX12_plane_22 (by decide) ?_
  refine lv_iload hx hb dX12_plane_23 (lv_at hl 0 rfl) ?_
  refine h_calll hw (h_runV (n := 3) (As := [.int (nI t), .int (nI 1), .int (nI ((a + 2) % 3))]) (rest := [.long (wyA A t 0 ((a + 1) % 3))]) C hw (c_X12_way hm (by omega) (by omega) (by omega)) gX12_plane_X12_way rfl rfl rfl (by decide +kernel) ⟨by decide, by decide⟩ bX12 hm.1 rfl hl.1 rfl (Nat.le_of_ble_eq_true rfl) dX12_plane_25 ⟨by first | decide | omega, by first | decide | omega⟩) (fun r3 f4 H locs hp hw => ?_)
  obtain ⟨rfl, rfl⟩ := hp
  refine lv_lmul hx hb dX12_plane_28 ?_
  refine lv_aload_n hx hb dX12_plane_29 rfl (lv_at hl 2 rfl) ?_
  refine lv_iload_n hx hb dX12_plane_30 rfl (lv_at hl 3 rfl) ?_
  refine lv_iconst (v := nI 0) hx hb dX12_plane_31 (by decide) ?_
  refine lv_iload hx hb dX12_plane_32 (lv_at hl 0 rfl) ?_
  refine h_calll hw (h_runV (n := 3) (As := [.int (nI t), .int (nI 0), .int (nI ((a + 2) % 3))]) (rest := [.long ((wyA A t 0 ((a + 1) % 3)) * (wyA A t 1 ((a + 2) % 3)))]) C hw (c_X12_way hm (by omega) (by omega) (by omega)) gX12_plane_X12_way rfl rfl rfl (by decide +kernel) ⟨by decide, by decide⟩ bX12 hm.1 rfl hl.1 rfl (Nat.le_of_ble_eq_true rfl) dX12_plane_34 ⟨by first | decide | omega, by first | decide | omega⟩) (fun r5 f6 H locs hp hw => ?_)
  obtain ⟨rfl, rfl⟩ := hp
  refine lv_aload_n hx hb dX12_plane_37 rfl (lv_at hl 2 rfl) ?_
  refine lv_iload_n hx hb dX12_plane_38 rfl (lv_at hl 3 rfl) ?_
  refine lv_iconst (v := nI 1) hx hb dX12_plane_39 (by decide) ?_
  refine lv_iload_n hx hb dX12_plane_40 rfl (lv_at hl 1 rfl) ?_
  refine h_calll hw (h_runV (n := 3) (As := [.int (nI t), .int (nI 1), .int (nI ((a + 1) % 3))]) (rest := [.long (wyA A t 0 ((a + 2) % 3)), .long ((wyA A t 0 ((a + 1) % 3)) * (wyA A t 1 ((a + 2) % 3)))]) C hw (c_X12_way hm (by omega) (by omega) (by omega)) gX12_plane_X12_way rfl rfl rfl (by decide +kernel) ⟨by decide, by decide⟩ bX12 hm.1 rfl hl.1 rfl (Nat.le_of_ble_eq_true rfl) dX12_plane_41 ⟨by first | decide | omega, by first | decide | omega⟩) (fun r7 f8 H locs hp hw => ?_)
  obtain ⟨rfl, rfl⟩ := hp
  refine lv_lmul hx hb dX12_plane_44 ?_
  refine lv_lsub hx hb dX12_plane_45 ?_
  exact h_lret C hr hlk hw (⟨rfl, rfl⟩) dX12_plane_46
set_option maxHeartbeats 4000000 in
set_option maxRecDepth 100000 in
theorem c_X12_hasPlane {l : Launch} {D : va_G} {cA : Nat → ClassId} {f : HF} {sz : Nat} {q : Nat → Nat} {A : MA} {B : MB} {t : Nat} (hm : mo cA q A B f) (ht : t < 24) : Met l yX12_hasPlane wsX12_hasPlane ({ frames := 2, cells := 0, slots := 0, locals := 47 } : Room) (va_Pc [.ref (q 0), .int (nI t)] (hB D cA f sz)) (va_Qi (fun r f1 => bI (hpA A t) = r ∧ f = f1) (hE D f sz) (hA f sz)) 0 0 (hA f sz) := by
  refine h_of (cc := cX12_hasPlane) (maxL := 2) (ret := (some .boolean)) (by decide +kernel) rfl (Nat.le_of_ble_eq_true rfl) ?_
  intro p e s m below meth c ls C hr hlk hnm hw hl
  have hx := C.1.1
  have hb := C.1.2.1
  have hl : lv_has ls 2 [(0, .ref (q 0)), (1, .int (nI t))] := hl
  refine lv_aload_n hx hb dX12_hasPlane_0 rfl (lv_at hl 0 rfl) ?_
  refine lv_iload_n hx hb dX12_hasPlane_1 rfl (lv_at hl 1 rfl) ?_
  refine lv_iconst (v := nI 0) hx hb dX12_hasPlane_2 (by decide) ?_
  refine h_calll hw (h_runV (n := 2) (As := [.int (nI t), .int (nI 0)]) (rest := []) C hw (c_X12_plane hm (by omega) (by omega)) gX12_hasPlane_X12_plane rfl rfl rfl (by decide +kernel) ⟨by decide, by decide⟩ bX12 hm.1 rfl hl.1 rfl (Nat.le_of_ble_eq_true rfl) dX12_hasPlane_3 ⟨by first | decide | omega, by first | decide | omega⟩) (fun r1 f2 H locs hp hw => ?_)
  obtain ⟨rfl, rfl⟩ := hp
  refine lv_lconst (v := 0) hx hb dX12_hasPlane_6 (by decide) ?_
  refine W.lcmp hx hb dX12_hasPlane_7 ?_
  refine l_ifne C (tgt := 33) dX12_hasPlane_8 (by decide) (fun c3 => ?_) (fun c3 => ?_)
  · refine lv_iconst (v := nI 1) hx hb dX12_hasPlane_33 (by decide) ?_
    refine lv_goto (tgt := 38) hx hb dX12_hasPlane_34 (by decide) ?_
    exact h_zret C hr (by first | rfl | decide) hlk hw (⟨bI_t (by simp only [hpA]; grind), rfl⟩) dX12_hasPlane_38
  · refine lv_aload_n hx hb dX12_hasPlane_11 rfl (lv_at hl 0 rfl) ?_
    refine lv_iload_n hx hb dX12_hasPlane_12 rfl (lv_at hl 1 rfl) ?_
    refine lv_iconst (v := nI 1) hx hb dX12_hasPlane_13 (by decide) ?_
    refine h_calll hw (h_runV (n := 2) (As := [.int (nI t), .int (nI 1)]) (rest := []) C hw (c_X12_plane hm (by omega) (by omega)) gX12_hasPlane_X12_plane rfl rfl rfl (by decide +kernel) ⟨by decide, by decide⟩ bX12 hm.1 rfl hl.1 rfl (Nat.le_of_ble_eq_true rfl) dX12_hasPlane_14 ⟨by first | decide | omega, by first | decide | omega⟩) (fun r4 f5 H locs hp hw => ?_)
    obtain ⟨rfl, rfl⟩ := hp
    refine lv_lconst (v := 0) hx hb dX12_hasPlane_17 (by decide) ?_
    refine W.lcmp hx hb dX12_hasPlane_18 ?_
    refine l_ifne C (tgt := 33) dX12_hasPlane_19 (by decide) (fun c6 => ?_) (fun c6 => ?_)
    · refine lv_iconst (v := nI 1) hx hb dX12_hasPlane_33 (by decide) ?_
      refine lv_goto (tgt := 38) hx hb dX12_hasPlane_34 (by decide) ?_
      exact h_zret C hr (by first | rfl | decide) hlk hw (⟨bI_t (by simp only [hpA]; grind), rfl⟩) dX12_hasPlane_38
    · refine lv_aload_n hx hb dX12_hasPlane_22 rfl (lv_at hl 0 rfl) ?_
      refine lv_iload_n hx hb dX12_hasPlane_23 rfl (lv_at hl 1 rfl) ?_
      refine lv_iconst (v := nI 2) hx hb dX12_hasPlane_24 (by decide) ?_
      refine h_calll hw (h_runV (n := 2) (As := [.int (nI t), .int (nI 2)]) (rest := []) C hw (c_X12_plane hm (by omega) (by omega)) gX12_hasPlane_X12_plane rfl rfl rfl (by decide +kernel) ⟨by decide, by decide⟩ bX12 hm.1 rfl hl.1 rfl (Nat.le_of_ble_eq_true rfl) dX12_hasPlane_25 ⟨by first | decide | omega, by first | decide | omega⟩) (fun r7 f8 H locs hp hw => ?_)
      obtain ⟨rfl, rfl⟩ := hp
      refine lv_lconst (v := 0) hx hb dX12_hasPlane_28 (by decide) ?_
      refine W.lcmp hx hb dX12_hasPlane_29 ?_
      refine l_ifeq C (tgt := 37) dX12_hasPlane_30 (by decide) (fun c9 => ?_) (fun c9 => ?_)
      · refine lv_iconst (v := nI 0) hx hb dX12_hasPlane_37 (by decide) ?_
        exact h_zret C hr (by first | rfl | decide) hlk hw (⟨bI_f (by simp only [hpA]; grind), rfl⟩) dX12_hasPlane_38
      · refine lv_iconst (v := nI 1) hx hb dX12_hasPlane_33 (by decide) ?_
        refine lv_goto (tgt := 38) hx hb dX12_hasPlane_34 (by decide) ?_
        exact h_zret C hr (by first | rfl | decide) hlk hw (⟨bI_t (by simp only [hpA]; grind), rfl⟩) dX12_hasPlane_38
set_option maxHeartbeats 4000000 in
set_option maxRecDepth 100000 in
theorem c_X12_fallOf {l : Launch} {D : va_G} {cA : Nat → ClassId} {f : HF} {sz : Nat} {q : Nat → Nat} {A : MA} {B : MB} {s1 t a : Nat} (hm : mo cA q A B f) (hs1 : s1 < 24) (ht : t < 24) (ha : a < 3) : Met l yX12_fallOf wsX12_fallOf ({ frames := 2, cells := 0, slots := 0, locals := 47 } : Room) (va_Pc [.ref (q 0), .int (nI s1), .int (nI t), .int (nI a)] (hB D cA f sz)) (va_Ql (fun r f1 => faA A s1 t a = r ∧ f = f1) (hE D f sz) (hA f sz)) 0 0 (hA f sz) := by
  refine h_of (cc := cX12_fallOf) (maxL := 6) (ret := (some .long)) (by decide +kernel) rfl (Nat.le_of_ble_eq_true rfl) ?_
  intro p e s m below meth c ls C hr hlk hnm hw hl
  have hx := C.1.1
  have hb := C.1.2.1
  have hl : lv_has ls 6 [(0, .ref (q 0)), (1, .int (nI s1)), (2, .int (nI t)), (3, .int (nI a))] := hl
  refine lv_iload_n hx hb dX12_fallOf_0 rfl (lv_at hl 3 rfl) ?_
  refine lv_iconst (v := nI 1) hx hb dX12_fallOf_1 (by decide) ?_
  refine n_iadd C dX12_fallOf_2 ?_
  refine lv_iconst (v := nI 3) hx hb dX12_fallOf_3 (by decide) ?_
  refine n_irem C (by omega) (by decide) (by decide) dX12_fallOf_4 ?_
  refine lv_istore (lv' := [(4, _), (0, _), (1, _), (2, _), (3, _)]) hx hb dX12_fallOf_5 hl (by decide) rfl (fun ls hl => ?_)
  refine lv_iload_n hx hb dX12_fallOf_7 rfl (lv_at hl 4 rfl) ?_
  refine lv_iconst (v := nI 2) hx hb dX12_fallOf_8 (by decide) ?_
  refine n_iadd C dX12_fallOf_9 ?_
  refine lv_iconst (v := nI 3) hx hb dX12_fallOf_10 (by decide) ?_
  refine n_irem C (by omega) (by decide) (by decide) dX12_fallOf_11 ?_
  refine lv_istore (lv' := [(5, _), (4, _), (0, _), (1, _), (2, _), (3, _)]) hx hb dX12_fallOf_12 hl (by decide) rfl (fun ls hl => ?_)
  refine lv_aload_n hx hb dX12_fallOf_14 rfl (lv_at hl 2 rfl) ?_
  refine lv_iload_n hx hb dX12_fallOf_15 rfl (lv_at hl 3 rfl) ?_
  refine lv_iload hx hb dX12_fallOf_16 (lv_at hl 1 rfl) ?_
  refine h_calll hw (h_runV (n := 2) (As := [.int (nI s1), .int (nI ((a + 1) % 3))]) (rest := []) C hw (c_X12_plane hm (by omega) (by omega)) gX12_fallOf_X12_plane rfl rfl rfl (by decide +kernel) ⟨by decide, by decide⟩ bX12 hm.1 rfl hl.1 rfl (Nat.le_of_ble_eq_true rfl) dX12_fallOf_18 ⟨by first | decide | omega, by first | decide | omega⟩) (fun r1 f2 H locs hp hw => ?_)
  obtain ⟨rfl, rfl⟩ := hp
  refine lv_aload_n hx hb dX12_fallOf_21 rfl (lv_at hl 2 rfl) ?_
  refine lv_iload_n hx hb dX12_fallOf_22 rfl (lv_at hl 4 rfl) ?_
  refine lv_iload hx hb dX12_fallOf_23 (lv_at hl 0 rfl) ?_
  refine h_calll hw (h_runV (n := 2) (As := [.int (nI t), .int (nI ((a + 2) % 3))]) (rest := [.long (plA A s1 ((a + 1) % 3))]) C hw (c_X12_plane hm (by omega) (by omega)) gX12_fallOf_X12_plane rfl rfl rfl (by decide +kernel) ⟨by decide, by decide⟩ bX12 hm.1 rfl hl.1 rfl (Nat.le_of_ble_eq_true rfl) dX12_fallOf_25 ⟨by first | decide | omega, by first | decide | omega⟩) (fun r3 f4 H locs hp hw => ?_)
  obtain ⟨rfl, rfl⟩ := hp
  refine lv_lmul hx hb dX12_fallOf_28 ?_
  refine lv_aload_n hx hb dX12_fallOf_29 rfl (lv_at hl 2 rfl) ?_
  refine lv_iload_n hx hb dX12_fallOf_30 rfl (lv_at hl 3 rfl) ?_
  refine lv_iload hx hb dX12_fallOf_31 (lv_at hl 0 rfl) ?_
  refine h_calll hw (h_runV (n := 2) (As := [.int (nI s1), .int (nI ((a + 2) % 3))]) (rest := [.long ((plA A s1 ((a + 1) % 3)) * (plA A t ((a + 2) % 3)))]) C hw (c_X12_plane hm (by omega) (by omega)) gX12_fallOf_X12_plane rfl rfl rfl (by decide +kernel) ⟨by decide, by decide⟩ bX12 hm.1 rfl hl.1 rfl (Nat.le_of_ble_eq_true rfl) dX12_fallOf_33 ⟨by first | decide | omega, by first | decide | omega⟩) (fun r5 f6 H locs hp hw => ?_)
  obtain ⟨rfl, rfl⟩ := hp
  refine lv_aload_n hx hb dX12_fallOf_36 rfl (lv_at hl 2 rfl) ?_
  refine lv_iload_n hx hb dX12_fallOf_37 rfl (lv_at hl 4 rfl) ?_
  refine lv_iload hx hb dX12_fallOf_38 (lv_at hl 1 rfl) ?_
  refine h_calll hw (h_runV (n := 2) (As := [.int (nI t), .int (nI ((a + 1) % 3))]) (rest := [.long (plA A s1 ((a + 2) % 3)), .long ((plA A s1 ((a + 1) % 3)) * (plA A t ((a + 2) % 3)))]) C hw (c_X12_plane hm (by omega) (by omega)) gX12_fallOf_X12_plane rfl rfl rfl (by decide +kernel) ⟨by decide, by decide⟩ bX12 hm.1 rfl hl.1 rfl (Nat.le_of_ble_eq_true rfl) dX12_fallOf_40 ⟨by first | decide | omega, by first | decide | omega⟩) (fun r7 f8 H locs hp hw => ?_)
  obtain ⟨rfl, rfl⟩ := hp
  refine lv_lmul hx hb dX12_fallOf_43 ?_
  refine lv_lsub hx hb dX12_fallOf_44 ?_
  exact h_lret C hr hlk hw (⟨rfl, rfl⟩) dX12_fallOf_45
set_option maxHeartbeats 4000000 in
set_option maxRecDepth 100000 in
theorem c_X12_hasFall {l : Launch} {D : va_G} {cA : Nat → ClassId} {f : HF} {sz : Nat} {q : Nat → Nat} {A : MA} {B : MB} {s1 t : Nat} (hm : mo cA q A B f) (hs1 : s1 < 24) (ht : t < 24) : Met l yX12_hasFall wsX12_hasFall ({ frames := 3, cells := 0, slots := 0, locals := 72 } : Room) (va_Pc [.ref (q 0), .int (nI s1), .int (nI t)] (hB D cA f sz)) (va_Qi (fun r f1 => bI (hfA A s1 t) = r ∧ f = f1) (hE D f sz) (hA f sz)) 0 0 (hA f sz) := by
  refine h_of (cc := cX12_hasFall) (maxL := 3) (ret := (some .boolean)) (by decide +kernel) rfl (Nat.le_of_ble_eq_true rfl) ?_
  intro p e s m below meth c ls C hr hlk hnm hw hl
  have hx := C.1.1
  have hb := C.1.2.1
  have hl : lv_has ls 3 [(0, .ref (q 0)), (1, .int (nI s1)), (2, .int (nI t))] := hl
  refine lv_aload_n hx hb dX12_hasFall_0 rfl (lv_at hl 0 rfl) ?_
  refine lv_iload_n hx hb dX12_hasFall_1 rfl (lv_at hl 1 rfl) ?_
  refine lv_iload_n hx hb dX12_hasFall_2 rfl (lv_at hl 2 rfl) ?_
  refine lv_iconst (v := nI 0) hx hb dX12_hasFall_3 (by decide) ?_
  refine h_calll hw (h_runV (n := 3) (As := [.int (nI s1), .int (nI t), .int (nI 0)]) (rest := []) C hw (c_X12_fallOf hm (by omega) (by omega) (by omega)) gX12_hasFall_X12_fallOf rfl rfl rfl (by decide +kernel) ⟨by decide, by decide⟩ bX12 hm.1 rfl hl.1 rfl (Nat.le_of_ble_eq_true rfl) dX12_hasFall_4 ⟨by first | decide | omega, by first | decide | omega⟩) (fun r1 f2 H locs hp hw => ?_)
  obtain ⟨rfl, rfl⟩ := hp
  refine lv_lconst (v := 0) hx hb dX12_hasFall_7 (by decide) ?_
  refine W.lcmp hx hb dX12_hasFall_8 ?_
  refine l_ifne C (tgt := 36) dX12_hasFall_9 (by decide) (fun c3 => ?_) (fun c3 => ?_)
  · refine lv_iconst (v := nI 1) hx hb dX12_hasFall_36 (by decide) ?_
    refine lv_goto (tgt := 41) hx hb dX12_hasFall_37 (by decide) ?_
    exact h_zret C hr (by first | rfl | decide) hlk hw (⟨bI_t (by simp only [hfA]; grind), rfl⟩) dX12_hasFall_41
  · refine lv_aload_n hx hb dX12_hasFall_12 rfl (lv_at hl 0 rfl) ?_
    refine lv_iload_n hx hb dX12_hasFall_13 rfl (lv_at hl 1 rfl) ?_
    refine lv_iload_n hx hb dX12_hasFall_14 rfl (lv_at hl 2 rfl) ?_
    refine lv_iconst (v := nI 1) hx hb dX12_hasFall_15 (by decide) ?_
    refine h_calll hw (h_runV (n := 3) (As := [.int (nI s1), .int (nI t), .int (nI 1)]) (rest := []) C hw (c_X12_fallOf hm (by omega) (by omega) (by omega)) gX12_hasFall_X12_fallOf rfl rfl rfl (by decide +kernel) ⟨by decide, by decide⟩ bX12 hm.1 rfl hl.1 rfl (Nat.le_of_ble_eq_true rfl) dX12_hasFall_16 ⟨by first | decide | omega, by first | decide | omega⟩) (fun r4 f5 H locs hp hw => ?_)
    obtain ⟨rfl, rfl⟩ := hp
    refine lv_lconst (v := 0) hx hb dX12_hasFall_19 (by decide) ?_
    refine W.lcmp hx hb dX12_hasFall_20 ?_
    refine l_ifne C (tgt := 36) dX12_hasFall_21 (by decide) (fun c6 => ?_) (fun c6 => ?_)
    · refine lv_iconst (v := nI 1) hx hb dX12_hasFall_36 (by decide) ?_
      refine lv_goto (tgt := 41) hx hb dX12_hasFall_37 (by decide) ?_
      exact h_zret C hr (by first | rfl | decide) hlk hw (⟨bI_t (by simp only [hfA]; grind), rfl⟩) dX12_hasFall_41
    · refine lv_aload_n hx hb dX12_hasFall_24 rfl (lv_at hl 0 rfl) ?_
      refine lv_iload_n hx hb dX12_hasFall_25 rfl (lv_at hl 1 rfl) ?_
      refine lv_iload_n hx hb dX12_hasFall_26 rfl (lv_at hl 2 rfl) ?_
      refine lv_iconst (v := nI 2) hx hb dX12_hasFall_27 (by decide) ?_
      refine h_calll hw (h_runV (n := 3) (As := [.int (nI s1), .int (nI t), .int (nI 2)]) (rest := []) C hw (c_X12_fallOf hm (by omega) (by omega) (by omega)) gX12_hasFall_X12_fallOf rfl rfl rfl (by decide +kernel) ⟨by decide, by decide⟩ bX12 hm.1 rfl hl.1 rfl (Nat.le_of_ble_eq_true rfl) dX12_hasFall_28 ⟨by first | decide | omega, by first | decide | omega⟩) (fun r7 f8 H locs hp hw => ?_)
      obtain ⟨rfl, rfl⟩ := hp
      refine lv_lconst (v := 0) hx hb dX12_hasFall_31 (by decide) ?_
      refine W.lcmp hx hb dX12_hasFall_32 ?_
      refine l_ifeq C (tgt := 40) dX12_hasFall_33 (by decide) (fun c9 => ?_) (fun c9 => ?_)
      · refine lv_iconst (v := nI 0) hx hb dX12_hasFall_40 (by decide) ?_
        exact h_zret C hr (by first | rfl | decide) hlk hw (⟨bI_f (by simp only [hfA]; grind), rfl⟩) dX12_hasFall_41
      · refine lv_iconst (v := nI 1) hx hb dX12_hasFall_36 (by decide) ?_
        refine lv_goto (tgt := 41) hx hb dX12_hasFall_37 (by decide) ?_
        exact h_zret C hr (by first | rfl | decide) hlk hw (⟨bI_t (by simp only [hfA]; grind), rfl⟩) dX12_hasFall_41
set_option maxHeartbeats 4000000 in
set_option maxRecDepth 100000 in
theorem c_X12_scalar {l : Launch} {D : va_G} {cA : Nat → ClassId} {f : HF} {sz : Nat} {q : Nat → Nat} {A : MA} {B : MB} {s1 t : Nat} (hm : mo cA q A B f) (hs1 : s1 < 24) (ht : t < 24) : Met l yX12_scalar wsX12_scalar ({ frames := 2, cells := 0, slots := 0, locals := 47 } : Room) (va_Pc [.ref (q 0), .int (nI s1), .int (nI t)] (hB D cA f sz)) (va_Ql (fun r f1 => scA A s1 t = r ∧ f = f1) (hE D f sz) (hA f sz)) 0 0 (hA f sz) := by
  refine h_of (cc := cX12_scalar) (maxL := 3) (ret := (some .long)) (by decide +kernel) rfl (Nat.le_of_ble_eq_true rfl) ?_
  intro p e s m below meth c ls C hr hlk hnm hw hl
  have hx := C.1.1
  have hb := C.1.2.1
  have hl : lv_has ls 3 [(0, .ref (q 0)), (1, .int (nI s1)), (2, .int (nI t))] := hl
  refine lv_aload_n hx hb dX12_scalar_0 rfl (lv_at hl 0 rfl) ?_
  refine lv_iload_n hx hb dX12_scalar_1 rfl (lv_at hl 1 rfl) ?_
  refine lv_iconst (v := nI 0) hx hb dX12_scalar_2 (by decide) ?_
  refine h_calll hw (h_runV (n := 2) (As := [.int (nI s1), .int (nI 0)]) (rest := []) C hw (c_X12_plane hm (by omega) (by omega)) gX12_scalar_X12_plane rfl rfl rfl (by decide +kernel) ⟨by decide, by decide⟩ bX12 hm.1 rfl hl.1 rfl (Nat.le_of_ble_eq_true rfl) dX12_scalar_3 ⟨by first | decide | omega, by first | decide | omega⟩) (fun r1 f2 H locs hp hw => ?_)
  obtain ⟨rfl, rfl⟩ := hp
  refine lv_aload_n hx hb dX12_scalar_6 rfl (lv_at hl 0 rfl) ?_
  refine lv_iload_n hx hb dX12_scalar_7 rfl (lv_at hl 2 rfl) ?_
  refine lv_iconst (v := nI 0) hx hb dX12_scalar_8 (by decide) ?_
  refine h_calll hw (h_runV (n := 2) (As := [.int (nI t), .int (nI 0)]) (rest := [.long (plA A s1 0)]) C hw (c_X12_plane hm (by omega) (by omega)) gX12_scalar_X12_plane rfl rfl rfl (by decide +kernel) ⟨by decide, by decide⟩ bX12 hm.1 rfl hl.1 rfl (Nat.le_of_ble_eq_true rfl) dX12_scalar_9 ⟨by first | decide | omega, by first | decide | omega⟩) (fun r3 f4 H locs hp hw => ?_)
  obtain ⟨rfl, rfl⟩ := hp
  refine lv_lmul hx hb dX12_scalar_12 ?_
  refine lv_aload_n hx hb dX12_scalar_13 rfl (lv_at hl 0 rfl) ?_
  refine lv_iload_n hx hb dX12_scalar_14 rfl (lv_at hl 1 rfl) ?_
  refine lv_iconst (v := nI 1) hx hb dX12_scalar_15 (by decide) ?_
  refine h_calll hw (h_runV (n := 2) (As := [.int (nI s1), .int (nI 1)]) (rest := [.long ((plA A s1 0) * (plA A t 0))]) C hw (c_X12_plane hm (by omega) (by omega)) gX12_scalar_X12_plane rfl rfl rfl (by decide +kernel) ⟨by decide, by decide⟩ bX12 hm.1 rfl hl.1 rfl (Nat.le_of_ble_eq_true rfl) dX12_scalar_16 ⟨by first | decide | omega, by first | decide | omega⟩) (fun r5 f6 H locs hp hw => ?_)
  obtain ⟨rfl, rfl⟩ := hp
  refine lv_aload_n hx hb dX12_scalar_19 rfl (lv_at hl 0 rfl) ?_
  refine lv_iload_n hx hb dX12_scalar_20 rfl (lv_at hl 2 rfl) ?_
  refine lv_iconst (v := nI 1) hx hb dX12_scalar_21 (by decide) ?_
  refine h_calll hw (h_runV (n := 2) (As := [.int (nI t), .int (nI 1)]) (rest := [.long (plA A s1 1), .long ((plA A s1 0) * (plA A t 0))]) C hw (c_X12_plane hm (by omega) (by omega)) gX12_scalar_X12_plane rfl rfl rfl (by decide +kernel) ⟨by decide, by decide⟩ bX12 hm.1 rfl hl.1 rfl (Nat.le_of_ble_eq_true rfl) dX12_scalar_22 ⟨by first | decide | omega, by first | decide | omega⟩) (fun r7 f8 H locs hp hw => ?_)
  obtain ⟨rfl, rfl⟩ := hp
  refine lv_lmul hx hb dX12_scalar_25 ?_
  refine lv_ladd hx hb dX12_scalar_26 ?_
  refine lv_aload_n hx hb dX12_scalar_27 rfl (lv_at hl 0 rfl) ?_
  refine lv_iload_n hx hb dX12_scalar_28 rfl (lv_at hl 1 rfl) ?_
  refine lv_iconst (v := nI 2) hx hb dX12_scalar_29 (by decide) ?_
  refine h_calll hw (h_runV (n := 2) (As := [.int (nI s1), .int (nI 2)]) (rest := [.long (((plA A s1 0) * (plA A t 0)) + ((plA A s1 1) * (plA A t 1)))]) C hw (c_X12_plane hm (by omega) (by omega)) gX12_scalar_X12_plane rfl rfl rfl (by decide +kernel) ⟨by decide, by decide⟩ bX12 hm.1 rfl hl.1 rfl (Nat.le_of_ble_eq_true rfl) dX12_scalar_30 ⟨by first | decide | omega, by first | decide | omega⟩) (fun r9 f10 H locs hp hw => ?_)
  obtain ⟨rfl, rfl⟩ := hp
  refine lv_aload_n hx hb dX12_scalar_33 rfl (lv_at hl 0 rfl) ?_
  refine lv_iload_n hx hb dX12_scalar_34 rfl (lv_at hl 2 rfl) ?_
  refine lv_iconst (v := nI 2) hx hb dX12_scalar_35 (by decide) ?_
  refine h_calll hw (h_runV (n := 2) (As := [.int (nI t), .int (nI 2)]) (rest := [.long (plA A s1 2), .long (((plA A s1 0) * (plA A t 0)) + ((plA A s1 1) * (plA A t 1)))]) C hw (c_X12_plane hm (by omega) (by omega)) gX12_scalar_X12_plane rfl rfl rfl (by decide +kernel) ⟨by decide, by decide⟩ bX12 hm.1 rfl hl.1 rfl (Nat.le_of_ble_eq_true rfl) dX12_scalar_36 ⟨by first | decide | omega, by first | decide | omega⟩) (fun r11 f12 H locs hp hw => ?_)
  obtain ⟨rfl, rfl⟩ := hp
  refine lv_lmul hx hb dX12_scalar_39 ?_
  refine lv_ladd hx hb dX12_scalar_40 ?_
  exact h_lret C hr hlk hw (⟨rfl, rfl⟩) dX12_scalar_41
set_option maxHeartbeats 4000000 in
set_option maxRecDepth 100000 in
theorem c_X12_isStation {l : Launch} {D : va_G} {cA : Nat → ClassId} {f : HF} {sz : Nat} {v : Int32}  : Met l yX12_isStation wsX12_isStation ({ frames := 1, cells := 0, slots := 0, locals := 22 } : Room) (va_Pc [.int v] (hB D cA f sz)) (va_Qi (fun r f1 => bI (¬ v < nI 0 ∧ ¬ nI 3 < v) = r ∧ f = f1) (hE D f sz) (hA f sz)) 0 0 (hA f sz) := by
  refine h_of (cc := cX12_isStation) (maxL := 1) (ret := (some .boolean)) (by decide +kernel) rfl (Nat.le_of_ble_eq_true rfl) ?_
  intro p e s m below meth c ls C hr hlk hnm hw hl
  have hx := C.1.1
  have hb := C.1.2.1
  have hl : lv_has ls 1 [(0, .int v)] := hl
  refine lv_iload_n hx hb dX12_isStation_0 rfl (lv_at hl 0 rfl) ?_
  refine lv_iconst (v := nI 0) hx hb dX12_isStation_1 (by decide) ?_
  refine lv_iconst (v := nI 3) hx hb dX12_isStation_2 (by decide) ?_
  refine h_calli hw (h_runS (n := 3) (As := [.int v, .int (nI 0), .int (nI 3)]) (rest := []) C hw c_X12_in gX12_isStation_X12_in rfl rfl rfl (by decide +kernel) ⟨by decide, by decide⟩ rfl hl.1 rfl (Nat.le_of_ble_eq_true rfl) dX12_isStation_3 ⟨by first | decide | omega, by first | decide | omega⟩) (fun r1 f2 H locs hp hw => ?_)
  obtain ⟨rfl, rfl⟩ := hp
  exact h_zret C hr (bI_z _) hlk hw (⟨rfl, rfl⟩) dX12_isStation_6
set_option maxHeartbeats 4000000 in
set_option maxRecDepth 100000 in
theorem c_X12_isMeteor {l : Launch} {D : va_G} {cA : Nat → ClassId} {f : HF} {sz : Nat} {v : Int32}  : Met l yX12_isMeteor wsX12_isMeteor ({ frames := 1, cells := 0, slots := 0, locals := 22 } : Room) (va_Pc [.int v] (hB D cA f sz)) (va_Qi (fun r f1 => bI (¬ v < nI 0 ∧ ¬ nI 5 < v) = r ∧ f = f1) (hE D f sz) (hA f sz)) 0 0 (hA f sz) := by
  refine h_of (cc := cX12_isMeteor) (maxL := 1) (ret := (some .boolean)) (by decide +kernel) rfl (Nat.le_of_ble_eq_true rfl) ?_
  intro p e s m below meth c ls C hr hlk hnm hw hl
  have hx := C.1.1
  have hb := C.1.2.1
  have hl : lv_has ls 1 [(0, .int v)] := hl
  refine lv_iload_n hx hb dX12_isMeteor_0 rfl (lv_at hl 0 rfl) ?_
  refine lv_iconst (v := nI 0) hx hb dX12_isMeteor_1 (by decide) ?_
  refine lv_iconst (v := nI 5) hx hb dX12_isMeteor_2 (by decide) ?_
  refine h_calli hw (h_runS (n := 3) (As := [.int v, .int (nI 0), .int (nI 5)]) (rest := []) C hw c_X12_in gX12_isMeteor_X12_in rfl rfl rfl (by decide +kernel) ⟨by decide, by decide⟩ rfl hl.1 rfl (Nat.le_of_ble_eq_true rfl) dX12_isMeteor_3 ⟨by first | decide | omega, by first | decide | omega⟩) (fun r1 f2 H locs hp hw => ?_)
  obtain ⟨rfl, rfl⟩ := hp
  exact h_zret C hr (bI_z _) hlk hw (⟨rfl, rfl⟩) dX12_isMeteor_6
