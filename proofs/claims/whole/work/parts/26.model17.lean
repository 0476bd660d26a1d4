/-! ===== the reference, seventeenth methods (laid by program) ===== -/
def ldA (A : MA) (o p k : Nat) : MA := va_up (va_up A 2 (fun z => if o ≤ z ∧ z < o + k then A 5 (p + 2 * (z - o)) else A 2 z)) 3 (fun z => if o ≤ z ∧ z < o + k then A 5 (p + 2 * (z - o) + 1) else A 3 z)
theorem ld_0 (A : MA) (o p : Nat) : A = ldA A o p 0 := by
  funext k j
  unfold ldA
  by_cases h3 : k = 3
  · subst h3; rw [va_up_self, if_neg (by omega)]
  · rw [va_up_ne _ _ h3]
    by_cases h2 : k = 2
    · subst h2; rw [va_up_self, if_neg (by omega)]
    · rw [va_up_ne _ _ h2]
theorem ld_s {A A1 A2 A3 : MA} {o p k : Nat} (h1 : A1 = ldA A o p k) (h2 : A2 = va_up A1 2 (upd (A1 2) (o + k) (A1 5 (p + 2 * k)))) (h3 : A3 = va_up A2 3 (upd (A2 3) (o + k) (A2 5 (p + 2 * k + 1)))) : A3 = ldA A o p (k + 1) := by
  have e5 : A1 5 = A 5 := by rw [h1, ldA, va_up_ne _ _ (by decide), va_up_ne _ _ (by decide)]
  have e25 : A2 5 = A 5 := by rw [h2, va_up_ne _ _ (by decide), e5]
  have e23 : A2 3 = A1 3 := by rw [h2, va_up_ne _ _ (by decide)]
  have e12 : A1 2 = fun z => if o ≤ z ∧ z < o + k then A 5 (p + 2 * (z - o)) else A 2 z := by rw [h1, ldA, va_up_ne _ _ (by decide), va_up_self]
  have e13 : A1 3 = fun z => if o ≤ z ∧ z < o + k then A 5 (p + 2 * (z - o) + 1) else A 3 z := by rw [h1, ldA, va_up_self]
  funext y j
  unfold ldA
  by_cases g3 : y = 3
  · subst g3
    rw [h3, va_up_self, va_up_self, e25, e23, e13]
    by_cases hj : j = o + k
    · subst hj
      rw [pk_us, if_pos (by omega), Nat.add_sub_cancel_left]
    · rw [pk_un hj]
      by_cases hr : o ≤ j ∧ j < o + k
      · rw [if_pos hr, if_pos (by omega)]
      · rw [if_neg hr, if_neg (by omega)]
  · rw [h3, va_up_ne _ _ g3, va_up_ne _ _ g3]
    by_cases g2 : y = 2
    · subst g2
      rw [h2, va_up_self, va_up_self, e5, e12]
      by_cases hj : j = o + k
      · subst hj
        rw [pk_us, if_pos (by omega), Nat.add_sub_cancel_left]
      · rw [pk_un hj]
        by_cases hr : o ≤ j ∧ j < o + k
        · rw [if_pos hr, if_pos (by omega)]
        · rw [if_neg hr, if_neg (by omega)]
    · rw [h2, h1, ldA, va_up_ne _ _ g2, va_up_ne _ _ g3, va_up_ne _ _ g2, va_up_ne _ _ g2]
def ld2 (A : MA) (B : MB) (p m : Nat) (w : Int32) : OR := if w = 0 then (if m / 2 ≤ 10 then (lN (m / 2), stS (ldA A 0 p (m / 2)) 0 (nI (m / 2)), B) else (lF 4, A, fnd B 4)) else (if m / 2 ≤ 12 then (lN (m / 2), stS (ldA A 10 p (m / 2)) 1 (nI (m / 2)), B) else (lF 4, A, fnd B 4))
def op_load (A : MA) (B : MB) (ra k n9 w : Int32) : OR := if rg (nI 0) (nI 1) ra then (if 0 ≤ A 6 ra.toNatClampNeg then (if n9 < 0 then (lF 5, A, fnd B 5) else (if n9.toNatClampNeg % 2 = 1 then (lF 5, A, fnd B 5) else (if k < 0 then (lF 1, A, fnd B 1) else (if k.toNatClampNeg + n9.toNatClampNeg ≤ (A 6 ra.toNatClampNeg).toNatClampNeg then (if ∀ z, z < n9.toNatClampNeg → rg (nI 0) (nI 199) (A 5 (24 * ra.toNatClampNeg + (k.toNatClampNeg + z))) then ld2 A B (24 * ra.toNatClampNeg + k.toNatClampNeg) n9.toNatClampNeg w else (lF 1, A, fnd B 1)) else (lF 1, A, fnd B 1))))) else (lF 2, A, fnd B 2)) else (lF 1, A, fnd B 1)
set_option maxHeartbeats 4000000 in
set_option maxRecDepth 100000 in
theorem c_X12_load {l : Launch} {D : va_G} {cA : Nat → ClassId} {f : HF} {sz : Nat} {q : Nat → Nat} {A : MA} {B : MB} {ra k n9 w : Int32} (hm : mo cA q A B f) (hrs : ∀ r, r < 2 → A 6 r = -1 ∨ ∃ n, n ≤ 24 ∧ A 6 r = nI n) : Met l yX12_load wsX12_load ({ frames := 1, cells := 0, slots := 0, locals := 22 } : Room) (va_Pc [.ref (q 0), .int ra, .int k, .int n9, .int w] (hB D cA f sz)) (va_Ql (fun r f1 => (op_load A B ra k n9 w).1 = r ∧ mo cA q (op_load A B ra k n9 w).2.1 (op_load A B ra k n9 w).2.2 f1) (hE D f sz) (hA f sz)) 0 0 (hA f sz) := by
  refine h_of (cc := cX12_load) (maxL := 7) (ret := (some .long)) (by decide +kernel) rfl (Nat.le_of_ble_eq_true rfl) ?_
  intro p e s m below meth c ls C hr hlk hnm hw hl
  have hx := C.1.1
  have hb := C.1.2.1
  have hl : lv_has ls 7 [(0, .ref (q 0)), (1, .int ra), (2, .int k), (3, .int n9), (4, .int w)] := hl
  have lk0 : Cond.fieldLink RX12 23 "FallingLightModel" "rowSize" "[I" ∈ wsX12_load := by decide +kernel
  have lk1 : ∀ w ∈ u_ws RX12 TX12 27, w ∈ wsX12_load := by decide +kernel
  have lk2 : Cond.constantLong RX12 104 (lF 5) ∈ wsX12_load := by decide +kernel
  have lk3 : Cond.constantLong RX12 91 (lF 1) ∈ wsX12_load := by decide +kernel
  have lk4 : Cond.fieldLink RX12 101 "FallingLightModel" "spots" "I" ∈ wsX12_load := by decide +kernel
  have lk5 : Cond.fieldLink RX12 9 "FallingLightModel" "pointX" "[I" ∈ wsX12_load := by decide +kernel
  have lk6 : Cond.fieldLink RX12 20 "FallingLightModel" "rows" "[I" ∈ wsX12_load := by decide +kernel
  have lk7 : Cond.fieldLink RX12 13 "FallingLightModel" "pointY" "[I" ∈ wsX12_load := by decide +kernel
  have lk8 : Cond.constantLong RX12 99 (lF 4) ∈ wsX12_load := by decide +kernel
  have lk9 : Cond.fieldLink RX12 96 "FallingLightModel" "stars" "I" ∈ wsX12_load := by decide +kernel
  have lk10 : Cond.constantLong RX12 106 (lF 2) ∈ wsX12_load := by decide +kernel
  refine lv_iload_n hx hb dX12_load_0 rfl (lv_at hl 1 rfl) ?_
  refine lv_iconst (v := nI 0) hx hb dX12_load_1 (by decide) ?_
  refine lv_iconst (v := nI 1) hx hb dX12_load_2 (by decide) ?_
  refine h_calli hw (h_runS (n := 3) (As := [.int ra, .int (nI 0), .int (nI 1)]) (rest := []) C hw c_X12_in gX12_load_X12_in rfl rfl rfl (by decide +kernel) ⟨by decide, by decide⟩ rfl hl.1 rfl (Nat.le_of_ble_eq_true rfl) dX12_load_3 ⟨by first | decide | omega, by first | decide | omega⟩) (fun r1 f2 H locs hp hw => ?_)
  obtain ⟨rfl, rfl⟩ := hp
  refine n_ifneB C (tgt := 17) dX12_load_6 (by decide) (fun cq3 => ?_) (fun cq3 => ?_)
  · obtain ⟨i, hi, rfl⟩ := inN (by decide) cq3
    refine lv_aload_n hx hb dX12_load_17 rfl (lv_at hl 0 rfl) ?_
    refine m_fld C hw hm lk1 6 (by decide) lk0 (v := .ref (q 6)) rfl dX12_load_18 ?_
    refine lv_iload_n hx hb dX12_load_21 rfl (lv_at hl 1 rfl) ?_
    refine m_iald C hw hm 6 rfl (v := A 6 i) rfl (show i < 2 from (by omega)) dX12_load_22 ?_
    refine lv_if_ge (tgt := 34) hx hb dX12_load_23 (by decide) (fun cq4 => ?_) (fun cq4 => ?_)
    · obtain ⟨n8, hn8, hA6⟩ := rs_nn hrs (show i < 2 by omega) cq4
      refine lv_iload_n hx hb dX12_load_34 rfl (lv_at hl 3 rfl) ?_
      refine lv_if_lt (tgt := 45) hx hb dX12_load_35 (by decide) (fun cq5 => ?_) (fun cq5 => ?_)
      · refine lv_aload_n hx hb dX12_load_45 rfl (lv_at hl 0 rfl) ?_
        refine lv_ldc2 hx hb C.1.2.2.2.1 (C.1.2.2.2.2 _ lk2) dX12_load_46 ?_
        refine h_calll hw (h_runV (n := 1) (As := [.long (lF 5)]) (rest := []) C hw (c_X12_finding hm (by omega)) gX12_load_X12_finding rfl rfl rfl (by decide +kernel) ⟨by decide, by decide⟩ bX12 hm.1 rfl hl.1 rfl (Nat.le_of_ble_eq_true rfl) dX12_load_49 ⟨by first | decide | omega, by first | decide | omega⟩) (fun r6 f7 H locs hp hw => ?_)
        obtain ⟨rfl, B8, eB8, hm⟩ := hp
        exact h_lret C hr hlk hw (op_fin (by subst eB8; rw [op_load]; simp only [nI_clamp (show i < 2 ^ 31 by omega)]; rw [if_pos cq3, if_pos cq4, if_pos cq5]; try rfl) hm) dX12_load_52
      · obtain ⟨m9, hm9, rfl⟩ := nI_of cq5
        refine lv_iload_n hx hb dX12_load_38 rfl (lv_at hl 3 rfl) ?_
        refine lv_iconst (v := nI 2) hx hb dX12_load_39 (by decide) ?_
        refine n_irem C (by omega) (by decide) (by decide) dX12_load_40 ?_
        refine lv_iconst (v := nI 1) hx hb dX12_load_41 (by decide) ?_
        refine n_cne C (by omega) (by omega) (tgt := 53) dX12_load_42 (by decide) (fun cq9 => ?_) (fun cq9 => ?_)
        · refine lv_iload_n hx hb dX12_load_53 rfl (lv_at hl 2 rfl) ?_
          refine lv_if_lt (tgt := 73) hx hb dX12_load_54 (by decide) (fun cq10 => ?_) (fun cq10 => ?_)
          · refine lv_aload_n hx hb dX12_load_73 rfl (lv_at hl 0 rfl) ?_
            refine lv_ldc2 hx hb C.1.2.2.2.1 (C.1.2.2.2.2 _ lk3) dX12_load_74 ?_
            refine h_calll hw (h_runV (n := 1) (As := [.long (lF 1)]) (rest := []) C hw (c_X12_finding hm (by omega)) gX12_load_X12_finding rfl rfl rfl (by decide +kernel) ⟨by decide, by decide⟩ bX12 hm.1 rfl hl.1 rfl (Nat.le_of_ble_eq_true rfl) dX12_load_77 ⟨by first | decide | omega, by first | decide | omega⟩) (fun r11 f12 H locs hp hw => ?_)
            obtain ⟨rfl, B13, eB13, hm⟩ := hp
            exact h_lret C hr hlk hw (op_fin (by subst eB13; rw [op_load]; simp only [nI_clamp (show i < 2 ^ 31 by omega), nI_clamp hm9]; rw [if_pos cq3, if_pos cq4, if_neg cq5, if_neg cq9, if_pos cq10]; try rfl) hm) dX12_load_80
          · obtain ⟨j9, hj9, rfl⟩ := nI_of cq10
            refine lv_iload_n hx hb dX12_load_57 rfl (lv_at hl 2 rfl) ?_
            refine n_i2l C (by omega) dX12_load_58 ?_
            refine lv_iload_n hx hb dX12_load_59 rfl (lv_at hl 3 rfl) ?_
            refine n_i2l C (by omega) dX12_load_60 ?_
            refine lv_ladd hx hb dX12_load_61 ?_
            refine lv_aload_n hx hb dX12_load_62 rfl (lv_at hl 0 rfl) ?_
            refine m_fld C hw hm lk1 6 (by decide) lk0 (v := .ref (q 6)) rfl dX12_load_63 ?_
            refine lv_iload_n hx hb dX12_load_66 rfl (lv_at hl 1 rfl) ?_
            refine m_iald C hw hm 6 rfl (v := nI n8) hA6 (show i < 2 from (by omega)) dX12_load_67 ?_
            refine n_i2l C (by omega) dX12_load_68 ?_
            refine W.lcmp hx hb dX12_load_69 ?_
            refine l_ifle C (tgt := 81) dX12_load_70 (by decide) (fun cq14 => ?_) (fun cq14 => ?_)
            · have hle : j9 + m9 ≤ n8 := Nat.not_lt.mp (fun h9 => cq14 (by rw [lN_add]; exact (pk_lLT (by omega) (by omega)).mpr h9))
              refine lv_iload_n hx hb dX12_load_81 rfl (lv_at hl 2 rfl) ?_
              refine lv_istore (lv' := [(5, _), (0, _), (1, _), (2, _), (3, _), (4, _)]) hx hb dX12_load_82 hl (by decide) rfl (fun ls hl => ?_)
              have lp84 : ∀ (n : Nat) (c8 : Nat) (H1 : Heap) (locs1 : List Loc) (ls1 : Array Slot), hW D (hA f sz) s.heap f H1 locs1 → mo cA q A B f → lv_has ls1 7 [(0, .ref (q 0)), (1, .int (nI i)), (2, .int (nI j9)), (3, .int (nI m9)), (4, .int w), (5, .int (nI c8))] → (c8 ≤ j9 + m9) → (j9 ≤ c8) → (∀ z, j9 + z < c8 → rg (nI 0) (nI 199) (A 5 (24 * i + (j9 + z)))) → j9 + m9 - c8 < n → W p l e ({ frames := 1, cells := 0, slots := 0, locals := 22 } : Room) s m ([.ref (q 0), .int (nI i), .int (nI j9), .int (nI m9), .int w]).toArray below meth c H1 locs1 0 0 (MQ below (va_Ql (fun r f1 => (op_load A B (nI i) (nI j9) (nI m9) w).1 = r ∧ mo cA q (op_load A B (nI i) (nI j9) (nI m9) w).2.1 (op_load A B (nI i) (nI j9) (nI m9) w).2.2 f1) (hE D f sz) (hA f sz)) ([.ref (q 0), .int (nI i), .int (nI j9), .int (nI m9), .int w]).toArray s 0 0 (hA f sz)) (F0 m 84 ls1 []) := by
                intro n
                induction n with
                | zero => intros; omega
                | succ n ih84 =>
                  intro c8 H locs ls hw hm hl hc8 hc7 hin hmu
                  refine lv_iload hx hb dX12_load_84 (lv_at hl 5 rfl) ?_
                  refine lv_iload_n hx hb dX12_load_86 rfl (lv_at hl 2 rfl) ?_
                  refine lv_iload_n hx hb dX12_load_87 rfl (lv_at hl 3 rfl) ?_
                  refine n_iadd C dX12_load_88 ?_
                  refine n_cge C (by omega) (by omega) (tgt := 128) dX12_load_89 (by decide) (fun cq15 => ?_) (fun cq15 => ?_)
                  · refine lv_iload_n hx hb dX12_load_128 rfl (lv_at hl 3 rfl) ?_
                    refine lv_iconst (v := nI 2) hx hb dX12_load_129 (by decide) ?_
                    refine n_idiv C (by omega) (by decide) (by decide) dX12_load_130 ?_
                    refine lv_iload hx hb dX12_load_131 (lv_at hl 4 rfl) ?_
                    refine lv_if_eq (tgt := 141) hx hb dX12_load_133 (by decide) (fun cq16 => ?_) (fun cq16 => ?_)
                    · refine lv_bipush (v := nI 10) hx hb dX12_load_141 (by decide) ?_
                      refine n_cle C (by omega) (by omega) (tgt := 154) dX12_load_143 (by decide) (fun cq17 => ?_) (fun cq17 => ?_)
                      · refine lv_iload hx hb dX12_load_154 (lv_at hl 4 rfl) ?_
                        refine lv_if_eq (tgt := 164) hx hb dX12_load_156 (by decide) (fun cq18 => ?_) (fun cq18 => ?_)
                        · refine lv_iconst (v := nI 0) hx hb dX12_load_164 (by decide) ?_
                          refine lv_istore (lv' := [(5, _), (0, _), (1, _), (2, _), (3, _), (4, _)]) hx hb dX12_load_165 hl (by decide) rfl (fun ls hl => ?_)
                          refine lv_iconst (v := nI 0) hx hb dX12_load_167 (by decide) ?_
                          refine lv_istore (lv' := [(6, _), (5, _), (0, _), (1, _), (2, _), (3, _), (4, _)]) hx hb dX12_load_168 hl (by decide) rfl (fun ls hl => ?_)
                          have lp170 : ∀ (n : Nat) (k9 : Nat) (Ak : MA) (f1 : HF) (H1 : Heap) (locs1 : List Loc) (ls1 : Array Slot), hW D (hA f sz) s.heap f1 H1 locs1 → mo cA q Ak B f1 → lv_has ls1 7 [(0, .ref (q 0)), (1, .int (nI i)), (2, .int (nI j9)), (3, .int (nI m9)), (4, .int w), (5, .int (nI 0)), (6, .int (nI k9))] → (Ak = ldA A 0 (24 * i + j9) k9) → (k9 ≤ m9 / 2) → (m9 / 2 ≤ 10) → m9 / 2 - k9 < n → W p l e ({ frames := 1, cells := 0, slots := 0, locals := 22 } : Room) s m ([.ref (q 0), .int (nI i), .int (nI j9), .int (nI m9), .int w]).toArray below meth c H1 locs1 0 0 (MQ below (va_Ql (fun r f1 => (op_load A B (nI i) (nI j9) (nI m9) w).1 = r ∧ mo cA q (op_load A B (nI i) (nI j9) (nI m9) w).2.1 (op_load A B (nI i) (nI j9) (nI m9) w).2.2 f1) (hE D f sz) (hA f sz)) ([.ref (q 0), .int (nI i), .int (nI j9), .int (nI m9), .int w]).toArray s 0 0 (hA f sz)) (F0 m 170 ls1 []) := by
                            intro n
                            induction n with
                            | zero => intros; omega
                            | succ n ih170 =>
                              intro k9 Ak f1 H locs ls hw hm hl hAk hk9 hm12 hmu
                              refine lv_iload hx hb dX12_load_170 (lv_at hl 6 rfl) ?_
                              refine lv_iload_n hx hb dX12_load_172 rfl (lv_at hl 3 rfl) ?_
                              refine lv_iconst (v := nI 2) hx hb dX12_load_173 (by decide) ?_
                              refine n_idiv C (by omega) (by decide) (by decide) dX12_load_174 ?_
                              refine n_cge C (by omega) (by omega) (tgt := 238) dX12_load_175 (by decide) (fun cq19 => ?_) (fun cq19 => ?_)
                              · obtain rfl : k9 = m9 / 2 := by omega
                                refine lv_iload hx hb dX12_load_238 (lv_at hl 4 rfl) ?_
                                refine lv_if_eq (tgt := 253) hx hb dX12_load_240 (by decide) (fun cq20 => ?_) (fun cq20 => ?_)
                                · refine lv_aload_n hx hb dX12_load_253 rfl (lv_at hl 0 rfl) ?_
                                  refine lv_iload_n hx hb dX12_load_254 rfl (lv_at hl 3 rfl) ?_
                                  refine lv_iconst (v := nI 2) hx hb dX12_load_255 (by decide) ?_
                                  refine n_idiv C (by omega) (by decide) (by decide) dX12_load_256 ?_
                                  refine m_puti C hw hm lk1 0 rfl (by decide) rfl rfl lk4 dX12_load_257 (fun A21 f22 H locs eA21 hw hm => ?_)
                                  have hn23 : A21 0 0 = nI (m9 / 2) := by rw [eA21, va_up_self]
                                  refine lv_iload_n hx hb dX12_load_260 rfl (lv_at hl 3 rfl) ?_
                                  refine lv_iconst (v := nI 2) hx hb dX12_load_261 (by decide) ?_
                                  refine n_idiv C (by omega) (by decide) (by decide) dX12_load_262 ?_
                                  refine n_i2l C (by omega) dX12_load_263 ?_
                                  exact h_lret C hr hlk hw (op_fin (by subst hAk; subst eA21; rw [op_load]; simp only [nI_clamp (show i < 2 ^ 31 by omega), nI_clamp hm9, nI_clamp hj9]; rw [if_pos cq3, if_pos cq4, if_neg cq5, if_neg cq9, if_neg cq10, hA6, nI_clamp (show n8 < 2 ^ 31 by omega), if_pos hle, if_pos (show ∀ z, z < m9 → rg (nI 0) (nI 199) (A 5 (24 * i + (j9 + z))) from fun z hz => hin z (by omega)), ld2, if_pos cq16, if_pos cq17]; try rfl) hm) dX12_load_264
                                · exact absurd cq16 cq20
                              · refine lv_aload_n hx hb dX12_load_178 rfl (lv_at hl 0 rfl) ?_
                                refine m_fld C hw hm lk1 2 (by decide) lk5 (v := .ref (q 2)) rfl dX12_load_179 ?_
                                refine lv_iload hx hb dX12_load_182 (lv_at hl 5 rfl) ?_
                                refine lv_iload hx hb dX12_load_184 (lv_at hl 6 rfl) ?_
                                refine n_iadd C dX12_load_186 ?_
                                refine lv_aload_n hx hb dX12_load_187 rfl (lv_at hl 0 rfl) ?_
                                refine m_fld C hw hm lk1 5 (by decide) lk6 (v := .ref (q 5)) rfl dX12_load_188 ?_
                                refine lv_bipush (v := nI 24) hx hb dX12_load_191 (by decide) ?_
                                refine lv_iload_n hx hb dX12_load_193 rfl (lv_at hl 1 rfl) ?_
                                refine n_imul C dX12_load_194 ?_
                                refine lv_iload_n hx hb dX12_load_195 rfl (lv_at hl 2 rfl) ?_
                                refine n_iadd C dX12_load_196 ?_
                                refine lv_iconst (v := nI 2) hx hb dX12_load_197 (by decide) ?_
                                refine lv_iload hx hb dX12_load_198 (lv_at hl 6 rfl) ?_
                                refine n_imul C dX12_load_200 ?_
                                refine n_iadd C dX12_load_201 ?_
                                refine m_iald C hw hm 5 rfl (v := Ak 5 (24 * i + j9 + 2 * k9)) rfl (show 24 * i + j9 + (2 * k9) < 48 from (by omega)) dX12_load_202 ?_
                                refine m_iast C hw hm 2 rfl (show 0 + k9 < 22 from (by omega)) dX12_load_203 (fun A24 f25 H locs eA24 hw hm => ?_)
                                refine lv_aload_n hx hb dX12_load_204 rfl (lv_at hl 0 rfl) ?_
                                refine m_fld C hw hm lk1 3 (by decide) lk7 (v := .ref (q 3)) rfl dX12_load_205 ?_
                                refine lv_iload hx hb dX12_load_208 (lv_at hl 5 rfl) ?_
                                refine lv_iload hx hb dX12_load_210 (lv_at hl 6 rfl) ?_
                                refine n_iadd C dX12_load_212 ?_
                                refine lv_aload_n hx hb dX12_load_213 rfl (lv_at hl 0 rfl) ?_
                                refine m_fld C hw hm lk1 5 (by decide) lk6 (v := .ref (q 5)) rfl dX12_load_214 ?_
                                refine lv_bipush (v := nI 24) hx hb dX12_load_217 (by decide) ?_
                                refine lv_iload_n hx hb dX12_load_219 rfl (lv_at hl 1 rfl) ?_
                                refine n_imul C dX12_load_220 ?_
                                refine lv_iload_n hx hb dX12_load_221 rfl (lv_at hl 2 rfl) ?_
                                refine n_iadd C dX12_load_222 ?_
                                refine lv_iconst (v := nI 2) hx hb dX12_load_223 (by decide) ?_
                                refine lv_iload hx hb dX12_load_224 (lv_at hl 6 rfl) ?_
                                refine n_imul C dX12_load_226 ?_
                                refine n_iadd C dX12_load_227 ?_
                                refine lv_iconst (v := nI 1) hx hb dX12_load_228 (by decide) ?_
                                refine n_iadd C dX12_load_229 ?_
                                refine m_iald C hw hm 5 rfl (v := A24 5 (24 * i + j9 + 2 * k9 + 1)) rfl (show 24 * i + j9 + (2 * k9) + 1 < 48 from (by omega)) dX12_load_230 ?_
                                refine m_iast C hw hm 3 rfl (show 0 + k9 < 22 from (by omega)) dX12_load_231 (fun A26 f27 H locs eA26 hw hm => ?_)
                                refine n_iinc C (lv' := [(6, _), (0, _), (1, _), (2, _), (3, _), (4, _), (5, _)]) dX12_load_232 hl (k := 6) rfl (by decide) rfl (fun ls hl => ?_)
                                refine lv_goto (tgt := 170) hx hb dX12_load_235 (by decide) ?_
                                exact ih170 (k9 + 1) _ _ _ _ _ hw hm (lv_sub hl [1, 2, 3, 4, 5, 6, 0] rfl) (ld_s hAk eA24 eA26) (by omega) hm12 (by omega)
                          exact lp170 _ 0 _ _ _ _ _ hw hm (lv_sub hl [2, 3, 4, 5, 6, 1, 0] rfl) (ld_0 _ _ _) (by omega) (by omega) (Nat.lt_succ_self _)
                        · exact absurd cq16 cq18
                      · refine lv_aload_n hx hb dX12_load_146 rfl (lv_at hl 0 rfl) ?_
                        refine lv_ldc2 hx hb C.1.2.2.2.1 (C.1.2.2.2.2 _ lk8) dX12_load_147 ?_
                        refine h_calll hw (h_runV (n := 1) (As := [.long (lF 4)]) (rest := []) C hw (c_X12_finding hm (by omega)) gX12_load_X12_finding rfl rfl rfl (by decide +kernel) ⟨by decide, by decide⟩ bX12 hm.1 rfl hl.1 rfl (Nat.le_of_ble_eq_true rfl) dX12_load_150 ⟨by first | decide | omega, by first | decide | omega⟩) (fun r28 f29 H locs hp hw => ?_)
                        obtain ⟨rfl, B30, eB30, hm⟩ := hp
                        exact h_lret C hr hlk hw (op_fin (by subst eB30; rw [op_load]; simp only [nI_clamp (show i < 2 ^ 31 by omega), nI_clamp hm9, nI_clamp hj9]; rw [if_pos cq3, if_pos cq4, if_neg cq5, if_neg cq9, if_neg cq10, hA6, nI_clamp (show n8 < 2 ^ 31 by omega), if_pos hle, if_pos (show ∀ z, z < m9 → rg (nI 0) (nI 199) (A 5 (24 * i + (j9 + z))) from fun z hz => hin z (by omega)), ld2, if_pos cq16, if_neg (Nat.not_le.mpr cq17)]; try rfl) hm) dX12_load_153
                    · refine lv_bipush (v := nI 12) hx hb dX12_load_136 (by decide) ?_
                      refine lv_goto (tgt := 143) hx hb dX12_load_138 (by decide) ?_
                      refine n_cle C (by omega) (by omega) (tgt := 154) dX12_load_143 (by decide) (fun cq31 => ?_) (fun cq31 => ?_)
                      · refine lv_iload hx hb dX12_load_154 (lv_at hl 4 rfl) ?_
                        refine lv_if_eq (tgt := 164) hx hb dX12_load_156 (by decide) (fun cq32 => ?_) (fun cq32 => ?_)
                        · exact absurd cq32 cq16
                        · refine lv_bipush (v := nI 10) hx hb dX12_load_159 (by decide) ?_
                          refine lv_goto (tgt := 165) hx hb dX12_load_161 (by decide) ?_
                          refine lv_istore (lv' := [(5, _), (0, _), (1, _), (2, _), (3, _), (4, _)]) hx hb dX12_load_165 hl (by decide) rfl (fun ls hl => ?_)
                          refine lv_iconst (v := nI 0) hx hb dX12_load_167 (by decide) ?_
                          refine lv_istore (lv' := [(6, _), (5, _), (0, _), (1, _), (2, _), (3, _), (4, _)]) hx hb dX12_load_168 hl (by decide) rfl (fun ls hl => ?_)
                          have lp170 : ∀ (n : Nat) (k9 : Nat) (Ak : MA) (f1 : HF) (H1 : Heap) (locs1 : List Loc) (ls1 : Array Slot), hW D (hA f sz) s.heap f1 H1 locs1 → mo cA q Ak B f1 → lv_has ls1 7 [(0, .ref (q 0)), (1, .int (nI i)), (2, .int (nI j9)), (3, .int (nI m9)), (4, .int w), (5, .int (nI 10)), (6, .int (nI k9))] → (Ak = ldA A 10 (24 * i + j9) k9) → (k9 ≤ m9 / 2) → (m9 / 2 ≤ 12) → m9 / 2 - k9 < n → W p l e ({ frames := 1, cells := 0, slots := 0, locals := 22 } : Room) s m ([.ref (q 0), .int (nI i), .int (nI j9), .int (nI m9), .int w]).toArray below meth c H1 locs1 0 0 (MQ below (va_Ql (fun r f1 => (op_load A B (nI i) (nI j9) (nI m9) w).1 = r ∧ mo cA q (op_load A B (nI i) (nI j9) (nI m9) w).2.1 (op_load A B (nI i) (nI j9) (nI m9) w).2.2 f1) (hE D f sz) (hA f sz)) ([.ref (q 0), .int (nI i), .int (nI j9), .int (nI m9), .int w]).toArray s 0 0 (hA f sz)) (F0 m 170 ls1 []) := by
                            intro n
                            induction n with
                            | zero => intros; omega
                            | succ n ih170 =>
                              intro k9 Ak f1 H locs ls hw hm hl hAk hk9 hm12 hmu
                              refine lv_iload hx hb dX12_load_170 (lv_at hl 6 rfl) ?_
                              refine lv_iload_n hx hb dX12_load_172 rfl (lv_at hl 3 rfl) ?_
                              refine lv_iconst (v := nI 2) hx hb dX12_load_173 (by decide) ?_
                              refine n_idiv C (by omega) (by decide) (by decide) dX12_load_174 ?_
                              refine n_cge C (by omega) (by omega) (tgt := 238) dX12_load_175 (by decide) (fun cq33 => ?_) (fun cq33 => ?_)
                              · obtain rfl : k9 = m9 / 2 := by omega
                                refine lv_iload hx hb dX12_load_238 (lv_at hl 4 rfl) ?_
                                refine lv_if_eq (tgt := 253) hx hb dX12_load_240 (by decide) (fun cq34 => ?_) (fun cq34 => ?_)
                                · exact absurd cq34 cq16
                                · refine lv_aload_n hx hb dX12_load_243 rfl (lv_at hl 0 rfl) ?_
                                  refine lv_iload_n hx hb dX12_load_244 rfl (lv_at hl 3 rfl) ?_
                                  refine lv_iconst (v := nI 2) hx hb dX12_load_245 (by decide) ?_
                                  refine n_idiv C (by omega) (by decide) (by decide) dX12_load_246 ?_
                                  refine m_puti C hw hm lk1 1 rfl (by decide) rfl rfl lk9 dX12_load_247 (fun A35 f36 H locs eA35 hw hm => ?_)
                                  have hn37 : A35 1 0 = nI (m9 / 2) := by rw [eA35, va_up_self]
                                  refine lv_goto (tgt := 260) hx hb dX12_load_250 (by decide) ?_
                                  refine lv_iload_n hx hb dX12_load_260 rfl (lv_at hl 3 rfl) ?_
                                  refine lv_iconst (v := nI 2) hx hb dX12_load_261 (by decide) ?_
                                  refine n_idiv C (by omega) (by decide) (by decide) dX12_load_262 ?_
                                  refine n_i2l C (by omega) dX12_load_263 ?_
                                  exact h_lret C hr hlk hw (op_fin (by subst hAk; subst eA35; rw [op_load]; simp only [nI_clamp (show i < 2 ^ 31 by omega), nI_clamp hm9, nI_clamp hj9]; rw [if_pos cq3, if_pos cq4, if_neg cq5, if_neg cq9, if_neg cq10, hA6, nI_clamp (show n8 < 2 ^ 31 by omega), if_pos hle, if_pos (show ∀ z, z < m9 → rg (nI 0) (nI 199) (A 5 (24 * i + (j9 + z))) from fun z hz => hin z (by omega)), ld2, if_neg cq16, if_pos cq31]; try rfl) hm) dX12_load_264
                              · refine lv_aload_n hx hb dX12_load_178 rfl (lv_at hl 0 rfl) ?_
                                refine m_fld C hw hm lk1 2 (by decide) lk5 (v := .ref (q 2)) rfl dX12_load_179 ?_
                                refine lv_iload hx hb dX12_load_182 (lv_at hl 5 rfl) ?_
                                refine lv_iload hx hb dX12_load_184 (lv_at hl 6 rfl) ?_
                                refine n_iadd C dX12_load_186 ?_
                                refine lv_aload_n hx hb dX12_load_187 rfl (lv_at hl 0 rfl) ?_
                                refine m_fld C hw hm lk1 5 (by decide) lk6 (v := .ref (q 5)) rfl dX12_load_188 ?_
                                refine lv_bipush (v := nI 24) hx hb dX12_load_191 (by decide) ?_
                                refine lv_iload_n hx hb dX12_load_193 rfl (lv_at hl 1 rfl) ?_
                                refine n_imul C dX12_load_194 ?_
                                refine lv_iload_n hx hb dX12_load_195 rfl (lv_at hl 2 rfl) ?_
                                refine n_iadd C dX12_load_196 ?_
                                refine lv_iconst (v := nI 2) hx hb dX12_load_197 (by decide) ?_
                                refine lv_iload hx hb dX12_load_198 (lv_at hl 6 rfl) ?_
                                refine n_imul C dX12_load_200 ?_
                                refine n_iadd C dX12_load_201 ?_
                                refine m_iald C hw hm 5 rfl (v := Ak 5 (24 * i + j9 + 2 * k9)) rfl (show 24 * i + j9 + (2 * k9) < 48 from (by omega)) dX12_load_202 ?_
                                refine m_iast C hw hm 2 rfl (show 10 + k9 < 22 from (by omega)) dX12_load_203 (fun A38 f39 H locs eA38 hw hm => ?_)
                                refine lv_aload_n hx hb dX12_load_204 rfl (lv_at hl 0 rfl) ?_
                                refine m_fld C hw hm lk1 3 (by decide) lk7 (v := .ref (q 3)) rfl dX12_load_205 ?_
                                refine lv_iload hx hb dX12_load_208 (lv_at hl 5 rfl) ?_
                                refine lv_iload hx hb dX12_load_210 (lv_at hl 6 rfl) ?_
                                refine n_iadd C dX12_load_212 ?_
                                refine lv_aload_n hx hb dX12_load_213 rfl (lv_at hl 0 rfl) ?_
                                refine m_fld C hw hm lk1 5 (by decide) lk6 (v := .ref (q 5)) rfl dX12_load_214 ?_
                                refine lv_bipush (v := nI 24) hx hb dX12_load_217 (by decide) ?_
                                refine lv_iload_n hx hb dX12_load_219 rfl (lv_at hl 1 rfl) ?_
                                refine n_imul C dX12_load_220 ?_
                                refine lv_iload_n hx hb dX12_load_221 rfl (lv_at hl 2 rfl) ?_
                                refine n_iadd C dX12_load_222 ?_
                                refine lv_iconst (v := nI 2) hx hb dX12_load_223 (by decide) ?_
                                refine lv_iload hx hb dX12_load_224 (lv_at hl 6 rfl) ?_
                                refine n_imul C dX12_load_226 ?_
                                refine n_iadd C dX12_load_227 ?_
                                refine lv_iconst (v := nI 1) hx hb dX12_load_228 (by decide) ?_
                                refine n_iadd C dX12_load_229 ?_
                                refine m_iald C hw hm 5 rfl (v := A38 5 (24 * i + j9 + 2 * k9 + 1)) rfl (show 24 * i + j9 + (2 * k9) + 1 < 48 from (by omega)) dX12_load_230 ?_
                                refine m_iast C hw hm 3 rfl (show 10 + k9 < 22 from (by omega)) dX12_load_231 (fun A40 f41 H locs eA40 hw hm => ?_)
                                refine n_iinc C (lv' := [(6, _), (0, _), (1, _), (2, _), (3, _), (4, _), (5, _)]) dX12_load_232 hl (k := 6) rfl (by decide) rfl (fun ls hl => ?_)
                                refine lv_goto (tgt := 170) hx hb dX12_load_235 (by decide) ?_
                                exact ih170 (k9 + 1) _ _ _ _ _ hw hm (lv_sub hl [1, 2, 3, 4, 5, 6, 0] rfl) (ld_s hAk eA38 eA40) (by omega) hm12 (by omega)
                          exact lp170 _ 0 _ _ _ _ _ hw hm (lv_sub hl [2, 3, 4, 5, 6, 1, 0] rfl) (ld_0 _ _ _) (by omega) (by omega) (Nat.lt_succ_self _)
                      · refine lv_aload_n hx hb dX12_load_146 rfl (lv_at hl 0 rfl) ?_
                        refine lv_ldc2 hx hb C.1.2.2.2.1 (C.1.2.2.2.2 _ lk8) dX12_load_147 ?_
                        refine h_calll hw (h_runV (n := 1) (As := [.long (lF 4)]) (rest := []) C hw (c_X12_finding hm (by omega)) gX12_load_X12_finding rfl rfl rfl (by decide +kernel) ⟨by decide, by decide⟩ bX12 hm.1 rfl hl.1 rfl (Nat.le_of_ble_eq_true rfl) dX12_load_150 ⟨by first | decide | omega, by first | decide | omega⟩) (fun r42 f43 H locs hp hw => ?_)
                        obtain ⟨rfl, B44, eB44, hm⟩ := hp
                        exact h_lret C hr hlk hw (op_fin (by subst eB44; rw [op_load]; simp only [nI_clamp (show i < 2 ^ 31 by omega), nI_clamp hm9, nI_clamp hj9]; rw [if_pos cq3, if_pos cq4, if_neg cq5, if_neg cq9, if_neg cq10, hA6, nI_clamp (show n8 < 2 ^ 31 by omega), if_pos hle, if_pos (show ∀ z, z < m9 → rg (nI 0) (nI 199) (A 5 (24 * i + (j9 + z))) from fun z hz => hin z (by omega)), ld2, if_neg cq16, if_neg (Nat.not_le.mpr cq31)]; try rfl) hm) dX12_load_153
                  · refine lv_aload_n hx hb dX12_load_92 rfl (lv_at hl 0 rfl) ?_
                    refine m_fld C hw hm lk1 5 (by decide) lk6 (v := .ref (q 5)) rfl dX12_load_93 ?_
                    refine lv_bipush (v := nI 24) hx hb dX12_load_96 (by decide) ?_
                    refine lv_iload_n hx hb dX12_load_98 rfl (lv_at hl 1 rfl) ?_
                    refine n_imul C dX12_load_99 ?_
                    refine lv_iload hx hb dX12_load_100 (lv_at hl 5 rfl) ?_
                    refine n_iadd C dX12_load_102 ?_
                    refine m_iald C hw hm 5 rfl (v := A 5 (24 * i + c8)) rfl (show 24 * i + c8 < 48 from (by omega)) dX12_load_103 ?_
                    refine lv_iconst (v := nI 0) hx hb dX12_load_104 (by decide) ?_
                    refine lv_sipush (v := nI 199) hx hb dX12_load_105 (by decide) ?_
                    refine h_calli hw (h_runS (n := 3) (As := [.int (A 5 (24 * i + c8)), .int (nI 0), .int (nI 199)]) (rest := []) C hw c_X12_in gX12_load_X12_in rfl rfl rfl (by decide +kernel) ⟨by decide, by decide⟩ rfl hl.1 rfl (Nat.le_of_ble_eq_true rfl) dX12_load_108 ⟨by first | decide | omega, by first | decide | omega⟩) (fun r45 f46 H locs hp hw => ?_)
                    obtain ⟨rfl, rfl⟩ := hp
                    refine n_ifneB C (tgt := 122) dX12_load_111 (by decide) (fun cq47 => ?_) (fun cq47 => ?_)
                    · refine n_iinc C (lv' := [(5, _), (0, _), (1, _), (2, _), (3, _), (4, _)]) dX12_load_122 hl (k := 5) rfl (by decide) rfl (fun ls hl => ?_)
                      refine lv_goto (tgt := 84) hx hb dX12_load_125 (by decide) ?_
                      exact ih84 (c8 + 1) _ _ _ hw hm (lv_sub hl [1, 2, 3, 4, 5, 0] rfl) (by omega) (by omega) (fun z hz => (Nat.lt_succ_iff_lt_or_eq.mp hz).elim (hin z) (fun e => by rw [e]; exact cq47)) (by omega)
                    · refine lv_aload_n hx hb dX12_load_114 rfl (lv_at hl 0 rfl) ?_
                      refine lv_ldc2 hx hb C.1.2.2.2.1 (C.1.2.2.2.2 _ lk3) dX12_load_115 ?_
                      refine h_calll hw (h_runV (n := 1) (As := [.long (lF 1)]) (rest := []) C hw (c_X12_finding hm (by omega)) gX12_load_X12_finding rfl rfl rfl (by decide +kernel) ⟨by decide, by decide⟩ bX12 hm.1 rfl hl.1 rfl (Nat.le_of_ble_eq_true rfl) dX12_load_118 ⟨by first | decide | omega, by first | decide | omega⟩) (fun r48 f49 H locs hp hw => ?_)
                      obtain ⟨rfl, B50, eB50, hm⟩ := hp
                      exact h_lret C hr hlk hw (op_fin (by subst eB50; rw [op_load]; simp only [nI_clamp (show i < 2 ^ 31 by omega), nI_clamp hm9, nI_clamp hj9]; rw [if_pos cq3, if_pos cq4, if_neg cq5, if_neg cq9, if_neg cq10, hA6, nI_clamp (show n8 < 2 ^ 31 by omega), if_pos hle, if_neg (show ¬ ∀ z, z < m9 → rg (nI 0) (nI 199) (A 5 (24 * i + (j9 + z))) from fun h9 => cq47 (by have h8 := h9 (c8 - j9) (by omega); rw [show j9 + (c8 - j9) = c8 by omega] at h8; exact h8))]; try rfl) hm) dX12_load_121
              exact lp84 _ j9 _ _ _ hw hm (lv_sub hl [1, 2, 3, 4, 5, 0] rfl) (by omega) (by omega) (fun z hz => absurd hz (by omega)) (Nat.lt_succ_self _)
            · have hnl : ¬ j9 + m9 ≤ n8 := fun h9 => absurd ((pk_lLT (by omega) (by omega)).mp (by rw [← lN_add]; exact cq14)) (Nat.not_lt.mpr h9)
              refine lv_aload_n hx hb dX12_load_73 rfl (lv_at hl 0 rfl) ?_
              refine lv_ldc2 hx hb C.1.2.2.2.1 (C.1.2.2.2.2 _ lk3) dX12_load_74 ?_
              refine h_calll hw (h_runV (n := 1) (As := [.long (lF 1)]) (rest := []) C hw (c_X12_finding hm (by omega)) gX12_load_X12_finding rfl rfl rfl (by decide +kernel) ⟨by decide, by decide⟩ bX12 hm.1 rfl hl.1 rfl (Nat.le_of_ble_eq_true rfl) dX12_load_77 ⟨by first | decide | omega, by first | decide | omega⟩) (fun r51 f52 H locs hp hw => ?_)
              obtain ⟨rfl, B53, eB53, hm⟩ := hp
              exact h_lret C hr hlk hw (op_fin (by subst eB53; rw [op_load]; simp only [nI_clamp (show i < 2 ^ 31 by omega), nI_clamp hm9, nI_clamp hj9]; rw [if_pos cq3, if_pos cq4, if_neg cq5, if_neg cq9, if_neg cq10, hA6, nI_clamp (show n8 < 2 ^ 31 by omega), if_neg hnl]; try rfl) hm) dX12_load_80
        · refine lv_aload_n hx hb dX12_load_45 rfl (lv_at hl 0 rfl) ?_
          refine lv_ldc2 hx hb C.1.2.2.2.1 (C.1.2.2.2.2 _ lk2) dX12_load_46 ?_
          refine h_calll hw (h_runV (n := 1) (As := [.long (lF 5)]) (rest := []) C hw (c_X12_finding hm (by omega)) gX12_load_X12_finding rfl rfl rfl (by decide +kernel) ⟨by decide, by decide⟩ bX12 hm.1 rfl hl.1 rfl (Nat.le_of_ble_eq_true rfl) dX12_load_49 ⟨by first | decide | omega, by first | decide | omega⟩) (fun r54 f55 H locs hp hw => ?_)
          obtain ⟨rfl, B56, eB56, hm⟩ := hp
          exact h_lret C hr hlk hw (op_fin (by subst eB56; rw [op_load]; simp only [nI_clamp (show i < 2 ^ 31 by omega), nI_clamp hm9]; rw [if_pos cq3, if_pos cq4, if_neg cq5, if_pos cq9]; try rfl) hm) dX12_load_52
    · refine lv_aload_n hx hb dX12_load_26 rfl (lv_at hl 0 rfl) ?_
      refine lv_ldc2 hx hb C.1.2.2.2.1 (C.1.2.2.2.2 _ lk10) dX12_load_27 ?_
      refine h_calll hw (h_runV (n := 1) (As := [.long (lF 2)]) (rest := []) C hw (c_X12_finding hm (by omega)) gX12_load_X12_finding rfl rfl rfl (by decide +kernel) ⟨by decide, by decide⟩ bX12 hm.1 rfl hl.1 rfl (Nat.le_of_ble_eq_true rfl) dX12_load_30 ⟨by first | decide | omega, by first | decide | omega⟩) (fun r57 f58 H locs hp hw => ?_)
      obtain ⟨rfl, B59, eB59, hm⟩ := hp
      exact h_lret C hr hlk hw (op_fin (by subst eB59; rw [op_load]; simp only [nI_clamp (show i < 2 ^ 31 by omega)]; rw [if_pos cq3, if_neg cq4]; try rfl) hm) dX12_load_33
  · refine lv_aload_n hx hb dX12_load_9 rfl (lv_at hl 0 rfl) ?_
    refine lv_ldc2 hx hb C.1.2.2.2.1 (C.1.2.2.2.2 _ lk3) dX12_load_10 ?_
    refine h_calll hw (h_runV (n := 1) (As := [.long (lF 1)]) (rest := []) C hw (c_X12_finding hm (by omega)) gX12_load_X12_finding rfl rfl rfl (by decide +kernel) ⟨by decide, by decide⟩ bX12 hm.1 rfl hl.1 rfl (Nat.le_of_ble_eq_true rfl) dX12_load_13 ⟨by first | decide | omega, by first | decide | omega⟩) (fun r60 f61 H locs hp hw => ?_)
    obtain ⟨rfl, B62, eB62, hm⟩ := hp
    exact h_lret C hr hlk hw (op_fin (by subst eB62; rw [op_load]; rw [if_neg cq3]; try rfl) hm) dX12_load_16
