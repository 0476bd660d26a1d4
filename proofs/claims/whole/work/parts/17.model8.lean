/-! ===== the reference, eighth methods (laid by program) ===== -/
def yA (e1 : Int32) : Nat := if e1 = 0 then 0 else 1
def muA (un he : Int64) (k : Nat) : Int64 := if (if he - 10 * lN k * un < 0 then 0 else he - 10 * lN k * un) < 10 * un then (if he - 10 * lN k * un < 0 then 0 else he - 10 * lN k * un) else 10 * un
def dsK (A : MA) (un he : Int64) (y : Nat) : Nat → Int64
  | 0 => 0
  | k + 1 => dsK A un he y k + muA un he k * (A 12 (2 * k + y)).toInt64
theorem dsK_s (A : MA) (un he : Int64) (y k : Nat) : dsK A un he y (k + 1) = dsK A un he y k + muA un he k * (A 12 (2 * k + y)).toInt64 := rfl
def dr3 (A : MA) (B : MB) (un he : Int64) (y : Nat) (z : Int32) : OR := if he < 0 then (lF 5, A, fnd B 5) else if 100 * un < he then (lF 5, A, fnd B 5) else (prL (dsK A un he y 10) un z, A, B)
def op_drift (A : MA) (B : MB) (t k j e1 z : Int32) : OR := if twA A t k j then (if A 9 (atA t k) = nI 2 then (lF 3, A, fnd B 3) else (if mtA A (atA t k) (atA t j) 1 then (if lnA A (atA t k) (atA t j) 1 < 0 then dr3 A B (-lnA A (atA t k) (atA t j) 1) (-ptA A (atA t k) (atA t j) 1 2) (yA e1) z else dr3 A B (lnA A (atA t k) (atA t j) 1) (ptA A (atA t k) (atA t j) 1 2) (yA e1) z) else (lF 2, A, fnd B 2))) else (lF 1, A, fnd B 1)
theorem l_lt0 (a : Int64) : a < 0 ↔ a.toInt < 0 := Int64.lt_iff_toInt_lt
theorem lA_neg {a : Int64} {k : Nat} (h : lA a ≤ k) (hk : k < 2 ^ 63) : lA (-a) ≤ k ∧ (-a).toInt = -a.toInt := by
  unfold lA at *
  have h2 : (-a).toInt = -a.toInt := by rw [Int64.toInt_neg, fb_bmodL (by omega) (by omega)]
  exact ⟨by rw [h2]; omega, h2⟩
theorem mu_bd {un he : Int64} {k : Nat} (hu : lA un ≤ 4374) (h0 : ¬ un < 0) : lA (muA un he k) ≤ 43740 ∧ 0 ≤ (muA un he k).toInt := by
  have h10 := bd_mul (u := 10) (a := 10) (show lA 10 ≤ 10 from Nat.le_refl 10) hu (by decide)
  have e10 : (10 : Int64).toInt = 10 := rfl
  have e0 : (0 : Int64).toInt = 0 := rfl
  rw [l_lt0] at h0
  have hT : (10 * un).toInt = 10 * un.toInt := h10.1
  have hb : (10 * un).toInt ≤ 43740 := by
    have := h10.2
    unfold lA at this
    omega
  unfold muA
  generalize he - 10 * lN k * un = w
  by_cases h1 : w < 0
  · rw [if_pos h1]
    by_cases h2 : (0 : Int64) < 10 * un
    · rw [if_pos h2]; exact ⟨by decide, by decide⟩
    · rw [if_neg h2]
      refine ⟨h10.2, ?_⟩
      rw [hT]; omega
  · rw [if_neg h1]
    by_cases h2 : w < 10 * un
    · rw [if_pos h2]
      rw [Int64.lt_iff_toInt_lt] at h2
      rw [l_lt0] at h1
      refine ⟨?_, by omega⟩
      unfold lA
      omega
    · rw [if_neg h2]
      refine ⟨h10.2, ?_⟩
      rw [hT]; omega
theorem ds_bd {A : MA} (hdr : ∀ j, j < 20 → ib 9 (A 12 j)) {un he : Int64} {y : Nat} (hy : y ≤ 1) (hu : lA un ≤ 4374) (h0 : ¬ un < 0) : ∀ k, k ≤ 10 → lA (dsK A un he y k) ≤ k * 393660
  | 0, _ => by show lA 0 ≤ 0 * 393660; decide
  | k + 1, hk => by
    have ih := ds_bd hdr (he := he) hy hu h0 k (by omega)
    have h1 := bd_mul (mu_bd (he := he) (k := k) hu h0).1 (ib_l (hdr (2 * k + y) (by omega))) (by decide)
    have h2 := bd_add ih h1.2 (by omega)
    have h3 : k * 393660 + 43740 * 9 = (k + 1) * 393660 := by omega
    rw [← h3]
    exact h2.2
theorem yA_le (e1 : Int32) : yA e1 ≤ 1 := by unfold yA; exact if h : e1 = 0 then (by rw [if_pos h]; omega) else (by rw [if_neg h]; omega)
theorem l_ge_neg {a : Int64} (h : a < 0) (hb : lA a ≤ 4374) : ¬ -a < 0 := by
  rw [l_lt0] at h ⊢
  rw [(lA_neg hb (by decide)).2]
  omega
theorem l_ne_neg {a : Int64} (h : ¬ a = 0) : ¬ -a = 0 := l_neg0 h
set_option maxHeartbeats 4000000 in
set_option maxRecDepth 100000 in
theorem c_X12_drift {l : Launch} {D : va_G} {cA : Nat → ClassId} {f : HF} {sz : Nat} {q : Nat → Nat} {A : MA} {B : MB} {t k k2 e1 z : Int32} (hm : mo cA q A B f) (hsg : ∀ j, j < 6 → ∃ c, c ≤ 4 ∧ A 8 j = nI c) (hwy : ∀ j, j < 216 → ib 9 (A 11 j)) (hst : ∀ j, j < 12 → ib 99 (A 7 j)) (hso : ∀ j, j < 24 → ∃ c, c < 4 ∧ A 10 j = nI c) (hdr : ∀ j, j < 20 → ib 9 (A 12 j)) : Met l yX12_drift wsX12_drift ({ frames := 4, cells := 0, slots := 0, locals := 94 } : Room) (va_Pc [.ref (q 0), .int t, .int k, .int k2, .int e1, .int z] (hB D cA f sz)) (va_Ql (fun r f1 => (op_drift A B t k k2 e1 z).1 = r ∧ ∃ A1 B1, mo cA q A1 B1 f1 ∧ veq (op_drift A B t k k2 e1 z).2.1 (op_drift A B t k k2 e1 z).2.2 A1 B1) (hE D f sz) (hA f sz)) 0 0 (hA f sz) := by
  refine h_of (cc := cX12_drift) (maxL := 17) (ret := (some .long)) (by decide +kernel) rfl (Nat.le_of_ble_eq_true rfl) ?_
  intro p e s m below meth c ls C hr hlk hnm hw hl
  have hx := C.1.1
  have hb := C.1.2.1
  have hl : lv_has ls 17 [(0, .ref (q 0)), (1, .int t), (2, .int k), (3, .int k2), (4, .int e1), (5, .int z)] := hl
  have lk0 : Cond.fieldLink RX12 32 "FallingLightModel" "kindOf" "[I" ∈ wsX12_drift := by decide +kernel
  have lk1 : ∀ w ∈ u_ws RX12 TX12 27, w ∈ wsX12_drift := by decide +kernel
  have lk2 : Cond.fieldLink RX12 188 "FallingLightModel" "line" "J" ∈ wsX12_drift := by decide +kernel
  have lk3 : Cond.fieldLink RX12 72 "FallingLightModel" "point" "[J" ∈ wsX12_drift := by decide +kernel
  have lk4 : Cond.constantLong RX12 104 (lF 5) ∈ wsX12_drift := by decide +kernel
  have lk5 : Cond.constantLong RX12 129 (100) ∈ wsX12_drift := by decide +kernel
  have lk6 : Cond.constantLong RX12 211 (10) ∈ wsX12_drift := by decide +kernel
  have lk7 : Cond.methodLink RX12 213 Lib.MathLoose.max_long.x ∈ wsX12_drift := by decide +kernel
  have lk8 : Cond.static Lib.MathLoose.max_long.x ∈ wsX12_drift := by decide +kernel
  have lk9 : Cond.initialized "java/lang/Math" ∈ wsX12_drift := by decide +kernel
  have lk10 : Cond.code Lib.MathLoose.max_long.x Lib.MathLoose.max_long.code 4 (some .long) ∈ wsX12_drift := by decide +kernel
  have lk11 : Cond.methodLink RX12 216 Lib.MathLoose.min_long.x ∈ wsX12_drift := by decide +kernel
  have lk12 : Cond.static Lib.MathLoose.min_long.x ∈ wsX12_drift := by decide +kernel
  have lk13 : Cond.code Lib.MathLoose.min_long.x Lib.MathLoose.min_long.code 4 (some .long) ∈ wsX12_drift := by decide +kernel
  have lk14 : Cond.fieldLink RX12 41 "FallingLightModel" "drifts" "[I" ∈ wsX12_drift := by decide +kernel
  have lk15 : Cond.constantLong RX12 106 (lF 2) ∈ wsX12_drift := by decide +kernel
  have lk16 : Cond.constantLong RX12 183 (lF 3) ∈ wsX12_drift := by decide +kernel
  have lk17 : Cond.constantLong RX12 91 (lF 1) ∈ wsX12_drift := by decide +kernel
  refine lv_aload_n hx hb dX12_drift_0 rfl (lv_at hl 0 rfl) ?_
  refine lv_iload_n hx hb dX12_drift_1 rfl (lv_at hl 1 rfl) ?_
  refine lv_iload_n hx hb dX12_drift_2 rfl (lv_at hl 2 rfl) ?_
  refine lv_iload_n hx hb dX12_drift_3 rfl (lv_at hl 3 rfl) ?_
  refine h_calli hw (h_runV (n := 3) (As := [.int t, .int k, .int k2]) (rest := []) C hw (c_X12_areTwo hm) gX12_drift_X12_areTwo rfl rfl rfl (by decide +kernel) ⟨by decide, by decide⟩ bX12 hm.1 rfl hl.1 rfl (Nat.le_of_ble_eq_true rfl) dX12_drift_4 ⟨by first | decide | omega, by first | decide | omega⟩) (fun r1 f2 H locs hp hw => ?_)
  obtain ⟨rfl, rfl⟩ := hp
  refine n_ifneB C (tgt := 18) dX12_drift_7 (by decide) (fun cq3 => ?_) (fun cq3 => ?_)
  · obtain ⟨i, j, c9, hi, hj, hc9, hA8, rfl, rfl⟩ := sgN hsg cq3.1
    obtain ⟨i2, j2, c8, hi2, hj2, hc8, hA82, hti, rfl⟩ := sgN hsg cq3.2.1
    obtain rfl : i = i2 := (nI_eq (by omega) (by omega)).mp hti
    obtain rfl : c9 = c8 := (nI_eq (by omega) (by omega)).mp (hA8.symm.trans hA82)
    refine lv_iconst (v := nI 4) hx hb dX12_drift_18 (by decide) ?_
    refine lv_iload_n hx hb dX12_drift_19 rfl (lv_at hl 1 rfl) ?_
    refine n_imul C dX12_drift_20 ?_
    refine lv_iload_n hx hb dX12_drift_21 rfl (lv_at hl 2 rfl) ?_
    refine n_iadd C dX12_drift_22 ?_
    refine lv_istore (lv' := [(6, _), (0, _), (1, _), (2, _), (3, _), (4, _), (5, _)]) hx hb dX12_drift_23 hl (by decide) rfl (fun ls hl => ?_)
    refine lv_iconst (v := nI 4) hx hb dX12_drift_25 (by decide) ?_
    refine lv_iload_n hx hb dX12_drift_26 rfl (lv_at hl 2 rfl) ?_
    refine n_imul C dX12_drift_27 ?_
    refine lv_iload_n hx hb dX12_drift_28 rfl (lv_at hl 4 rfl) ?_
    refine n_iadd C dX12_drift_29 ?_
    refine lv_istore (lv' := [(7, _), (6, _), (0, _), (1, _), (2, _), (3, _), (4, _), (5, _)]) hx hb dX12_drift_30 hl (by decide) rfl (fun ls hl => ?_)
    refine lv_aload_n hx hb dX12_drift_32 rfl (lv_at hl 2 rfl) ?_
    refine m_fld C hw hm lk1 9 (by decide) lk0 (v := .ref (q 9)) rfl dX12_drift_33 ?_
    refine lv_iload hx hb dX12_drift_36 (lv_at hl 1 rfl) ?_
    refine m_iald C hw hm 9 rfl (v := A 9 (4 * i + j)) rfl (show 4 * i + j < 24 from (by omega)) dX12_drift_38 ?_
    refine lv_iconst (v := nI 2) hx hb dX12_drift_39 (by decide) ?_
    refine lv_icmp_ne (tgt := 51) hx hb dX12_drift_40 (by decide) (fun cq4 => ?_) (fun cq4 => ?_)
    · refine lv_aload_n hx hb dX12_drift_51 rfl (lv_at hl 2 rfl) ?_
      refine lv_iload hx hb dX12_drift_52 (lv_at hl 1 rfl) ?_
      refine lv_iload hx hb dX12_drift_54 (lv_at hl 0 rfl) ?_
      refine lv_iconst (v := nI 1) hx hb dX12_drift_56 (by decide) ?_
      refine h_calli hw (h_runV (n := 3) (As := [.int (nI (4 * i + j)), .int (nI (4 * i + j2)), .int (nI 1)]) (rest := []) C hw (c_X12_findPoint hm (by omega) (by omega) (by omega) hso) gX12_drift_X12_findPoint rfl rfl rfl (by decide +kernel) ⟨by decide, by decide⟩ bX12 hm.1 rfl hl.1 rfl (Nat.le_of_ble_eq_true rfl) dX12_drift_57 ⟨by first | decide | omega, by first | decide | omega⟩) (fun r5 f6 H locs hp hw => ?_)
      obtain ⟨rfl, B7, hm, hBf, hBv⟩ := hp
      refine n_ifneB C (tgt := 71) dX12_drift_60 (by decide) (fun cq8 => ?_) (fun cq8 => ?_)
      · obtain ⟨hln, hpt⟩ := hBv cq8
        refine lv_aload_n hx hb dX12_drift_71 rfl (lv_at hl 2 rfl) ?_
        refine m_fld C hw hm lk1 26 (by decide) lk2 (v := .long (lnA A (4 * i + j) (4 * i + j2) 1)) (congrArg (fun z => some (Value.long z)) hln) dX12_drift_72 ?_
        refine lv_lconst (v := 0) hx hb dX12_drift_75 (by decide) ?_
        refine W.lcmp hx hb dX12_drift_76 ?_
        refine l_ifge C (tgt := 88) dX12_drift_77 (by decide) (fun cq9 => ?_) (fun cq9 => ?_)
        · refine lv_aload_n hx hb dX12_drift_88 rfl (lv_at hl 2 rfl) ?_
          refine m_fld C hw hm lk1 26 (by decide) lk2 (v := .long (lnA A (4 * i + j) (4 * i + j2) 1)) (congrArg (fun z => some (Value.long z)) hln) dX12_drift_89 ?_
          refine lv_lstore (lv' := [(8, _), (7, _), (6, _), (0, _), (1, _), (2, _), (3, _), (4, _), (5, _)]) hx hb dX12_drift_92 hl (by decide) rfl (fun ls hl => ?_)
          refine lv_aload_n hx hb dX12_drift_94 rfl (lv_at hl 3 rfl) ?_
          refine m_fld C hw hm lk1 26 (by decide) lk2 (v := .long (lnA A (4 * i + j) (4 * i + j2) 1)) (congrArg (fun z => some (Value.long z)) hln) dX12_drift_95 ?_
          refine lv_lconst (v := 0) hx hb dX12_drift_98 (by decide) ?_
          refine W.lcmp hx hb dX12_drift_99 ?_
          refine l_ifge C (tgt := 113) dX12_drift_100 (by decide) (fun cq10 => ?_) (fun cq10 => ?_)
          · refine lv_aload_n hx hb dX12_drift_113 rfl (lv_at hl 3 rfl) ?_
            refine m_fld C hw hm lk1 25 (by decide) lk3 (v := .ref (q 25)) rfl dX12_drift_114 ?_
            refine lv_iconst (v := nI 2) hx hb dX12_drift_117 (by decide) ?_
            refine m_lald C hw hm 25 rfl (v := ptA A (4 * i + j) (4 * i + j2) 1 2) (hpt 2 (by decide)) (show 2 < 3 from (by omega)) dX12_drift_118 ?_
            refine lv_lstore (lv' := [(10, _), (8, _), (7, _), (6, _), (0, _), (1, _), (2, _), (3, _), (4, _), (5, _)]) hx hb dX12_drift_119 hl (by decide) rfl (fun ls hl => ?_)
            refine lv_lload hx hb dX12_drift_121 (lv_at hl 0 rfl) ?_
            refine lv_lconst (v := 0) hx hb dX12_drift_123 (by decide) ?_
            refine W.lcmp hx hb dX12_drift_124 ?_
            refine l_iflt C (tgt := 140) dX12_drift_125 (by decide) (fun cq11 => ?_) (fun cq11 => ?_)
            · refine lv_aload_n hx hb dX12_drift_140 rfl (lv_at hl 4 rfl) ?_
              refine lv_ldc2 hx hb C.1.2.2.2.1 (C.1.2.2.2.2 _ lk4) dX12_drift_141 ?_
              refine h_calll hw (h_runV (n := 1) (As := [.long (lF 5)]) (rest := []) C hw (c_X12_finding hm (by omega)) gX12_drift_X12_finding rfl rfl rfl (by decide +kernel) ⟨by decide, by decide⟩ bX12 hm.1 rfl hl.1 rfl (Nat.le_of_ble_eq_true rfl) dX12_drift_144 ⟨by first | decide | omega, by first | decide | omega⟩) (fun r12 f13 H locs hp hw => ?_)
              obtain ⟨rfl, B14, eB14, hm⟩ := hp
              exact h_lret C hr hlk hw (op_fin2 (A0 := A) (B0 := fnd B 5) (by simp only [op_drift, if_pos cq3, if_neg cq4, if_pos cq8, if_neg cq9, if_pos cq11, dr3, atN hi (show j < 4 by omega), atN hi (show j2 < 4 by omega)]) hm ⟨fun _ _ => rfl, by rw [eB14]; exact fnd_15 (hBf 15 (by decide) (by decide))⟩) dX12_drift_147
            · refine lv_lload hx hb dX12_drift_128 (lv_at hl 0 rfl) ?_
              refine lv_ldc2 hx hb C.1.2.2.2.1 (C.1.2.2.2.2 _ lk5) dX12_drift_130 ?_
              refine lv_lload hx hb dX12_drift_133 (lv_at hl 1 rfl) ?_
              refine lv_lmul hx hb dX12_drift_135 ?_
              refine W.lcmp hx hb dX12_drift_136 ?_
              refine l_ifle C (tgt := 148) dX12_drift_137 (by decide) (fun cq15 => ?_) (fun cq15 => ?_)
              · refine lv_lconst (v := 0) hx hb dX12_drift_148 (by decide) ?_
                refine lv_lstore (lv' := [(12, _), (10, _), (8, _), (7, _), (6, _), (0, _), (1, _), (2, _), (3, _), (4, _), (5, _)]) hx hb dX12_drift_149 hl (by decide) rfl (fun ls hl => ?_)
                refine lv_iconst (v := nI 0) hx hb dX12_drift_151 (by decide) ?_
                refine lv_istore (lv' := [(14, _), (12, _), (10, _), (8, _), (7, _), (6, _), (0, _), (1, _), (2, _), (3, _), (4, _), (5, _)]) hx hb dX12_drift_152 hl (by decide) rfl (fun ls hl => ?_)
                have lp154 : ∀ (n : Nat) (k : Nat) (H1 : Heap) (locs1 : List Loc) (ls1 : Array Slot), hW D (hA f sz) s.heap f6 H1 locs1 → mo cA q A B7 f6 → lv_has ls1 17 [(0, .ref (q 0)), (4, .int e1), (5, .int z), (8, .long (lnA A (4 * i + j) (4 * i + j2) 1)), (10, .long (ptA A (4 * i + j) (4 * i + j2) 1 2)), (12, .long (dsK A (lnA A (4 * i + j) (4 * i + j2) 1) (ptA A (4 * i + j) (4 * i + j2) 1 2) (yA e1) k)), (14, .int (nI k))] → (k ≤ 10) → 10 - k < n → W p l e ({ frames := 4, cells := 0, slots := 0, locals := 94 } : Room) s m ([.ref (q 0), .int (nI i), .int (nI j), .int (nI j2), .int e1, .int z]).toArray below meth c H1 locs1 0 0 (MQ below (va_Ql (fun r f1 => (op_drift A B (nI i) (nI j) (nI j2) e1 z).1 = r ∧ ∃ A1 B1, mo cA q A1 B1 f1 ∧ veq (op_drift A B (nI i) (nI j) (nI j2) e1 z).2.1 (op_drift A B (nI i) (nI j) (nI j2) e1 z).2.2 A1 B1) (hE D f sz) (hA f sz)) ([.ref (q 0), .int (nI i), .int (nI j), .int (nI j2), .int e1, .int z]).toArray s 0 0 (hA f sz)) (F0 m 154 ls1 []) := by
                  intro n
                  induction n with
                  | zero => intros; omega
                  | succ n ih154 =>
                    intro k H locs ls hw hm hl hk hmu
                    refine lv_iload hx hb dX12_drift_154 (lv_at hl 6 rfl) ?_
                    refine lv_bipush (v := nI 10) hx hb dX12_drift_156 (by decide) ?_
                    refine n_cge C (by omega) (by omega) (tgt := 224) dX12_drift_158 (by decide) (fun cq16 => ?_) (fun cq16 => ?_)
                    · have hk10 : k = 10 := by omega
                      refine lv_lload hx hb dX12_drift_224 (lv_at hl 5 rfl) ?_
                      refine lv_lload hx hb dX12_drift_226 (lv_at hl 3 rfl) ?_
                      refine lv_iload hx hb dX12_drift_228 (lv_at hl 2 rfl) ?_
                      refine h_calll hw (h_runS (n := 3) (As := [.long (dsK A (lnA A (4 * i + j) (4 * i + j2) 1) (ptA A (4 * i + j) (4 * i + j2) 1 2) (yA e1) k), .long (lnA A (4 * i + j) (4 * i + j2) 1), .int z]) (rest := []) C hw (c_X12_part (Nat.lt_of_le_of_lt (ds_bd hdr (yA_le e1) (ln_bd hwy (by omega) (by omega) (by decide)) cq9 k (by omega)) (by omega)) (Nat.lt_of_le_of_lt (ln_bd hwy (by omega) (by omega) (by decide)) (by decide)) cq8.2) gX12_drift_X12_part rfl rfl rfl (by decide +kernel) ⟨by decide, by decide⟩ rfl hl.1 rfl (Nat.le_of_ble_eq_true rfl) dX12_drift_230 ⟨by first | decide | omega, by first | decide | omega⟩) (fun r17 f18 H locs hp hw => ?_)
                      obtain ⟨rfl, rfl⟩ := hp
                      exact h_lret C hr hlk hw (op_fin2 (A0 := A) (B0 := B) (by simp only [op_drift, if_pos cq3, if_neg cq4, if_pos cq8, if_neg cq9, if_neg cq11, if_neg cq15, dr3, hk10, atN hi (show j < 4 by omega), atN hi (show j2 < 4 by omega)]) hm ⟨fun _ _ => rfl, hBf 15 (by decide) (by decide)⟩) dX12_drift_233
                    · refine lv_ldc2 hx hb C.1.2.2.2.1 (C.1.2.2.2.2 _ lk6) dX12_drift_161 ?_
                      refine lv_lload hx hb dX12_drift_164 (lv_at hl 3 rfl) ?_
                      refine lv_lmul hx hb dX12_drift_166 ?_
                      refine lv_lconst (v := 0) hx hb dX12_drift_167 (by decide) ?_
                      refine lv_lload hx hb dX12_drift_168 (lv_at hl 4 rfl) ?_
                      refine lv_ldc2 hx hb C.1.2.2.2.1 (C.1.2.2.2.2 _ lk6) dX12_drift_170 ?_
                      refine lv_iload hx hb dX12_drift_173 (lv_at hl 6 rfl) ?_
                      refine n_i2l C (by omega) dX12_drift_175 ?_
                      refine lv_lmul hx hb dX12_drift_176 ?_
                      refine lv_lload hx hb dX12_drift_177 (lv_at hl 3 rfl) ?_
                      refine lv_lmul hx hb dX12_drift_179 ?_
                      refine lv_lsub hx hb dX12_drift_180 ?_
                      refine va_mmax_long hx hb (C.1.2.2.1.trans hl.1.symm) C.1.2.2.2.1 (C.1.2.2.2.2 _ lk7) (C.1.2.2.2.2 _ lk8) (C.1.2.2.2.2 _ lk9) (C.1.2.2.2.2 _ lk10) (Nat.le_of_ble_eq_true rfl) (Nat.le_of_ble_eq_true rfl) (by first | decide | omega) (by first | decide | omega) dX12_drift_181 ?_
                      refine va_mmin_long hx hb (C.1.2.2.1.trans hl.1.symm) C.1.2.2.2.1 (C.1.2.2.2.2 _ lk11) (C.1.2.2.2.2 _ lk12) (C.1.2.2.2.2 _ lk9) (C.1.2.2.2.2 _ lk13) (Nat.le_of_ble_eq_true rfl) (Nat.le_of_ble_eq_true rfl) (by first | decide | omega) (by first | decide | omega) dX12_drift_184 ?_
                      refine lv_lstore (lv' := [(15, _), (0, _), (4, _), (5, _), (8, _), (10, _), (12, _), (14, _)]) hx hb dX12_drift_187 hl (by decide) rfl (fun ls hl => ?_)
                      refine lv_lload hx hb dX12_drift_189 (lv_at hl 6 rfl) ?_
                      refine lv_lload hx hb dX12_drift_191 (lv_at hl 0 rfl) ?_
                      refine lv_aload_n hx hb dX12_drift_193 rfl (lv_at hl 1 rfl) ?_
                      refine m_fld C hw hm lk1 12 (by decide) lk14 (v := .ref (q 12)) rfl dX12_drift_194 ?_
                      refine lv_iconst (v := nI 2) hx hb dX12_drift_197 (by decide) ?_
                      refine lv_iload hx hb dX12_drift_198 (lv_at hl 7 rfl) ?_
                      refine n_imul C dX12_drift_200 ?_
                      refine lv_iload hx hb dX12_drift_201 (lv_at hl 2 rfl) ?_
                      refine lv_if_eq (tgt := 210) hx hb dX12_drift_203 (by decide) (fun cq19 => ?_) (fun cq19 => ?_)
                      · refine lv_iconst (v := nI 0) hx hb dX12_drift_210 (by decide) ?_
                        refine n_iadd C dX12_drift_211 ?_
                        refine m_iald C hw hm 12 rfl (v := A 12 (2 * k + 0)) rfl (show 2 * k + 0 < 20 from (by omega)) dX12_drift_212 ?_
                        refine lv_i2l hx hb dX12_drift_213 rfl ?_
                        refine lv_lmul hx hb dX12_drift_214 ?_
                        refine lv_ladd hx hb dX12_drift_215 ?_
                        refine W.eq (g2 := F0 m 216 ls [.long (dsK A (lnA A (4 * i + j) (4 * i + j2) 1) (ptA A (4 * i + j) (4 * i + j2) 1 2) (yA e1) (k + 1))]) (by rw [dsK_s, muA, yA, if_pos cq19]) ?_
                        refine lv_lstore (lv' := [(12, _), (15, _), (0, _), (4, _), (5, _), (8, _), (10, _), (14, _)]) hx hb dX12_drift_216 hl (by decide) rfl (fun ls hl => ?_)
                        refine n_iinc C (lv' := [(14, _), (12, _), (15, _), (0, _), (4, _), (5, _), (8, _), (10, _)]) dX12_drift_218 hl (k := 7) rfl (by decide) rfl (fun ls hl => ?_)
                        refine lv_goto (tgt := 154) hx hb dX12_drift_221 (by decide) ?_
                        exact ih154 (k + 1) _ _ _ hw hm (lv_sub hl [3, 4, 5, 6, 7, 1, 0] rfl) (by omega) (by omega)
                      · refine lv_iconst (v := nI 1) hx hb dX12_drift_206 (by decide) ?_
                        refine lv_goto (tgt := 211) hx hb dX12_drift_207 (by decide) ?_
                        refine n_iadd C dX12_drift_211 ?_
                        refine m_iald C hw hm 12 rfl (v := A 12 (2 * k + 1)) rfl (show 2 * k + 1 < 20 from (by omega)) dX12_drift_212 ?_
                        refine lv_i2l hx hb dX12_drift_213 rfl ?_
                        refine lv_lmul hx hb dX12_drift_214 ?_
                        refine lv_ladd hx hb dX12_drift_215 ?_
                        refine W.eq (g2 := F0 m 216 ls [.long (dsK A (lnA A (4 * i + j) (4 * i + j2) 1) (ptA A (4 * i + j) (4 * i + j2) 1 2) (yA e1) (k + 1))]) (by rw [dsK_s, muA, yA, if_neg cq19]) ?_
                        refine lv_lstore (lv' := [(12, _), (15, _), (0, _), (4, _), (5, _), (8, _), (10, _), (14, _)]) hx hb dX12_drift_216 hl (by decide) rfl (fun ls hl => ?_)
                        refine n_iinc C (lv' := [(14, _), (12, _), (15, _), (0, _), (4, _), (5, _), (8, _), (10, _)]) dX12_drift_218 hl (k := 7) rfl (by decide) rfl (fun ls hl => ?_)
                        refine lv_goto (tgt := 154) hx hb dX12_drift_221 (by decide) ?_
                        exact ih154 (k + 1) _ _ _ hw hm (lv_sub hl [3, 4, 5, 6, 7, 1, 0] rfl) (by omega) (by omega)
                exact lp154 _ 0 _ _ _ hw hm (lv_sub hl [6, 10, 11, 3, 2, 1, 0] rfl) (by omega) (Nat.lt_succ_self _)
              · refine lv_aload_n hx hb dX12_drift_140 rfl (lv_at hl 4 rfl) ?_
                refine lv_ldc2 hx hb C.1.2.2.2.1 (C.1.2.2.2.2 _ lk4) dX12_drift_141 ?_
                refine h_calll hw (h_runV (n := 1) (As := [.long (lF 5)]) (rest := []) C hw (c_X12_finding hm (by omega)) gX12_drift_X12_finding rfl rfl rfl (by decide +kernel) ⟨by decide, by decide⟩ bX12 hm.1 rfl hl.1 rfl (Nat.le_of_ble_eq_true rfl) dX12_drift_144 ⟨by first | decide | omega, by first | decide | omega⟩) (fun r20 f21 H locs hp hw => ?_)
                obtain ⟨rfl, B22, eB22, hm⟩ := hp
                exact h_lret C hr hlk hw (op_fin2 (A0 := A) (B0 := fnd B 5) (by simp only [op_drift, if_pos cq3, if_neg cq4, if_pos cq8, if_neg cq9, if_neg cq11, if_pos cq15, dr3, atN hi (show j < 4 by omega), atN hi (show j2 < 4 by omega)]) hm ⟨fun _ _ => rfl, by rw [eB22]; exact fnd_15 (hBf 15 (by decide) (by decide))⟩) dX12_drift_147
          · exact absurd cq10 cq9
        · refine lv_aload_n hx hb dX12_drift_80 rfl (lv_at hl 2 rfl) ?_
          refine m_fld C hw hm lk1 26 (by decide) lk2 (v := .long (lnA A (4 * i + j) (4 * i + j2) 1)) (congrArg (fun z => some (Value.long z)) hln) dX12_drift_81 ?_
          refine lv_lneg hx hb dX12_drift_84 ?_
          refine lv_goto (tgt := 92) hx hb dX12_drift_85 (by decide) ?_
          refine lv_lstore (lv' := [(8, _), (7, _), (6, _), (0, _), (1, _), (2, _), (3, _), (4, _), (5, _)]) hx hb dX12_drift_92 hl (by decide) rfl (fun ls hl => ?_)
          refine lv_aload_n hx hb dX12_drift_94 rfl (lv_at hl 3 rfl) ?_
          refine m_fld C hw hm lk1 26 (by decide) lk2 (v := .long (lnA A (4 * i + j) (4 * i + j2) 1)) (congrArg (fun z => some (Value.long z)) hln) dX12_drift_95 ?_
          refine lv_lconst (v := 0) hx hb dX12_drift_98 (by decide) ?_
          refine W.lcmp hx hb dX12_drift_99 ?_
          refine l_ifge C (tgt := 113) dX12_drift_100 (by decide) (fun cq23 => ?_) (fun cq23 => ?_)
          · exact absurd cq9 cq23
          · refine lv_aload_n hx hb dX12_drift_103 rfl (lv_at hl 3 rfl) ?_
            refine m_fld C hw hm lk1 25 (by decide) lk3 (v := .ref (q 25)) rfl dX12_drift_104 ?_
            refine lv_iconst (v := nI 2) hx hb dX12_drift_107 (by decide) ?_
            refine m_lald C hw hm 25 rfl (v := ptA A (4 * i + j) (4 * i + j2) 1 2) (hpt 2 (by decide)) (show 2 < 3 from (by omega)) dX12_drift_108 ?_
            refine lv_lneg hx hb dX12_drift_109 ?_
            refine lv_goto (tgt := 119) hx hb dX12_drift_110 (by decide) ?_
            refine lv_lstore (lv' := [(10, _), (8, _), (7, _), (6, _), (0, _), (1, _), (2, _), (3, _), (4, _), (5, _)]) hx hb dX12_drift_119 hl (by decide) rfl (fun ls hl => ?_)
            refine lv_lload hx hb dX12_drift_121 (lv_at hl 0 rfl) ?_
            refine lv_lconst (v := 0) hx hb dX12_drift_123 (by decide) ?_
            refine W.lcmp hx hb dX12_drift_124 ?_
            refine l_iflt C (tgt := 140) dX12_drift_125 (by decide) (fun cq24 => ?_) (fun cq24 => ?_)
            · refine lv_aload_n hx hb dX12_drift_140 rfl (lv_at hl 4 rfl) ?_
              refine lv_ldc2 hx hb C.1.2.2.2.1 (C.1.2.2.2.2 _ lk4) dX12_drift_141 ?_
              refine h_calll hw (h_runV (n := 1) (As := [.long (lF 5)]) (rest := []) C hw (c_X12_finding hm (by omega)) gX12_drift_X12_finding rfl rfl rfl (by decide +kernel) ⟨by decide, by decide⟩ bX12 hm.1 rfl hl.1 rfl (Nat.le_of_ble_eq_true rfl) dX12_drift_144 ⟨by first | decide | omega, by first | decide | omega⟩) (fun r25 f26 H locs hp hw => ?_)
              obtain ⟨rfl, B27, eB27, hm⟩ := hp
              exact h_lret C hr hlk hw (op_fin2 (A0 := A) (B0 := fnd B 5) (by simp only [op_drift, if_pos cq3, if_neg cq4, if_pos cq8, if_pos cq9, if_pos cq24, dr3, atN hi (show j < 4 by omega), atN hi (show j2 < 4 by omega)]) hm ⟨fun _ _ => rfl, by rw [eB27]; exact fnd_15 (hBf 15 (by decide) (by decide))⟩) dX12_drift_147
            · refine lv_lload hx hb dX12_drift_128 (lv_at hl 0 rfl) ?_
              refine lv_ldc2 hx hb C.1.2.2.2.1 (C.1.2.2.2.2 _ lk5) dX12_drift_130 ?_
              refine lv_lload hx hb dX12_drift_133 (lv_at hl 1 rfl) ?_
              refine lv_lmul hx hb dX12_drift_135 ?_
              refine W.lcmp hx hb dX12_drift_136 ?_
              refine l_ifle C (tgt := 148) dX12_drift_137 (by decide) (fun cq28 => ?_) (fun cq28 => ?_)
              · refine lv_lconst (v := 0) hx hb dX12_drift_148 (by decide) ?_
                refine lv_lstore (lv' := [(12, _), (10, _), (8, _), (7, _), (6, _), (0, _), (1, _), (2, _), (3, _), (4, _), (5, _)]) hx hb dX12_drift_149 hl (by decide) rfl (fun ls hl => ?_)
                refine lv_iconst (v := nI 0) hx hb dX12_drift_151 (by decide) ?_
                refine lv_istore (lv' := [(14, _), (12, _), (10, _), (8, _), (7, _), (6, _), (0, _), (1, _), (2, _), (3, _), (4, _), (5, _)]) hx hb dX12_drift_152 hl (by decide) rfl (fun ls hl => ?_)
                have lp154 : ∀ (n : Nat) (k : Nat) (H1 : Heap) (locs1 : List Loc) (ls1 : Array Slot), hW D (hA f sz) s.heap f6 H1 locs1 → mo cA q A B7 f6 → lv_has ls1 17 [(0, .ref (q 0)), (4, .int e1), (5, .int z), (8, .long (-lnA A (4 * i + j) (4 * i + j2) 1)), (10, .long (-ptA A (4 * i + j) (4 * i + j2) 1 2)), (12, .long (dsK A (-lnA A (4 * i + j) (4 * i + j2) 1) (-ptA A (4 * i + j) (4 * i + j2) 1 2) (yA e1) k)), (14, .int (nI k))] → (k ≤ 10) → 10 - k < n → W p l e ({ frames := 4, cells := 0, slots := 0, locals := 94 } : Room) s m ([.ref (q 0), .int (nI i), .int (nI j), .int (nI j2), .int e1, .int z]).toArray below meth c H1 locs1 0 0 (MQ below (va_Ql (fun r f1 => (op_drift A B (nI i) (nI j) (nI j2) e1 z).1 = r ∧ ∃ A1 B1, mo cA q A1 B1 f1 ∧ veq (op_drift A B (nI i) (nI j) (nI j2) e1 z).2.1 (op_drift A B (nI i) (nI j) (nI j2) e1 z).2.2 A1 B1) (hE D f sz) (hA f sz)) ([.ref (q 0), .int (nI i), .int (nI j), .int (nI j2), .int e1, .int z]).toArray s 0 0 (hA f sz)) (F0 m 154 ls1 []) := by
                  intro n
                  induction n with
                  | zero => intros; omega
                  | succ n ih154 =>
                    intro k H locs ls hw hm hl hk hmu
                    refine lv_iload hx hb dX12_drift_154 (lv_at hl 6 rfl) ?_
                    refine lv_bipush (v := nI 10) hx hb dX12_drift_156 (by decide) ?_
                    refine n_cge C (by omega) (by omega) (tgt := 224) dX12_drift_158 (by decide) (fun cq29 => ?_) (fun cq29 => ?_)
                    · have hk10 : k = 10 := by omega
                      refine lv_lload hx hb dX12_drift_224 (lv_at hl 5 rfl) ?_
                      refine lv_lload hx hb dX12_drift_226 (lv_at hl 3 rfl) ?_
                      refine lv_iload hx hb dX12_drift_228 (lv_at hl 2 rfl) ?_
                      refine h_calll hw (h_runS (n := 3) (As := [.long (dsK A (-lnA A (4 * i + j) (4 * i + j2) 1) (-ptA A (4 * i + j) (4 * i + j2) 1 2) (yA e1) k), .long (-lnA A (4 * i + j) (4 * i + j2) 1), .int z]) (rest := []) C hw (c_X12_part (Nat.lt_of_le_of_lt (ds_bd hdr (yA_le e1) (lA_neg (ln_bd hwy (by omega) (by omega) (by decide)) (by decide)).1 (l_ge_neg cq9 (ln_bd hwy (by omega) (by omega) (by decide))) k (by omega)) (by omega)) (Nat.lt_of_le_of_lt (lA_neg (ln_bd hwy (by omega) (by omega) (by decide)) (by decide)).1 (by decide)) (l_ne_neg cq8.2)) gX12_drift_X12_part rfl rfl rfl (by decide +kernel) ⟨by decide, by decide⟩ rfl hl.1 rfl (Nat.le_of_ble_eq_true rfl) dX12_drift_230 ⟨by first | decide | omega, by first | decide | omega⟩) (fun r30 f31 H locs hp hw => ?_)
                      obtain ⟨rfl, rfl⟩ := hp
                      exact h_lret C hr hlk hw (op_fin2 (A0 := A) (B0 := B) (by simp only [op_drift, if_pos cq3, if_neg cq4, if_pos cq8, if_pos cq9, if_neg cq24, if_neg cq28, dr3, hk10, atN hi (show j < 4 by omega), atN hi (show j2 < 4 by omega)]) hm ⟨fun _ _ => rfl, hBf 15 (by decide) (by decide)⟩) dX12_drift_233
                    · refine lv_ldc2 hx hb C.1.2.2.2.1 (C.1.2.2.2.2 _ lk6) dX12_drift_161 ?_
                      refine lv_lload hx hb dX12_drift_164 (lv_at hl 3 rfl) ?_
                      refine lv_lmul hx hb dX12_drift_166 ?_
                      refine lv_lconst (v := 0) hx hb dX12_drift_167 (by decide) ?_
                      refine lv_lload hx hb dX12_drift_168 (lv_at hl 4 rfl) ?_
                      refine lv_ldc2 hx hb C.1.2.2.2.1 (C.1.2.2.2.2 _ lk6) dX12_drift_170 ?_
                      refine lv_iload hx hb dX12_drift_173 (lv_at hl 6 rfl) ?_
                      refine n_i2l C (by omega) dX12_drift_175 ?_
                      refine lv_lmul hx hb dX12_drift_176 ?_
                      refine lv_lload hx hb dX12_drift_177 (lv_at hl 3 rfl) ?_
                      refine lv_lmul hx hb dX12_drift_179 ?_
                      refine lv_lsub hx hb dX12_drift_180 ?_
                      refine va_mmax_long hx hb (C.1.2.2.1.trans hl.1.symm) C.1.2.2.2.1 (C.1.2.2.2.2 _ lk7) (C.1.2.2.2.2 _ lk8) (C.1.2.2.2.2 _ lk9) (C.1.2.2.2.2 _ lk10) (Nat.le_of_ble_eq_true rfl) (Nat.le_of_ble_eq_true rfl) (by first | decide | omega) (by first | decide | omega) dX12_drift_181 ?_
                      refine va_mmin_long hx hb (C.1.2.2.1.trans hl.1.symm) C.1.2.2.2.1 (C.1.2.2.2.2 _ lk11) (C.1.2.2.2.2 _ lk12) (C.1.2.2.2.2 _ lk9) (C.1.2.2.2.2 _ lk13) (Nat.le_of_ble_eq_true rfl) (Nat.le_of_ble_eq_true rfl) (by first | decide | omega) (by first | decide | omega) dX12_drift_184 ?_
                      refine lv_lstore (lv' := [(15, _), (0, _), (4, _), (5, _), (8, _), (10, _), (12, _), (14, _)]) hx hb dX12_drift_187 hl (by decide) rfl (fun ls hl => ?_)
                      refine lv_lload hx hb dX12_drift_189 (lv_at hl 6 rfl) ?_
                      refine lv_lload hx hb dX12_drift_191 (lv_at hl 0 rfl) ?_
                      refine lv_aload_n hx hb dX12_drift_193 rfl (lv_at hl 1 rfl) ?_
                      refine m_fld C hw hm lk1 12 (by decide) lk14 (v := .ref (q 12)) rfl dX12_drift_194 ?_
                      refine lv_iconst (v := nI 2) hx hb dX12_drift_197 (by decide) ?_
                      refine lv_iload hx hb dX12_drift_198 (lv_at hl 7 rfl) ?_
                      refine n_imul C dX12_drift_200 ?_
                      refine lv_iload hx hb dX12_drift_201 (lv_at hl 2 rfl) ?_
                      refine lv_if_eq (tgt := 210) hx hb dX12_drift_203 (by decide) (fun cq32 => ?_) (fun cq32 => ?_)
                      · refine lv_iconst (v := nI 0) hx hb dX12_drift_210 (by decide) ?_
                        refine n_iadd C dX12_drift_211 ?_
                        refine m_iald C hw hm 12 rfl (v := A 12 (2 * k + 0)) rfl (show 2 * k + 0 < 20 from (by omega)) dX12_drift_212 ?_
                        refine lv_i2l hx hb dX12_drift_213 rfl ?_
                        refine lv_lmul hx hb dX12_drift_214 ?_
                        refine lv_ladd hx hb dX12_drift_215 ?_
                        refine W.eq (g2 := F0 m 216 ls [.long (dsK A (-lnA A (4 * i + j) (4 * i + j2) 1) (-ptA A (4 * i + j) (4 * i + j2) 1 2) (yA e1) (k + 1))]) (by rw [dsK_s, muA, yA, if_pos cq32]) ?_
                        refine lv_lstore (lv' := [(12, _), (15, _), (0, _), (4, _), (5, _), (8, _), (10, _), (14, _)]) hx hb dX12_drift_216 hl (by decide) rfl (fun ls hl => ?_)
                        refine n_iinc C (lv' := [(14, _), (12, _), (15, _), (0, _), (4, _), (5, _), (8, _), (10, _)]) dX12_drift_218 hl (k := 7) rfl (by decide) rfl (fun ls hl => ?_)
                        refine lv_goto (tgt := 154) hx hb dX12_drift_221 (by decide) ?_
                        exact ih154 (k + 1) _ _ _ hw hm (lv_sub hl [3, 4, 5, 6, 7, 1, 0] rfl) (by omega) (by omega)
                      · refine lv_iconst (v := nI 1) hx hb dX12_drift_206 (by decide) ?_
                        refine lv_goto (tgt := 211) hx hb dX12_drift_207 (by decide) ?_
                        refine n_iadd C dX12_drift_211 ?_
                        refine m_iald C hw hm 12 rfl (v := A 12 (2 * k + 1)) rfl (show 2 * k + 1 < 20 from (by omega)) dX12_drift_212 ?_
                        refine lv_i2l hx hb dX12_drift_213 rfl ?_
                        refine lv_lmul hx hb dX12_drift_214 ?_
                        refine lv_ladd hx hb dX12_drift_215 ?_
                        refine W.eq (g2 := F0 m 216 ls [.long (dsK A (-lnA A (4 * i + j) (4 * i + j2) 1) (-ptA A (4 * i + j) (4 * i + j2) 1 2) (yA e1) (k + 1))]) (by rw [dsK_s, muA, yA, if_neg cq32]) ?_
                        refine lv_lstore (lv' := [(12, _), (15, _), (0, _), (4, _), (5, _), (8, _), (10, _), (14, _)]) hx hb dX12_drift_216 hl (by decide) rfl (fun ls hl => ?_)
                        refine n_iinc C (lv' := [(14, _), (12, _), (15, _), (0, _), (4, _), (5, _), (8, _), (10, _)]) dX12_drift_218 hl (k := 7) rfl (by decide) rfl (fun ls hl => ?_)
                        refine lv_goto (tgt := 154) hx hb dX12_drift_221 (by decide) ?_
                        exact ih154 (k + 1) _ _ _ hw hm (lv_sub hl [3, 4, 5, 6, 7, 1, 0] rfl) (by omega) (by omega)
                exact lp154 _ 0 _ _ _ hw hm (lv_sub hl [6, 10, 11, 3, 2, 1, 0] rfl) (by omega) (Nat.lt_succ_self _)
              · refine lv_aload_n hx hb dX12_drift_140 rfl (lv_at hl 4 rfl) ?_
                refine lv_ldc2 hx hb C.1.2.2.2.1 (C.1.2.2.2.2 _ lk4) dX12_drift_141 ?_
                refine h_calll hw (h_runV (n := 1) (As := [.long (lF 5)]) (rest := []) C hw (c_X12_finding hm (by omega)) gX12_drift_X12_finding rfl rfl rfl (by decide +kernel) ⟨by decide, by decide⟩ bX12 hm.1 rfl hl.1 rfl (Nat.le_of_ble_eq_true rfl) dX12_drift_144 ⟨by first | decide | omega, by first | decide | omega⟩) (fun r33 f34 H locs hp hw => ?_)
                obtain ⟨rfl, B35, eB35, hm⟩ := hp
                exact h_lret C hr hlk hw (op_fin2 (A0 := A) (B0 := fnd B 5) (by simp only [op_drift, if_pos cq3, if_neg cq4, if_pos cq8, if_pos cq9, if_neg cq24, if_pos cq28, dr3, atN hi (show j < 4 by omega), atN hi (show j2 < 4 by omega)]) hm ⟨fun _ _ => rfl, by rw [eB35]; exact fnd_15 (hBf 15 (by decide) (by decide))⟩) dX12_drift_147
      · refine lv_aload_n hx hb dX12_drift_63 rfl (lv_at hl 2 rfl) ?_
        refine lv_ldc2 hx hb C.1.2.2.2.1 (C.1.2.2.2.2 _ lk15) dX12_drift_64 ?_
        refine h_calll hw (h_runV (n := 1) (As := [.long (lF 2)]) (rest := []) C hw (c_X12_finding hm (by omega)) gX12_drift_X12_finding rfl rfl rfl (by decide +kernel) ⟨by decide, by decide⟩ bX12 hm.1 rfl hl.1 rfl (Nat.le_of_ble_eq_true rfl) dX12_drift_67 ⟨by first | decide | omega, by first | decide | omega⟩) (fun r36 f37 H locs hp hw => ?_)
        obtain ⟨rfl, B38, eB38, hm⟩ := hp
        exact h_lret C hr hlk hw (op_fin2 (A0 := A) (B0 := fnd B 2) (by simp only [op_drift, if_pos cq3, if_neg cq4, if_neg cq8, dr3, atN hi (show j < 4 by omega), atN hi (show j2 < 4 by omega)]) hm ⟨fun _ _ => rfl, by rw [eB38]; exact fnd_15 (hBf 15 (by decide) (by decide))⟩) dX12_drift_70
    · refine lv_aload_n hx hb dX12_drift_43 rfl (lv_at hl 2 rfl) ?_
      refine lv_ldc2 hx hb C.1.2.2.2.1 (C.1.2.2.2.2 _ lk16) dX12_drift_44 ?_
      refine h_calll hw (h_runV (n := 1) (As := [.long (lF 3)]) (rest := []) C hw (c_X12_finding hm (by omega)) gX12_drift_X12_finding rfl rfl rfl (by decide +kernel) ⟨by decide, by decide⟩ bX12 hm.1 rfl hl.1 rfl (Nat.le_of_ble_eq_true rfl) dX12_drift_47 ⟨by first | decide | omega, by first | decide | omega⟩) (fun r39 f40 H locs hp hw => ?_)
      obtain ⟨rfl, B41, eB41, hm⟩ := hp
      exact h_lret C hr hlk hw (op_fin2 (A0 := A) (B0 := fnd B 3) (by simp only [op_drift, if_pos cq3, if_pos cq4, dr3, atN hi (show j < 4 by omega), atN hi (show j2 < 4 by omega)]) hm ⟨fun _ _ => rfl, by rw [eB41]; exact fnd_15 (rfl)⟩) dX12_drift_50
  · refine lv_aload_n hx hb dX12_drift_10 rfl (lv_at hl 0 rfl) ?_
    refine lv_ldc2 hx hb C.1.2.2.2.1 (C.1.2.2.2.2 _ lk17) dX12_drift_11 ?_
    refine h_calll hw (h_runV (n := 1) (As := [.long (lF 1)]) (rest := []) C hw (c_X12_finding hm (by omega)) gX12_drift_X12_finding rfl rfl rfl (by decide +kernel) ⟨by decide, by decide⟩ bX12 hm.1 rfl hl.1 rfl (Nat.le_of_ble_eq_true rfl) dX12_drift_14 ⟨by first | decide | omega, by first | decide | omega⟩) (fun r42 f43 H locs hp hw => ?_)
    obtain ⟨rfl, B44, eB44, hm⟩ := hp
    exact h_lret C hr hlk hw (op_fin2 (A0 := A) (B0 := fnd B 1) (by simp only [op_drift, if_neg cq3, dr3]) hm ⟨fun _ _ => rfl, by rw [eB44]; exact fnd_15 (rfl)⟩) dX12_drift_17
