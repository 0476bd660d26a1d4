/-! ===== the reference, seventh methods (laid by program) ===== -/
def pt3 (A : MA) (B : MB) (u t w a : Nat) (z : Int32) : OR := if mtA A u t w then (prL (ptA A u t w a) (lnA A u t w) z, A, B) else (lF 2, A, fnd B 2)
def op_point (A : MA) (B : MB) (t k j e1 ax z : Int32) : OR := if twA A t k j then (if rg (nI 0) (nI 2) ax then (if A 9 (atA t k) = nI 2 then (lF 3, A, fnd B 3) else (if e1 = 0 then pt3 A B (atA t k) (atA t j) 0 ax.toNatClampNeg z else pt3 A B (atA t k) (atA t j) 1 ax.toNatClampNeg z)) else (lF 1, A, fnd B 1)) else (lF 1, A, fnd B 1)
def la3 (A : MA) (B : MB) (u t a : Nat) (z : Int32) : OR := (prL (ptA A u t 0 a * faA A u t 2 - ptA A u t 0 2 * faA A u t a) (lnA A u t 0 * faA A u t 2) z, A, B)
def op_land (A : MA) (B : MB) (t k j e1 z : Int32) : OR := if twA A t k j then (if A 9 (atA t k) = nI 2 then (lF 3, A, fnd B 3) else (if mtA A (atA t k) (atA t j) 0 then (if faA A (atA t k) (atA t j) 2 = 0 then (lF 2, A, fnd B 2) else (if e1 = 0 then la3 A B (atA t k) (atA t j) 0 z else la3 A B (atA t k) (atA t j) 1 z)) else (lF 2, A, fnd B 2))) else (lF 1, A, fnd B 1)
theorem l_mul0 {u v : Int64} {a b : Nat} (hu : lA u ≤ a) (hv : lA v ≤ b) (h : a * b < 2 ^ 63) (h1 : ¬ u = 0) (h2 : ¬ v = 0) : ¬ u * v = 0 := fun e => by
  have h3 := (bd_mul hu hv h).1
  rw [e] at h3
  have h4 : u.toInt * v.toInt = 0 := h3.symm
  rcases Int.mul_eq_zero.mp h4 with h5 | h5
  · exact h1 ((c_int64 u 0).mpr h5)
  · exact h2 ((c_int64 v 0).mpr h5)
theorem la_a {A : MA} (hwy : ∀ j, j < 216 → ib 9 (A 11 j)) (hst : ∀ j, j < 12 → ib 99 (A 7 j)) (hso : ∀ j, j < 24 → ∃ c, c < 4 ∧ A 10 j = nI c) {u t a : Nat} (hu : u < 24) (ht : t < 24) (ha : a < 3) : lA (ptA A u t 0 a * faA A u t 2 - ptA A u t 0 2 * faA A u t a) < 2 ^ 63 :=
  Nat.lt_of_le_of_lt (bd_sub (bd_mul (pt_bd hwy hst hso hu ht (by decide) ha) (fa_bd hwy hu ht) (by decide)).2 (bd_mul (pt_bd hwy hst hso hu ht (by decide) (by decide)) (fa_bd hwy hu ht) (by decide)).2 (by decide)).2 (by decide)
theorem la_b {A : MA} (hwy : ∀ j, j < 216 → ib 9 (A 11 j)) {u t : Nat} (hu : u < 24) (ht : t < 24) : lA (lnA A u t 0 * faA A u t 2) < 2 ^ 63 := Nat.lt_of_le_of_lt (bd_mul (ln_bd hwy hu ht (by decide)) (fa_bd hwy hu ht) (by decide)).2 (by decide)
theorem la_n {A : MA} (hwy : ∀ j, j < 216 → ib 9 (A 11 j)) {u t : Nat} (hu : u < 24) (ht : t < 24) (h1 : ¬ lnA A u t 0 = 0) (h2 : ¬ faA A u t 2 = 0) : ¬ lnA A u t 0 * faA A u t 2 = 0 := l_mul0 (ln_bd hwy hu ht (by decide)) (fa_bd hwy hu ht) (by decide) h1 h2
set_option maxHeartbeats 4000000 in
set_option maxRecDepth 100000 in
theorem c_X12_sight {l : Launch} {D : va_G} {cA : Nat → ClassId} {f : HF} {sz : Nat} {q : Nat → Nat} {A : MA} {B : MB} {tn : Nat} {t k u : Int32} (hm : mo cA q A B f) (hsg : ∀ j, j < 6 → ∃ c, c ≤ 4 ∧ A 8 j = nI c) (htn : A 13 0 = nI tn) (htn2 : tn ≤ 9) : Met l yX12_sight wsX12_sight ({ frames := 2, cells := 0, slots := 0, locals := 45 } : Room) (va_Pc [.ref (q 0), .int t, .int k, .int u] (hB D cA f sz)) (va_Ql (fun r f1 => (op_sight A B tn t k u).1 = r ∧ mo cA q (op_sight A B tn t k u).2.1 (op_sight A B tn t k u).2.2 f1) (hE D f sz) (hA f sz)) 0 0 (hA f sz) := by
  refine h_of (cc := cX12_sight) (maxL := 7) (ret := (some .long)) (by decide +kernel) rfl (Nat.le_of_ble_eq_true rfl) ?_
  intro p e s m below meth c ls C hr hlk hnm hw hl
  have hx := C.1.1
  have hb := C.1.2.1
  have hl : lv_has ls 7 [(0, .ref (q 0)), (1, .int t), (2, .int k), (3, .int u)] := hl
  have lk0 : Cond.constantLong RX12 91 (lF 1) ∈ wsX12_sight := by decide +kernel
  have lk1 : Cond.fieldLink RX12 167 "FallingLightModel" "taped" "I" ∈ wsX12_sight := by decide +kernel
  have lk2 : ∀ w ∈ u_ws RX12 TX12 27, w ∈ wsX12_sight := by decide +kernel
  have lk3 : Cond.fieldLink RX12 29 "FallingLightModel" "sights" "[I" ∈ wsX12_sight := by decide +kernel
  have lk4 : Cond.fieldLink RX12 32 "FallingLightModel" "kindOf" "[I" ∈ wsX12_sight := by decide +kernel
  have lk5 : Cond.fieldLink RX12 35 "FallingLightModel" "stationOf" "[I" ∈ wsX12_sight := by decide +kernel
  have lk6 : Cond.fieldLink RX12 38 "FallingLightModel" "ways" "[I" ∈ wsX12_sight := by decide +kernel
  have lk7 : Cond.fieldLink RX12 44 "FallingLightModel" "tape" "[I" ∈ wsX12_sight := by decide +kernel
  have lk8 : Cond.constantLong RX12 99 (lF 4) ∈ wsX12_sight := by decide +kernel
  have lk9 : Cond.constantLong RX12 104 (lF 5) ∈ wsX12_sight := by decide +kernel
  refine lv_iload_n hx hb dX12_sight_0 rfl (lv_at hl 1 rfl) ?_
  refine h_calli hw (h_runS (n := 1) (As := [.int t]) (rest := []) C hw c_X12_isMeteor gX12_sight_X12_isMeteor rfl rfl rfl (by decide +kernel) ⟨by decide, by decide⟩ rfl hl.1 rfl (Nat.le_of_ble_eq_true rfl) dX12_sight_1 ⟨by first | decide | omega, by first | decide | omega⟩) (fun r1 f2 H locs hp hw => ?_)
  obtain ⟨rfl, rfl⟩ := hp
  refine n_ifeqB C (tgt := 23) dX12_sight_4 (by decide) (fun cq3 => ?_) (fun cq3 => ?_)
  · refine lv_aload_n hx hb dX12_sight_23 rfl (lv_at hl 0 rfl) ?_
    refine lv_ldc2 hx hb C.1.2.2.2.1 (C.1.2.2.2.2 _ lk0) dX12_sight_24 ?_
    refine h_calll hw (h_runV (n := 1) (As := [.long (lF 1)]) (rest := []) C hw (c_X12_finding hm (by omega)) gX12_sight_X12_finding rfl rfl rfl (by decide +kernel) ⟨by decide, by decide⟩ bX12 hm.1 rfl hl.1 rfl (Nat.le_of_ble_eq_true rfl) dX12_sight_27 ⟨by first | decide | omega, by first | decide | omega⟩) (fun r4 f5 H locs hp hw => ?_)
    obtain ⟨rfl, B6, eB6, hm⟩ := hp
    exact h_lret C hr hlk hw (op_fin (by subst eB6; simp only [op_sight, if_neg cq3]; try rfl) hm) dX12_sight_30
  · obtain ⟨i, hi, rfl⟩ := inN (by decide) cq3
    obtain ⟨hA8, hc9⟩ := ctN hsg (show i < 6 by omega)
    generalize hcc : ct A i = c9 at hA8 hc9
    refine lv_iload_n hx hb dX12_sight_7 rfl (lv_at hl 2 rfl) ?_
    refine lv_iconst (v := nI 0) hx hb dX12_sight_8 (by decide) ?_
    refine lv_iconst (v := nI 2) hx hb dX12_sight_9 (by decide) ?_
    refine h_calli hw (h_runS (n := 3) (As := [.int k, .int (nI 0), .int (nI 2)]) (rest := []) C hw c_X12_in gX12_sight_X12_in rfl rfl rfl (by decide +kernel) ⟨by decide, by decide⟩ rfl hl.1 rfl (Nat.le_of_ble_eq_true rfl) dX12_sight_10 ⟨by first | decide | omega, by first | decide | omega⟩) (fun r7 f8 H locs hp hw => ?_)
    obtain ⟨rfl, rfl⟩ := hp
    refine n_ifeqB C (tgt := 23) dX12_sight_13 (by decide) (fun cq9 => ?_) (fun cq9 => ?_)
    · refine lv_aload_n hx hb dX12_sight_23 rfl (lv_at hl 0 rfl) ?_
      refine lv_ldc2 hx hb C.1.2.2.2.1 (C.1.2.2.2.2 _ lk0) dX12_sight_24 ?_
      refine h_calll hw (h_runV (n := 1) (As := [.long (lF 1)]) (rest := []) C hw (c_X12_finding hm (by omega)) gX12_sight_X12_finding rfl rfl rfl (by decide +kernel) ⟨by decide, by decide⟩ bX12 hm.1 rfl hl.1 rfl (Nat.le_of_ble_eq_true rfl) dX12_sight_27 ⟨by first | decide | omega, by first | decide | omega⟩) (fun r10 f11 H locs hp hw => ?_)
      obtain ⟨rfl, B12, eB12, hm⟩ := hp
      exact h_lret C hr hlk hw (op_fin (by subst eB12; simp only [op_sight, if_pos cq3, if_neg cq9]; try rfl) hm) dX12_sight_30
    · refine lv_iload_n hx hb dX12_sight_16 rfl (lv_at hl 3 rfl) ?_
      refine h_calli hw (h_runS (n := 1) (As := [.int u]) (rest := []) C hw c_X12_isStation gX12_sight_X12_isStation rfl rfl rfl (by decide +kernel) ⟨by decide, by decide⟩ rfl hl.1 rfl (Nat.le_of_ble_eq_true rfl) dX12_sight_17 ⟨by first | decide | omega, by first | decide | omega⟩) (fun r13 f14 H locs hp hw => ?_)
      obtain ⟨rfl, rfl⟩ := hp
      refine n_ifneB C (tgt := 31) dX12_sight_20 (by decide) (fun cq15 => ?_) (fun cq15 => ?_)
      · refine lv_aload_n hx hb dX12_sight_31 rfl (lv_at hl 0 rfl) ?_
        refine m_fld C hw hm lk2 13 (by decide) lk1 (v := .int (nI tn)) (congrArg (fun z => some (Value.int z)) htn) dX12_sight_32 ?_
        refine lv_istore (lv' := [(4, _), (0, _), (1, _), (2, _), (3, _)]) hx hb dX12_sight_35 hl (by decide) rfl (fun ls hl => ?_)
        refine lv_aload_n hx hb dX12_sight_37 rfl (lv_at hl 1 rfl) ?_
        refine lv_iconst (v := nI 0) hx hb dX12_sight_38 (by decide) ?_
        refine m_puti C hw hm lk2 13 rfl (by decide) rfl rfl lk1 dX12_sight_39 (fun A16 f17 H locs eA16 hw hm => ?_)
        have hn18 : A16 13 0 = nI 0 := by rw [eA16, va_up_self]
        refine lv_iload hx hb dX12_sight_42 (lv_at hl 0 rfl) ?_
        refine lv_iload_n hx hb dX12_sight_44 rfl (lv_at hl 3 rfl) ?_
        refine lv_iconst (v := nI 1) hx hb dX12_sight_45 (by decide) ?_
        refine lv_icmp_ne (tgt := 54) hx hb dX12_sight_46 (by decide) (fun cq19 => ?_) (fun cq19 => ?_)
        · refine lv_bipush (v := nI 6) hx hb dX12_sight_54 (by decide) ?_
          refine n_ceq C (by omega) (by omega) (tgt := 67) dX12_sight_56 (by decide) (fun cq20 => ?_) (fun cq20 => ?_)
          · obtain rfl := cq20
            refine lv_aload_n hx hb dX12_sight_67 rfl (lv_at hl 1 rfl) ?_
            refine lv_iload hx hb dX12_sight_68 (lv_at hl 0 rfl) ?_
            refine h_calli hw (h_runV (n := 1) (As := [.int (nI 6)]) (rest := []) C hw (c_X12_areWays (n3 := 2) hm (by decide)) gX12_sight_X12_areWays rfl rfl rfl (by decide +kernel) ⟨by decide, by decide⟩ bX12 hm.1 rfl hl.1 rfl (Nat.le_of_ble_eq_true rfl) dX12_sight_70 ⟨by first | decide | omega, by first | decide | omega⟩) (fun r21 f22 H locs hp hw => ?_)
            obtain ⟨rfl, rfl⟩ := hp
            refine n_ifneB C (tgt := 84) dX12_sight_73 (by decide) (fun cq23 => ?_) (fun cq23 => ?_)
            · refine lv_aload_n hx hb dX12_sight_84 rfl (lv_at hl 1 rfl) ?_
              refine m_fld C hw hm lk2 8 (by decide) lk3 (v := .ref (q 8)) rfl dX12_sight_85 ?_
              refine lv_iload_n hx hb dX12_sight_88 rfl (lv_at hl 2 rfl) ?_
              refine m_iald C hw hm 8 rfl (v := nI c9) (by rw [eA16, va_up_ne _ _ (by decide)]; exact hA8) (show i < 6 from (by omega)) dX12_sight_89 ?_
              refine lv_iconst (v := nI 4) hx hb dX12_sight_90 (by decide) ?_
              refine n_cne C (by omega) (by omega) (tgt := 102) dX12_sight_91 (by decide) (fun cq24 => ?_) (fun cq24 => ?_)
              · refine lv_iconst (v := nI 4) hx hb dX12_sight_102 (by decide) ?_
                refine lv_iload_n hx hb dX12_sight_103 rfl (lv_at hl 2 rfl) ?_
                refine n_imul C dX12_sight_104 ?_
                refine lv_aload_n hx hb dX12_sight_105 rfl (lv_at hl 1 rfl) ?_
                refine m_fld C hw hm lk2 8 (by decide) lk3 (v := .ref (q 8)) rfl dX12_sight_106 ?_
                refine lv_iload_n hx hb dX12_sight_109 rfl (lv_at hl 2 rfl) ?_
                refine m_iald C hw hm 8 rfl (v := nI c9) (by rw [eA16, va_up_ne _ _ (by decide)]; exact hA8) (show i < 6 from (by omega)) dX12_sight_110 ?_
                refine n_iadd C dX12_sight_111 ?_
                refine lv_istore (lv' := [(5, _), (4, _), (0, _), (1, _), (2, _), (3, _)]) hx hb dX12_sight_112 hl (by decide) rfl (fun ls hl => ?_)
                refine lv_aload_n hx hb dX12_sight_114 rfl (lv_at hl 2 rfl) ?_
                refine m_fld C hw hm lk2 9 (by decide) lk4 (v := .ref (q 9)) rfl dX12_sight_115 ?_
                refine lv_iload hx hb dX12_sight_118 (lv_at hl 0 rfl) ?_
                refine lv_iload_n hx hb dX12_sight_120 rfl (lv_at hl 4 rfl) ?_
                refine m_iast C hw hm 9 rfl (show 4 * i + c9 < 24 from (by omega)) dX12_sight_121 (fun A25 f26 H locs eA25 hw hm => ?_)
                have hn27 : A25 13 0 = nI 0 := by rw [eA25, va_up_ne _ _ (by decide)]; exact hn18
                refine lv_aload_n hx hb dX12_sight_122 rfl (lv_at hl 2 rfl) ?_
                refine m_fld C hw hm lk2 10 (by decide) lk5 (v := .ref (q 10)) rfl dX12_sight_123 ?_
                refine lv_iload hx hb dX12_sight_126 (lv_at hl 0 rfl) ?_
                refine lv_iload_n hx hb dX12_sight_128 rfl (lv_at hl 5 rfl) ?_
                refine m_iast C hw hm 10 rfl (show 4 * i + c9 < 24 from (by omega)) dX12_sight_129 (fun A28 f29 H locs eA28 hw hm => ?_)
                have hn30 : A28 13 0 = nI 0 := by rw [eA28, va_up_ne _ _ (by decide)]; exact hn27
                refine lv_iconst (v := nI 0) hx hb dX12_sight_130 (by decide) ?_
                refine lv_istore (lv' := [(6, _), (5, _), (4, _), (0, _), (1, _), (2, _), (3, _)]) hx hb dX12_sight_131 hl (by decide) rfl (fun ls hl => ?_)
                have lp133 : ∀ (n : Nat) (k9 : Nat) (Ak : MA) (f1 : HF) (H1 : Heap) (locs1 : List Loc) (ls1 : Array Slot), hW D (hA f sz) s.heap f1 H1 locs1 → mo cA q Ak B f1 → lv_has ls1 7 [(0, .ref (q 0)), (1, .int (nI i)), (2, .int k), (3, .int u), (4, .int (nI 6)), (5, .int (nI (4 * i + c9))), (6, .int (nI k9))] → (Ak = wyS A28 (4 * i + c9) k9) → (k9 ≤ 6) → 9 - k9 < n → W p l e ({ frames := 2, cells := 0, slots := 0, locals := 45 } : Room) s m ([.ref (q 0), .int (nI i), .int k, .int u]).toArray below meth c H1 locs1 0 0 (MQ below (va_Ql (fun r f1 => (op_sight A B 6 (nI i) k u).1 = r ∧ mo cA q (op_sight A B 6 (nI i) k u).2.1 (op_sight A B 6 (nI i) k u).2.2 f1) (hE D f sz) (hA f sz)) ([.ref (q 0), .int (nI i), .int k, .int u]).toArray s 0 0 (hA f sz)) (F0 m 133 ls1 []) := by
                  intro n
                  induction n with
                  | zero => intros; omega
                  | succ n ih133 =>
                    intro k9 Ak f1 H locs ls hw hm hl hAk hk9 hmu
                    refine lv_iload hx hb dX12_sight_133 (lv_at hl 6 rfl) ?_
                    refine lv_iload hx hb dX12_sight_135 (lv_at hl 4 rfl) ?_
                    refine n_cge C (by omega) (by omega) (tgt := 166) dX12_sight_137 (by decide) (fun cq31 => ?_) (fun cq31 => ?_)
                    · obtain rfl : k9 = 6 := by omega
                      refine lv_aload_n hx hb dX12_sight_166 rfl (lv_at hl 0 rfl) ?_
                      refine m_fld C hw hm lk2 8 (by decide) lk3 (v := .ref (q 8)) rfl dX12_sight_167 ?_
                      refine lv_iload_n hx hb dX12_sight_170 rfl (lv_at hl 1 rfl) ?_
                      refine lv_dup2_11 hx hb dX12_sight_171 rfl rfl ?_
                      refine m_iald C hw hm 8 rfl (v := nI c9) (by rw [hAk, wyS, va_up_ne _ _ (by decide), eA28, va_up_ne _ _ (by decide), eA25, va_up_ne _ _ (by decide), eA16, va_up_ne _ _ (by decide)]; exact hA8) (show i < 6 from (by omega)) dX12_sight_172 ?_
                      refine lv_iconst (v := nI 1) hx hb dX12_sight_173 (by decide) ?_
                      refine n_iadd C dX12_sight_174 ?_
                      refine m_iast C hw hm 8 rfl (show i < 6 from (by omega)) dX12_sight_175 (fun A32 f33 H locs eA32 hw hm => ?_)
                      refine lv_aload_n hx hb dX12_sight_176 rfl (lv_at hl 0 rfl) ?_
                      refine m_fld C hw hm lk2 8 (by decide) lk3 (v := .ref (q 8)) rfl dX12_sight_177 ?_
                      refine lv_iload_n hx hb dX12_sight_180 rfl (lv_at hl 1 rfl) ?_
                      refine m_iald C hw hm 8 rfl (v := nI (c9 + 1)) (by rw [eA32, va_up_self, pk_us]) (show i < 6 from (by omega)) dX12_sight_181 ?_
                      refine lv_iconst (v := nI 1) hx hb dX12_sight_182 (by decide) ?_
                      refine n_isub C (by omega) dX12_sight_183 ?_
                      refine n_i2l C (by omega) dX12_sight_184 ?_
                      exact h_lret C hr hlk hw (op_fin (by subst eA16; subst eA25; subst eA28; subst hAk; subst eA32; simp only [op_sight, if_pos cq3, if_pos cq9, if_pos cq15, if_neg cq19, if_true, nI_clamp (show i < 2 ^ 31 by omega), hcc, sg3, sgS, stS, stP, if_pos cq23, if_neg cq24]; try rfl) hm) dX12_sight_185
                    · refine lv_aload_n hx hb dX12_sight_140 rfl (lv_at hl 0 rfl) ?_
                      refine m_fld C hw hm lk2 11 (by decide) lk6 (v := .ref (q 11)) rfl dX12_sight_141 ?_
                      refine lv_bipush (v := nI 9) hx hb dX12_sight_144 (by decide) ?_
                      refine lv_iload hx hb dX12_sight_146 (lv_at hl 5 rfl) ?_
                      refine n_imul C dX12_sight_148 ?_
                      refine lv_iload hx hb dX12_sight_149 (lv_at hl 6 rfl) ?_
                      refine n_iadd C dX12_sight_151 ?_
                      refine lv_aload_n hx hb dX12_sight_152 rfl (lv_at hl 0 rfl) ?_
                      refine m_fld C hw hm lk2 14 (by decide) lk7 (v := .ref (q 14)) rfl dX12_sight_153 ?_
                      refine lv_iload hx hb dX12_sight_156 (lv_at hl 6 rfl) ?_
                      refine m_iald C hw hm 14 rfl (v := Ak 14 k9) rfl (show k9 < 9 from (by omega)) dX12_sight_158 ?_
                      refine m_iast C hw hm 11 rfl (show 9 * (4 * i + c9) + k9 < 216 from (by omega)) dX12_sight_159 (fun A34 f35 H locs eA34 hw hm => ?_)
                      refine n_iinc C (lv' := [(6, _), (0, _), (1, _), (2, _), (3, _), (4, _), (5, _)]) dX12_sight_160 hl (k := 6) rfl (by decide) rfl (fun ls hl => ?_)
                      refine lv_goto (tgt := 133) hx hb dX12_sight_163 (by decide) ?_
                      exact ih133 _ _ _ _ _ _ hw hm (lv_sub hl [1, 2, 3, 4, 5, 6, 0] rfl) (by rw [eA34, hAk]; exact wyS_s _ _ _) (by omega) (by omega)
                exact lp133 _ _ _ _ _ _ _ hw hm (lv_sub hl [3, 4, 5, 6, 2, 1, 0] rfl) (wyS_0 _ _) (by omega) (Nat.lt_succ_self _)
              · refine lv_aload_n hx hb dX12_sight_94 rfl (lv_at hl 1 rfl) ?_
                refine lv_ldc2 hx hb C.1.2.2.2.1 (C.1.2.2.2.2 _ lk8) dX12_sight_95 ?_
                refine h_calll hw (h_runV (n := 1) (As := [.long (lF 4)]) (rest := []) C hw (c_X12_finding hm (by omega)) gX12_sight_X12_finding rfl rfl rfl (by decide +kernel) ⟨by decide, by decide⟩ bX12 hm.1 rfl hl.1 rfl (Nat.le_of_ble_eq_true rfl) dX12_sight_98 ⟨by first | decide | omega, by first | decide | omega⟩) (fun r36 f37 H locs hp hw => ?_)
                obtain ⟨rfl, B38, eB38, hm⟩ := hp
                exact h_lret C hr hlk hw (op_fin (by subst eA16; subst eB38; simp only [op_sight, if_pos cq3, if_pos cq9, if_pos cq15, if_neg cq19, if_true, nI_clamp (show i < 2 ^ 31 by omega), hcc, sg3, sgS, stS, stP, if_pos cq23, if_pos cq24]; try rfl) hm) dX12_sight_101
            · refine lv_aload_n hx hb dX12_sight_76 rfl (lv_at hl 1 rfl) ?_
              refine lv_ldc2 hx hb C.1.2.2.2.1 (C.1.2.2.2.2 _ lk0) dX12_sight_77 ?_
              refine h_calll hw (h_runV (n := 1) (As := [.long (lF 1)]) (rest := []) C hw (c_X12_finding hm (by omega)) gX12_sight_X12_finding rfl rfl rfl (by decide +kernel) ⟨by decide, by decide⟩ bX12 hm.1 rfl hl.1 rfl (Nat.le_of_ble_eq_true rfl) dX12_sight_80 ⟨by first | decide | omega, by first | decide | omega⟩) (fun r39 f40 H locs hp hw => ?_)
              obtain ⟨rfl, B41, eB41, hm⟩ := hp
              exact h_lret C hr hlk hw (op_fin (by subst eA16; subst eB41; simp only [op_sight, if_pos cq3, if_pos cq9, if_pos cq15, if_neg cq19, if_true, nI_clamp (show i < 2 ^ 31 by omega), hcc, sg3, sgS, stS, stP, if_neg cq23]; try rfl) hm) dX12_sight_83
          · refine lv_aload_n hx hb dX12_sight_59 rfl (lv_at hl 1 rfl) ?_
            refine lv_ldc2 hx hb C.1.2.2.2.1 (C.1.2.2.2.2 _ lk9) dX12_sight_60 ?_
            refine h_calll hw (h_runV (n := 1) (As := [.long (lF 5)]) (rest := []) C hw (c_X12_finding hm (by omega)) gX12_sight_X12_finding rfl rfl rfl (by decide +kernel) ⟨by decide, by decide⟩ bX12 hm.1 rfl hl.1 rfl (Nat.le_of_ble_eq_true rfl) dX12_sight_63 ⟨by first | decide | omega, by first | decide | omega⟩) (fun r42 f43 H locs hp hw => ?_)
            obtain ⟨rfl, B44, eB44, hm⟩ := hp
            exact h_lret C hr hlk hw (op_fin (by subst eA16; subst eB44; simp only [op_sight, if_pos cq3, if_pos cq9, if_pos cq15, if_neg cq19, if_neg cq20, nI_clamp (show i < 2 ^ 31 by omega), hcc]; try rfl) hm) dX12_sight_66
        · refine lv_bipush (v := nI 9) hx hb dX12_sight_49 (by decide) ?_
          refine lv_goto (tgt := 56) hx hb dX12_sight_51 (by decide) ?_
          refine n_ceq C (by omega) (by omega) (tgt := 67) dX12_sight_56 (by decide) (fun cq45 => ?_) (fun cq45 => ?_)
          · obtain rfl := cq45
            refine lv_aload_n hx hb dX12_sight_67 rfl (lv_at hl 1 rfl) ?_
            refine lv_iload hx hb dX12_sight_68 (lv_at hl 0 rfl) ?_
            refine h_calli hw (h_runV (n := 1) (As := [.int (nI 9)]) (rest := []) C hw (c_X12_areWays (n3 := 3) hm (by decide)) gX12_sight_X12_areWays rfl rfl rfl (by decide +kernel) ⟨by decide, by decide⟩ bX12 hm.1 rfl hl.1 rfl (Nat.le_of_ble_eq_true rfl) dX12_sight_70 ⟨by first | decide | omega, by first | decide | omega⟩) (fun r46 f47 H locs hp hw => ?_)
            obtain ⟨rfl, rfl⟩ := hp
            refine n_ifneB C (tgt := 84) dX12_sight_73 (by decide) (fun cq48 => ?_) (fun cq48 => ?_)
            · refine lv_aload_n hx hb dX12_sight_84 rfl (lv_at hl 1 rfl) ?_
              refine m_fld C hw hm lk2 8 (by decide) lk3 (v := .ref (q 8)) rfl dX12_sight_85 ?_
              refine lv_iload_n hx hb dX12_sight_88 rfl (lv_at hl 2 rfl) ?_
              refine m_iald C hw hm 8 rfl (v := nI c9) (by rw [eA16, va_up_ne _ _ (by decide)]; exact hA8) (show i < 6 from (by omega)) dX12_sight_89 ?_
              refine lv_iconst (v := nI 4) hx hb dX12_sight_90 (by decide) ?_
              refine n_cne C (by omega) (by omega) (tgt := 102) dX12_sight_91 (by decide) (fun cq49 => ?_) (fun cq49 => ?_)
              · refine lv_iconst (v := nI 4) hx hb dX12_sight_102 (by decide) ?_
                refine lv_iload_n hx hb dX12_sight_103 rfl (lv_at hl 2 rfl) ?_
                refine n_imul C dX12_sight_104 ?_
                refine lv_aload_n hx hb dX12_sight_105 rfl (lv_at hl 1 rfl) ?_
                refine m_fld C hw hm lk2 8 (by decide) lk3 (v := .ref (q 8)) rfl dX12_sight_106 ?_
                refine lv_iload_n hx hb dX12_sight_109 rfl (lv_at hl 2 rfl) ?_
                refine m_iald C hw hm 8 rfl (v := nI c9) (by rw [eA16, va_up_ne _ _ (by decide)]; exact hA8) (show i < 6 from (by omega)) dX12_sight_110 ?_
                refine n_iadd C dX12_sight_111 ?_
                refine lv_istore (lv' := [(5, _), (4, _), (0, _), (1, _), (2, _), (3, _)]) hx hb dX12_sight_112 hl (by decide) rfl (fun ls hl => ?_)
                refine lv_aload_n hx hb dX12_sight_114 rfl (lv_at hl 2 rfl) ?_
                refine m_fld C hw hm lk2 9 (by decide) lk4 (v := .ref (q 9)) rfl dX12_sight_115 ?_
                refine lv_iload hx hb dX12_sight_118 (lv_at hl 0 rfl) ?_
                refine lv_iload_n hx hb dX12_sight_120 rfl (lv_at hl 4 rfl) ?_
                refine m_iast C hw hm 9 rfl (show 4 * i + c9 < 24 from (by omega)) dX12_sight_121 (fun A50 f51 H locs eA50 hw hm => ?_)
                have hn52 : A50 13 0 = nI 0 := by rw [eA50, va_up_ne _ _ (by decide)]; exact hn18
                refine lv_aload_n hx hb dX12_sight_122 rfl (lv_at hl 2 rfl) ?_
                refine m_fld C hw hm lk2 10 (by decide) lk5 (v := .ref (q 10)) rfl dX12_sight_123 ?_
                refine lv_iload hx hb dX12_sight_126 (lv_at hl 0 rfl) ?_
                refine lv_iload_n hx hb dX12_sight_128 rfl (lv_at hl 5 rfl) ?_
                refine m_iast C hw hm 10 rfl (show 4 * i + c9 < 24 from (by omega)) dX12_sight_129 (fun A53 f54 H locs eA53 hw hm => ?_)
                have hn55 : A53 13 0 = nI 0 := by rw [eA53, va_up_ne _ _ (by decide)]; exact hn52
                refine lv_iconst (v := nI 0) hx hb dX12_sight_130 (by decide) ?_
                refine lv_istore (lv' := [(6, _), (5, _), (4, _), (0, _), (1, _), (2, _), (3, _)]) hx hb dX12_sight_131 hl (by decide) rfl (fun ls hl => ?_)
                have lp133 : ∀ (n : Nat) (k9 : Nat) (Ak : MA) (f1 : HF) (H1 : Heap) (locs1 : List Loc) (ls1 : Array Slot), hW D (hA f sz) s.heap f1 H1 locs1 → mo cA q Ak B f1 → lv_has ls1 7 [(0, .ref (q 0)), (1, .int (nI i)), (2, .int k), (3, .int u), (4, .int (nI 9)), (5, .int (nI (4 * i + c9))), (6, .int (nI k9))] → (Ak = wyS A53 (4 * i + c9) k9) → (k9 ≤ 9) → 9 - k9 < n → W p l e ({ frames := 2, cells := 0, slots := 0, locals := 45 } : Room) s m ([.ref (q 0), .int (nI i), .int k, .int u]).toArray below meth c H1 locs1 0 0 (MQ below (va_Ql (fun r f1 => (op_sight A B 9 (nI i) k u).1 = r ∧ mo cA q (op_sight A B 9 (nI i) k u).2.1 (op_sight A B 9 (nI i) k u).2.2 f1) (hE D f sz) (hA f sz)) ([.ref (q 0), .int (nI i), .int k, .int u]).toArray s 0 0 (hA f sz)) (F0 m 133 ls1 []) := by
                  intro n
                  induction n with
                  | zero => intros; omega
                  | succ n ih133 =>
                    intro k9 Ak f1 H locs ls hw hm hl hAk hk9 hmu
                    refine lv_iload hx hb dX12_sight_133 (lv_at hl 6 rfl) ?_
                    refine lv_iload hx hb dX12_sight_135 (lv_at hl 4 rfl) ?_
                    refine n_cge C (by omega) (by omega) (tgt := 166) dX12_sight_137 (by decide) (fun cq56 => ?_) (fun cq56 => ?_)
                    · obtain rfl : k9 = 9 := by omega
                      refine lv_aload_n hx hb dX12_sight_166 rfl (lv_at hl 0 rfl) ?_
                      refine m_fld C hw hm lk2 8 (by decide) lk3 (v := .ref (q 8)) rfl dX12_sight_167 ?_
                      refine lv_iload_n hx hb dX12_sight_170 rfl (lv_at hl 1 rfl) ?_
                      refine lv_dup2_11 hx hb dX12_sight_171 rfl rfl ?_
                      refine m_iald C hw hm 8 rfl (v := nI c9) (by rw [hAk, wyS, va_up_ne _ _ (by decide), eA53, va_up_ne _ _ (by decide), eA50, va_up_ne _ _ (by decide), eA16, va_up_ne _ _ (by decide)]; exact hA8) (show i < 6 from (by omega)) dX12_sight_172 ?_
                      refine lv_iconst (v := nI 1) hx hb dX12_sight_173 (by decide) ?_
                      refine n_iadd C dX12_sight_174 ?_
                      refine m_iast C hw hm 8 rfl (show i < 6 from (by omega)) dX12_sight_175 (fun A57 f58 H locs eA57 hw hm => ?_)
                      refine lv_aload_n hx hb dX12_sight_176 rfl (lv_at hl 0 rfl) ?_
                      refine m_fld C hw hm lk2 8 (by decide) lk3 (v := .ref (q 8)) rfl dX12_sight_177 ?_
                      refine lv_iload_n hx hb dX12_sight_180 rfl (lv_at hl 1 rfl) ?_
                      refine m_iald C hw hm 8 rfl (v := nI (c9 + 1)) (by rw [eA57, va_up_self, pk_us]) (show i < 6 from (by omega)) dX12_sight_181 ?_
                      refine lv_iconst (v := nI 1) hx hb dX12_sight_182 (by decide) ?_
                      refine n_isub C (by omega) dX12_sight_183 ?_
                      refine n_i2l C (by omega) dX12_sight_184 ?_
                      exact h_lret C hr hlk hw (op_fin (by subst eA16; subst eA50; subst eA53; subst hAk; subst eA57; simp only [op_sight, if_pos cq3, if_pos cq9, if_pos cq15, if_pos cq19, if_true, nI_clamp (show i < 2 ^ 31 by omega), hcc, sg3, sgS, stS, stP, if_pos cq48, if_neg cq49]; try rfl) hm) dX12_sight_185
                    · refine lv_aload_n hx hb dX12_sight_140 rfl (lv_at hl 0 rfl) ?_
                      refine m_fld C hw hm lk2 11 (by decide) lk6 (v := .ref (q 11)) rfl dX12_sight_141 ?_
                      refine lv_bipush (v := nI 9) hx hb dX12_sight_144 (by decide) ?_
                      refine lv_iload hx hb dX12_sight_146 (lv_at hl 5 rfl) ?_
                      refine n_imul C dX12_sight_148 ?_
                      refine lv_iload hx hb dX12_sight_149 (lv_at hl 6 rfl) ?_
                      refine n_iadd C dX12_sight_151 ?_
                      refine lv_aload_n hx hb dX12_sight_152 rfl (lv_at hl 0 rfl) ?_
                      refine m_fld C hw hm lk2 14 (by decide) lk7 (v := .ref (q 14)) rfl dX12_sight_153 ?_
                      refine lv_iload hx hb dX12_sight_156 (lv_at hl 6 rfl) ?_
                      refine m_iald C hw hm 14 rfl (v := Ak 14 k9) rfl (show k9 < 9 from (by omega)) dX12_sight_158 ?_
                      refine m_iast C hw hm 11 rfl (show 9 * (4 * i + c9) + k9 < 216 from (by omega)) dX12_sight_159 (fun A59 f60 H locs eA59 hw hm => ?_)
                      refine n_iinc C (lv' := [(6, _), (0, _), (1, _), (2, _), (3, _), (4, _), (5, _)]) dX12_sight_160 hl (k := 6) rfl (by decide) rfl (fun ls hl => ?_)
                      refine lv_goto (tgt := 133) hx hb dX12_sight_163 (by decide) ?_
                      exact ih133 _ _ _ _ _ _ hw hm (lv_sub hl [1, 2, 3, 4, 5, 6, 0] rfl) (by rw [eA59, hAk]; exact wyS_s _ _ _) (by omega) (by omega)
                exact lp133 _ _ _ _ _ _ _ hw hm (lv_sub hl [3, 4, 5, 6, 2, 1, 0] rfl) (wyS_0 _ _) (by omega) (Nat.lt_succ_self _)
              · refine lv_aload_n hx hb dX12_sight_94 rfl (lv_at hl 1 rfl) ?_
                refine lv_ldc2 hx hb C.1.2.2.2.1 (C.1.2.2.2.2 _ lk8) dX12_sight_95 ?_
                refine h_calll hw (h_runV (n := 1) (As := [.long (lF 4)]) (rest := []) C hw (c_X12_finding hm (by omega)) gX12_sight_X12_finding rfl rfl rfl (by decide +kernel) ⟨by decide, by decide⟩ bX12 hm.1 rfl hl.1 rfl (Nat.le_of_ble_eq_true rfl) dX12_sight_98 ⟨by first | decide | omega, by first | decide | omega⟩) (fun r61 f62 H locs hp hw => ?_)
                obtain ⟨rfl, B63, eB63, hm⟩ := hp
                exact h_lret C hr hlk hw (op_fin (by subst eA16; subst eB63; simp only [op_sight, if_pos cq3, if_pos cq9, if_pos cq15, if_pos cq19, if_true, nI_clamp (show i < 2 ^ 31 by omega), hcc, sg3, sgS, stS, stP, if_pos cq48, if_pos cq49]; try rfl) hm) dX12_sight_101
            · refine lv_aload_n hx hb dX12_sight_76 rfl (lv_at hl 1 rfl) ?_
              refine lv_ldc2 hx hb C.1.2.2.2.1 (C.1.2.2.2.2 _ lk0) dX12_sight_77 ?_
              refine h_calll hw (h_runV (n := 1) (As := [.long (lF 1)]) (rest := []) C hw (c_X12_finding hm (by omega)) gX12_sight_X12_finding rfl rfl rfl (by decide +kernel) ⟨by decide, by decide⟩ bX12 hm.1 rfl hl.1 rfl (Nat.le_of_ble_eq_true rfl) dX12_sight_80 ⟨by first | decide | omega, by first | decide | omega⟩) (fun r64 f65 H locs hp hw => ?_)
              obtain ⟨rfl, B66, eB66, hm⟩ := hp
              exact h_lret C hr hlk hw (op_fin (by subst eA16; subst eB66; simp only [op_sight, if_pos cq3, if_pos cq9, if_pos cq15, if_pos cq19, if_true, nI_clamp (show i < 2 ^ 31 by omega), hcc, sg3, sgS, stS, stP, if_neg cq48]; try rfl) hm) dX12_sight_83
          · refine lv_aload_n hx hb dX12_sight_59 rfl (lv_at hl 1 rfl) ?_
            refine lv_ldc2 hx hb C.1.2.2.2.1 (C.1.2.2.2.2 _ lk9) dX12_sight_60 ?_
            refine h_calll hw (h_runV (n := 1) (As := [.long (lF 5)]) (rest := []) C hw (c_X12_finding hm (by omega)) gX12_sight_X12_finding rfl rfl rfl (by decide +kernel) ⟨by decide, by decide⟩ bX12 hm.1 rfl hl.1 rfl (Nat.le_of_ble_eq_true rfl) dX12_sight_63 ⟨by first | decide | omega, by first | decide | omega⟩) (fun r67 f68 H locs hp hw => ?_)
            obtain ⟨rfl, B69, eB69, hm⟩ := hp
            exact h_lret C hr hlk hw (op_fin (by subst eA16; subst eB69; simp only [op_sight, if_pos cq3, if_pos cq9, if_pos cq15, if_pos cq19, if_neg cq45, nI_clamp (show i < 2 ^ 31 by omega), hcc]; try rfl) hm) dX12_sight_66
      · refine lv_aload_n hx hb dX12_sight_23 rfl (lv_at hl 0 rfl) ?_
        refine lv_ldc2 hx hb C.1.2.2.2.1 (C.1.2.2.2.2 _ lk0) dX12_sight_24 ?_
        refine h_calll hw (h_runV (n := 1) (As := [.long (lF 1)]) (rest := []) C hw (c_X12_finding hm (by omega)) gX12_sight_X12_finding rfl rfl rfl (by decide +kernel) ⟨by decide, by decide⟩ bX12 hm.1 rfl hl.1 rfl (Nat.le_of_ble_eq_true rfl) dX12_sight_27 ⟨by first | decide | omega, by first | decide | omega⟩) (fun r70 f71 H locs hp hw => ?_)
        obtain ⟨rfl, B72, eB72, hm⟩ := hp
        exact h_lret C hr hlk hw (op_fin (by subst eB72; simp only [op_sight, if_pos cq3, if_pos cq9, if_neg cq15]; try rfl) hm) dX12_sight_30
set_option maxHeartbeats 4000000 in
set_option maxRecDepth 100000 in
theorem c_X12_point {l : Launch} {D : va_G} {cA : Nat → ClassId} {f : HF} {sz : Nat} {q : Nat → Nat} {A : MA} {B : MB} {t k k2 e1 ax z : Int32} (hm : mo cA q A B f) (hsg : ∀ j, j < 6 → ∃ c, c ≤ 4 ∧ A 8 j = nI c) (hwy : ∀ j, j < 216 → ib 9 (A 11 j)) (hst : ∀ j, j < 12 → ib 99 (A 7 j)) (hso : ∀ j, j < 24 → ∃ c, c < 4 ∧ A 10 j = nI c) : Met l yX12_point wsX12_point ({ frames := 4, cells := 0, slots := 0, locals := 94 } : Room) (va_Pc [.ref (q 0), .int t, .int k, .int k2, .int e1, .int ax, .int z] (hB D cA f sz)) (va_Ql (fun r f1 => (op_point A B t k k2 e1 ax z).1 = r ∧ ∃ A1 B1, mo cA q A1 B1 f1 ∧ veq (op_point A B t k k2 e1 ax z).2.1 (op_point A B t k k2 e1 ax z).2.2 A1 B1) (hE D f sz) (hA f sz)) 0 0 (hA f sz) := by
  refine h_of (cc := cX12_point) (maxL := 8) (ret := (some .long)) (by decide +kernel) rfl (Nat.le_of_ble_eq_true rfl) ?_
  intro p e s m below meth c ls C hr hlk hnm hw hl
  have hx := C.1.1
  have hb := C.1.2.1
  have hl : lv_has ls 8 [(0, .ref (q 0)), (1, .int t), (2, .int k), (3, .int k2), (4, .int e1), (5, .int ax), (6, .int z)] := hl
  have lk0 : Cond.constantLong RX12 91 (lF 1) ∈ wsX12_point := by decide +kernel
  have lk1 : Cond.fieldLink RX12 32 "FallingLightModel" "kindOf" "[I" ∈ wsX12_point := by decide +kernel
  have lk2 : ∀ w ∈ u_ws RX12 TX12 27, w ∈ wsX12_point := by decide +kernel
  have lk3 : Cond.constantLong RX12 106 (lF 2) ∈ wsX12_point := by decide +kernel
  have lk4 : Cond.fieldLink RX12 72 "FallingLightModel" "point" "[J" ∈ wsX12_point := by decide +kernel
  have lk5 : Cond.fieldLink RX12 188 "FallingLightModel" "line" "J" ∈ wsX12_point := by decide +kernel
  have lk6 : Cond.constantLong RX12 183 (lF 3) ∈ wsX12_point := by decide +kernel
  refine lv_aload_n hx hb dX12_point_0 rfl (lv_at hl 0 rfl) ?_
  refine lv_iload_n hx hb dX12_point_1 rfl (lv_at hl 1 rfl) ?_
  refine lv_iload_n hx hb dX12_point_2 rfl (lv_at hl 2 rfl) ?_
  refine lv_iload_n hx hb dX12_point_3 rfl (lv_at hl 3 rfl) ?_
  refine h_calli hw (h_runV (n := 3) (As := [.int t, .int k, .int k2]) (rest := []) C hw (c_X12_areTwo hm) gX12_point_X12_areTwo rfl rfl rfl (by decide +kernel) ⟨by decide, by decide⟩ bX12 hm.1 rfl hl.1 rfl (Nat.le_of_ble_eq_true rfl) dX12_point_4 ⟨by first | decide | omega, by first | decide | omega⟩) (fun r1 f2 H locs hp hw => ?_)
  obtain ⟨rfl, rfl⟩ := hp
  refine n_ifeqB C (tgt := 20) dX12_point_7 (by decide) (fun cq3 => ?_) (fun cq3 => ?_)
  · refine lv_aload_n hx hb dX12_point_20 rfl (lv_at hl 0 rfl) ?_
    refine lv_ldc2 hx hb C.1.2.2.2.1 (C.1.2.2.2.2 _ lk0) dX12_point_21 ?_
    refine h_calll hw (h_runV (n := 1) (As := [.long (lF 1)]) (rest := []) C hw (c_X12_finding hm (by omega)) gX12_point_X12_finding rfl rfl rfl (by decide +kernel) ⟨by decide, by decide⟩ bX12 hm.1 rfl hl.1 rfl (Nat.le_of_ble_eq_true rfl) dX12_point_24 ⟨by first | decide | omega, by first | decide | omega⟩) (fun r4 f5 H locs hp hw => ?_)
    obtain ⟨rfl, B6, eB6, hm⟩ := hp
    exact h_lret C hr hlk hw (op_fin2 (A0 := A) (B0 := fnd B 1) (by simp only [op_point, if_neg cq3]; try rfl) hm ⟨fun _ _ => rfl, by rw [eB6]; exact fnd_15 (rfl)⟩) dX12_point_27
  · obtain ⟨i, j, c9, hi, hj, hc9, hA8, rfl, rfl⟩ := sgN hsg cq3.1
    obtain ⟨i2, j2, c8, hi2, hj2, hc8, hA82, hti, rfl⟩ := sgN hsg cq3.2.1
    obtain rfl : i = i2 := (nI_eq (by omega) (by omega)).mp hti
    obtain rfl : c9 = c8 := (nI_eq (by omega) (by omega)).mp (hA8.symm.trans hA82)
    refine lv_iload hx hb dX12_point_10 (lv_at hl 5 rfl) ?_
    refine lv_iconst (v := nI 0) hx hb dX12_point_12 (by decide) ?_
    refine lv_iconst (v := nI 2) hx hb dX12_point_13 (by decide) ?_
    refine h_calli hw (h_runS (n := 3) (As := [.int ax, .int (nI 0), .int (nI 2)]) (rest := []) C hw c_X12_in gX12_point_X12_in rfl rfl rfl (by decide +kernel) ⟨by decide, by decide⟩ rfl hl.1 rfl (Nat.le_of_ble_eq_true rfl) dX12_point_14 ⟨by first | decide | omega, by first | decide | omega⟩) (fun r7 f8 H locs hp hw => ?_)
    obtain ⟨rfl, rfl⟩ := hp
    refine n_ifneB C (tgt := 28) dX12_point_17 (by decide) (fun cq9 => ?_) (fun cq9 => ?_)
    · obtain ⟨u, hu, rfl⟩ := inN (by decide) cq9
      refine lv_iconst (v := nI 4) hx hb dX12_point_28 (by decide) ?_
      refine lv_iload_n hx hb dX12_point_29 rfl (lv_at hl 1 rfl) ?_
      refine n_imul C dX12_point_30 ?_
      refine lv_istore (lv' := [(7, _), (0, _), (1, _), (2, _), (3, _), (4, _), (5, _), (6, _)]) hx hb dX12_point_31 hl (by decide) rfl (fun ls hl => ?_)
      refine lv_aload_n hx hb dX12_point_33 rfl (lv_at hl 1 rfl) ?_
      refine m_fld C hw hm lk2 9 (by decide) lk1 (v := .ref (q 9)) rfl dX12_point_34 ?_
      refine lv_iload hx hb dX12_point_37 (lv_at hl 0 rfl) ?_
      refine lv_iload_n hx hb dX12_point_39 rfl (lv_at hl 3 rfl) ?_
      refine n_iadd C dX12_point_40 ?_
      refine m_iald C hw hm 9 rfl (v := A 9 (4 * i + j)) rfl (show 4 * i + j < 24 from (by omega)) dX12_point_41 ?_
      refine lv_iconst (v := nI 2) hx hb dX12_point_42 (by decide) ?_
      refine lv_icmp_ne (tgt := 54) hx hb dX12_point_43 (by decide) (fun cq10 => ?_) (fun cq10 => ?_)
      · refine lv_aload_n hx hb dX12_point_54 rfl (lv_at hl 1 rfl) ?_
        refine lv_iload hx hb dX12_point_55 (lv_at hl 0 rfl) ?_
        refine lv_iload_n hx hb dX12_point_57 rfl (lv_at hl 3 rfl) ?_
        refine n_iadd C dX12_point_58 ?_
        refine lv_iload hx hb dX12_point_59 (lv_at hl 0 rfl) ?_
        refine lv_iload_n hx hb dX12_point_61 rfl (lv_at hl 4 rfl) ?_
        refine n_iadd C dX12_point_62 ?_
        refine lv_iload hx hb dX12_point_63 (lv_at hl 5 rfl) ?_
        refine lv_if_eq (tgt := 72) hx hb dX12_point_65 (by decide) (fun cq11 => ?_) (fun cq11 => ?_)
        · refine lv_iconst (v := nI 0) hx hb dX12_point_72 (by decide) ?_
          refine h_calli hw (h_runV (n := 3) (As := [.int (nI (4 * i + j)), .int (nI (4 * i + j2)), .int (nI 0)]) (rest := []) C hw (c_X12_findPoint hm (by omega) (by omega) (by omega) hso) gX12_point_X12_findPoint rfl rfl rfl (by decide +kernel) ⟨by decide, by decide⟩ bX12 hm.1 rfl hl.1 rfl (Nat.le_of_ble_eq_true rfl) dX12_point_73 ⟨by first | decide | omega, by first | decide | omega⟩) (fun r12 f13 H locs hp hw => ?_)
          obtain ⟨rfl, B14, hm, hBf, hBv⟩ := hp
          refine n_ifeqB C (tgt := 98) dX12_point_76 (by decide) (fun cq15 => ?_) (fun cq15 => ?_)
          · refine lv_aload_n hx hb dX12_point_98 rfl (lv_at hl 1 rfl) ?_
            refine lv_ldc2 hx hb C.1.2.2.2.1 (C.1.2.2.2.2 _ lk3) dX12_point_99 ?_
            refine h_calll hw (h_runV (n := 1) (As := [.long (lF 2)]) (rest := []) C hw (c_X12_finding hm (by omega)) gX12_point_X12_finding rfl rfl rfl (by decide +kernel) ⟨by decide, by decide⟩ bX12 hm.1 rfl hl.1 rfl (Nat.le_of_ble_eq_true rfl) dX12_point_102 ⟨by first | decide | omega, by first | decide | omega⟩) (fun r16 f17 H locs hp hw => ?_)
            obtain ⟨rfl, B18, eB18, hm⟩ := hp
            exact h_lret C hr hlk hw (op_fin2 (A0 := A) (B0 := fnd B 2) (by simp only [op_point, if_pos cq3, if_pos cq9, if_neg cq10, if_pos cq11, if_neg cq15, pt3, nI_clamp (show u < 2 ^ 31 by omega), atN hi (show j < 4 by omega), atN hi (show j2 < 4 by omega)]; try rfl) hm ⟨fun _ _ => rfl, by rw [eB18]; exact fnd_15 (hBf 15 (by decide) (by decide))⟩) dX12_point_105
          · obtain ⟨hln, hpt⟩ := hBv cq15
            refine lv_aload_n hx hb dX12_point_79 rfl (lv_at hl 1 rfl) ?_
            refine m_fld C hw hm lk2 25 (by decide) lk4 (v := .ref (q 25)) rfl dX12_point_80 ?_
            refine lv_iload hx hb dX12_point_83 (lv_at hl 6 rfl) ?_
            refine m_lald C hw hm 25 rfl (v := ptA A (4 * i + j) (4 * i + j2) 0 u) (hpt u (by omega)) (show u < 3 from (by omega)) dX12_point_85 ?_
            refine lv_aload_n hx hb dX12_point_86 rfl (lv_at hl 1 rfl) ?_
            refine m_fld C hw hm lk2 26 (by decide) lk5 (v := .long (lnA A (4 * i + j) (4 * i + j2) 0)) (congrArg (fun z => some (Value.long z)) hln) dX12_point_87 ?_
            refine lv_iload hx hb dX12_point_90 (lv_at hl 7 rfl) ?_
            refine h_calll hw (h_runS (n := 3) (As := [.long (ptA A (4 * i + j) (4 * i + j2) 0 u), .long (lnA A (4 * i + j) (4 * i + j2) 0), .int z]) (rest := []) C hw (c_X12_part (Nat.lt_of_le_of_lt (pt_bd hwy hst hso (by omega) (by omega) (by decide) (by omega)) (by decide)) (Nat.lt_of_le_of_lt (ln_bd hwy (by omega) (by omega) (by decide)) (by decide)) cq15.2) gX12_point_X12_part rfl rfl rfl (by decide +kernel) ⟨by decide, by decide⟩ rfl hl.1 rfl (Nat.le_of_ble_eq_true rfl) dX12_point_92 ⟨by first | decide | omega, by first | decide | omega⟩) (fun r19 f20 H locs hp hw => ?_)
            obtain ⟨rfl, rfl⟩ := hp
            refine lv_goto (tgt := 105) hx hb dX12_point_95 (by decide) ?_
            exact h_lret C hr hlk hw (op_fin2 (A0 := A) (B0 := B) (by simp only [op_point, if_pos cq3, if_pos cq9, if_neg cq10, if_pos cq11, if_pos cq15, pt3, nI_clamp (show u < 2 ^ 31 by omega), atN hi (show j < 4 by omega), atN hi (show j2 < 4 by omega)]; try rfl) hm ⟨fun _ _ => rfl, hBf 15 (by decide) (by decide)⟩) dX12_point_105
        · refine lv_iconst (v := nI 1) hx hb dX12_point_68 (by decide) ?_
          refine lv_goto (tgt := 73) hx hb dX12_point_69 (by decide) ?_
          refine h_calli hw (h_runV (n := 3) (As := [.int (nI (4 * i + j)), .int (nI (4 * i + j2)), .int (nI 1)]) (rest := []) C hw (c_X12_findPoint hm (by omega) (by omega) (by omega) hso) gX12_point_X12_findPoint rfl rfl rfl (by decide +kernel) ⟨by decide, by decide⟩ bX12 hm.1 rfl hl.1 rfl (Nat.le_of_ble_eq_true rfl) dX12_point_73 ⟨by first | decide | omega, by first | decide | omega⟩) (fun r21 f22 H locs hp hw => ?_)
          obtain ⟨rfl, B23, hm, hBf, hBv⟩ := hp
          refine n_ifeqB C (tgt := 98) dX12_point_76 (by decide) (fun cq24 => ?_) (fun cq24 => ?_)
          · refine lv_aload_n hx hb dX12_point_98 rfl (lv_at hl 1 rfl) ?_
            refine lv_ldc2 hx hb C.1.2.2.2.1 (C.1.2.2.2.2 _ lk3) dX12_point_99 ?_
            refine h_calll hw (h_runV (n := 1) (As := [.long (lF 2)]) (rest := []) C hw (c_X12_finding hm (by omega)) gX12_point_X12_finding rfl rfl rfl (by decide +kernel) ⟨by decide, by decide⟩ bX12 hm.1 rfl hl.1 rfl (Nat.le_of_ble_eq_true rfl) dX12_point_102 ⟨by first | decide | omega, by first | decide | omega⟩) (fun r25 f26 H locs hp hw => ?_)
            obtain ⟨rfl, B27, eB27, hm⟩ := hp
            exact h_lret C hr hlk hw (op_fin2 (A0 := A) (B0 := fnd B 2) (by simp only [op_point, if_pos cq3, if_pos cq9, if_neg cq10, if_neg cq11, if_neg cq24, pt3, nI_clamp (show u < 2 ^ 31 by omega), atN hi (show j < 4 by omega), atN hi (show j2 < 4 by omega)]; try rfl) hm ⟨fun _ _ => rfl, by rw [eB27]; exact fnd_15 (hBf 15 (by decide) (by decide))⟩) dX12_point_105
          · obtain ⟨hln, hpt⟩ := hBv cq24
            refine lv_aload_n hx hb dX12_point_79 rfl (lv_at hl 1 rfl) ?_
            refine m_fld C hw hm lk2 25 (by decide) lk4 (v := .ref (q 25)) rfl dX12_point_80 ?_
            refine lv_iload hx hb dX12_point_83 (lv_at hl 6 rfl) ?_
            refine m_lald C hw hm 25 rfl (v := ptA A (4 * i + j) (4 * i + j2) 1 u) (hpt u (by omega)) (show u < 3 from (by omega)) dX12_point_85 ?_
            refine lv_aload_n hx hb dX12_point_86 rfl (lv_at hl 1 rfl) ?_
            refine m_fld C hw hm lk2 26 (by decide) lk5 (v := .long (lnA A (4 * i + j) (4 * i + j2) 1)) (congrArg (fun z => some (Value.long z)) hln) dX12_point_87 ?_
            refine lv_iload hx hb dX12_point_90 (lv_at hl 7 rfl) ?_
            refine h_calll hw (h_runS (n := 3) (As := [.long (ptA A (4 * i + j) (4 * i + j2) 1 u), .long (lnA A (4 * i + j) (4 * i + j2) 1), .int z]) (rest := []) C hw (c_X12_part (Nat.lt_of_le_of_lt (pt_bd hwy hst hso (by omega) (by omega) (by decide) (by omega)) (by decide)) (Nat.lt_of_le_of_lt (ln_bd hwy (by omega) (by omega) (by decide)) (by decide)) cq24.2) gX12_point_X12_part rfl rfl rfl (by decide +kernel) ⟨by decide, by decide⟩ rfl hl.1 rfl (Nat.le_of_ble_eq_true rfl) dX12_point_92 ⟨by first | decide | omega, by first | decide | omega⟩) (fun r28 f29 H locs hp hw => ?_)
            obtain ⟨rfl, rfl⟩ := hp
            refine lv_goto (tgt := 105) hx hb dX12_point_95 (by decide) ?_
            exact h_lret C hr hlk hw (op_fin2 (A0 := A) (B0 := B) (by simp only [op_point, if_pos cq3, if_pos cq9, if_neg cq10, if_neg cq11, if_pos cq24, pt3, nI_clamp (show u < 2 ^ 31 by omega), atN hi (show j < 4 by omega), atN hi (show j2 < 4 by omega)]; try rfl) hm ⟨fun _ _ => rfl, hBf 15 (by decide) (by decide)⟩) dX12_point_105
      · refine lv_aload_n hx hb dX12_point_46 rfl (lv_at hl 1 rfl) ?_
        refine lv_ldc2 hx hb C.1.2.2.2.1 (C.1.2.2.2.2 _ lk6) dX12_point_47 ?_
        refine h_calll hw (h_runV (n := 1) (As := [.long (lF 3)]) (rest := []) C hw (c_X12_finding hm (by omega)) gX12_point_X12_finding rfl rfl rfl (by decide +kernel) ⟨by decide, by decide⟩ bX12 hm.1 rfl hl.1 rfl (Nat.le_of_ble_eq_true rfl) dX12_point_50 ⟨by first | decide | omega, by first | decide | omega⟩) (fun r30 f31 H locs hp hw => ?_)
        obtain ⟨rfl, B32, eB32, hm⟩ := hp
        exact h_lret C hr hlk hw (op_fin2 (A0 := A) (B0 := fnd B 3) (by simp only [op_point, if_pos cq3, if_pos cq9, if_pos cq10, pt3, nI_clamp (show u < 2 ^ 31 by omega), atN hi (show j < 4 by omega), atN hi (show j2 < 4 by omega)]; try rfl) hm ⟨fun _ _ => rfl, by rw [eB32]; exact fnd_15 (rfl)⟩) dX12_point_53
    · refine lv_aload_n hx hb dX12_point_20 rfl (lv_at hl 0 rfl) ?_
      refine lv_ldc2 hx hb C.1.2.2.2.1 (C.1.2.2.2.2 _ lk0) dX12_point_21 ?_
      refine h_calll hw (h_runV (n := 1) (As := [.long (lF 1)]) (rest := []) C hw (c_X12_finding hm (by omega)) gX12_point_X12_finding rfl rfl rfl (by decide +kernel) ⟨by decide, by decide⟩ bX12 hm.1 rfl hl.1 rfl (Nat.le_of_ble_eq_true rfl) dX12_point_24 ⟨by first | decide | omega, by first | decide | omega⟩) (fun r33 f34 H locs hp hw => ?_)
      obtain ⟨rfl, B35, eB35, hm⟩ := hp
      exact h_lret C hr hlk hw (op_fin2 (A0 := A) (B0 := fnd B 1) (by simp only [op_point, if_pos cq3, if_neg cq9, atN hi (show j < 4 by omega), atN hi (show j2 < 4 by omega)]; try rfl) hm ⟨fun _ _ => rfl, by rw [eB35]; exact fnd_15 (rfl)⟩) dX12_point_27
set_option maxHeartbeats 4000000 in
set_option maxRecDepth 100000 in
theorem c_X12_land {l : Launch} {D : va_G} {cA : Nat → ClassId} {f : HF} {sz : Nat} {q : Nat → Nat} {A : MA} {B : MB} {t k k2 e1 z : Int32} (hm : mo cA q A B f) (hsg : ∀ j, j < 6 → ∃ c, c ≤ 4 ∧ A 8 j = nI c) (hwy : ∀ j, j < 216 → ib 9 (A 11 j)) (hst : ∀ j, j < 12 → ib 99 (A 7 j)) (hso : ∀ j, j < 24 → ∃ c, c < 4 ∧ A 10 j = nI c) : Met l yX12_land wsX12_land ({ frames := 4, cells := 0, slots := 0, locals := 94 } : Room) (va_Pc [.ref (q 0), .int t, .int k, .int k2, .int e1, .int z] (hB D cA f sz)) (va_Ql (fun r f1 => (op_land A B t k k2 e1 z).1 = r ∧ ∃ A1 B1, mo cA q A1 B1 f1 ∧ veq (op_land A B t k k2 e1 z).2.1 (op_land A B t k k2 e1 z).2.2 A1 B1) (hE D f sz) (hA f sz)) 0 0 (hA f sz) := by
  refine h_of (cc := cX12_land) (maxL := 11) (ret := (some .long)) (by decide +kernel) rfl (Nat.le_of_ble_eq_true rfl) ?_
  intro p e s m below meth c ls C hr hlk hnm hw hl
  have hx := C.1.1
  have hb := C.1.2.1
  have hl : lv_has ls 11 [(0, .ref (q 0)), (1, .int t), (2, .int k), (3, .int k2), (4, .int e1), (5, .int z)] := hl
  have lk0 : Cond.fieldLink RX12 32 "FallingLightModel" "kindOf" "[I" ∈ wsX12_land := by decide +kernel
  have lk1 : ∀ w ∈ u_ws RX12 TX12 27, w ∈ wsX12_land := by decide +kernel
  have lk2 : Cond.constantLong RX12 106 (lF 2) ∈ wsX12_land := by decide +kernel
  have lk3 : Cond.fieldLink RX12 72 "FallingLightModel" "point" "[J" ∈ wsX12_land := by decide +kernel
  have lk4 : Cond.fieldLink RX12 188 "FallingLightModel" "line" "J" ∈ wsX12_land := by decide +kernel
  have lk5 : Cond.constantLong RX12 183 (lF 3) ∈ wsX12_land := by decide +kernel
  have lk6 : Cond.constantLong RX12 91 (lF 1) ∈ wsX12_land := by decide +kernel
  refine lv_aload_n hx hb dX12_land_0 rfl (lv_at hl 0 rfl) ?_
  refine lv_iload_n hx hb dX12_land_1 rfl (lv_at hl 1 rfl) ?_
  refine lv_iload_n hx hb dX12_land_2 rfl (lv_at hl 2 rfl) ?_
  refine lv_iload_n hx hb dX12_land_3 rfl (lv_at hl 3 rfl) ?_
  refine h_calli hw (h_runV (n := 3) (As := [.int t, .int k, .int k2]) (rest := []) C hw (c_X12_areTwo hm) gX12_land_X12_areTwo rfl rfl rfl (by decide +kernel) ⟨by decide, by decide⟩ bX12 hm.1 rfl hl.1 rfl (Nat.le_of_ble_eq_true rfl) dX12_land_4 ⟨by first | decide | omega, by first | decide | omega⟩) (fun r1 f2 H locs hp hw => ?_)
  obtain ⟨rfl, rfl⟩ := hp
  refine n_ifneB C (tgt := 18) dX12_land_7 (by decide) (fun cq3 => ?_) (fun cq3 => ?_)
  · obtain ⟨i, j, c9, hi, hj, hc9, hA8, rfl, rfl⟩ := sgN hsg cq3.1
    obtain ⟨i2, j2, c8, hi2, hj2, hc8, hA82, hti, rfl⟩ := sgN hsg cq3.2.1
    obtain rfl : i = i2 := (nI_eq (by omega) (by omega)).mp hti
    obtain rfl : c9 = c8 := (nI_eq (by omega) (by omega)).mp (hA8.symm.trans hA82)
    refine lv_iconst (v := nI 4) hx hb dX12_land_18 (by decide) ?_
    refine lv_iload_n hx hb dX12_land_19 rfl (lv_at hl 1 rfl) ?_
    refine n_imul C dX12_land_20 ?_
    refine lv_iload_n hx hb dX12_land_21 rfl (lv_at hl 2 rfl) ?_
    refine n_iadd C dX12_land_22 ?_
    refine lv_istore (lv' := [(6, _), (0, _), (1, _), (2, _), (3, _), (4, _), (5, _)]) hx hb dX12_land_23 hl (by decide) rfl (fun ls hl => ?_)
    refine lv_iconst (v := nI 4) hx hb dX12_land_25 (by decide) ?_
    refine lv_iload_n hx hb dX12_land_26 rfl (lv_at hl 2 rfl) ?_
    refine n_imul C dX12_land_27 ?_
    refine lv_iload_n hx hb dX12_land_28 rfl (lv_at hl 4 rfl) ?_
    refine n_iadd C dX12_land_29 ?_
    refine lv_istore (lv' := [(7, _), (6, _), (0, _), (1, _), (2, _), (3, _), (4, _), (5, _)]) hx hb dX12_land_30 hl (by decide) rfl (fun ls hl => ?_)
    refine lv_aload_n hx hb dX12_land_32 rfl (lv_at hl 2 rfl) ?_
    refine m_fld C hw hm lk1 9 (by decide) lk0 (v := .ref (q 9)) rfl dX12_land_33 ?_
    refine lv_iload hx hb dX12_land_36 (lv_at hl 1 rfl) ?_
    refine m_iald C hw hm 9 rfl (v := A 9 (4 * i + j)) rfl (show 4 * i + j < 24 from (by omega)) dX12_land_38 ?_
    refine lv_iconst (v := nI 2) hx hb dX12_land_39 (by decide) ?_
    refine lv_icmp_ne (tgt := 51) hx hb dX12_land_40 (by decide) (fun cq4 => ?_) (fun cq4 => ?_)
    · refine lv_aload_n hx hb dX12_land_51 rfl (lv_at hl 2 rfl) ?_
      refine lv_iload hx hb dX12_land_52 (lv_at hl 1 rfl) ?_
      refine lv_iload hx hb dX12_land_54 (lv_at hl 0 rfl) ?_
      refine lv_iconst (v := nI 0) hx hb dX12_land_56 (by decide) ?_
      refine h_calli hw (h_runV (n := 3) (As := [.int (nI (4 * i + j)), .int (nI (4 * i + j2)), .int (nI 0)]) (rest := []) C hw (c_X12_findPoint hm (by omega) (by omega) (by omega) hso) gX12_land_X12_findPoint rfl rfl rfl (by decide +kernel) ⟨by decide, by decide⟩ bX12 hm.1 rfl hl.1 rfl (Nat.le_of_ble_eq_true rfl) dX12_land_57 ⟨by first | decide | omega, by first | decide | omega⟩) (fun r5 f6 H locs hp hw => ?_)
      obtain ⟨rfl, B7, hm, hBf, hBv⟩ := hp
      refine n_ifeqB C (tgt := 77) dX12_land_60 (by decide) (fun cq8 => ?_) (fun cq8 => ?_)
      · refine lv_aload_n hx hb dX12_land_77 rfl (lv_at hl 2 rfl) ?_
        refine lv_ldc2 hx hb C.1.2.2.2.1 (C.1.2.2.2.2 _ lk2) dX12_land_78 ?_
        refine h_calll hw (h_runV (n := 1) (As := [.long (lF 2)]) (rest := []) C hw (c_X12_finding hm (by omega)) gX12_land_X12_finding rfl rfl rfl (by decide +kernel) ⟨by decide, by decide⟩ bX12 hm.1 rfl hl.1 rfl (Nat.le_of_ble_eq_true rfl) dX12_land_81 ⟨by first | decide | omega, by first | decide | omega⟩) (fun r9 f10 H locs hp hw => ?_)
        obtain ⟨rfl, B11, eB11, hm⟩ := hp
        exact h_lret C hr hlk hw (op_fin2 (A0 := A) (B0 := fnd B 2) (by simp only [op_land, if_pos cq3, if_neg cq4, if_neg cq8, la3, atN hi (show j < 4 by omega), atN hi (show j2 < 4 by omega)]; try rfl) hm ⟨fun _ _ => rfl, by rw [eB11]; exact fnd_15 (hBf 15 (by decide) (by decide))⟩) dX12_land_84
      · obtain ⟨hln, hpt⟩ := hBv cq8
        refine lv_aload_n hx hb dX12_land_63 rfl (lv_at hl 2 rfl) ?_
        refine lv_iload hx hb dX12_land_64 (lv_at hl 1 rfl) ?_
        refine lv_iload hx hb dX12_land_66 (lv_at hl 0 rfl) ?_
        refine lv_iconst (v := nI 2) hx hb dX12_land_68 (by decide) ?_
        refine h_calll hw (h_runV (n := 3) (As := [.int (nI (4 * i + j)), .int (nI (4 * i + j2)), .int (nI 2)]) (rest := []) C hw (c_X12_fallOf hm (by omega) (by omega) (by omega)) gX12_land_X12_fallOf rfl rfl rfl (by decide +kernel) ⟨by decide, by decide⟩ bX12 hm.1 rfl hl.1 rfl (Nat.le_of_ble_eq_true rfl) dX12_land_69 ⟨by first | decide | omega, by first | decide | omega⟩) (fun r12 f13 H locs hp hw => ?_)
        obtain ⟨rfl, rfl⟩ := hp
        refine lv_lconst (v := 0) hx hb dX12_land_72 (by decide) ?_
        refine W.lcmp hx hb dX12_land_73 ?_
        refine l_ifne C (tgt := 85) dX12_land_74 (by decide) (fun cq14 => ?_) (fun cq14 => ?_)
        · refine lv_iload hx hb dX12_land_85 (lv_at hl 6 rfl) ?_
          refine lv_if_eq (tgt := 94) hx hb dX12_land_87 (by decide) (fun cq15 => ?_) (fun cq15 => ?_)
          · refine lv_iconst (v := nI 0) hx hb dX12_land_94 (by decide) ?_
            refine lv_istore (lv' := [(8, _), (7, _), (6, _), (0, _), (1, _), (2, _), (3, _), (4, _), (5, _)]) hx hb dX12_land_95 hl (by decide) rfl (fun ls hl => ?_)
            refine lv_aload_n hx hb dX12_land_97 rfl (lv_at hl 3 rfl) ?_
            refine lv_iload hx hb dX12_land_98 (lv_at hl 2 rfl) ?_
            refine lv_iload hx hb dX12_land_100 (lv_at hl 1 rfl) ?_
            refine lv_iconst (v := nI 2) hx hb dX12_land_102 (by decide) ?_
            refine h_calll hw (h_runV (n := 3) (As := [.int (nI (4 * i + j)), .int (nI (4 * i + j2)), .int (nI 2)]) (rest := []) C hw (c_X12_fallOf hm (by omega) (by omega) (by omega)) gX12_land_X12_fallOf rfl rfl rfl (by decide +kernel) ⟨by decide, by decide⟩ bX12 hm.1 rfl hl.1 rfl (Nat.le_of_ble_eq_true rfl) dX12_land_103 ⟨by first | decide | omega, by first | decide | omega⟩) (fun r16 f17 H locs hp hw => ?_)
            obtain ⟨rfl, rfl⟩ := hp
            refine lv_lstore (lv' := [(9, _), (8, _), (7, _), (6, _), (0, _), (1, _), (2, _), (3, _), (4, _), (5, _)]) hx hb dX12_land_106 hl (by decide) rfl (fun ls hl => ?_)
            refine lv_aload_n hx hb dX12_land_108 rfl (lv_at hl 4 rfl) ?_
            refine m_fld C hw hm lk1 25 (by decide) lk3 (v := .ref (q 25)) rfl dX12_land_109 ?_
            refine lv_iload hx hb dX12_land_112 (lv_at hl 1 rfl) ?_
            refine m_lald C hw hm 25 rfl (v := ptA A (4 * i + j) (4 * i + j2) 0 0) (hpt 0 (by decide)) (show 0 < 3 from (by omega)) dX12_land_114 ?_
            refine lv_lload hx hb dX12_land_115 (lv_at hl 0 rfl) ?_
            refine lv_lmul hx hb dX12_land_117 ?_
            refine lv_aload_n hx hb dX12_land_118 rfl (lv_at hl 4 rfl) ?_
            refine m_fld C hw hm lk1 25 (by decide) lk3 (v := .ref (q 25)) rfl dX12_land_119 ?_
            refine lv_iconst (v := nI 2) hx hb dX12_land_122 (by decide) ?_
            refine m_lald C hw hm 25 rfl (v := ptA A (4 * i + j) (4 * i + j2) 0 2) (hpt 2 (by decide)) (show 2 < 3 from (by omega)) dX12_land_123 ?_
            refine lv_aload_n hx hb dX12_land_124 rfl (lv_at hl 4 rfl) ?_
            refine lv_iload hx hb dX12_land_125 (lv_at hl 3 rfl) ?_
            refine lv_iload hx hb dX12_land_127 (lv_at hl 2 rfl) ?_
            refine lv_iload hx hb dX12_land_129 (lv_at hl 1 rfl) ?_
            refine h_calll hw (h_runV (n := 3) (As := [.int (nI (4 * i + j)), .int (nI (4 * i + j2)), .int (nI 0)]) (rest := [.long (ptA A (4 * i + j) (4 * i + j2) 0 2), .long ((ptA A (4 * i + j) (4 * i + j2) 0 0) * (faA A (4 * i + j) (4 * i + j2) 2))]) C hw (c_X12_fallOf hm (by omega) (by omega) (by omega)) gX12_land_X12_fallOf rfl rfl rfl (by decide +kernel) ⟨by decide, by decide⟩ bX12 hm.1 rfl hl.1 rfl (Nat.le_of_ble_eq_true rfl) dX12_land_131 ⟨by first | decide | omega, by first | decide | omega⟩) (fun r18 f19 H locs hp hw => ?_)
            obtain ⟨rfl, rfl⟩ := hp
            refine lv_lmul hx hb dX12_land_134 ?_
            refine lv_lsub hx hb dX12_land_135 ?_
            refine lv_aload_n hx hb dX12_land_136 rfl (lv_at hl 4 rfl) ?_
            refine m_fld C hw hm lk1 26 (by decide) lk4 (v := .long (lnA A (4 * i + j) (4 * i + j2) 0)) (congrArg (fun z => some (Value.long z)) hln) dX12_land_137 ?_
            refine lv_lload hx hb dX12_land_140 (lv_at hl 0 rfl) ?_
            refine lv_lmul hx hb dX12_land_142 ?_
            refine lv_iload hx hb dX12_land_143 (lv_at hl 9 rfl) ?_
            refine h_calll hw (h_runS (n := 3) (As := [.long (((ptA A (4 * i + j) (4 * i + j2) 0 0) * (faA A (4 * i + j) (4 * i + j2) 2)) - ((ptA A (4 * i + j) (4 * i + j2) 0 2) * (faA A (4 * i + j) (4 * i + j2) 0))), .long ((lnA A (4 * i + j) (4 * i + j2) 0) * (faA A (4 * i + j) (4 * i + j2) 2)), .int z]) (rest := []) C hw (c_X12_part (la_a hwy hst hso (by omega) (by omega) (by decide)) (la_b hwy (by omega) (by omega)) (la_n hwy (by omega) (by omega) cq8.2 cq14)) gX12_land_X12_part rfl rfl rfl (by decide +kernel) ⟨by decide, by decide⟩ rfl hl.1 rfl (Nat.le_of_ble_eq_true rfl) dX12_land_145 ⟨by first | decide | omega, by first | decide | omega⟩) (fun r20 f21 H locs hp hw => ?_)
            obtain ⟨rfl, rfl⟩ := hp
            exact h_lret C hr hlk hw (op_fin2 (A0 := A) (B0 := B) (by simp only [op_land, if_pos cq3, if_neg cq4, if_pos cq8, if_neg cq14, if_pos cq15, la3, atN hi (show j < 4 by omega), atN hi (show j2 < 4 by omega)]; try rfl) hm ⟨fun _ _ => rfl, hBf 15 (by decide) (by decide)⟩) dX12_land_148
          · refine lv_iconst (v := nI 1) hx hb dX12_land_90 (by decide) ?_
            refine lv_goto (tgt := 95) hx hb dX12_land_91 (by decide) ?_
            refine lv_istore (lv' := [(8, _), (7, _), (6, _), (0, _), (1, _), (2, _), (3, _), (4, _), (5, _)]) hx hb dX12_land_95 hl (by decide) rfl (fun ls hl => ?_)
            refine lv_aload_n hx hb dX12_land_97 rfl (lv_at hl 3 rfl) ?_
            refine lv_iload hx hb dX12_land_98 (lv_at hl 2 rfl) ?_
            refine lv_iload hx hb dX12_land_100 (lv_at hl 1 rfl) ?_
            refine lv_iconst (v := nI 2) hx hb dX12_land_102 (by decide) ?_
            refine h_calll hw (h_runV (n := 3) (As := [.int (nI (4 * i + j)), .int (nI (4 * i + j2)), .int (nI 2)]) (rest := []) C hw (c_X12_fallOf hm (by omega) (by omega) (by omega)) gX12_land_X12_fallOf rfl rfl rfl (by decide +kernel) ⟨by decide, by decide⟩ bX12 hm.1 rfl hl.1 rfl (Nat.le_of_ble_eq_true rfl) dX12_land_103 ⟨by first | decide | omega, by first | decide | omega⟩) (fun r22 f23 H locs hp hw => ?_)
            obtain ⟨rfl, rfl⟩ := hp
            refine lv_lstore (lv' := [(9, _), (8, _), (7, _), (6, _), (0, _), (1, _), (2, _), (3, _), (4, _), (5, _)]) hx hb dX12_land_106 hl (by decide) rfl (fun ls hl => ?_)
            refine lv_aload_n hx hb dX12_land_108 rfl (lv_at hl 4 rfl) ?_
            refine m_fld C hw hm lk1 25 (by decide) lk3 (v := .ref (q 25)) rfl dX12_land_109 ?_
            refine lv_iload hx hb dX12_land_112 (lv_at hl 1 rfl) ?_
            refine m_lald C hw hm 25 rfl (v := ptA A (4 * i + j) (4 * i + j2) 0 1) (hpt 1 (by decide)) (show 1 < 3 from (by omega)) dX12_land_114 ?_
            refine lv_lload hx hb dX12_land_115 (lv_at hl 0 rfl) ?_
            refine lv_lmul hx hb dX12_land_117 ?_
            refine lv_aload_n hx hb dX12_land_118 rfl (lv_at hl 4 rfl) ?_
            refine m_fld C hw hm lk1 25 (by decide) lk3 (v := .ref (q 25)) rfl dX12_land_119 ?_
            refine lv_iconst (v := nI 2) hx hb dX12_land_122 (by decide) ?_
            refine m_lald C hw hm 25 rfl (v := ptA A (4 * i + j) (4 * i + j2) 0 2) (hpt 2 (by decide)) (show 2 < 3 from (by omega)) dX12_land_123 ?_
            refine lv_aload_n hx hb dX12_land_124 rfl (lv_at hl 4 rfl) ?_
            refine lv_iload hx hb dX12_land_125 (lv_at hl 3 rfl) ?_
            refine lv_iload hx hb dX12_land_127 (lv_at hl 2 rfl) ?_
            refine lv_iload hx hb dX12_land_129 (lv_at hl 1 rfl) ?_
            refine h_calll hw (h_runV (n := 3) (As := [.int (nI (4 * i + j)), .int (nI (4 * i + j2)), .int (nI 1)]) (rest := [.long (ptA A (4 * i + j) (4 * i + j2) 0 2), .long ((ptA A (4 * i + j) (4 * i + j2) 0 1) * (faA A (4 * i + j) (4 * i + j2) 2))]) C hw (c_X12_fallOf hm (by omega) (by omega) (by omega)) gX12_land_X12_fallOf rfl rfl rfl (by decide +kernel) ⟨by decide, by decide⟩ bX12 hm.1 rfl hl.1 rfl (Nat.le_of_ble_eq_true rfl) dX12_land_131 ⟨by first | decide | omega, by first | decide | omega⟩) (fun r24 f25 H locs hp hw => ?_)
            obtain ⟨rfl, rfl⟩ := hp
            refine lv_lmul hx hb dX12_land_134 ?_
            refine lv_lsub hx hb dX12_land_135 ?_
            refine lv_aload_n hx hb dX12_land_136 rfl (lv_at hl 4 rfl) ?_
            refine m_fld C hw hm lk1 26 (by decide) lk4 (v := .long (lnA A (4 * i + j) (4 * i + j2) 0)) (congrArg (fun z => some (Value.long z)) hln) dX12_land_137 ?_
            refine lv_lload hx hb dX12_land_140 (lv_at hl 0 rfl) ?_
            refine lv_lmul hx hb dX12_land_142 ?_
            refine lv_iload hx hb dX12_land_143 (lv_at hl 9 rfl) ?_
            refine h_calll hw (h_runS (n := 3) (As := [.long (((ptA A (4 * i + j) (4 * i + j2) 0 1) * (faA A (4 * i + j) (4 * i + j2) 2)) - ((ptA A (4 * i + j) (4 * i + j2) 0 2) * (faA A (4 * i + j) (4 * i + j2) 1))), .long ((lnA A (4 * i + j) (4 * i + j2) 0) * (faA A (4 * i + j) (4 * i + j2) 2)), .int z]) (rest := []) C hw (c_X12_part (la_a hwy hst hso (by omega) (by omega) (by decide)) (la_b hwy (by omega) (by omega)) (la_n hwy (by omega) (by omega) cq8.2 cq14)) gX12_land_X12_part rfl rfl rfl (by decide +kernel) ⟨by decide, by decide⟩ rfl hl.1 rfl (Nat.le_of_ble_eq_true rfl) dX12_land_145 ⟨by first | decide | omega, by first | decide | omega⟩) (fun r26 f27 H locs hp hw => ?_)
            obtain ⟨rfl, rfl⟩ := hp
            exact h_lret C hr hlk hw (op_fin2 (A0 := A) (B0 := B) (by simp only [op_land, if_pos cq3, if_neg cq4, if_pos cq8, if_neg cq14, if_neg cq15, la3, atN hi (show j < 4 by omega), atN hi (show j2 < 4 by omega)]; try rfl) hm ⟨fun _ _ => rfl, hBf 15 (by decide) (by decide)⟩) dX12_land_148
        · refine lv_aload_n hx hb dX12_land_77 rfl (lv_at hl 2 rfl) ?_
          refine lv_ldc2 hx hb C.1.2.2.2.1 (C.1.2.2.2.2 _ lk2) dX12_land_78 ?_
          refine h_calll hw (h_runV (n := 1) (As := [.long (lF 2)]) (rest := []) C hw (c_X12_finding hm (by omega)) gX12_land_X12_finding rfl rfl rfl (by decide +kernel) ⟨by decide, by decide⟩ bX12 hm.1 rfl hl.1 rfl (Nat.le_of_ble_eq_true rfl) dX12_land_81 ⟨by first | decide | omega, by first | decide | omega⟩) (fun r28 f29 H locs hp hw => ?_)
          obtain ⟨rfl, B30, eB30, hm⟩ := hp
          exact h_lret C hr hlk hw (op_fin2 (A0 := A) (B0 := fnd B 2) (by simp only [op_land, if_pos cq3, if_neg cq4, if_pos cq8, if_pos cq14, la3, atN hi (show j < 4 by omega), atN hi (show j2 < 4 by omega)]; try rfl) hm ⟨fun _ _ => rfl, by rw [eB30]; exact fnd_15 (hBf 15 (by decide) (by decide))⟩) dX12_land_84
    · refine lv_aload_n hx hb dX12_land_43 rfl (lv_at hl 2 rfl) ?_
      refine lv_ldc2 hx hb C.1.2.2.2.1 (C.1.2.2.2.2 _ lk5) dX12_land_44 ?_
      refine h_calll hw (h_runV (n := 1) (As := [.long (lF 3)]) (rest := []) C hw (c_X12_finding hm (by omega)) gX12_land_X12_finding rfl rfl rfl (by decide +kernel) ⟨by decide, by decide⟩ bX12 hm.1 rfl hl.1 rfl (Nat.le_of_ble_eq_true rfl) dX12_land_47 ⟨by first | decide | omega, by first | decide | omega⟩) (fun r31 f32 H locs hp hw => ?_)
      obtain ⟨rfl, B33, eB33, hm⟩ := hp
      exact h_lret C hr hlk hw (op_fin2 (A0 := A) (B0 := fnd B 3) (by simp only [op_land, if_pos cq3, if_pos cq4, la3, atN hi (show j < 4 by omega), atN hi (show j2 < 4 by omega)]; try rfl) hm ⟨fun _ _ => rfl, by rw [eB33]; exact fnd_15 (rfl)⟩) dX12_land_50
  · refine lv_aload_n hx hb dX12_land_10 rfl (lv_at hl 0 rfl) ?_
    refine lv_ldc2 hx hb C.1.2.2.2.1 (C.1.2.2.2.2 _ lk6) dX12_land_11 ?_
    refine h_calll hw (h_runV (n := 1) (As := [.long (lF 1)]) (rest := []) C hw (c_X12_finding hm (by omega)) gX12_land_X12_finding rfl rfl rfl (by decide +kernel) ⟨by decide, by decide⟩ bX12 hm.1 rfl hl.1 rfl (Nat.le_of_ble_eq_true rfl) dX12_land_14 ⟨by first | decide | omega, by first | decide | omega⟩) (fun r34 f35 H locs hp hw => ?_)
    obtain ⟨rfl, B36, eB36, hm⟩ := hp
    exact h_lret C hr hlk hw (op_fin2 (A0 := A) (B0 := fnd B 1) (by simp only [op_land, if_neg cq3, la3]; try rfl) hm ⟨fun _ _ => rfl, by rw [eB36]; exact fnd_15 (rfl)⟩) dX12_land_17
