/-! ===== the reference, sixteenth methods (laid by program) ===== -/
theorem ct_c {A A1 : MA} {a b : Nat} {u v : Int32} (h2 : A1 2 = A 2) (h3 : A1 3 = A 3) : ctA A1 a b u v = ctA A a b u v := by unfold ctA; rw [h2, h3]
theorem ib_rg {v : Int32} (h : rg (nI 0) (nI 199) v) : ib 199 v := by
  obtain ⟨i, hi, rfl⟩ := inN (by decide) h
  unfold ib
  rw [nI_toInt (by omega)]
  omega
def mo0 (A : MA) (ns nt p : Nat) : Nat := (mA A ns nt p).getD 0
def plN (A : MA) (ns nt : Nat) (t : N3) (k : Nat) (u v : Int32) : Int64 := ctA A t.2.1 t.2.2 u v * (A k (10 + mo0 A ns nt t.1)).toInt64 + ctA A t.2.2 t.1 u v * (A k (10 + mo0 A ns nt t.2.1)).toInt64 + ctA A t.1 t.2.1 u v * (A k (10 + mo0 A ns nt t.2.2)).toInt64
def plR (A : MA) (B : MB) (ns nt k : Nat) (o : Option N3) (u v z : Int32) : OR := match o with
  | some t => (prL (plN A ns nt t k u v) (crA A t.1 t.2.1 t.2.2) z, A, B)
  | none => (lF 2, A, fnd B 2)
def op_place (A : MA) (B : MB) (ns nt : Nat) (u v e1 z : Int32) : OR := if rg (nI 0) (nI 199) u then (if rg (nI 0) (nI 199) v then (if e1 = 0 then plR A B ns nt 2 (tbA A ns nt) u v z else plR A B ns nt 3 (tbA A ns nt) u v z) else (lF 1, A, fnd B 1)) else (lF 1, A, fnd B 1)
theorem op_pl_n {A : MA} {B : MB} {ns nt : Nat} {u v e1 z : Int32} (h1 : rg (nI 0) (nI 199) u) (h2 : rg (nI 0) (nI 199) v) (h : tbA A ns nt = none) : op_place A B ns nt u v e1 z = (lF 2, A, fnd B 2) := by
  unfold op_place
  rw [if_pos h1, if_pos h2, h]
  by_cases he : e1 = 0
  · rw [if_pos he]; rfl
  · rw [if_neg he]; rfl
theorem mo_s {A : MA} {ns nt p b : Nat} (h : mA A ns nt p = some b) : mo0 A ns nt p = b := by unfold mo0; rw [h]; rfl
section PB
variable {A : MA}
theorem ct_bd (hpx : ∀ j, j < 22 → ib 199 (A 2 j)) (hpy : ∀ j, j < 22 → ib 199 (A 3 j)) {a b : Nat} {u v : Int32} (ha : a < 22) (hb : b < 22) (hu : ib 199 u) (hv : ib 199 v) : lA (ctA A a b u v) ≤ 316808 :=
  (bd_sub (bd_mul (ib_sub (by decide) (hpx b hb) (hpx a ha)).1 (ib_sub (by decide) hv (hpy a ha)).1 (by decide)).2 (bd_mul (ib_sub (by decide) (hpy b hb) (hpy a ha)).1 (ib_sub (by decide) hu (hpx a ha)).1 (by decide)).2 (by decide)).2
theorem cr_bd (hpx : ∀ j, j < 22 → ib 199 (A 2 j)) (hpy : ∀ j, j < 22 → ib 199 (A 3 j)) {a b d : Nat} (ha : a < 22) (hb : b < 22) (hd : d < 22) : lA (crA A a b d) ≤ 316808 :=
  (bd_sub (bd_mul (ib_sub (by decide) (hpx b hb) (hpx a ha)).1 (ib_sub (by decide) (hpy d hd) (hpy a ha)).1 (by decide)).2 (bd_mul (ib_sub (by decide) (hpy b hb) (hpy a ha)).1 (ib_sub (by decide) (hpx d hd) (hpx a ha)).1 (by decide)).2 (by decide)).2
theorem pn_bd (hpx : ∀ j, j < 22 → ib 199 (A 2 j)) (hpy : ∀ j, j < 22 → ib 199 (A 3 j)) {a b d m0 m1 m2 k : Nat} {u v : Int32} (hk : k = 2 ∨ k = 3) (ha : a < 22) (hb : b < 22) (hd : d < 22) (h0 : m0 < 22) (h1 : m1 < 22) (h2 : m2 < 22) (hu : ib 199 u) (hv : ib 199 v) : lA (ctA A b d u v * (A k m0).toInt64 + ctA A d a u v * (A k m1).toInt64 + ctA A a b u v * (A k m2).toInt64) < 2 ^ 63 := by
  have hp : ∀ j, j < 22 → ib 199 (A k j) := by exact hk.elim (fun e => by rw [e]; exact hpx) (fun e => by rw [e]; exact hpy)
  exact Nat.lt_of_le_of_lt (bd_add (bd_add (bd_mul (ct_bd hpx hpy hb hd hu hv) (ib_l (hp _ h0)) (by decide)).2 (bd_mul (ct_bd hpx hpy hd ha hu hv) (ib_l (hp _ h1)) (by decide)).2 (by decide)).2 (bd_mul (ct_bd hpx hpy ha hb hu hv) (ib_l (hp _ h2)) (by decide)).2 (by decide)).2 (by decide)
end PB
set_option maxHeartbeats 4000000 in
set_option maxRecDepth 100000 in
theorem c_X12_place {l : Launch} {D : va_G} {cA : Nat → ClassId} {f : HF} {sz : Nat} {q : Nat → Nat} {A : MA} {B : MB} {ns nt : Nat} {u v e1 z : Int32} (hm : mo cA q A B f) (hns : A 0 0 = nI ns) (hnt : A 1 0 = nI nt) (hns2 : ns ≤ 10) (hnt2 : nt ≤ 12) (hpx : ∀ j, j < 22 → ib 199 (A 2 j)) (hpy : ∀ j, j < 22 → ib 199 (A 3 j)) : Met l yX12_place wsX12_place ({ frames := 5, cells := 0, slots := 0, locals := 122 } : Room) (va_Pc [.ref (q 0), .int u, .int v, .int e1, .int z] (hB D cA f sz)) (va_Ql (fun r f1 => (op_place A B ns nt u v e1 z).1 = r ∧ ∃ A1 B1, mo cA q A1 B1 f1 ∧ veq (op_place A B ns nt u v e1 z).2.1 (op_place A B ns nt u v e1 z).2.2 A1 B1) (hE D f sz) (hA f sz)) 0 0 (hA f sz) := by
  refine h_of (cc := cX12_place) (maxL := 16) (ret := (some .long)) (by decide +kernel) rfl (Nat.le_of_ble_eq_true rfl) ?_
  intro p e s m below meth c ls C hr hlk hnm hw hl
  have hx := C.1.1
  have hb := C.1.2.1
  have hl : lv_has ls 16 [(0, .ref (q 0)), (1, .int u), (2, .int v), (3, .int e1), (4, .int z)] := hl
  have lk0 : Cond.constantLong RX12 91 (lF 1) ∈ wsX12_place := by decide +kernel
  have lk1 : Cond.fieldLink RX12 9 "FallingLightModel" "pointX" "[I" ∈ wsX12_place := by decide +kernel
  have lk2 : ∀ w ∈ u_ws RX12 TX12 27, w ∈ wsX12_place := by decide +kernel
  have lk3 : Cond.fieldLink RX12 69 "FallingLightModel" "three" "[I" ∈ wsX12_place := by decide +kernel
  have lk4 : Cond.fieldLink RX12 13 "FallingLightModel" "pointY" "[I" ∈ wsX12_place := by decide +kernel
  have lk5 : Cond.constantLong RX12 106 (lF 2) ∈ wsX12_place := by decide +kernel
  refine lv_iload_n hx hb dX12_place_0 rfl (lv_at hl 1 rfl) ?_
  refine lv_iconst (v := nI 0) hx hb dX12_place_1 (by decide) ?_
  refine lv_sipush (v := nI 199) hx hb dX12_place_2 (by decide) ?_
  refine h_calli hw (h_runS (n := 3) (As := [.int u, .int (nI 0), .int (nI 199)]) (rest := []) C hw c_X12_in gX12_place_X12_in rfl rfl rfl (by decide +kernel) ⟨by decide, by decide⟩ rfl hl.1 rfl (Nat.le_of_ble_eq_true rfl) dX12_place_5 ⟨by first | decide | omega, by first | decide | omega⟩) (fun r1 f2 H locs hp hw => ?_)
  obtain ⟨rfl, rfl⟩ := hp
  refine n_ifeqB C (tgt := 22) dX12_place_8 (by decide) (fun cq3 => ?_) (fun cq3 => ?_)
  · refine lv_aload_n hx hb dX12_place_22 rfl (lv_at hl 0 rfl) ?_
    refine lv_ldc2 hx hb C.1.2.2.2.1 (C.1.2.2.2.2 _ lk0) dX12_place_23 ?_
    refine h_calll hw (h_runV (n := 1) (As := [.long (lF 1)]) (rest := []) C hw (c_X12_finding hm (by omega)) gX12_place_X12_finding rfl rfl rfl (by decide +kernel) ⟨by decide, by decide⟩ bX12 hm.1 rfl hl.1 rfl (Nat.le_of_ble_eq_true rfl) dX12_place_26 ⟨by first | decide | omega, by first | decide | omega⟩) (fun r4 f5 H locs hp hw => ?_)
    obtain ⟨rfl, B6, eB6, hm⟩ := hp
    exact h_lret C hr hlk hw (op_fin2 (A0 := A) (B0 := fnd B 1) (by simp only [op_place, if_neg cq3]) hm ⟨fun _ _ => rfl, by rw [eB6]; exact fnd_15 (rfl)⟩) dX12_place_29
  · refine lv_iload_n hx hb dX12_place_11 rfl (lv_at hl 2 rfl) ?_
    refine lv_iconst (v := nI 0) hx hb dX12_place_12 (by decide) ?_
    refine lv_sipush (v := nI 199) hx hb dX12_place_13 (by decide) ?_
    refine h_calli hw (h_runS (n := 3) (As := [.int v, .int (nI 0), .int (nI 199)]) (rest := []) C hw c_X12_in gX12_place_X12_in rfl rfl rfl (by decide +kernel) ⟨by decide, by decide⟩ rfl hl.1 rfl (Nat.le_of_ble_eq_true rfl) dX12_place_16 ⟨by first | decide | omega, by first | decide | omega⟩) (fun r7 f8 H locs hp hw => ?_)
    obtain ⟨rfl, rfl⟩ := hp
    refine n_ifneB C (tgt := 30) dX12_place_19 (by decide) (fun cq9 => ?_) (fun cq9 => ?_)
    · refine lv_aload_n hx hb dX12_place_30 rfl (lv_at hl 0 rfl) ?_
      refine h_calli hw (h_runV (n := 0) (As := []) (rest := []) C hw (c_X12_findTable hm hns hnt (by omega) (by omega)) gX12_place_X12_findTable rfl rfl rfl (by decide +kernel) ⟨by decide, by decide⟩ bX12 hm.1 rfl hl.1 rfl (Nat.le_of_ble_eq_true rfl) dX12_place_31 ⟨by first | decide | omega, by first | decide | omega⟩) (fun r10 f11 H locs hp hw => ?_)
      obtain ⟨rfl, A12, B13, hm, hFAA12, hFBA12, hVA12, hT3⟩ := hp
      have hn14 : A12 0 0 = nI ns := by rw [hFAA12 0 (by decide) (by decide) (by decide) (by decide) (by decide) (by decide) (by decide)]; exact hns
      have hn15 : A12 1 0 = nI nt := by rw [hFAA12 1 (by decide) (by decide) (by decide) (by decide) (by decide) (by decide) (by decide)]; exact hnt
      refine n_ifneB C (tgt := 45) dX12_place_34 (by decide) (fun cq16 => ?_) (fun cq16 => ?_)
      · obtain ⟨t, ho⟩ := Option.isSome_iff_exists.mp cq16
        obtain ⟨h30, h31, h32⟩ := hT3 t ho
        obtain ⟨hq0, hq1, hq2, hk0, hk1, hk2, hcr⟩ := tb_ok ho
        obtain ⟨m0, hm0⟩ := Option.isSome_iff_exists.mp hk0
        obtain ⟨m1, hm1⟩ := Option.isSome_iff_exists.mp hk1
        obtain ⟨m2, hm2⟩ := Option.isSome_iff_exists.mp hk2
        have hl0 := mt_lt hm0
        have hl1 := mt_lt hm1
        have hl2 := mt_lt hm2
        refine lv_iload_n hx hb dX12_place_45 rfl (lv_at hl 3 rfl) ?_
        refine lv_if_eq (tgt := 56) hx hb dX12_place_46 (by decide) (fun cq17 => ?_) (fun cq17 => ?_)
        · refine lv_aload_n hx hb dX12_place_56 rfl (lv_at hl 0 rfl) ?_
          refine m_fld C hw hm lk2 2 (by decide) lk1 (v := .ref (q 2)) rfl dX12_place_57 ?_
          refine lv_astore (lv' := [(5, _), (0, _), (1, _), (2, _), (3, _), (4, _)]) hx hb dX12_place_60 hl (by decide) rfl (fun ls hl => ?_)
          refine lv_aload_n hx hb dX12_place_62 rfl (lv_at hl 1 rfl) ?_
          refine lv_aload_n hx hb dX12_place_63 rfl (lv_at hl 1 rfl) ?_
          refine m_fld C hw hm lk2 24 (by decide) lk3 (v := .ref (q 24)) rfl dX12_place_64 ?_
          refine lv_iconst (v := nI 0) hx hb dX12_place_67 (by decide) ?_
          refine m_iald C hw hm 24 rfl (v := nI t.1) h30 (show 0 < 3 from (by omega)) dX12_place_68 ?_
          refine lv_aload_n hx hb dX12_place_69 rfl (lv_at hl 1 rfl) ?_
          refine m_fld C hw hm lk2 24 (by decide) lk3 (v := .ref (q 24)) rfl dX12_place_70 ?_
          refine lv_iconst (v := nI 1) hx hb dX12_place_73 (by decide) ?_
          refine m_iald C hw hm 24 rfl (v := nI t.2.1) h31 (show 1 < 3 from (by omega)) dX12_place_74 ?_
          refine lv_aload_n hx hb dX12_place_75 rfl (lv_at hl 1 rfl) ?_
          refine m_fld C hw hm lk2 24 (by decide) lk3 (v := .ref (q 24)) rfl dX12_place_76 ?_
          refine lv_iconst (v := nI 2) hx hb dX12_place_79 (by decide) ?_
          refine m_iald C hw hm 24 rfl (v := nI t.2.2) h32 (show 2 < 3 from (by omega)) dX12_place_80 ?_
          refine h_calll hw (h_runV (n := 3) (As := [.int (nI t.1), .int (nI t.2.1), .int (nI t.2.2)]) (rest := []) C hw (c_X12_cross hm (by omega) (by omega) (by omega)) gX12_place_X12_cross rfl rfl rfl (by decide +kernel) ⟨by decide, by decide⟩ bX12 hm.1 rfl hl.1 rfl (Nat.le_of_ble_eq_true rfl) dX12_place_81 ⟨by first | decide | omega, by first | decide | omega⟩) (fun r18 f19 H locs hp hw => ?_)
          obtain ⟨rfl, rfl⟩ := hp
          refine W.eq (g2 := F0 m 84 ls [.long (crA A t.1 t.2.1 t.2.2)]) (by rw [cr_c (hFAA12 2 (by decide) (by decide) (by decide) (by decide) (by decide) (by decide) (by decide)) (hFAA12 3 (by decide) (by decide) (by decide) (by decide) (by decide) (by decide) (by decide))]) ?_
          refine lv_lstore (lv' := [(6, _), (5, _), (0, _), (1, _), (2, _), (3, _), (4, _)]) hx hb dX12_place_84 hl (by decide) rfl (fun ls hl => ?_)
          refine lv_aload_n hx hb dX12_place_86 rfl (lv_at hl 2 rfl) ?_
          refine lv_aload_n hx hb dX12_place_87 rfl (lv_at hl 2 rfl) ?_
          refine m_fld C hw hm lk2 24 (by decide) lk3 (v := .ref (q 24)) rfl dX12_place_88 ?_
          refine lv_iconst (v := nI 1) hx hb dX12_place_91 (by decide) ?_
          refine m_iald C hw hm 24 rfl (v := nI t.2.1) h31 (show 1 < 3 from (by omega)) dX12_place_92 ?_
          refine lv_aload_n hx hb dX12_place_93 rfl (lv_at hl 2 rfl) ?_
          refine m_fld C hw hm lk2 24 (by decide) lk3 (v := .ref (q 24)) rfl dX12_place_94 ?_
          refine lv_iconst (v := nI 2) hx hb dX12_place_97 (by decide) ?_
          refine m_iald C hw hm 24 rfl (v := nI t.2.2) h32 (show 2 < 3 from (by omega)) dX12_place_98 ?_
          refine lv_iload_n hx hb dX12_place_99 rfl (lv_at hl 3 rfl) ?_
          refine lv_iload_n hx hb dX12_place_100 rfl (lv_at hl 4 rfl) ?_
          refine h_calll hw (h_runV (n := 4) (As := [.int (nI t.2.1), .int (nI t.2.2), .int u, .int v]) (rest := []) C hw (c_X12_crossTo hm (by omega) (by omega)) gX12_place_X12_crossTo rfl rfl rfl (by decide +kernel) ⟨by decide, by decide⟩ bX12 hm.1 rfl hl.1 rfl (Nat.le_of_ble_eq_true rfl) dX12_place_101 ⟨by first | decide | omega, by first | decide | omega⟩) (fun r20 f21 H locs hp hw => ?_)
          obtain ⟨rfl, rfl⟩ := hp
          refine W.eq (g2 := F0 m 104 ls [.long (ctA A t.2.1 t.2.2 u v)]) (by rw [ct_c (hFAA12 2 (by decide) (by decide) (by decide) (by decide) (by decide) (by decide) (by decide)) (hFAA12 3 (by decide) (by decide) (by decide) (by decide) (by decide) (by decide) (by decide))]) ?_
          refine lv_lstore (lv' := [(8, _), (6, _), (5, _), (0, _), (1, _), (2, _), (3, _), (4, _)]) hx hb dX12_place_104 hl (by decide) rfl (fun ls hl => ?_)
          refine lv_aload_n hx hb dX12_place_106 rfl (lv_at hl 3 rfl) ?_
          refine lv_aload_n hx hb dX12_place_107 rfl (lv_at hl 3 rfl) ?_
          refine m_fld C hw hm lk2 24 (by decide) lk3 (v := .ref (q 24)) rfl dX12_place_108 ?_
          refine lv_iconst (v := nI 2) hx hb dX12_place_111 (by decide) ?_
          refine m_iald C hw hm 24 rfl (v := nI t.2.2) h32 (show 2 < 3 from (by omega)) dX12_place_112 ?_
          refine lv_aload_n hx hb dX12_place_113 rfl (lv_at hl 3 rfl) ?_
          refine m_fld C hw hm lk2 24 (by decide) lk3 (v := .ref (q 24)) rfl dX12_place_114 ?_
          refine lv_iconst (v := nI 0) hx hb dX12_place_117 (by decide) ?_
          refine m_iald C hw hm 24 rfl (v := nI t.1) h30 (show 0 < 3 from (by omega)) dX12_place_118 ?_
          refine lv_iload_n hx hb dX12_place_119 rfl (lv_at hl 4 rfl) ?_
          refine lv_iload_n hx hb dX12_place_120 rfl (lv_at hl 5 rfl) ?_
          refine h_calll hw (h_runV (n := 4) (As := [.int (nI t.2.2), .int (nI t.1), .int u, .int v]) (rest := []) C hw (c_X12_crossTo hm (by omega) (by omega)) gX12_place_X12_crossTo rfl rfl rfl (by decide +kernel) ⟨by decide, by decide⟩ bX12 hm.1 rfl hl.1 rfl (Nat.le_of_ble_eq_true rfl) dX12_place_121 ⟨by first | decide | omega, by first | decide | omega⟩) (fun r22 f23 H locs hp hw => ?_)
          obtain ⟨rfl, rfl⟩ := hp
          refine W.eq (g2 := F0 m 124 ls [.long (ctA A t.2.2 t.1 u v)]) (by rw [ct_c (hFAA12 2 (by decide) (by decide) (by decide) (by decide) (by decide) (by decide) (by decide)) (hFAA12 3 (by decide) (by decide) (by decide) (by decide) (by decide) (by decide) (by decide))]) ?_
          refine lv_lstore (lv' := [(10, _), (8, _), (6, _), (5, _), (0, _), (1, _), (2, _), (3, _), (4, _)]) hx hb dX12_place_124 hl (by decide) rfl (fun ls hl => ?_)
          refine lv_aload_n hx hb dX12_place_126 rfl (lv_at hl 4 rfl) ?_
          refine lv_aload_n hx hb dX12_place_127 rfl (lv_at hl 4 rfl) ?_
          refine m_fld C hw hm lk2 24 (by decide) lk3 (v := .ref (q 24)) rfl dX12_place_128 ?_
          refine lv_iconst (v := nI 0) hx hb dX12_place_131 (by decide) ?_
          refine m_iald C hw hm 24 rfl (v := nI t.1) h30 (show 0 < 3 from (by omega)) dX12_place_132 ?_
          refine lv_aload_n hx hb dX12_place_133 rfl (lv_at hl 4 rfl) ?_
          refine m_fld C hw hm lk2 24 (by decide) lk3 (v := .ref (q 24)) rfl dX12_place_134 ?_
          refine lv_iconst (v := nI 1) hx hb dX12_place_137 (by decide) ?_
          refine m_iald C hw hm 24 rfl (v := nI t.2.1) h31 (show 1 < 3 from (by omega)) dX12_place_138 ?_
          refine lv_iload_n hx hb dX12_place_139 rfl (lv_at hl 5 rfl) ?_
          refine lv_iload_n hx hb dX12_place_140 rfl (lv_at hl 6 rfl) ?_
          refine h_calll hw (h_runV (n := 4) (As := [.int (nI t.1), .int (nI t.2.1), .int u, .int v]) (rest := []) C hw (c_X12_crossTo hm (by omega) (by omega)) gX12_place_X12_crossTo rfl rfl rfl (by decide +kernel) ⟨by decide, by decide⟩ bX12 hm.1 rfl hl.1 rfl (Nat.le_of_ble_eq_true rfl) dX12_place_141 ⟨by first | decide | omega, by first | decide | omega⟩) (fun r24 f25 H locs hp hw => ?_)
          obtain ⟨rfl, rfl⟩ := hp
          refine W.eq (g2 := F0 m 144 ls [.long (ctA A t.1 t.2.1 u v)]) (by rw [ct_c (hFAA12 2 (by decide) (by decide) (by decide) (by decide) (by decide) (by decide) (by decide)) (hFAA12 3 (by decide) (by decide) (by decide) (by decide) (by decide) (by decide) (by decide))]) ?_
          refine lv_lstore (lv' := [(12, _), (10, _), (8, _), (6, _), (5, _), (0, _), (1, _), (2, _), (3, _), (4, _)]) hx hb dX12_place_144 hl (by decide) rfl (fun ls hl => ?_)
          refine lv_lload hx hb dX12_place_146 (lv_at hl 2 rfl) ?_
          refine lv_aload hx hb dX12_place_148 (lv_at hl 4 rfl) ?_
          refine lv_bipush (v := nI 10) hx hb dX12_place_150 (by decide) ?_
          refine lv_aload_n hx hb dX12_place_152 rfl (lv_at hl 5 rfl) ?_
          refine lv_aload_n hx hb dX12_place_153 rfl (lv_at hl 5 rfl) ?_
          refine m_fld C hw hm lk2 24 (by decide) lk3 (v := .ref (q 24)) rfl dX12_place_154 ?_
          refine lv_iconst (v := nI 0) hx hb dX12_place_157 (by decide) ?_
          refine m_iald C hw hm 24 rfl (v := nI t.1) h30 (show 0 < 3 from (by omega)) dX12_place_158 ?_
          refine h_calli hw (h_runV (n := 1) (As := [.int (nI t.1)]) (rest := [.int (nI 10), .ref (q 2), .long (ctA A t.2.1 t.2.2 u v)]) C hw (c_X12_matchOf hm hn14 hn15 (by omega) (by omega) (by omega)) gX12_place_X12_matchOf rfl rfl rfl (by decide +kernel) ⟨by decide, by decide⟩ bX12 hm.1 rfl hl.1 rfl (Nat.le_of_ble_eq_true rfl) dX12_place_159 ⟨by first | decide | omega, by first | decide | omega⟩) (fun r26 f27 H locs hp hw => ?_)
          obtain ⟨rfl, rfl⟩ := hp
          refine W.eq (g2 := F0 m 162 ls [.int (nI m0), _, _, _]) (by rw [mt_c hVA12 hns2 hnt2 hq0, show mtF (vtA A ns nt) ns nt t.1 = some m0 from hm0]; rfl) ?_
          refine n_iadd C dX12_place_162 ?_
          refine m_iald C hw hm 2 rfl (v := A 2 (10 + m0)) (by rw [hFAA12 2 (by decide) (by decide) (by decide) (by decide) (by decide) (by decide) (by decide)]) (show 10 + m0 < 22 from (by omega)) dX12_place_163 ?_
          refine lv_i2l hx hb dX12_place_164 rfl ?_
          refine lv_lmul hx hb dX12_place_165 ?_
          refine lv_lload hx hb dX12_place_166 (lv_at hl 1 rfl) ?_
          refine lv_aload hx hb dX12_place_168 (lv_at hl 4 rfl) ?_
          refine lv_bipush (v := nI 10) hx hb dX12_place_170 (by decide) ?_
          refine lv_aload_n hx hb dX12_place_172 rfl (lv_at hl 5 rfl) ?_
          refine lv_aload_n hx hb dX12_place_173 rfl (lv_at hl 5 rfl) ?_
          refine m_fld C hw hm lk2 24 (by decide) lk3 (v := .ref (q 24)) rfl dX12_place_174 ?_
          refine lv_iconst (v := nI 1) hx hb dX12_place_177 (by decide) ?_
          refine m_iald C hw hm 24 rfl (v := nI t.2.1) h31 (show 1 < 3 from (by omega)) dX12_place_178 ?_
          refine h_calli hw (h_runV (n := 1) (As := [.int (nI t.2.1)]) (rest := [.int (nI 10), .ref (q 2), .long (ctA A t.2.2 t.1 u v), .long ((ctA A t.2.1 t.2.2 u v) * ((A 2 (10 + m0)).toInt64))]) C hw (c_X12_matchOf hm hn14 hn15 (by omega) (by omega) (by omega)) gX12_place_X12_matchOf rfl rfl rfl (by decide +kernel) ⟨by decide, by decide⟩ bX12 hm.1 rfl hl.1 rfl (Nat.le_of_ble_eq_true rfl) dX12_place_179 ⟨by first | decide | omega, by first | decide | omega⟩) (fun r28 f29 H locs hp hw => ?_)
          obtain ⟨rfl, rfl⟩ := hp
          refine W.eq (g2 := F0 m 182 ls [.int (nI m1), _, _, _, _]) (by rw [mt_c hVA12 hns2 hnt2 hq1, show mtF (vtA A ns nt) ns nt t.2.1 = some m1 from hm1]; rfl) ?_
          refine n_iadd C dX12_place_182 ?_
          refine m_iald C hw hm 2 rfl (v := A 2 (10 + m1)) (by rw [hFAA12 2 (by decide) (by decide) (by decide) (by decide) (by decide) (by decide) (by decide)]) (show 10 + m1 < 22 from (by omega)) dX12_place_183 ?_
          refine lv_i2l hx hb dX12_place_184 rfl ?_
          refine lv_lmul hx hb dX12_place_185 ?_
          refine lv_ladd hx hb dX12_place_186 ?_
          refine lv_lload hx hb dX12_place_187 (lv_at hl 0 rfl) ?_
          refine lv_aload hx hb dX12_place_189 (lv_at hl 4 rfl) ?_
          refine lv_bipush (v := nI 10) hx hb dX12_place_191 (by decide) ?_
          refine lv_aload_n hx hb dX12_place_193 rfl (lv_at hl 5 rfl) ?_
          refine lv_aload_n hx hb dX12_place_194 rfl (lv_at hl 5 rfl) ?_
          refine m_fld C hw hm lk2 24 (by decide) lk3 (v := .ref (q 24)) rfl dX12_place_195 ?_
          refine lv_iconst (v := nI 2) hx hb dX12_place_198 (by decide) ?_
          refine m_iald C hw hm 24 rfl (v := nI t.2.2) h32 (show 2 < 3 from (by omega)) dX12_place_199 ?_
          refine h_calli hw (h_runV (n := 1) (As := [.int (nI t.2.2)]) (rest := [.int (nI 10), .ref (q 2), .long (ctA A t.1 t.2.1 u v), .long (((ctA A t.2.1 t.2.2 u v) * ((A 2 (10 + m0)).toInt64)) + ((ctA A t.2.2 t.1 u v) * ((A 2 (10 + m1)).toInt64)))]) C hw (c_X12_matchOf hm hn14 hn15 (by omega) (by omega) (by omega)) gX12_place_X12_matchOf rfl rfl rfl (by decide +kernel) ⟨by decide, by decide⟩ bX12 hm.1 rfl hl.1 rfl (Nat.le_of_ble_eq_true rfl) dX12_place_200 ⟨by first | decide | omega, by first | decide | omega⟩) (fun r30 f31 H locs hp hw => ?_)
          obtain ⟨rfl, rfl⟩ := hp
          refine W.eq (g2 := F0 m 203 ls [.int (nI m2), _, _, _, _]) (by rw [mt_c hVA12 hns2 hnt2 hq2, show mtF (vtA A ns nt) ns nt t.2.2 = some m2 from hm2]; rfl) ?_
          refine n_iadd C dX12_place_203 ?_
          refine m_iald C hw hm 2 rfl (v := A 2 (10 + m2)) (by rw [hFAA12 2 (by decide) (by decide) (by decide) (by decide) (by decide) (by decide) (by decide)]) (show 10 + m2 < 22 from (by omega)) dX12_place_204 ?_
          refine lv_i2l hx hb dX12_place_205 rfl ?_
          refine lv_lmul hx hb dX12_place_206 ?_
          refine lv_ladd hx hb dX12_place_207 ?_
          refine lv_lstore (lv' := [(14, _), (12, _), (10, _), (8, _), (6, _), (5, _), (0, _), (1, _), (2, _), (3, _), (4, _)]) hx hb dX12_place_208 hl (by decide) rfl (fun ls hl => ?_)
          refine lv_lload hx hb dX12_place_210 (lv_at hl 0 rfl) ?_
          refine lv_lload hx hb dX12_place_212 (lv_at hl 4 rfl) ?_
          refine lv_iload hx hb dX12_place_214 (lv_at hl 10 rfl) ?_
          refine h_calll hw (h_runS (n := 3) (As := [.long ((((ctA A t.2.1 t.2.2 u v) * ((A 2 (10 + m0)).toInt64)) + ((ctA A t.2.2 t.1 u v) * ((A 2 (10 + m1)).toInt64))) + ((ctA A t.1 t.2.1 u v) * ((A 2 (10 + m2)).toInt64))), .long (crA A t.1 t.2.1 t.2.2), .int z]) (rest := []) C hw (c_X12_part (pn_bd hpx hpy (k := 2) (by decide) (by omega) (by omega) (by omega) (by omega) (by omega) (by omega) (ib_rg cq3) (ib_rg cq9)) (Nat.lt_of_le_of_lt (cr_bd hpx hpy (by omega) (by omega) (by omega)) (by decide)) hcr) gX12_place_X12_part rfl rfl rfl (by decide +kernel) ⟨by decide, by decide⟩ rfl hl.1 rfl (Nat.le_of_ble_eq_true rfl) dX12_place_216 ⟨by first | decide | omega, by first | decide | omega⟩) (fun r32 f33 H locs hp hw => ?_)
          obtain ⟨rfl, rfl⟩ := hp
          exact h_lret C hr hlk hw (op_fin2 (A0 := A) (B0 := B) (by simp only [op_place, if_pos cq3, if_pos cq9, if_pos cq17, plR, ho, plN, mo_s hm0, mo_s hm1, mo_s hm2]) hm ⟨fun k hk => hFAA12 k (by omega) (by omega) (by omega) (by omega) (by omega) (by omega) (by omega), hFBA12 15 (by decide) (by decide)⟩) dX12_place_219
        · refine lv_aload_n hx hb dX12_place_49 rfl (lv_at hl 0 rfl) ?_
          refine m_fld C hw hm lk2 3 (by decide) lk4 (v := .ref (q 3)) rfl dX12_place_50 ?_
          refine lv_goto (tgt := 60) hx hb dX12_place_53 (by decide) ?_
          refine lv_astore (lv' := [(5, _), (0, _), (1, _), (2, _), (3, _), (4, _)]) hx hb dX12_place_60 hl (by decide) rfl (fun ls hl => ?_)
          refine lv_aload_n hx hb dX12_place_62 rfl (lv_at hl 1 rfl) ?_
          refine lv_aload_n hx hb dX12_place_63 rfl (lv_at hl 1 rfl) ?_
          refine m_fld C hw hm lk2 24 (by decide) lk3 (v := .ref (q 24)) rfl dX12_place_64 ?_
          refine lv_iconst (v := nI 0) hx hb dX12_place_67 (by decide) ?_
          refine m_iald C hw hm 24 rfl (v := nI t.1) h30 (show 0 < 3 from (by omega)) dX12_place_68 ?_
          refine lv_aload_n hx hb dX12_place_69 rfl (lv_at hl 1 rfl) ?_
          refine m_fld C hw hm lk2 24 (by decide) lk3 (v := .ref (q 24)) rfl dX12_place_70 ?_
          refine lv_iconst (v := nI 1) hx hb dX12_place_73 (by decide) ?_
          refine m_iald C hw hm 24 rfl (v := nI t.2.1) h31 (show 1 < 3 from (by omega)) dX12_place_74 ?_
          refine lv_aload_n hx hb dX12_place_75 rfl (lv_at hl 1 rfl) ?_
          refine m_fld C hw hm lk2 24 (by decide) lk3 (v := .ref (q 24)) rfl dX12_place_76 ?_
          refine lv_iconst (v := nI 2) hx hb dX12_place_79 (by decide) ?_
          refine m_iald C hw hm 24 rfl (v := nI t.2.2) h32 (show 2 < 3 from (by omega)) dX12_place_80 ?_
          refine h_calll hw (h_runV (n := 3) (As := [.int (nI t.1), .int (nI t.2.1), .int (nI t.2.2)]) (rest := []) C hw (c_X12_cross hm (by omega) (by omega) (by omega)) gX12_place_X12_cross rfl rfl rfl (by decide +kernel) ⟨by decide, by decide⟩ bX12 hm.1 rfl hl.1 rfl (Nat.le_of_ble_eq_true rfl) dX12_place_81 ⟨by first | decide | omega, by first | decide | omega⟩) (fun r34 f35 H locs hp hw => ?_)
          obtain ⟨rfl, rfl⟩ := hp
          refine W.eq (g2 := F0 m 84 ls [.long (crA A t.1 t.2.1 t.2.2)]) (by rw [cr_c (hFAA12 2 (by decide) (by decide) (by decide) (by decide) (by decide) (by decide) (by decide)) (hFAA12 3 (by decide) (by decide) (by decide) (by decide) (by decide) (by decide) (by decide))]) ?_
          refine lv_lstore (lv' := [(6, _), (5, _), (0, _), (1, _), (2, _), (3, _), (4, _)]) hx hb dX12_place_84 hl (by decide) rfl (fun ls hl => ?_)
          refine lv_aload_n hx hb dX12_place_86 rfl (lv_at hl 2 rfl) ?_
          refine lv_aload_n hx hb dX12_place_87 rfl (lv_at hl 2 rfl) ?_
          refine m_fld C hw hm lk2 24 (by decide) lk3 (v := .ref (q 24)) rfl dX12_place_88 ?_
          refine lv_iconst (v := nI 1) hx hb dX12_place_91 (by decide) ?_
          refine m_iald C hw hm 24 rfl (v := nI t.2.1) h31 (show 1 < 3 from (by omega)) dX12_place_92 ?_
          refine lv_aload_n hx hb dX12_place_93 rfl (lv_at hl 2 rfl) ?_
          refine m_fld C hw hm lk2 24 (by decide) lk3 (v := .ref (q 24)) rfl dX12_place_94 ?_
          refine lv_iconst (v := nI 2) hx hb dX12_place_97 (by decide) ?_
          refine m_iald C hw hm 24 rfl (v := nI t.2.2) h32 (show 2 < 3 from (by omega)) dX12_place_98 ?_
          refine lv_iload_n hx hb dX12_place_99 rfl (lv_at hl 3 rfl) ?_
          refine lv_iload_n hx hb dX12_place_100 rfl (lv_at hl 4 rfl) ?_
          refine h_calll hw (h_runV (n := 4) (As := [.int (nI t.2.1), .int (nI t.2.2), .int u, .int v]) (rest := []) C hw (c_X12_crossTo hm (by omega) (by omega)) gX12_place_X12_crossTo rfl rfl rfl (by decide +kernel) ⟨by decide, by decide⟩ bX12 hm.1 rfl hl.1 rfl (Nat.le_of_ble_eq_true rfl) dX12_place_101 ⟨by first | decide | omega, by first | decide | omega⟩) (fun r36 f37 H locs hp hw => ?_)
          obtain ⟨rfl, rfl⟩ := hp
          refine W.eq (g2 := F0 m 104 ls [.long (ctA A t.2.1 t.2.2 u v)]) (by rw [ct_c (hFAA12 2 (by decide) (by decide) (by decide) (by decide) (by decide) (by decide) (by decide)) (hFAA12 3 (by decide) (by decide) (by decide) (by decide) (by decide) (by decide) (by decide))]) ?_
          refine lv_lstore (lv' := [(8, _), (6, _), (5, _), (0, _), (1, _), (2, _), (3, _), (4, _)]) hx hb dX12_place_104 hl (by decide) rfl (fun ls hl => ?_)
          refine lv_aload_n hx hb dX12_place_106 rfl (lv_at hl 3 rfl) ?_
          refine lv_aload_n hx hb dX12_place_107 rfl (lv_at hl 3 rfl) ?_
          refine m_fld C hw hm lk2 24 (by decide) lk3 (v := .ref (q 24)) rfl dX12_place_108 ?_
          refine lv_iconst (v := nI 2) hx hb dX12_place_111 (by decide) ?_
          refine m_iald C hw hm 24 rfl (v := nI t.2.2) h32 (show 2 < 3 from (by omega)) dX12_place_112 ?_
          refine lv_aload_n hx hb dX12_place_113 rfl (lv_at hl 3 rfl) ?_
          refine m_fld C hw hm lk2 24 (by decide) lk3 (v := .ref (q 24)) rfl dX12_place_114 ?_
          refine lv_iconst (v := nI 0) hx hb dX12_place_117 (by decide) ?_
          refine m_iald C hw hm 24 rfl (v := nI t.1) h30 (show 0 < 3 from (by omega)) dX12_place_118 ?_
          refine lv_iload_n hx hb dX12_place_119 rfl (lv_at hl 4 rfl) ?_
          refine lv_iload_n hx hb dX12_place_120 rfl (lv_at hl 5 rfl) ?_
          refine h_calll hw (h_runV (n := 4) (As := [.int (nI t.2.2), .int (nI t.1), .int u, .int v]) (rest := []) C hw (c_X12_crossTo hm (by omega) (by omega)) gX12_place_X12_crossTo rfl rfl rfl (by decide +kernel) ⟨by decide, by decide⟩ bX12 hm.1 rfl hl.1 rfl (Nat.le_of_ble_eq_true rfl) dX12_place_121 ⟨by first | decide | omega, by first | decide | omega⟩) (fun r38 f39 H locs hp hw => ?_)
          obtain ⟨rfl, rfl⟩ := hp
          refine W.eq (g2 := F0 m 124 ls [.long (ctA A t.2.2 t.1 u v)]) (by rw [ct_c (hFAA12 2 (by decide) (by decide) (by decide) (by decide) (by decide) (by decide) (by decide)) (hFAA12 3 (by decide) (by decide) (by decide) (by decide) (by decide) (by decide) (by decide))]) ?_
          refine lv_lstore (lv' := [(10, _), (8, _), (6, _), (5, _), (0, _), (1, _), (2, _), (3, _), (4, _)]) hx hb dX12_place_124 hl (by decide) rfl (fun ls hl => ?_)
          refine lv_aload_n hx hb dX12_place_126 rfl (lv_at hl 4 rfl) ?_
          refine lv_aload_n hx hb dX12_place_127 rfl (lv_at hl 4 rfl) ?_
          refine m_fld C hw hm lk2 24 (by decide) lk3 (v := .ref (q 24)) rfl dX12_place_128 ?_
          refine lv_iconst (v := nI 0) hx hb dX12_place_131 (by decide) ?_
          refine m_iald C hw hm 24 rfl (v := nI t.1) h30 (show 0 < 3 from (by omega)) dX12_place_132 ?_
          refine lv_aload_n hx hb dX12_place_133 rfl (lv_at hl 4 rfl) ?_
          refine m_fld C hw hm lk2 24 (by decide) lk3 (v := .ref (q 24)) rfl dX12_place_134 ?_
          refine lv_iconst (v := nI 1) hx hb dX12_place_137 (by decide) ?_
          refine m_iald C hw hm 24 rfl (v := nI t.2.1) h31 (show 1 < 3 from (by omega)) dX12_place_138 ?_
          refine lv_iload_n hx hb dX12_place_139 rfl (lv_at hl 5 rfl) ?_
          refine lv_iload_n hx hb dX12_place_140 rfl (lv_at hl 6 rfl) ?_
          refine h_calll hw (h_runV (n := 4) (As := [.int (nI t.1), .int (nI t.2.1), .int u, .int v]) (rest := []) C hw (c_X12_crossTo hm (by omega) (by omega)) gX12_place_X12_crossTo rfl rfl rfl (by decide +kernel) ⟨by decide, by decide⟩ bX12 hm.1 rfl hl.1 rfl (Nat.le_of_ble_eq_true rfl) dX12_place_141 ⟨by first | decide | omega, by first | decide | omega⟩) (fun r40 f41 H locs hp hw => ?_)
          obtain ⟨rfl, rfl⟩ := hp
          refine W.eq (g2 := F0 m 144 ls [.long (ctA A t.1 t.2.1 u v)]) (by rw [ct_c (hFAA12 2 (by decide) (by decide) (by decide) (by decide) (by decide) (by decide) (by decide)) (hFAA12 3 (by decide) (by decide) (by decide) (by decide) (by decide) (by decide) (by decide))]) ?_
          refine lv_lstore (lv' := [(12, _), (10, _), (8, _), (6, _), (5, _), (0, _), (1, _), (2, _), (3, _), (4, _)]) hx hb dX12_place_144 hl (by decide) rfl (fun ls hl => ?_)
          refine lv_lload hx hb dX12_place_146 (lv_at hl 2 rfl) ?_
          refine lv_aload hx hb dX12_place_148 (lv_at hl 4 rfl) ?_
          refine lv_bipush (v := nI 10) hx hb dX12_place_150 (by decide) ?_
          refine lv_aload_n hx hb dX12_place_152 rfl (lv_at hl 5 rfl) ?_
          refine lv_aload_n hx hb dX12_place_153 rfl (lv_at hl 5 rfl) ?_
          refine m_fld C hw hm lk2 24 (by decide) lk3 (v := .ref (q 24)) rfl dX12_place_154 ?_
          refine lv_iconst (v := nI 0) hx hb dX12_place_157 (by decide) ?_
          refine m_iald C hw hm 24 rfl (v := nI t.1) h30 (show 0 < 3 from (by omega)) dX12_place_158 ?_
          refine h_calli hw (h_runV (n := 1) (As := [.int (nI t.1)]) (rest := [.int (nI 10), .ref (q 3), .long (ctA A t.2.1 t.2.2 u v)]) C hw (c_X12_matchOf hm hn14 hn15 (by omega) (by omega) (by omega)) gX12_place_X12_matchOf rfl rfl rfl (by decide +kernel) ⟨by decide, by decide⟩ bX12 hm.1 rfl hl.1 rfl (Nat.le_of_ble_eq_true rfl) dX12_place_159 ⟨by first | decide | omega, by first | decide | omega⟩) (fun r42 f43 H locs hp hw => ?_)
          obtain ⟨rfl, rfl⟩ := hp
          refine W.eq (g2 := F0 m 162 ls [.int (nI m0), _, _, _]) (by rw [mt_c hVA12 hns2 hnt2 hq0, show mtF (vtA A ns nt) ns nt t.1 = some m0 from hm0]; rfl) ?_
          refine n_iadd C dX12_place_162 ?_
          refine m_iald C hw hm 3 rfl (v := A 3 (10 + m0)) (by rw [hFAA12 3 (by decide) (by decide) (by decide) (by decide) (by decide) (by decide) (by decide)]) (show 10 + m0 < 22 from (by omega)) dX12_place_163 ?_
          refine lv_i2l hx hb dX12_place_164 rfl ?_
          refine lv_lmul hx hb dX12_place_165 ?_
          refine lv_lload hx hb dX12_place_166 (lv_at hl 1 rfl) ?_
          refine lv_aload hx hb dX12_place_168 (lv_at hl 4 rfl) ?_
          refine lv_bipush (v := nI 10) hx hb dX12_place_170 (by decide) ?_
          refine lv_aload_n hx hb dX12_place_172 rfl (lv_at hl 5 rfl) ?_
          refine lv_aload_n hx hb dX12_place_173 rfl (lv_at hl 5 rfl) ?_
          refine m_fld C hw hm lk2 24 (by decide) lk3 (v := .ref (q 24)) rfl dX12_place_174 ?_
          refine lv_iconst (v := nI 1) hx hb dX12_place_177 (by decide) ?_
          refine m_iald C hw hm 24 rfl (v := nI t.2.1) h31 (show 1 < 3 from (by omega)) dX12_place_178 ?_
          refine h_calli hw (h_runV (n := 1) (As := [.int (nI t.2.1)]) (rest := [.int (nI 10), .ref (q 3), .long (ctA A t.2.2 t.1 u v), .long ((ctA A t.2.1 t.2.2 u v) * ((A 3 (10 + m0)).toInt64))]) C hw (c_X12_matchOf hm hn14 hn15 (by omega) (by omega) (by omega)) gX12_place_X12_matchOf rfl rfl rfl (by decide +kernel) ⟨by decide, by decide⟩ bX12 hm.1 rfl hl.1 rfl (Nat.le_of_ble_eq_true rfl) dX12_place_179 ⟨by first | decide | omega, by first | decide | omega⟩) (fun r44 f45 H locs hp hw => ?_)
          obtain ⟨rfl, rfl⟩ := hp
          refine W.eq (g2 := F0 m 182 ls [.int (nI m1), _, _, _, _]) (by rw [mt_c hVA12 hns2 hnt2 hq1, show mtF (vtA A ns nt) ns nt t.2.1 = some m1 from hm1]; rfl) ?_
          refine n_iadd C dX12_place_182 ?_
          refine m_iald C hw hm 3 rfl (v := A 3 (10 + m1)) (by rw [hFAA12 3 (by decide) (by decide) (by decide) (by decide) (by decide) (by decide) (by decide)]) (show 10 + m1 < 22 from (by omega)) dX12_place_183 ?_
          refine lv_i2l hx hb dX12_place_184 rfl ?_
          refine lv_lmul hx hb dX12_place_185 ?_
          refine lv_ladd hx hb dX12_place_186 ?_
          refine lv_lload hx hb dX12_place_187 (lv_at hl 0 rfl) ?_
          refine lv_aload hx hb dX12_place_189 (lv_at hl 4 rfl) ?_
          refine lv_bipush (v := nI 10) hx hb dX12_place_191 (by decide) ?_
          refine lv_aload_n hx hb dX12_place_193 rfl (lv_at hl 5 rfl) ?_
          refine lv_aload_n hx hb dX12_place_194 rfl (lv_at hl 5 rfl) ?_
          refine m_fld C hw hm lk2 24 (by decide) lk3 (v := .ref (q 24)) rfl dX12_place_195 ?_
          refine lv_iconst (v := nI 2) hx hb dX12_place_198 (by decide) ?_
          refine m_iald C hw hm 24 rfl (v := nI t.2.2) h32 (show 2 < 3 from (by omega)) dX12_place_199 ?_
          refine h_calli hw (h_runV (n := 1) (As := [.int (nI t.2.2)]) (rest := [.int (nI 10), .ref (q 3), .long (ctA A t.1 t.2.1 u v), .long (((ctA A t.2.1 t.2.2 u v) * ((A 3 (10 + m0)).toInt64)) + ((ctA A t.2.2 t.1 u v) * ((A 3 (10 + m1)).toInt64)))]) C hw (c_X12_matchOf hm hn14 hn15 (by omega) (by omega) (by omega)) gX12_place_X12_matchOf rfl rfl rfl (by decide +kernel) ⟨by decide, by decide⟩ bX12 hm.1 rfl hl.1 rfl (Nat.le_of_ble_eq_true rfl) dX12_place_200 ⟨by first | decide | omega, by first | decide | omega⟩) (fun r46 f47 H locs hp hw => ?_)
          obtain ⟨rfl, rfl⟩ := hp
          refine W.eq (g2 := F0 m 203 ls [.int (nI m2), _, _, _, _]) (by rw [mt_c hVA12 hns2 hnt2 hq2, show mtF (vtA A ns nt) ns nt t.2.2 = some m2 from hm2]; rfl) ?_
          refine n_iadd C dX12_place_203 ?_
          refine m_iald C hw hm 3 rfl (v := A 3 (10 + m2)) (by rw [hFAA12 3 (by decide) (by decide) (by decide) (by decide) (by decide) (by decide) (by decide)]) (show 10 + m2 < 22 from (by omega)) dX12_place_204 ?_
          refine lv_i2l hx hb dX12_place_205 rfl ?_
          refine lv_lmul hx hb dX12_place_206 ?_
          refine lv_ladd hx hb dX12_place_207 ?_
          refine lv_lstore (lv' := [(14, _), (12, _), (10, _), (8, _), (6, _), (5, _), (0, _), (1, _), (2, _), (3, _), (4, _)]) hx hb dX12_place_208 hl (by decide) rfl (fun ls hl => ?_)
          refine lv_lload hx hb dX12_place_210 (lv_at hl 0 rfl) ?_
          refine lv_lload hx hb dX12_place_212 (lv_at hl 4 rfl) ?_
          refine lv_iload hx hb dX12_place_214 (lv_at hl 10 rfl) ?_
          refine h_calll hw (h_runS (n := 3) (As := [.long ((((ctA A t.2.1 t.2.2 u v) * ((A 3 (10 + m0)).toInt64)) + ((ctA A t.2.2 t.1 u v) * ((A 3 (10 + m1)).toInt64))) + ((ctA A t.1 t.2.1 u v) * ((A 3 (10 + m2)).toInt64))), .long (crA A t.1 t.2.1 t.2.2), .int z]) (rest := []) C hw (c_X12_part (pn_bd hpx hpy (k := 3) (by decide) (by omega) (by omega) (by omega) (by omega) (by omega) (by omega) (ib_rg cq3) (ib_rg cq9)) (Nat.lt_of_le_of_lt (cr_bd hpx hpy (by omega) (by omega) (by omega)) (by decide)) hcr) gX12_place_X12_part rfl rfl rfl (by decide +kernel) ⟨by decide, by decide⟩ rfl hl.1 rfl (Nat.le_of_ble_eq_true rfl) dX12_place_216 ⟨by first | decide | omega, by first | decide | omega⟩) (fun r48 f49 H locs hp hw => ?_)
          obtain ⟨rfl, rfl⟩ := hp
          exact h_lret C hr hlk hw (op_fin2 (A0 := A) (B0 := B) (by simp only [op_place, if_pos cq3, if_pos cq9, if_neg cq17, plR, ho, plN, mo_s hm0, mo_s hm1, mo_s hm2]) hm ⟨fun k hk => hFAA12 k (by omega) (by omega) (by omega) (by omega) (by omega) (by omega) (by omega), hFBA12 15 (by decide) (by decide)⟩) dX12_place_219
      · have ho := Option.not_isSome_iff_eq_none.mp cq16
        refine lv_aload_n hx hb dX12_place_37 rfl (lv_at hl 0 rfl) ?_
        refine lv_ldc2 hx hb C.1.2.2.2.1 (C.1.2.2.2.2 _ lk5) dX12_place_38 ?_
        refine h_calll hw (h_runV (n := 1) (As := [.long (lF 2)]) (rest := []) C hw (c_X12_finding hm (by omega)) gX12_place_X12_finding rfl rfl rfl (by decide +kernel) ⟨by decide, by decide⟩ bX12 hm.1 rfl hl.1 rfl (Nat.le_of_ble_eq_true rfl) dX12_place_41 ⟨by first | decide | omega, by first | decide | omega⟩) (fun r50 f51 H locs hp hw => ?_)
        obtain ⟨rfl, B52, eB52, hm⟩ := hp
        exact h_lret C hr hlk hw (op_fin2 (A0 := A) (B0 := fnd B 2) (op_pl_n cq3 cq9 ho) hm ⟨fun k hk => hFAA12 k (by omega) (by omega) (by omega) (by omega) (by omega) (by omega) (by omega), by rw [eB52]; exact fnd_15 (hFBA12 15 (by decide) (by decide))⟩) dX12_place_44
    · refine lv_aload_n hx hb dX12_place_22 rfl (lv_at hl 0 rfl) ?_
      refine lv_ldc2 hx hb C.1.2.2.2.1 (C.1.2.2.2.2 _ lk0) dX12_place_23 ?_
      refine h_calll hw (h_runV (n := 1) (As := [.long (lF 1)]) (rest := []) C hw (c_X12_finding hm (by omega)) gX12_place_X12_finding rfl rfl rfl (by decide +kernel) ⟨by decide, by decide⟩ bX12 hm.1 rfl hl.1 rfl (Nat.le_of_ble_eq_true rfl) dX12_place_26 ⟨by first | decide | omega, by first | decide | omega⟩) (fun r53 f54 H locs hp hw => ?_)
      obtain ⟨rfl, B55, eB55, hm⟩ := hp
      exact h_lret C hr hlk hw (op_fin2 (A0 := A) (B0 := fnd B 1) (by simp only [op_place, if_pos cq3, if_neg cq9]) hm ⟨fun _ _ => rfl, by rw [eB55]; exact fnd_15 (rfl)⟩) dX12_place_29
