/-! ===== the reference, fourteenth methods (laid by program) ===== -/
def ckA (A : MA) (ns nt tn : Nat) : Option Nat := (List.range (min tn ns)).find? (fun k => decide (¬ A 14 k = oI (mA A ns nt k)))
theorem ck_s {A : MA} {ns nt tn k : Nat} (h1 : k < tn) (h2 : k < ns) (h : ¬ A 14 k = oI (mA A ns nt k)) (hn : ∀ j, j < k → A 14 j = oI (mA A ns nt j)) : ckA A ns nt tn = some k := by
  unfold ckA
  rw [List.find?_range_eq_some]
  exact ⟨decide_eq_true h, List.mem_range.mpr (by omega), fun j hj => by simpa using hn j hj⟩
theorem ck_n {A : MA} {ns nt tn k : Nat} (h1 : tn ≤ k ∨ ns ≤ k) (hn : ∀ j, j < k → A 14 j = oI (mA A ns nt j)) : ckA A ns nt tn = none := by
  unfold ckA
  rw [List.find?_eq_none]
  intro j hj
  have := List.mem_range.mp hj
  simpa using hn j (by omega)
def ckR (o : Option Nat) (tn ns : Nat) : Int64 := match o with
  | some k => lN (1 + k)
  | none => if tn ≤ ns then 0 else 99
def op_check (A : MA) (B : MB) (ns nt tn : Nat) : OR := (ckR (ckA (stS A 13 (nI 0)) ns nt tn) tn ns, stS A 13 (nI 0), B)
def cT (t : T3) (u : Nat) : Nat := if u = 0 then t.1.1 else if u = 1 then t.2.1.1 else t.2.2.1
def cn3 (A : MA) (B : MB) (o i j h u : Nat) : OR := if tgA A (o + i) (o + j) (o + h) then (if u = 3 then ((tnA A (triT A (o + i) (o + j) (o + h))).toInt64, A, B) else ((nI (cT (triT A (o + i) (o + j) (o + h)) u) - nI o).toInt64, A, B)) else (lF 2, A, fnd B 2)
def cn2 (A : MA) (B : MB) (n o : Nat) (a b d k : Int32) : OR := if rg (nI 0) (nI n - nI 1) a then (if rg (nI 0) (nI n - nI 1) b then (if rg (nI 0) (nI n - nI 1) d then (if a.toNatClampNeg = b.toNatClampNeg then (lF 1, A, fnd B 1) else if a.toNatClampNeg = d.toNatClampNeg then (lF 1, A, fnd B 1) else if b.toNatClampNeg = d.toNatClampNeg then (lF 1, A, fnd B 1) else (if rg (nI 0) (nI 3) k then cn3 A B o a.toNatClampNeg b.toNatClampNeg d.toNatClampNeg k.toNatClampNeg else (lF 1, A, fnd B 1))) else (lF 1, A, fnd B 1)) else (lF 1, A, fnd B 1)) else (lF 1, A, fnd B 1)
def op_corner (A : MA) (B : MB) (ns nt : Nat) (a b d k w : Int32) : OR := if w = 0 then cn2 A B ns 0 a b d k else cn2 A B nt 10 a b d k
theorem cT_at {A : MA} {t : T3} {u : Nat} (hu : u < 3) (h0 : A 16 0 = nI t.1.1) (h1 : A 16 1 = nI t.2.1.1) (h2 : A 16 2 = nI t.2.2.1) : A 16 u = nI (cT t u) := by
  have h : u = 0 ∨ u = 1 ∨ u = 2 := by omega
  rcases h with rfl | rfl | rfl
  · exact h0
  · exact h1
  · exact h2
set_option maxHeartbeats 4000000 in
set_option maxRecDepth 100000 in
theorem c_X12_check {l : Launch} {D : va_G} {cA : Nat → ClassId} {f : HF} {sz : Nat} {q : Nat → Nat} {A : MA} {B : MB} {ns nt tn : Nat} (hm : mo cA q A B f) (hns : A 0 0 = nI ns) (hnt : A 1 0 = nI nt) (hns2 : ns ≤ 10) (hnt2 : nt ≤ 12) (htn : A 13 0 = nI tn) (htn2 : tn ≤ 9) : Met l yX12_check wsX12_check ({ frames := 4, cells := 0, slots := 0, locals := 99 } : Room) (va_Pc [.ref (q 0)] (hB D cA f sz)) (va_Ql (fun r f1 => (op_check A B ns nt tn).1 = r ∧ ∃ A1 B1, mo cA q A1 B1 f1 ∧ veq (op_check A B ns nt tn).2.1 (op_check A B ns nt tn).2.2 A1 B1) (hE D f sz) (hA f sz)) 0 0 (hA f sz) := by
  refine h_of (cc := cX12_check) (maxL := 3) (ret := (some .long)) (by decide +kernel) rfl (Nat.le_of_ble_eq_true rfl) ?_
  intro p e s m below meth c ls C hr hlk hnm hw hl
  have hx := C.1.1
  have hb := C.1.2.1
  have hl : lv_has ls 3 [(0, .ref (q 0))] := hl
  have lk0 : Cond.fieldLink RX12 167 "FallingLightModel" "taped" "I" ∈ wsX12_check := by decide +kernel
  have lk1 : ∀ w ∈ u_ws RX12 TX12 27, w ∈ wsX12_check := by decide +kernel
  have lk2 : Cond.fieldLink RX12 101 "FallingLightModel" "spots" "I" ∈ wsX12_check := by decide +kernel
  have lk3 : Cond.constantLong RX12 228 (99) ∈ wsX12_check := by decide +kernel
  have lk4 : Cond.fieldLink RX12 44 "FallingLightModel" "tape" "[I" ∈ wsX12_check := by decide +kernel
  refine lv_aload_n hx hb dX12_check_0 rfl (lv_at hl 0 rfl) ?_
  refine m_fld C hw hm lk1 13 (by decide) lk0 (v := .int (nI tn)) (congrArg (fun z => some (Value.int z)) htn) dX12_check_1 ?_
  refine lv_istore_n (lv' := [(1, _), (0, _)]) hx hb dX12_check_4 rfl hl (by decide) rfl (fun ls hl => ?_)
  refine lv_aload_n hx hb dX12_check_5 rfl (lv_at hl 1 rfl) ?_
  refine lv_iconst (v := nI 0) hx hb dX12_check_6 (by decide) ?_
  refine m_puti C hw hm lk1 13 rfl (by decide) rfl rfl lk0 dX12_check_7 (fun A1 f2 H locs eA1 hw hm => ?_)
  have hn3 : A1 0 0 = nI ns := by rw [eA1, va_up_ne _ _ (by decide)]; exact hns
  have hn4 : A1 1 0 = nI nt := by rw [eA1, va_up_ne _ _ (by decide)]; exact hnt
  have hn5 : A1 13 0 = nI 0 := by rw [eA1, va_up_self]
  refine lv_aload_n hx hb dX12_check_10 rfl (lv_at hl 1 rfl) ?_
  refine h_callv hw (h_runV (n := 0) (As := []) (rest := []) C hw (c_X12_findVotes hm hn3 hn4 (by omega) (by omega)) gX12_check_X12_findVotes rfl rfl rfl (by decide +kernel) ⟨by decide, by decide⟩ bX12 hm.1 rfl hl.1 rfl (Nat.le_of_ble_eq_true rfl) dX12_check_11 ⟨by first | decide | omega, by first | decide | omega⟩) (fun  f6 H locs hp hw => ?_)
  obtain ⟨A7, B8, hm, hFAA7, hFBA7, hVA7⟩ := hp
  have hn9 : A7 0 0 = nI ns := by rw [hFAA7 0 (by decide) (by decide) (by decide) (by decide) (by decide) (by decide)]; exact hn3
  have hn10 : A7 1 0 = nI nt := by rw [hFAA7 1 (by decide) (by decide) (by decide) (by decide) (by decide) (by decide)]; exact hn4
  have hn11 : A7 13 0 = nI 0 := by rw [hFAA7 13 (by decide) (by decide) (by decide) (by decide) (by decide) (by decide)]; exact hn5
  refine lv_iconst (v := nI 0) hx hb dX12_check_14 (by decide) ?_
  refine lv_istore_n (lv' := [(2, _), (1, _), (0, _)]) hx hb dX12_check_15 rfl hl (by decide) rfl (fun ls hl => ?_)
  have lp16 : ∀ (n : Nat) (k : Nat) (H1 : Heap) (locs1 : List Loc) (ls1 : Array Slot), hW D (hA f sz) s.heap f6 H1 locs1 → mo cA q A7 B8 f6 → lv_has ls1 3 [(0, .ref (q 0)), (1, .int (nI tn)), (2, .int (nI k))] → (k ≤ tn) → (k ≤ ns) → (∀ j, j < k → A1 14 j = oI (mA A1 ns nt j)) → tn - k < n → W p l e ({ frames := 4, cells := 0, slots := 0, locals := 99 } : Room) s m ([.ref (q 0)]).toArray below meth c H1 locs1 0 0 (MQ below (va_Ql (fun r f1 => (op_check A B ns nt tn).1 = r ∧ ∃ A1 B1, mo cA q A1 B1 f1 ∧ veq (op_check A B ns nt tn).2.1 (op_check A B ns nt tn).2.2 A1 B1) (hE D f sz) (hA f sz)) ([.ref (q 0)]).toArray s 0 0 (hA f sz)) (F0 m 16 ls1 []) := by
    intro n
    induction n with
    | zero => intros; omega
    | succ n ih16 =>
      intro k H locs ls hw hm hl hk hks hno hmu
      refine lv_iload_n hx hb dX12_check_16 rfl (lv_at hl 2 rfl) ?_
      refine lv_iload_n hx hb dX12_check_17 rfl (lv_at hl 1 rfl) ?_
      refine n_cge C (by omega) (by omega) (tgt := 54) dX12_check_18 (by decide) (fun cq12 => ?_) (fun cq12 => ?_)
      · refine lv_iload_n hx hb dX12_check_54 rfl (lv_at hl 1 rfl) ?_
        refine lv_aload_n hx hb dX12_check_55 rfl (lv_at hl 0 rfl) ?_
        refine m_fld C hw hm lk1 0 (by decide) lk2 (v := .int (nI ns)) (congrArg (fun z => some (Value.int z)) hn9) dX12_check_56 ?_
        refine n_cle C (by omega) (by omega) (tgt := 68) dX12_check_59 (by decide) (fun cq13 => ?_) (fun cq13 => ?_)
        · refine lv_lconst (v := 0) hx hb dX12_check_68 (by decide) ?_
          exact h_lret C hr hlk hw (op_fin2 (A0 := A1) (B0 := B) (by rw [op_check, show stS A 13 (nI 0) = A1 from eA1.symm, ck_n (Or.inl cq12) hno, ckR, if_pos cq13]) hm ⟨fun k hk => hFAA7 k (by omega) (by omega) (by omega) (by omega) (by omega) (by omega), hFBA7 15 (by decide) (by decide)⟩) dX12_check_69
        · refine lv_ldc2 hx hb C.1.2.2.2.1 (C.1.2.2.2.2 _ lk3) dX12_check_62 ?_
          refine lv_goto (tgt := 69) hx hb dX12_check_65 (by decide) ?_
          exact h_lret C hr hlk hw (op_fin2 (A0 := A1) (B0 := B) (by rw [op_check, show stS A 13 (nI 0) = A1 from eA1.symm, ck_n (Or.inl cq12) hno, ckR, if_neg (Nat.not_le.mpr cq13)]) hm ⟨fun k hk => hFAA7 k (by omega) (by omega) (by omega) (by omega) (by omega) (by omega), hFBA7 15 (by decide) (by decide)⟩) dX12_check_69
      · refine lv_iload_n hx hb dX12_check_21 rfl (lv_at hl 2 rfl) ?_
        refine lv_aload_n hx hb dX12_check_22 rfl (lv_at hl 0 rfl) ?_
        refine m_fld C hw hm lk1 0 (by decide) lk2 (v := .int (nI ns)) (congrArg (fun z => some (Value.int z)) hn9) dX12_check_23 ?_
        refine n_cge C (by omega) (by omega) (tgt := 54) dX12_check_26 (by decide) (fun cq14 => ?_) (fun cq14 => ?_)
        · refine lv_iload_n hx hb dX12_check_54 rfl (lv_at hl 1 rfl) ?_
          refine lv_aload_n hx hb dX12_check_55 rfl (lv_at hl 0 rfl) ?_
          refine m_fld C hw hm lk1 0 (by decide) lk2 (v := .int (nI ns)) (congrArg (fun z => some (Value.int z)) hn9) dX12_check_56 ?_
          refine n_cle C (by omega) (by omega) (tgt := 68) dX12_check_59 (by decide) (fun cq15 => ?_) (fun cq15 => ?_)
          · refine lv_lconst (v := 0) hx hb dX12_check_68 (by decide) ?_
            exact h_lret C hr hlk hw (op_fin2 (A0 := A1) (B0 := B) (by rw [op_check, show stS A 13 (nI 0) = A1 from eA1.symm, ck_n (Or.inr cq14) hno, ckR, if_pos cq15]) hm ⟨fun k hk => hFAA7 k (by omega) (by omega) (by omega) (by omega) (by omega) (by omega), hFBA7 15 (by decide) (by decide)⟩) dX12_check_69
          · refine lv_ldc2 hx hb C.1.2.2.2.1 (C.1.2.2.2.2 _ lk3) dX12_check_62 ?_
            refine lv_goto (tgt := 69) hx hb dX12_check_65 (by decide) ?_
            exact h_lret C hr hlk hw (op_fin2 (A0 := A1) (B0 := B) (by rw [op_check, show stS A 13 (nI 0) = A1 from eA1.symm, ck_n (Or.inr cq14) hno, ckR, if_neg (Nat.not_le.mpr cq15)]) hm ⟨fun k hk => hFAA7 k (by omega) (by omega) (by omega) (by omega) (by omega) (by omega), hFBA7 15 (by decide) (by decide)⟩) dX12_check_69
        · refine lv_aload_n hx hb dX12_check_29 rfl (lv_at hl 0 rfl) ?_
          refine m_fld C hw hm lk1 14 (by decide) lk4 (v := .ref (q 14)) rfl dX12_check_30 ?_
          refine lv_iload_n hx hb dX12_check_33 rfl (lv_at hl 2 rfl) ?_
          refine m_iald C hw hm 14 rfl (v := A1 14 k) (by rw [hFAA7 14 (by decide) (by decide) (by decide) (by decide) (by decide) (by decide)]) (show k < 9 from (by omega)) dX12_check_34 ?_
          refine lv_aload_n hx hb dX12_check_35 rfl (lv_at hl 0 rfl) ?_
          refine lv_iload_n hx hb dX12_check_36 rfl (lv_at hl 2 rfl) ?_
          refine h_calli hw (h_runV (n := 1) (As := [.int (nI k)]) (rest := [.int (A1 14 k)]) C hw (c_X12_matchOf hm hn9 hn10 (by omega) (by omega) (by omega)) gX12_check_X12_matchOf rfl rfl rfl (by decide +kernel) ⟨by decide, by decide⟩ bX12 hm.1 rfl hl.1 rfl (Nat.le_of_ble_eq_true rfl) dX12_check_37 ⟨by first | decide | omega, by first | decide | omega⟩) (fun r16 f17 H locs hp hw => ?_)
          obtain ⟨rfl, rfl⟩ := hp
          refine W.eq (g2 := F0 m 40 ls [.int (oI (mA A1 ns nt k)), _]) (by rw [mt_c hVA7 hns2 hnt2 (show k < ns by omega)]) ?_
          refine lv_icmp_eq (tgt := 48) hx hb dX12_check_40 (by decide) (fun cq18 => ?_) (fun cq18 => ?_)
          · refine n_iinc C (lv' := [(2, _), (0, _), (1, _)]) dX12_check_48 hl (k := 2) rfl (by decide) rfl (fun ls hl => ?_)
            refine lv_goto (tgt := 16) hx hb dX12_check_51 (by decide) ?_
            exact ih16 (k + 1) _ _ _ hw hm (lv_sub hl [1, 2, 0] rfl) (by omega) (by omega) (fun j hj => (Nat.lt_succ_iff_lt_or_eq.mp hj).elim (hno j) (fun e => by rw [e]; exact cq18)) (by omega)
          · refine lv_iconst (v := nI 1) hx hb dX12_check_43 (by decide) ?_
            refine lv_iload_n hx hb dX12_check_44 rfl (lv_at hl 2 rfl) ?_
            refine n_iadd C dX12_check_45 ?_
            refine n_i2l C (by omega) dX12_check_46 ?_
            exact h_lret C hr hlk hw (op_fin2 (A0 := A1) (B0 := B) (by rw [op_check, show stS A 13 (nI 0) = A1 from eA1.symm, ck_s (by omega) (by omega) cq18 hno, ckR]) hm ⟨fun k hk => hFAA7 k (by omega) (by omega) (by omega) (by omega) (by omega) (by omega), hFBA7 15 (by decide) (by decide)⟩) dX12_check_47
  exact lp16 _ 0 _ _ _ hw hm (lv_sub hl [2, 1, 0] rfl) (by omega) (by omega) (fun j hj => absurd hj (by omega)) (Nat.lt_succ_self _)
set_option maxHeartbeats 4000000 in
set_option maxRecDepth 100000 in
theorem c_X12_corner {l : Launch} {D : va_G} {cA : Nat → ClassId} {f : HF} {sz : Nat} {q : Nat → Nat} {A : MA} {B : MB} {ns nt : Nat} {a b d k w : Int32} (hm : mo cA q A B f) (hns : A 0 0 = nI ns) (hnt : A 1 0 = nI nt) (hns2 : ns ≤ 10) (hnt2 : nt ≤ 12) : Met l yX12_corner wsX12_corner ({ frames := 2, cells := 0, slots := 0, locals := 49 } : Room) (va_Pc [.ref (q 0), .int a, .int b, .int d, .int k, .int w] (hB D cA f sz)) (va_Ql (fun r f1 => (op_corner A B ns nt a b d k w).1 = r ∧ ∃ A1 B1, mo cA q A1 B1 f1 ∧ veq (op_corner A B ns nt a b d k w).2.1 (op_corner A B ns nt a b d k w).2.2 A1 B1) (hE D f sz) (hA f sz)) 0 0 (hA f sz) := by
  refine h_of (cc := cX12_corner) (maxL := 8) (ret := (some .long)) (by decide +kernel) rfl (Nat.le_of_ble_eq_true rfl) ?_
  intro p e s m below meth c ls C hr hlk hnm hw hl
  have hx := C.1.1
  have hb := C.1.2.1
  have hl : lv_has ls 8 [(0, .ref (q 0)), (1, .int a), (2, .int b), (3, .int d), (4, .int k), (5, .int w)] := hl
  have lk0 : Cond.fieldLink RX12 101 "FallingLightModel" "spots" "I" ∈ wsX12_corner := by decide +kernel
  have lk1 : ∀ w ∈ u_ws RX12 TX12 27, w ∈ wsX12_corner := by decide +kernel
  have lk2 : Cond.constantLong RX12 91 (lF 1) ∈ wsX12_corner := by decide +kernel
  have lk3 : Cond.fieldLink RX12 51 "FallingLightModel" "cornerAt" "[I" ∈ wsX12_corner := by decide +kernel
  have lk4 : Cond.fieldLink RX12 120 "FallingLightModel" "turn" "I" ∈ wsX12_corner := by decide +kernel
  have lk5 : Cond.constantLong RX12 106 (lF 2) ∈ wsX12_corner := by decide +kernel
  have lk6 : Cond.fieldLink RX12 96 "FallingLightModel" "stars" "I" ∈ wsX12_corner := by decide +kernel
  refine lv_iload hx hb dX12_corner_0 (lv_at hl 5 rfl) ?_
  refine lv_if_eq (tgt := 12) hx hb dX12_corner_2 (by decide) (fun cq1 => ?_) (fun cq1 => ?_)
  · refine lv_aload_n hx hb dX12_corner_12 rfl (lv_at hl 0 rfl) ?_
    refine m_fld C hw hm lk1 0 (by decide) lk0 (v := .int (nI ns)) (congrArg (fun z => some (Value.int z)) hns) dX12_corner_13 ?_
    refine lv_istore (lv' := [(6, _), (0, _), (1, _), (2, _), (3, _), (4, _), (5, _)]) hx hb dX12_corner_16 hl (by decide) rfl (fun ls hl => ?_)
    refine lv_iload_n hx hb dX12_corner_18 rfl (lv_at hl 2 rfl) ?_
    refine lv_iconst (v := nI 0) hx hb dX12_corner_19 (by decide) ?_
    refine lv_iload hx hb dX12_corner_20 (lv_at hl 0 rfl) ?_
    refine lv_iconst (v := nI 1) hx hb dX12_corner_22 (by decide) ?_
    refine lv_isub hx hb dX12_corner_23 ?_
    refine h_calli hw (h_runS (n := 3) (As := [.int a, .int (nI 0), .int ((nI ns) - (nI 1))]) (rest := []) C hw c_X12_in gX12_corner_X12_in rfl rfl rfl (by decide +kernel) ⟨by decide, by decide⟩ rfl hl.1 rfl (Nat.le_of_ble_eq_true rfl) dX12_corner_24 ⟨by first | decide | omega, by first | decide | omega⟩) (fun r2 f3 H locs hp hw => ?_)
    obtain ⟨rfl, rfl⟩ := hp
    refine n_ifeqB C (tgt := 79) dX12_corner_27 (by decide) (fun cq4 => ?_) (fun cq4 => ?_)
    · refine lv_aload_n hx hb dX12_corner_79 rfl (lv_at hl 1 rfl) ?_
      refine lv_ldc2 hx hb C.1.2.2.2.1 (C.1.2.2.2.2 _ lk2) dX12_corner_80 ?_
      refine h_calll hw (h_runV (n := 1) (As := [.long (lF 1)]) (rest := []) C hw (c_X12_finding hm (by omega)) gX12_corner_X12_finding rfl rfl rfl (by decide +kernel) ⟨by decide, by decide⟩ bX12 hm.1 rfl hl.1 rfl (Nat.le_of_ble_eq_true rfl) dX12_corner_83 ⟨by first | decide | omega, by first | decide | omega⟩) (fun r5 f6 H locs hp hw => ?_)
      obtain ⟨rfl, B7, eB7, hm⟩ := hp
      exact h_lret C hr hlk hw (op_fin2 (A0 := A) (B0 := fnd B 1) (by simp only [op_corner, if_pos cq1, cn2, if_neg cq4]) hm ⟨fun _ _ => rfl, by rw [eB7]; exact fnd_15 (rfl)⟩) dX12_corner_86
    · obtain ⟨i, hi, rfl⟩ := in1N (by omega) cq4
      refine lv_iload_n hx hb dX12_corner_30 rfl (lv_at hl 3 rfl) ?_
      refine lv_iconst (v := nI 0) hx hb dX12_corner_31 (by decide) ?_
      refine lv_iload hx hb dX12_corner_32 (lv_at hl 0 rfl) ?_
      refine lv_iconst (v := nI 1) hx hb dX12_corner_34 (by decide) ?_
      refine lv_isub hx hb dX12_corner_35 ?_
      refine h_calli hw (h_runS (n := 3) (As := [.int b, .int (nI 0), .int ((nI ns) - (nI 1))]) (rest := []) C hw c_X12_in gX12_corner_X12_in rfl rfl rfl (by decide +kernel) ⟨by decide, by decide⟩ rfl hl.1 rfl (Nat.le_of_ble_eq_true rfl) dX12_corner_36 ⟨by first | decide | omega, by first | decide | omega⟩) (fun r8 f9 H locs hp hw => ?_)
      obtain ⟨rfl, rfl⟩ := hp
      refine n_ifeqB C (tgt := 79) dX12_corner_39 (by decide) (fun cq10 => ?_) (fun cq10 => ?_)
      · refine lv_aload_n hx hb dX12_corner_79 rfl (lv_at hl 1 rfl) ?_
        refine lv_ldc2 hx hb C.1.2.2.2.1 (C.1.2.2.2.2 _ lk2) dX12_corner_80 ?_
        refine h_calll hw (h_runV (n := 1) (As := [.long (lF 1)]) (rest := []) C hw (c_X12_finding hm (by omega)) gX12_corner_X12_finding rfl rfl rfl (by decide +kernel) ⟨by decide, by decide⟩ bX12 hm.1 rfl hl.1 rfl (Nat.le_of_ble_eq_true rfl) dX12_corner_83 ⟨by first | decide | omega, by first | decide | omega⟩) (fun r11 f12 H locs hp hw => ?_)
        obtain ⟨rfl, B13, eB13, hm⟩ := hp
        exact h_lret C hr hlk hw (op_fin2 (A0 := A) (B0 := fnd B 1) (by simp only [op_corner, if_pos cq1, cn2, if_pos cq4, if_neg cq10, nI_clamp (show i < 2 ^ 31 by omega)]) hm ⟨fun _ _ => rfl, by rw [eB13]; exact fnd_15 (rfl)⟩) dX12_corner_86
      · obtain ⟨j, hj, rfl⟩ := in1N (by omega) cq10
        refine lv_iload_n hx hb dX12_corner_42 rfl (lv_at hl 4 rfl) ?_
        refine lv_iconst (v := nI 0) hx hb dX12_corner_43 (by decide) ?_
        refine lv_iload hx hb dX12_corner_44 (lv_at hl 0 rfl) ?_
        refine lv_iconst (v := nI 1) hx hb dX12_corner_46 (by decide) ?_
        refine lv_isub hx hb dX12_corner_47 ?_
        refine h_calli hw (h_runS (n := 3) (As := [.int d, .int (nI 0), .int ((nI ns) - (nI 1))]) (rest := []) C hw c_X12_in gX12_corner_X12_in rfl rfl rfl (by decide +kernel) ⟨by decide, by decide⟩ rfl hl.1 rfl (Nat.le_of_ble_eq_true rfl) dX12_corner_48 ⟨by first | decide | omega, by first | decide | omega⟩) (fun r14 f15 H locs hp hw => ?_)
        obtain ⟨rfl, rfl⟩ := hp
        refine n_ifeqB C (tgt := 79) dX12_corner_51 (by decide) (fun cq16 => ?_) (fun cq16 => ?_)
        · refine lv_aload_n hx hb dX12_corner_79 rfl (lv_at hl 1 rfl) ?_
          refine lv_ldc2 hx hb C.1.2.2.2.1 (C.1.2.2.2.2 _ lk2) dX12_corner_80 ?_
          refine h_calll hw (h_runV (n := 1) (As := [.long (lF 1)]) (rest := []) C hw (c_X12_finding hm (by omega)) gX12_corner_X12_finding rfl rfl rfl (by decide +kernel) ⟨by decide, by decide⟩ bX12 hm.1 rfl hl.1 rfl (Nat.le_of_ble_eq_true rfl) dX12_corner_83 ⟨by first | decide | omega, by first | decide | omega⟩) (fun r17 f18 H locs hp hw => ?_)
          obtain ⟨rfl, B19, eB19, hm⟩ := hp
          exact h_lret C hr hlk hw (op_fin2 (A0 := A) (B0 := fnd B 1) (by simp only [op_corner, if_pos cq1, cn2, if_pos cq4, if_pos cq10, if_neg cq16, nI_clamp (show i < 2 ^ 31 by omega), nI_clamp (show j < 2 ^ 31 by omega)]) hm ⟨fun _ _ => rfl, by rw [eB19]; exact fnd_15 (rfl)⟩) dX12_corner_86
        · obtain ⟨h, hh, rfl⟩ := in1N (by omega) cq16
          refine lv_iload_n hx hb dX12_corner_54 rfl (lv_at hl 2 rfl) ?_
          refine lv_iload_n hx hb dX12_corner_55 rfl (lv_at hl 3 rfl) ?_
          refine n_ceq C (by omega) (by omega) (tgt := 79) dX12_corner_56 (by decide) (fun cq20 => ?_) (fun cq20 => ?_)
          · refine lv_aload_n hx hb dX12_corner_79 rfl (lv_at hl 1 rfl) ?_
            refine lv_ldc2 hx hb C.1.2.2.2.1 (C.1.2.2.2.2 _ lk2) dX12_corner_80 ?_
            refine h_calll hw (h_runV (n := 1) (As := [.long (lF 1)]) (rest := []) C hw (c_X12_finding hm (by omega)) gX12_corner_X12_finding rfl rfl rfl (by decide +kernel) ⟨by decide, by decide⟩ bX12 hm.1 rfl hl.1 rfl (Nat.le_of_ble_eq_true rfl) dX12_corner_83 ⟨by first | decide | omega, by first | decide | omega⟩) (fun r21 f22 H locs hp hw => ?_)
            obtain ⟨rfl, B23, eB23, hm⟩ := hp
            exact h_lret C hr hlk hw (op_fin2 (A0 := A) (B0 := fnd B 1) (by simp only [op_corner, if_pos cq1, cn2, if_pos cq4, if_pos cq10, if_pos cq16, if_pos cq20, nI_clamp (show i < 2 ^ 31 by omega), nI_clamp (show j < 2 ^ 31 by omega), nI_clamp (show h < 2 ^ 31 by omega)]) hm ⟨fun _ _ => rfl, by rw [eB23]; exact fnd_15 (rfl)⟩) dX12_corner_86
          · refine lv_iload_n hx hb dX12_corner_59 rfl (lv_at hl 2 rfl) ?_
            refine lv_iload_n hx hb dX12_corner_60 rfl (lv_at hl 4 rfl) ?_
            refine n_ceq C (by omega) (by omega) (tgt := 79) dX12_corner_61 (by decide) (fun cq24 => ?_) (fun cq24 => ?_)
            · refine lv_aload_n hx hb dX12_corner_79 rfl (lv_at hl 1 rfl) ?_
              refine lv_ldc2 hx hb C.1.2.2.2.1 (C.1.2.2.2.2 _ lk2) dX12_corner_80 ?_
              refine h_calll hw (h_runV (n := 1) (As := [.long (lF 1)]) (rest := []) C hw (c_X12_finding hm (by omega)) gX12_corner_X12_finding rfl rfl rfl (by decide +kernel) ⟨by decide, by decide⟩ bX12 hm.1 rfl hl.1 rfl (Nat.le_of_ble_eq_true rfl) dX12_corner_83 ⟨by first | decide | omega, by first | decide | omega⟩) (fun r25 f26 H locs hp hw => ?_)
              obtain ⟨rfl, B27, eB27, hm⟩ := hp
              exact h_lret C hr hlk hw (op_fin2 (A0 := A) (B0 := fnd B 1) (by simp only [op_corner, if_pos cq1, cn2, if_pos cq4, if_pos cq10, if_pos cq16, if_neg cq20, if_pos cq24, nI_clamp (show i < 2 ^ 31 by omega), nI_clamp (show j < 2 ^ 31 by omega), nI_clamp (show h < 2 ^ 31 by omega)]) hm ⟨fun _ _ => rfl, by rw [eB27]; exact fnd_15 (rfl)⟩) dX12_corner_86
            · refine lv_iload_n hx hb dX12_corner_64 rfl (lv_at hl 3 rfl) ?_
              refine lv_iload_n hx hb dX12_corner_65 rfl (lv_at hl 4 rfl) ?_
              refine n_ceq C (by omega) (by omega) (tgt := 79) dX12_corner_66 (by decide) (fun cq28 => ?_) (fun cq28 => ?_)
              · refine lv_aload_n hx hb dX12_corner_79 rfl (lv_at hl 1 rfl) ?_
                refine lv_ldc2 hx hb C.1.2.2.2.1 (C.1.2.2.2.2 _ lk2) dX12_corner_80 ?_
                refine h_calll hw (h_runV (n := 1) (As := [.long (lF 1)]) (rest := []) C hw (c_X12_finding hm (by omega)) gX12_corner_X12_finding rfl rfl rfl (by decide +kernel) ⟨by decide, by decide⟩ bX12 hm.1 rfl hl.1 rfl (Nat.le_of_ble_eq_true rfl) dX12_corner_83 ⟨by first | decide | omega, by first | decide | omega⟩) (fun r29 f30 H locs hp hw => ?_)
                obtain ⟨rfl, B31, eB31, hm⟩ := hp
                exact h_lret C hr hlk hw (op_fin2 (A0 := A) (B0 := fnd B 1) (by simp only [op_corner, if_pos cq1, cn2, if_pos cq4, if_pos cq10, if_pos cq16, if_neg cq20, if_neg cq24, if_pos cq28, nI_clamp (show i < 2 ^ 31 by omega), nI_clamp (show j < 2 ^ 31 by omega), nI_clamp (show h < 2 ^ 31 by omega)]) hm ⟨fun _ _ => rfl, by rw [eB31]; exact fnd_15 (rfl)⟩) dX12_corner_86
              · refine lv_iload hx hb dX12_corner_69 (lv_at hl 5 rfl) ?_
                refine lv_iconst (v := nI 0) hx hb dX12_corner_71 (by decide) ?_
                refine lv_iconst (v := nI 3) hx hb dX12_corner_72 (by decide) ?_
                refine h_calli hw (h_runS (n := 3) (As := [.int k, .int (nI 0), .int (nI 3)]) (rest := []) C hw c_X12_in gX12_corner_X12_in rfl rfl rfl (by decide +kernel) ⟨by decide, by decide⟩ rfl hl.1 rfl (Nat.le_of_ble_eq_true rfl) dX12_corner_73 ⟨by first | decide | omega, by first | decide | omega⟩) (fun r32 f33 H locs hp hw => ?_)
                obtain ⟨rfl, rfl⟩ := hp
                refine n_ifneB C (tgt := 87) dX12_corner_76 (by decide) (fun cq34 => ?_) (fun cq34 => ?_)
                · obtain ⟨u, hu, rfl⟩ := inN (by decide) cq34
                  refine lv_iload hx hb dX12_corner_87 (lv_at hl 6 rfl) ?_
                  refine lv_if_eq (tgt := 97) hx hb dX12_corner_89 (by decide) (fun cq35 => ?_) (fun cq35 => ?_)
                  · refine lv_iconst (v := nI 0) hx hb dX12_corner_97 (by decide) ?_
                    refine lv_istore (lv' := [(7, _), (6, _), (0, _), (1, _), (2, _), (3, _), (4, _), (5, _)]) hx hb dX12_corner_98 hl (by decide) rfl (fun ls hl => ?_)
                    refine lv_aload_n hx hb dX12_corner_100 rfl (lv_at hl 2 rfl) ?_
                    refine lv_iload hx hb dX12_corner_101 (lv_at hl 0 rfl) ?_
                    refine lv_iload_n hx hb dX12_corner_103 rfl (lv_at hl 3 rfl) ?_
                    refine n_iadd C dX12_corner_104 ?_
                    refine lv_iload hx hb dX12_corner_105 (lv_at hl 0 rfl) ?_
                    refine lv_iload_n hx hb dX12_corner_107 rfl (lv_at hl 4 rfl) ?_
                    refine n_iadd C dX12_corner_108 ?_
                    refine lv_iload hx hb dX12_corner_109 (lv_at hl 0 rfl) ?_
                    refine lv_iload_n hx hb dX12_corner_111 rfl (lv_at hl 5 rfl) ?_
                    refine n_iadd C dX12_corner_112 ?_
                    refine h_calli hw (h_runV (n := 3) (As := [.int (nI (0 + i)), .int (nI (0 + j)), .int (nI (0 + h))]) (rest := []) C hw (c_X12_layOut hm (by omega) (by omega) (by omega)) gX12_corner_X12_layOut rfl rfl rfl (by decide +kernel) ⟨by decide, by decide⟩ bX12 hm.1 rfl hl.1 rfl (Nat.le_of_ble_eq_true rfl) dX12_corner_113 ⟨by first | decide | omega, by first | decide | omega⟩) (fun r36 f37 H locs hp hw => ?_)
                    obtain ⟨rfl, A38, B39, hm, hFAA38, hFBA38, hTA38⟩ := hp
                    have hn40 : A38 0 0 = nI ns := by rw [hFAA38 0 (by decide) (by decide)]; exact hns
                    have hn41 : A38 1 0 = nI nt := by rw [hFAA38 1 (by decide) (by decide)]; exact hnt
                    refine n_ifneB C (tgt := 127) dX12_corner_116 (by decide) (fun cq42 => ?_) (fun cq42 => ?_)
                    · obtain ⟨k0, k1, k2, s0, s1, s2, htn⟩ := hTA38 cq42
                      refine lv_iload hx hb dX12_corner_127 (lv_at hl 6 rfl) ?_
                      refine lv_iconst (v := nI 3) hx hb dX12_corner_129 (by decide) ?_
                      refine n_cne C (by omega) (by omega) (tgt := 141) dX12_corner_130 (by decide) (fun cq43 => ?_) (fun cq43 => ?_)
                      · refine lv_aload_n hx hb dX12_corner_141 rfl (lv_at hl 2 rfl) ?_
                        refine m_fld C hw hm lk1 16 (by decide) lk3 (v := .ref (q 16)) rfl dX12_corner_142 ?_
                        refine lv_iload hx hb dX12_corner_145 (lv_at hl 6 rfl) ?_
                        refine m_iald C hw hm 16 rfl (v := nI (cT (triT A (0 + i) (0 + j) (0 + h)) u)) (cT_at (by omega) k0 k1 k2) (show u < 3 from (by omega)) dX12_corner_147 ?_
                        refine lv_iload hx hb dX12_corner_148 (lv_at hl 0 rfl) ?_
                        refine lv_isub hx hb dX12_corner_150 ?_
                        refine lv_i2l hx hb dX12_corner_151 rfl ?_
                        exact h_lret C hr hlk hw (op_fin2 (A0 := A) (B0 := B) (by simp only [op_corner, if_pos cq1, cn2, if_pos cq4, if_pos cq10, if_pos cq16, if_neg cq20, if_neg cq24, if_neg cq28, if_pos cq34, cn3, if_pos cq42, if_neg cq43, nI_clamp (show i < 2 ^ 31 by omega), nI_clamp (show j < 2 ^ 31 by omega), nI_clamp (show h < 2 ^ 31 by omega), nI_clamp (show u < 2 ^ 31 by omega)]) hm ⟨fun k hk => hFAA38 k (by omega) (by omega), hFBA38 15 (by decide)⟩) dX12_corner_152
                      · refine lv_aload_n hx hb dX12_corner_133 rfl (lv_at hl 2 rfl) ?_
                        refine m_fld C hw hm lk1 18 (by decide) lk4 (v := .int (tnA A (triT A (0 + i) (0 + j) (0 + h)))) (congrArg (fun z => some (Value.int z)) htn) dX12_corner_134 ?_
                        refine lv_i2l hx hb dX12_corner_137 rfl ?_
                        refine lv_goto (tgt := 152) hx hb dX12_corner_138 (by decide) ?_
                        exact h_lret C hr hlk hw (op_fin2 (A0 := A) (B0 := B) (by simp only [op_corner, if_pos cq1, cn2, if_pos cq4, if_pos cq10, if_pos cq16, if_neg cq20, if_neg cq24, if_neg cq28, if_pos cq34, cn3, if_pos cq42, if_pos cq43, nI_clamp (show i < 2 ^ 31 by omega), nI_clamp (show j < 2 ^ 31 by omega), nI_clamp (show h < 2 ^ 31 by omega), nI_clamp (show u < 2 ^ 31 by omega)]) hm ⟨fun k hk => hFAA38 k (by omega) (by omega), hFBA38 15 (by decide)⟩) dX12_corner_152
                    · refine lv_aload_n hx hb dX12_corner_119 rfl (lv_at hl 2 rfl) ?_
                      refine lv_ldc2 hx hb C.1.2.2.2.1 (C.1.2.2.2.2 _ lk5) dX12_corner_120 ?_
                      refine h_calll hw (h_runV (n := 1) (As := [.long (lF 2)]) (rest := []) C hw (c_X12_finding hm (by omega)) gX12_corner_X12_finding rfl rfl rfl (by decide +kernel) ⟨by decide, by decide⟩ bX12 hm.1 rfl hl.1 rfl (Nat.le_of_ble_eq_true rfl) dX12_corner_123 ⟨by first | decide | omega, by first | decide | omega⟩) (fun r44 f45 H locs hp hw => ?_)
                      obtain ⟨rfl, B46, eB46, hm⟩ := hp
                      exact h_lret C hr hlk hw (op_fin2 (A0 := A) (B0 := fnd B 2) (by simp only [op_corner, if_pos cq1, cn2, if_pos cq4, if_pos cq10, if_pos cq16, if_neg cq20, if_neg cq24, if_neg cq28, if_pos cq34, cn3, if_neg cq42, nI_clamp (show i < 2 ^ 31 by omega), nI_clamp (show j < 2 ^ 31 by omega), nI_clamp (show h < 2 ^ 31 by omega), nI_clamp (show u < 2 ^ 31 by omega)]) hm ⟨fun k hk => hFAA38 k (by omega) (by omega), by rw [eB46]; exact fnd_15 (hFBA38 15 (by decide))⟩) dX12_corner_126
                  · exact absurd cq1 cq35
                · refine lv_aload_n hx hb dX12_corner_79 rfl (lv_at hl 1 rfl) ?_
                  refine lv_ldc2 hx hb C.1.2.2.2.1 (C.1.2.2.2.2 _ lk2) dX12_corner_80 ?_
                  refine h_calll hw (h_runV (n := 1) (As := [.long (lF 1)]) (rest := []) C hw (c_X12_finding hm (by omega)) gX12_corner_X12_finding rfl rfl rfl (by decide +kernel) ⟨by decide, by decide⟩ bX12 hm.1 rfl hl.1 rfl (Nat.le_of_ble_eq_true rfl) dX12_corner_83 ⟨by first | decide | omega, by first | decide | omega⟩) (fun r47 f48 H locs hp hw => ?_)
                  obtain ⟨rfl, B49, eB49, hm⟩ := hp
                  exact h_lret C hr hlk hw (op_fin2 (A0 := A) (B0 := fnd B 1) (by simp only [op_corner, if_pos cq1, cn2, if_pos cq4, if_pos cq10, if_pos cq16, if_neg cq20, if_neg cq24, if_neg cq28, if_neg cq34, nI_clamp (show i < 2 ^ 31 by omega), nI_clamp (show j < 2 ^ 31 by omega), nI_clamp (show h < 2 ^ 31 by omega)]) hm ⟨fun _ _ => rfl, by rw [eB49]; exact fnd_15 (rfl)⟩) dX12_corner_86
  · refine lv_aload_n hx hb dX12_corner_5 rfl (lv_at hl 0 rfl) ?_
    refine m_fld C hw hm lk1 1 (by decide) lk6 (v := .int (nI nt)) (congrArg (fun z => some (Value.int z)) hnt) dX12_corner_6 ?_
    refine lv_goto (tgt := 16) hx hb dX12_corner_9 (by decide) ?_
    refine lv_istore (lv' := [(6, _), (0, _), (1, _), (2, _), (3, _), (4, _), (5, _)]) hx hb dX12_corner_16 hl (by decide) rfl (fun ls hl => ?_)
    refine lv_iload_n hx hb dX12_corner_18 rfl (lv_at hl 2 rfl) ?_
    refine lv_iconst (v := nI 0) hx hb dX12_corner_19 (by decide) ?_
    refine lv_iload hx hb dX12_corner_20 (lv_at hl 0 rfl) ?_
    refine lv_iconst (v := nI 1) hx hb dX12_corner_22 (by decide) ?_
    refine lv_isub hx hb dX12_corner_23 ?_
    refine h_calli hw (h_runS (n := 3) (As := [.int a, .int (nI 0), .int ((nI nt) - (nI 1))]) (rest := []) C hw c_X12_in gX12_corner_X12_in rfl rfl rfl (by decide +kernel) ⟨by decide, by decide⟩ rfl hl.1 rfl (Nat.le_of_ble_eq_true rfl) dX12_corner_24 ⟨by first | decide | omega, by first | decide | omega⟩) (fun r50 f51 H locs hp hw => ?_)
    obtain ⟨rfl, rfl⟩ := hp
    refine n_ifeqB C (tgt := 79) dX12_corner_27 (by decide) (fun cq52 => ?_) (fun cq52 => ?_)
    · refine lv_aload_n hx hb dX12_corner_79 rfl (lv_at hl 1 rfl) ?_
      refine lv_ldc2 hx hb C.1.2.2.2.1 (C.1.2.2.2.2 _ lk2) dX12_corner_80 ?_
      refine h_calll hw (h_runV (n := 1) (As := [.long (lF 1)]) (rest := []) C hw (c_X12_finding hm (by omega)) gX12_corner_X12_finding rfl rfl rfl (by decide +kernel) ⟨by decide, by decide⟩ bX12 hm.1 rfl hl.1 rfl (Nat.le_of_ble_eq_true rfl) dX12_corner_83 ⟨by first | decide | omega, by first | decide | omega⟩) (fun r53 f54 H locs hp hw => ?_)
      obtain ⟨rfl, B55, eB55, hm⟩ := hp
      exact h_lret C hr hlk hw (op_fin2 (A0 := A) (B0 := fnd B 1) (by simp only [op_corner, if_neg cq1, cn2, if_neg cq52]) hm ⟨fun _ _ => rfl, by rw [eB55]; exact fnd_15 (rfl)⟩) dX12_corner_86
    · obtain ⟨i, hi, rfl⟩ := in1N (by omega) cq52
      refine lv_iload_n hx hb dX12_corner_30 rfl (lv_at hl 3 rfl) ?_
      refine lv_iconst (v := nI 0) hx hb dX12_corner_31 (by decide) ?_
      refine lv_iload hx hb dX12_corner_32 (lv_at hl 0 rfl) ?_
      refine lv_iconst (v := nI 1) hx hb dX12_corner_34 (by decide) ?_
      refine lv_isub hx hb dX12_corner_35 ?_
      refine h_calli hw (h_runS (n := 3) (As := [.int b, .int (nI 0), .int ((nI nt) - (nI 1))]) (rest := []) C hw c_X12_in gX12_corner_X12_in rfl rfl rfl (by decide +kernel) ⟨by decide, by decide⟩ rfl hl.1 rfl (Nat.le_of_ble_eq_true rfl) dX12_corner_36 ⟨by first | decide | omega, by first | decide | omega⟩) (fun r56 f57 H locs hp hw => ?_)
      obtain ⟨rfl, rfl⟩ := hp
      refine n_ifeqB C (tgt := 79) dX12_corner_39 (by decide) (fun cq58 => ?_) (fun cq58 => ?_)
      · refine lv_aload_n hx hb dX12_corner_79 rfl (lv_at hl 1 rfl) ?_
        refine lv_ldc2 hx hb C.1.2.2.2.1 (C.1.2.2.2.2 _ lk2) dX12_corner_80 ?_
        refine h_calll hw (h_runV (n := 1) (As := [.long (lF 1)]) (rest := []) C hw (c_X12_finding hm (by omega)) gX12_corner_X12_finding rfl rfl rfl (by decide +kernel) ⟨by decide, by decide⟩ bX12 hm.1 rfl hl.1 rfl (Nat.le_of_ble_eq_true rfl) dX12_corner_83 ⟨by first | decide | omega, by first | decide | omega⟩) (fun r59 f60 H locs hp hw => ?_)
        obtain ⟨rfl, B61, eB61, hm⟩ := hp
        exact h_lret C hr hlk hw (op_fin2 (A0 := A) (B0 := fnd B 1) (by simp only [op_corner, if_neg cq1, cn2, if_pos cq52, if_neg cq58, nI_clamp (show i < 2 ^ 31 by omega)]) hm ⟨fun _ _ => rfl, by rw [eB61]; exact fnd_15 (rfl)⟩) dX12_corner_86
      · obtain ⟨j, hj, rfl⟩ := in1N (by omega) cq58
        refine lv_iload_n hx hb dX12_corner_42 rfl (lv_at hl 4 rfl) ?_
        refine lv_iconst (v := nI 0) hx hb dX12_corner_43 (by decide) ?_
        refine lv_iload hx hb dX12_corner_44 (lv_at hl 0 rfl) ?_
        refine lv_iconst (v := nI 1) hx hb dX12_corner_46 (by decide) ?_
        refine lv_isub hx hb dX12_corner_47 ?_
        refine h_calli hw (h_runS (n := 3) (As := [.int d, .int (nI 0), .int ((nI nt) - (nI 1))]) (rest := []) C hw c_X12_in gX12_corner_X12_in rfl rfl rfl (by decide +kernel) ⟨by decide, by decide⟩ rfl hl.1 rfl (Nat.le_of_ble_eq_true rfl) dX12_corner_48 ⟨by first | decide | omega, by first | decide | omega⟩) (fun r62 f63 H locs hp hw => ?_)
        obtain ⟨rfl, rfl⟩ := hp
        refine n_ifeqB C (tgt := 79) dX12_corner_51 (by decide) (fun cq64 => ?_) (fun cq64 => ?_)
        · refine lv_aload_n hx hb dX12_corner_79 rfl (lv_at hl 1 rfl) ?_
          refine lv_ldc2 hx hb C.1.2.2.2.1 (C.1.2.2.2.2 _ lk2) dX12_corner_80 ?_
          refine h_calll hw (h_runV (n := 1) (As := [.long (lF 1)]) (rest := []) C hw (c_X12_finding hm (by omega)) gX12_corner_X12_finding rfl rfl rfl (by decide +kernel) ⟨by decide, by decide⟩ bX12 hm.1 rfl hl.1 rfl (Nat.le_of_ble_eq_true rfl) dX12_corner_83 ⟨by first | decide | omega, by first | decide | omega⟩) (fun r65 f66 H locs hp hw => ?_)
          obtain ⟨rfl, B67, eB67, hm⟩ := hp
          exact h_lret C hr hlk hw (op_fin2 (A0 := A) (B0 := fnd B 1) (by simp only [op_corner, if_neg cq1, cn2, if_pos cq52, if_pos cq58, if_neg cq64, nI_clamp (show i < 2 ^ 31 by omega), nI_clamp (show j < 2 ^ 31 by omega)]) hm ⟨fun _ _ => rfl, by rw [eB67]; exact fnd_15 (rfl)⟩) dX12_corner_86
        · obtain ⟨h, hh, rfl⟩ := in1N (by omega) cq64
          refine lv_iload_n hx hb dX12_corner_54 rfl (lv_at hl 2 rfl) ?_
          refine lv_iload_n hx hb dX12_corner_55 rfl (lv_at hl 3 rfl) ?_
          refine n_ceq C (by omega) (by omega) (tgt := 79) dX12_corner_56 (by decide) (fun cq68 => ?_) (fun cq68 => ?_)
          · refine lv_aload_n hx hb dX12_corner_79 rfl (lv_at hl 1 rfl) ?_
            refine lv_ldc2 hx hb C.1.2.2.2.1 (C.1.2.2.2.2 _ lk2) dX12_corner_80 ?_
            refine h_calll hw (h_runV (n := 1) (As := [.long (lF 1)]) (rest := []) C hw (c_X12_finding hm (by omega)) gX12_corner_X12_finding rfl rfl rfl (by decide +kernel) ⟨by decide, by decide⟩ bX12 hm.1 rfl hl.1 rfl (Nat.le_of_ble_eq_true rfl) dX12_corner_83 ⟨by first | decide | omega, by first | decide | omega⟩) (fun r69 f70 H locs hp hw => ?_)
            obtain ⟨rfl, B71, eB71, hm⟩ := hp
            exact h_lret C hr hlk hw (op_fin2 (A0 := A) (B0 := fnd B 1) (by simp only [op_corner, if_neg cq1, cn2, if_pos cq52, if_pos cq58, if_pos cq64, if_pos cq68, nI_clamp (show i < 2 ^ 31 by omega), nI_clamp (show j < 2 ^ 31 by omega), nI_clamp (show h < 2 ^ 31 by omega)]) hm ⟨fun _ _ => rfl, by rw [eB71]; exact fnd_15 (rfl)⟩) dX12_corner_86
          · refine lv_iload_n hx hb dX12_corner_59 rfl (lv_at hl 2 rfl) ?_
            refine lv_iload_n hx hb dX12_corner_60 rfl (lv_at hl 4 rfl) ?_
            refine n_ceq C (by omega) (by omega) (tgt := 79) dX12_corner_61 (by decide) (fun cq72 => ?_) (fun cq72 => ?_)
            · refine lv_aload_n hx hb dX12_corner_79 rfl (lv_at hl 1 rfl) ?_
              refine lv_ldc2 hx hb C.1.2.2.2.1 (C.1.2.2.2.2 _ lk2) dX12_corner_80 ?_
              refine h_calll hw (h_runV (n := 1) (As := [.long (lF 1)]) (rest := []) C hw (c_X12_finding hm (by omega)) gX12_corner_X12_finding rfl rfl rfl (by decide +kernel) ⟨by decide, by decide⟩ bX12 hm.1 rfl hl.1 rfl (Nat.le_of_ble_eq_true rfl) dX12_corner_83 ⟨by first | decide | omega, by first | decide | omega⟩) (fun r73 f74 H locs hp hw => ?_)
              obtain ⟨rfl, B75, eB75, hm⟩ := hp
              exact h_lret C hr hlk hw (op_fin2 (A0 := A) (B0 := fnd B 1) (by simp only [op_corner, if_neg cq1, cn2, if_pos cq52, if_pos cq58, if_pos cq64, if_neg cq68, if_pos cq72, nI_clamp (show i < 2 ^ 31 by omega), nI_clamp (show j < 2 ^ 31 by omega), nI_clamp (show h < 2 ^ 31 by omega)]) hm ⟨fun _ _ => rfl, by rw [eB75]; exact fnd_15 (rfl)⟩) dX12_corner_86
            · refine lv_iload_n hx hb dX12_corner_64 rfl (lv_at hl 3 rfl) ?_
              refine lv_iload_n hx hb dX12_corner_65 rfl (lv_at hl 4 rfl) ?_
              refine n_ceq C (by omega) (by omega) (tgt := 79) dX12_corner_66 (by decide) (fun cq76 => ?_) (fun cq76 => ?_)
              · refine lv_aload_n hx hb dX12_corner_79 rfl (lv_at hl 1 rfl) ?_
                refine lv_ldc2 hx hb C.1.2.2.2.1 (C.1.2.2.2.2 _ lk2) dX12_corner_80 ?_
                refine h_calll hw (h_runV (n := 1) (As := [.long (lF 1)]) (rest := []) C hw (c_X12_finding hm (by omega)) gX12_corner_X12_finding rfl rfl rfl (by decide +kernel) ⟨by decide, by decide⟩ bX12 hm.1 rfl hl.1 rfl (Nat.le_of_ble_eq_true rfl) dX12_corner_83 ⟨by first | decide | omega, by first | decide | omega⟩) (fun r77 f78 H locs hp hw => ?_)
                obtain ⟨rfl, B79, eB79, hm⟩ := hp
                exact h_lret C hr hlk hw (op_fin2 (A0 := A) (B0 := fnd B 1) (by simp only [op_corner, if_neg cq1, cn2, if_pos cq52, if_pos cq58, if_pos cq64, if_neg cq68, if_neg cq72, if_pos cq76, nI_clamp (show i < 2 ^ 31 by omega), nI_clamp (show j < 2 ^ 31 by omega), nI_clamp (show h < 2 ^ 31 by omega)]) hm ⟨fun _ _ => rfl, by rw [eB79]; exact fnd_15 (rfl)⟩) dX12_corner_86
              · refine lv_iload hx hb dX12_corner_69 (lv_at hl 5 rfl) ?_
                refine lv_iconst (v := nI 0) hx hb dX12_corner_71 (by decide) ?_
                refine lv_iconst (v := nI 3) hx hb dX12_corner_72 (by decide) ?_
                refine h_calli hw (h_runS (n := 3) (As := [.int k, .int (nI 0), .int (nI 3)]) (rest := []) C hw c_X12_in gX12_corner_X12_in rfl rfl rfl (by decide +kernel) ⟨by decide, by decide⟩ rfl hl.1 rfl (Nat.le_of_ble_eq_true rfl) dX12_corner_73 ⟨by first | decide | omega, by first | decide | omega⟩) (fun r80 f81 H locs hp hw => ?_)
                obtain ⟨rfl, rfl⟩ := hp
                refine n_ifneB C (tgt := 87) dX12_corner_76 (by decide) (fun cq82 => ?_) (fun cq82 => ?_)
                · obtain ⟨u, hu, rfl⟩ := inN (by decide) cq82
                  refine lv_iload hx hb dX12_corner_87 (lv_at hl 6 rfl) ?_
                  refine lv_if_eq (tgt := 97) hx hb dX12_corner_89 (by decide) (fun cq83 => ?_) (fun cq83 => ?_)
                  · exact absurd cq83 cq1
                  · refine lv_bipush (v := nI 10) hx hb dX12_corner_92 (by decide) ?_
                    refine lv_goto (tgt := 98) hx hb dX12_corner_94 (by decide) ?_
                    refine lv_istore (lv' := [(7, _), (6, _), (0, _), (1, _), (2, _), (3, _), (4, _), (5, _)]) hx hb dX12_corner_98 hl (by decide) rfl (fun ls hl => ?_)
                    refine lv_aload_n hx hb dX12_corner_100 rfl (lv_at hl 2 rfl) ?_
                    refine lv_iload hx hb dX12_corner_101 (lv_at hl 0 rfl) ?_
                    refine lv_iload_n hx hb dX12_corner_103 rfl (lv_at hl 3 rfl) ?_
                    refine n_iadd C dX12_corner_104 ?_
                    refine lv_iload hx hb dX12_corner_105 (lv_at hl 0 rfl) ?_
                    refine lv_iload_n hx hb dX12_corner_107 rfl (lv_at hl 4 rfl) ?_
                    refine n_iadd C dX12_corner_108 ?_
                    refine lv_iload hx hb dX12_corner_109 (lv_at hl 0 rfl) ?_
                    refine lv_iload_n hx hb dX12_corner_111 rfl (lv_at hl 5 rfl) ?_
                    refine n_iadd C dX12_corner_112 ?_
                    refine h_calli hw (h_runV (n := 3) (As := [.int (nI (10 + i)), .int (nI (10 + j)), .int (nI (10 + h))]) (rest := []) C hw (c_X12_layOut hm (by omega) (by omega) (by omega)) gX12_corner_X12_layOut rfl rfl rfl (by decide +kernel) ⟨by decide, by decide⟩ bX12 hm.1 rfl hl.1 rfl (Nat.le_of_ble_eq_true rfl) dX12_corner_113 ⟨by first | decide | omega, by first | decide | omega⟩) (fun r84 f85 H locs hp hw => ?_)
                    obtain ⟨rfl, A86, B87, hm, hFAA86, hFBA86, hTA86⟩ := hp
                    have hn88 : A86 0 0 = nI ns := by rw [hFAA86 0 (by decide) (by decide)]; exact hns
                    have hn89 : A86 1 0 = nI nt := by rw [hFAA86 1 (by decide) (by decide)]; exact hnt
                    refine n_ifneB C (tgt := 127) dX12_corner_116 (by decide) (fun cq90 => ?_) (fun cq90 => ?_)
                    · obtain ⟨k0, k1, k2, s0, s1, s2, htn⟩ := hTA86 cq90
                      refine lv_iload hx hb dX12_corner_127 (lv_at hl 6 rfl) ?_
                      refine lv_iconst (v := nI 3) hx hb dX12_corner_129 (by decide) ?_
                      refine n_cne C (by omega) (by omega) (tgt := 141) dX12_corner_130 (by decide) (fun cq91 => ?_) (fun cq91 => ?_)
                      · refine lv_aload_n hx hb dX12_corner_141 rfl (lv_at hl 2 rfl) ?_
                        refine m_fld C hw hm lk1 16 (by decide) lk3 (v := .ref (q 16)) rfl dX12_corner_142 ?_
                        refine lv_iload hx hb dX12_corner_145 (lv_at hl 6 rfl) ?_
                        refine m_iald C hw hm 16 rfl (v := nI (cT (triT A (10 + i) (10 + j) (10 + h)) u)) (cT_at (by omega) k0 k1 k2) (show u < 3 from (by omega)) dX12_corner_147 ?_
                        refine lv_iload hx hb dX12_corner_148 (lv_at hl 0 rfl) ?_
                        refine lv_isub hx hb dX12_corner_150 ?_
                        refine lv_i2l hx hb dX12_corner_151 rfl ?_
                        exact h_lret C hr hlk hw (op_fin2 (A0 := A) (B0 := B) (by simp only [op_corner, if_neg cq1, cn2, if_pos cq52, if_pos cq58, if_pos cq64, if_neg cq68, if_neg cq72, if_neg cq76, if_pos cq82, cn3, if_pos cq90, if_neg cq91, nI_clamp (show i < 2 ^ 31 by omega), nI_clamp (show j < 2 ^ 31 by omega), nI_clamp (show h < 2 ^ 31 by omega), nI_clamp (show u < 2 ^ 31 by omega)]) hm ⟨fun k hk => hFAA86 k (by omega) (by omega), hFBA86 15 (by decide)⟩) dX12_corner_152
                      · refine lv_aload_n hx hb dX12_corner_133 rfl (lv_at hl 2 rfl) ?_
                        refine m_fld C hw hm lk1 18 (by decide) lk4 (v := .int (tnA A (triT A (10 + i) (10 + j) (10 + h)))) (congrArg (fun z => some (Value.int z)) htn) dX12_corner_134 ?_
                        refine lv_i2l hx hb dX12_corner_137 rfl ?_
                        refine lv_goto (tgt := 152) hx hb dX12_corner_138 (by decide) ?_
                        exact h_lret C hr hlk hw (op_fin2 (A0 := A) (B0 := B) (by simp only [op_corner, if_neg cq1, cn2, if_pos cq52, if_pos cq58, if_pos cq64, if_neg cq68, if_neg cq72, if_neg cq76, if_pos cq82, cn3, if_pos cq90, if_pos cq91, nI_clamp (show i < 2 ^ 31 by omega), nI_clamp (show j < 2 ^ 31 by omega), nI_clamp (show h < 2 ^ 31 by omega), nI_clamp (show u < 2 ^ 31 by omega)]) hm ⟨fun k hk => hFAA86 k (by omega) (by omega), hFBA86 15 (by decide)⟩) dX12_corner_152
                    · refine lv_aload_n hx hb dX12_corner_119 rfl (lv_at hl 2 rfl) ?_
                      refine lv_ldc2 hx hb C.1.2.2.2.1 (C.1.2.2.2.2 _ lk5) dX12_corner_120 ?_
                      refine h_calll hw (h_runV (n := 1) (As := [.long (lF 2)]) (rest := []) C hw (c_X12_finding hm (by omega)) gX12_corner_X12_finding rfl rfl rfl (by decide +kernel) ⟨by decide, by decide⟩ bX12 hm.1 rfl hl.1 rfl (Nat.le_of_ble_eq_true rfl) dX12_corner_123 ⟨by first | decide | omega, by first | decide | omega⟩) (fun r92 f93 H locs hp hw => ?_)
                      obtain ⟨rfl, B94, eB94, hm⟩ := hp
                      exact h_lret C hr hlk hw (op_fin2 (A0 := A) (B0 := fnd B 2) (by simp only [op_corner, if_neg cq1, cn2, if_pos cq52, if_pos cq58, if_pos cq64, if_neg cq68, if_neg cq72, if_neg cq76, if_pos cq82, cn3, if_neg cq90, nI_clamp (show i < 2 ^ 31 by omega), nI_clamp (show j < 2 ^ 31 by omega), nI_clamp (show h < 2 ^ 31 by omega), nI_clamp (show u < 2 ^ 31 by omega)]) hm ⟨fun k hk => hFAA86 k (by omega) (by omega), by rw [eB94]; exact fnd_15 (hFBA86 15 (by decide))⟩) dX12_corner_126
                · refine lv_aload_n hx hb dX12_corner_79 rfl (lv_at hl 1 rfl) ?_
                  refine lv_ldc2 hx hb C.1.2.2.2.1 (C.1.2.2.2.2 _ lk2) dX12_corner_80 ?_
                  refine h_calll hw (h_runV (n := 1) (As := [.long (lF 1)]) (rest := []) C hw (c_X12_finding hm (by omega)) gX12_corner_X12_finding rfl rfl rfl (by decide +kernel) ⟨by decide, by decide⟩ bX12 hm.1 rfl hl.1 rfl (Nat.le_of_ble_eq_true rfl) dX12_corner_83 ⟨by first | decide | omega, by first | decide | omega⟩) (fun r95 f96 H locs hp hw => ?_)
                  obtain ⟨rfl, B97, eB97, hm⟩ := hp
                  exact h_lret C hr hlk hw (op_fin2 (A0 := A) (B0 := fnd B 1) (by simp only [op_corner, if_neg cq1, cn2, if_pos cq52, if_pos cq58, if_pos cq64, if_neg cq68, if_neg cq72, if_neg cq76, if_neg cq82, nI_clamp (show i < 2 ^ 31 by omega), nI_clamp (show j < 2 ^ 31 by omega), nI_clamp (show h < 2 ^ 31 by omega)]) hm ⟨fun _ _ => rfl, by rw [eB97]; exact fnd_15 (rfl)⟩) dX12_corner_86
