/-! ===== the reference, third methods (laid by program) ===== -/
theorem in1N {v : Int32} {n : Nat} (hn : n < 2 ^ 30) (h : rg (nI 0) (nI n - nI 1) v) : ∃ j : Nat, j < n ∧ v = nI j := by
  obtain ⟨j, hj, rfl⟩ := nI_of (x := v) h.1
  refine ⟨j, ?_, rfl⟩
  rcases Nat.lt_or_ge j n with h1 | h1
  · exact h1
  · refine absurd ?_ h.2
    rw [Int32.lt_iff_toInt_lt, pk_sub_toInt hn (by decide), nI_toInt hj]
    omega
theorem rs_nn {A : MA} {i : Nat} (hrs : ∀ r, r < 2 → A 6 r = -1 ∨ ∃ n, n ≤ 24 ∧ A 6 r = nI n) (hi : i < 2) (h : 0 ≤ A 6 i) : ∃ n, n ≤ 24 ∧ A 6 i = nI n := by
  rcases hrs i hi with h1 | h1
  · rw [h1] at h; exact absurd h (by decide)
  · exact h1
theorem cl_le {n : Int32} {k : Nat} (h1 : -1 ≤ n) (hk : k < 2 ^ 31) : n ≤ nI k ↔ n.toNatClampNeg ≤ k := by
  rw [Int32.le_iff_toInt_le, nI_toInt hk]
  rw [Int32.le_iff_toInt_le] at h1
  have h0 : (-1 : Int32).toInt = -1 := rfl
  unfold Int32.toNatClampNeg
  omega
def rowA (A : MA) (r : Nat) (n : Int32) (i : Nat) : MA := va_up (stP A 6 r n) 5 (fun j => if 24 * r ≤ j ∧ j < 24 * r + i then -1 else A 5 j)
theorem row_0 (A : MA) (r : Nat) (n : Int32) : stP A 6 r n = rowA A r n 0 := by
  funext k j
  unfold rowA
  by_cases h : k = 5
  · subst h
    rw [va_up_self, if_neg (by omega)]
    rfl
  · rw [va_up_ne _ _ h]
theorem row_s (A : MA) (r : Nat) (n : Int32) (i : Nat) : va_up (rowA A r n i) 5 (upd (rowA A r n i 5) (24 * r + i) (-1)) = rowA A r n (i + 1) := by
  funext k j
  by_cases h : k = 5
  · subst h
    unfold rowA
    rw [va_up_self, va_up_self, va_up_self]
    by_cases h2 : j = 24 * r + i
    · subst h2
      rw [pk_us, if_pos (by omega)]
    · rw [pk_un h2]
      by_cases h3 : 24 * r ≤ j ∧ j < 24 * r + i
      · rw [if_pos h3, if_pos (by omega)]
      · rw [if_neg h3, if_neg (by omega)]
  · unfold rowA
    rw [va_up_ne _ _ h, va_up_ne _ _ h, va_up_ne _ _ h]
def op_row (A : MA) (B : MB) (r n : Int32) : OR := if rg (nI 0) (nI 1) r then (if -1 ≤ n then (if n ≤ nI 24 then (n.toInt64, rowA A r.toNatClampNeg n n.toNatClampNeg, B) else (lF 1, A, fnd B 1)) else (lF 5, A, fnd B 5)) else (lF 1, A, fnd B 1)
def shA (v : Int32) : Int32 := v <<< (nI 16 &&& 31) >>> (nI 16 &&& 31)
def op_put (A : MA) (B : MB) (r k v : Int32) : OR := if rg (nI 0) (nI 1) r then (if 0 ≤ A 6 r.toNatClampNeg then (if rg (nI 0) (A 6 r.toNatClampNeg - nI 1) k then ((shA v).toInt64, stP A 5 (24 * r.toNatClampNeg + k.toNatClampNeg) (shA v), B) else (lF 1, A, fnd B 1)) else (lF 2, A, fnd B 2)) else (lF 1, A, fnd B 1)
def op_count (A : MA) (B : MB) (ns nt tn : Nat) (k : Int32) : OR := if rg (nI 0) (nI 8) k then (if k.toNatClampNeg = 0 then (lN nt, A, B) else if k.toNatClampNeg = 1 then (lN ns, A, B) else if k.toNatClampNeg = 2 then (lN tn, A, B) else ((A 8 (k.toNatClampNeg - 3)).toInt64, A, B)) else (lF 1, A, fnd B 1)
theorem sgN {A : MA} {t k : Int32} (hsg : ∀ j, j < 6 → ∃ c, c ≤ 4 ∧ A 8 j = nI c) (h : sgA A t k) : ∃ i j c : Nat, i < 6 ∧ j < c ∧ c ≤ 4 ∧ A 8 i = nI c ∧ t = nI i ∧ k = nI j := by
  obtain ⟨i, hi, rfl⟩ := inN (by decide) h.1
  obtain ⟨c, hc, hA⟩ := hsg i (by omega)
  have h2 := h.2
  rw [nI_clamp (by omega), hA] at h2
  obtain ⟨j, hj, rfl⟩ := in1N (by omega) h2
  exact ⟨i, j, c, by omega, hj, hc, hA, rfl, rfl⟩
def atA (t k : Int32) : Nat := 4 * t.toNatClampNeg + k.toNatClampNeg
theorem atN {i j : Nat} (hi : i < 6) (hj : j < 4) : atA (nI i) (nI j) = 4 * i + j := by rw [atA, nI_clamp (by omega), nI_clamp (by omega)]
def op_as (A : MA) (B : MB) (t k w : Int32) : OR := if sgA A t k then (if rg (nI 0) (nI 2) w then (if w = 0 then ((A 10 (atA t k)).toInt64, A, B) else if A 9 (atA t k) = w then ((A 10 (atA t k)).toInt64, A, B) else (lF 3, A, fnd B 3)) else (lF 1, A, fnd B 1)) else (lF 1, A, fnd B 1)
def bdA (A : MA) (t : Nat) : Int64 := plA A t 0 * wyA A t 2 0 + plA A t 1 * wyA A t 2 1 + plA A t 2 * wyA A t 2 2
def ab2 (A : MA) (B : MB) (t u : Nat) : OR := if hpA A t then (if 5 ≤ u then (bdA A t, A, B) else (plA A t (u - 2), A, B)) else (lF 2, A, fnd B 2)
def op_about (A : MA) (B : MB) (t k w : Int32) : OR := if sgA A t k then (if rg (nI 0) (nI 5) w then (if 2 ≤ w.toNatClampNeg then (if w.toNatClampNeg = 5 then (if A 9 (atA t k) = nI 1 then ab2 A B (atA t k) w.toNatClampNeg else (lF 3, A, fnd B 3)) else ab2 A B (atA t k) w.toNatClampNeg) else if w.toNatClampNeg = 0 then ((A 9 (atA t k)).toInt64, A, B) else ((A 10 (atA t k)).toInt64, A, B)) else (lF 1, A, fnd B 1)) else (lF 1, A, fnd B 1)
abbrev twA (A : MA) (t k j : Int32) : Prop := sgA A t k ∧ sgA A t j ∧ ¬ k = j
def op_fall (A : MA) (B : MB) (t k j w : Int32) : OR := if twA A t k j then (if rg (nI 0) (nI 2) w then (if hfA A (atA t k) (atA t j) then (faA A (atA t k) (atA t j) w.toNatClampNeg, A, B) else (lF 2, A, fnd B 2)) else (lF 1, A, fnd B 1)) else (lF 1, A, fnd B 1)
def fpA (A : MA) (i c : Nat) : Option Nat := (List.range c).find? (fun k => decide (hpA A (4 * i + k)))
theorem fp_some {A : MA} {i c k : Nat} (hk : k < c) (h : hpA A (4 * i + k)) (hn : ∀ j, j < k → ¬ hpA A (4 * i + j)) : fpA A i c = some k := by
  unfold fpA
  rw [List.find?_range_eq_some]
  exact ⟨decide_eq_true h, by simpa using hk, fun j hj => by simpa using hn j hj⟩
theorem fp_none {A : MA} {i c : Nat} (hn : ∀ j, j < c → ¬ hpA A (4 * i + j)) : fpA A i c = none := by
  unfold fpA
  rw [List.find?_eq_none]
  intro j hj
  simpa using hn j (List.mem_range.mp hj)
def fpI (A : MA) (i c : Nat) : Int32 := match fpA A i c with
  | some k => nI (4 * i + k)
  | none => -1
theorem fp_lt {A : MA} {i c k : Nat} (h : fpA A i c = some k) : k < c := by
  unfold fpA at h
  exact List.mem_range.mp (List.mem_of_find?_eq_some h)
theorem fpI_s {A : MA} {i c k : Nat} (h : fpA A i c = some k) : fpI A i c = nI (4 * i + k) := by unfold fpI; rw [h]
theorem fpI_n {A : MA} {i c : Nat} (h : fpA A i c = none) : fpI A i c = -1 := by unfold fpI; rw [h]
theorem fpI_nn {A : MA} {i c : Nat} (h : ¬ fpI A i c < 0) : ∃ k, k < c ∧ fpA A i c = some k ∧ fpI A i c = nI (4 * i + k) := by
  cases hf : fpA A i c with
  | none => rw [fpI_n hf] at h; exact absurd (by decide) h
  | some k => exact ⟨k, fp_lt hf, rfl, fpI_s hf⟩
theorem fpI_lt {A : MA} {i c : Nat} (hi : i < 6) (hc : c ≤ 4) (h : fpI A i c < 0) : fpA A i c = none := by
  cases hf : fpA A i c with
  | none => rfl
  | some k => rw [fpI_s hf] at h; exact absurd h (nI_pos (by have := fp_lt hf; omega))
def hrB (A : MA) (a ca b cb : Nat) : Bool := match fpA A a ca, fpA A b cb with
  | some k, some j => decide (hfA A (4 * a + k) (4 * b + j))
  | _, _ => false
theorem hr_s {A : MA} {a ca b cb k j : Nat} (h1 : fpA A a ca = some k) (h2 : fpA A b cb = some j) : hrB A a ca b cb = true ↔ hfA A (4 * a + k) (4 * b + j) := by unfold hrB; rw [h1, h2]; simp
theorem hr_1 {A : MA} {a ca b cb : Nat} (h1 : fpA A a ca = none) : ¬ hrB A a ca b cb = true := by unfold hrB; rw [h1]; simp
theorem hr_2 {A : MA} {a ca b cb : Nat} (h1 : fpA A b cb = none) : ¬ hrB A a ca b cb = true := by
  unfold hrB
  rw [h1]
  cases fpA A a ca <;> simp
theorem hr_x {A : MA} {a ca b cb : Nat} (h : hrB A a ca b cb = true) : ∃ k j, fpA A a ca = some k ∧ fpA A b cb = some j := by
  cases h1 : fpA A a ca with
  | none => exact absurd h (hr_1 h1)
  | some k => cases h2 : fpA A b cb with
    | none => exact absurd h (hr_2 h2)
    | some j => exact ⟨k, j, rfl, rfl⟩
set_option maxHeartbeats 4000000 in
set_option maxRecDepth 100000 in
theorem c_X12_row {l : Launch} {D : va_G} {cA : Nat → ClassId} {f : HF} {sz : Nat} {q : Nat → Nat} {A : MA} {B : MB} {ra n9 : Int32} (hm : mo cA q A B f) : Met l yX12_row wsX12_row ({ frames := 1, cells := 0, slots := 0, locals := 22 } : Room) (va_Pc [.ref (q 0), .int ra, .int n9] (hB D cA f sz)) (va_Ql (fun r f1 => (op_row A B ra n9).1 = r ∧ mo cA q (op_row A B ra n9).2.1 (op_row A B ra n9).2.2 f1) (hE D f sz) (hA f sz)) 0 0 (hA f sz) := by
  refine h_of (cc := cX12_row) (maxL := 4) (ret := (some .long)) (by decide +kernel) rfl (Nat.le_of_ble_eq_true rfl) ?_
  intro p e s m below meth c ls C hr hlk hnm hw hl
  have hx := C.1.1
  have hb := C.1.2.1
  have hl : lv_has ls 4 [(0, .ref (q 0)), (1, .int ra), (2, .int n9)] := hl
  have lk0 : Cond.fieldLink RX12 23 "FallingLightModel" "rowSize" "[I" ∈ wsX12_row := by decide +kernel
  have lk1 : ∀ w ∈ u_ws RX12 TX12 27, w ∈ wsX12_row := by decide +kernel
  have lk2 : Cond.fieldLink RX12 20 "FallingLightModel" "rows" "[I" ∈ wsX12_row := by decide +kernel
  have lk3 : Cond.constantLong RX12 91 (lF 1) ∈ wsX12_row := by decide +kernel
  have lk4 : Cond.constantLong RX12 104 (lF 5) ∈ wsX12_row := by decide +kernel
  refine lv_iload_n hx hb dX12_row_0 rfl (lv_at hl 1 rfl) ?_
  refine lv_iconst (v := nI 0) hx hb dX12_row_1 (by decide) ?_
  refine lv_iconst (v := nI 1) hx hb dX12_row_2 (by decide) ?_
  refine h_calli hw (h_runS (n := 3) (As := [.int ra, .int (nI 0), .int (nI 1)]) (rest := []) C hw c_X12_in gX12_row_X12_in rfl rfl rfl (by decide +kernel) ⟨by decide, by decide⟩ rfl hl.1 rfl (Nat.le_of_ble_eq_true rfl) dX12_row_3 ⟨by first | decide | omega, by first | decide | omega⟩) (fun r1 f2 H locs hp hw => ?_)
  obtain ⟨rfl, rfl⟩ := hp
  refine n_ifneB C (tgt := 17) dX12_row_6 (by decide) (fun c3 => ?_) (fun c3 => ?_)
  · obtain ⟨i, hi, rfl⟩ := inN (by decide) c3
    refine lv_iload_n hx hb dX12_row_17 rfl (lv_at hl 2 rfl) ?_
    refine lv_iconst (v := (-1)) hx hb dX12_row_18 (by decide) ?_
    refine lv_icmp_ge (tgt := 30) hx hb dX12_row_19 (by decide) (fun c4 => ?_) (fun c4 => ?_)
    · have hge := c4
      refine lv_iload_n hx hb dX12_row_30 rfl (lv_at hl 2 rfl) ?_
      refine lv_bipush (v := nI 24) hx hb dX12_row_31 (by decide) ?_
      refine lv_icmp_le (tgt := 44) hx hb dX12_row_33 (by decide) (fun c5 => ?_) (fun c5 => ?_)
      · have hle : n9.toNatClampNeg ≤ 24 := (cl_le hge (by decide)).mp c5
        refine lv_aload_n hx hb dX12_row_44 rfl (lv_at hl 0 rfl) ?_
        refine m_fld C hw hm lk1 6 (by decide) lk0 (v := .ref (q 6)) rfl dX12_row_45 ?_
        refine lv_iload_n hx hb dX12_row_48 rfl (lv_at hl 1 rfl) ?_
        refine lv_iload_n hx hb dX12_row_49 rfl (lv_at hl 2 rfl) ?_
        refine m_iast C hw hm 6 rfl (show i < 2 from (by omega)) dX12_row_50 (fun A6 f7 H locs eA6 hw hm => ?_)
        refine lv_iconst (v := nI 0) hx hb dX12_row_51 (by decide) ?_
        refine lv_istore_n (lv' := [(3, _), (0, _), (1, _), (2, _)]) hx hb dX12_row_52 rfl hl (by decide) rfl (fun ls hl => ?_)
        have lp53 : ∀ (n : Nat) (k : Nat) (Ak : MA) (f1 : HF) (H1 : Heap) (locs1 : List Loc) (ls1 : Array Slot), hW D (hA f sz) s.heap f1 H1 locs1 → mo cA q Ak B f1 → lv_has ls1 4 [(0, .ref (q 0)), (1, .int (nI i)), (2, .int n9), (3, .int (nI k))] → (Ak = rowA A i n9 k) → (k ≤ n9.toNatClampNeg) → n9.toNatClampNeg - k < n → W p l e ({ frames := 1, cells := 0, slots := 0, locals := 22 } : Room) s m ([.ref (q 0), .int (nI i), .int n9]).toArray below meth c H1 locs1 0 0 (MQ below (va_Ql (fun r f1 => (op_row A B (nI i) n9).1 = r ∧ mo cA q (op_row A B (nI i) n9).2.1 (op_row A B (nI i) n9).2.2 f1) (hE D f sz) (hA f sz)) ([.ref (q 0), .int (nI i), .int n9]).toArray s 0 0 (hA f sz)) (F0 m 53 ls1 []) := by
          intro n
          induction n with
          | zero => intros; omega
          | succ n ih53 =>
            intro k Ak f1 H locs ls hw hm hl hAk hk hmu
            refine lv_iload_n hx hb dX12_row_53 rfl (lv_at hl 3 rfl) ?_
            refine lv_iload_n hx hb dX12_row_54 rfl (lv_at hl 2 rfl) ?_
            refine lv_icmp_ge (tgt := 76) hx hb dX12_row_55 (by decide) (fun c8 => ?_) (fun c8 => ?_)
            · have hkn : n9.toNatClampNeg = k := Nat.le_antisymm ((cl_le hge (by omega)).mp c8) hk
              refine lv_iload_n hx hb dX12_row_76 rfl (lv_at hl 2 rfl) ?_
              refine lv_i2l hx hb dX12_row_77 rfl ?_
              exact h_lret C hr hlk hw (op_fin (by rw [op_row, if_pos c3, if_pos c4, if_pos c5, nI_clamp (show i < 2 ^ 31 by omega), hkn, ← hAk]) hm) dX12_row_78
            · have hkn : k < n9.toNatClampNeg := Nat.not_le.mp (fun h => c8 ((cl_le hge (by omega)).mpr h))
              refine lv_aload_n hx hb dX12_row_58 rfl (lv_at hl 0 rfl) ?_
              refine m_fld C hw hm lk1 5 (by decide) lk2 (v := .ref (q 5)) rfl dX12_row_59 ?_
              refine lv_bipush (v := nI 24) hx hb dX12_row_62 (by decide) ?_
              refine lv_iload_n hx hb dX12_row_64 rfl (lv_at hl 1 rfl) ?_
              refine n_imul C dX12_row_65 ?_
              refine lv_iload_n hx hb dX12_row_66 rfl (lv_at hl 3 rfl) ?_
              refine n_iadd C dX12_row_67 ?_
              refine lv_iconst (v := (-1)) hx hb dX12_row_68 (by decide) ?_
              refine m_iast C hw hm 5 rfl (show 24 * i + k < 48 from (by omega)) dX12_row_69 (fun A9 f10 H locs eA9 hw hm => ?_)
              refine n_iinc C (lv' := [(3, _), (0, _), (1, _), (2, _)]) dX12_row_70 hl (k := 3) rfl (by decide) rfl (fun ls hl => ?_)
              refine lv_goto (tgt := 53) hx hb dX12_row_73 (by decide) ?_
              exact ih53 _ _ _ _ _ _ hw hm (lv_sub hl [1, 2, 3, 0] rfl) (by rw [eA9, hAk]; exact row_s A i n9 k) (by omega) (by omega)
        exact lp53 _ _ _ _ _ _ _ hw hm (lv_sub hl [1, 2, 3, 0] rfl) (by subst eA6; exact row_0 A i n9) (by omega) (Nat.lt_succ_self _)
      · refine lv_aload_n hx hb dX12_row_36 rfl (lv_at hl 0 rfl) ?_
        refine lv_ldc2 hx hb C.1.2.2.2.1 (C.1.2.2.2.2 _ lk3) dX12_row_37 ?_
        refine h_calll hw (h_runV (n := 1) (As := [.long (lF 1)]) (rest := []) C hw (c_X12_finding hm (by omega)) gX12_row_X12_finding rfl rfl rfl (by decide +kernel) ⟨by decide, by decide⟩ bX12 hm.1 rfl hl.1 rfl (Nat.le_of_ble_eq_true rfl) dX12_row_40 ⟨by first | decide | omega, by first | decide | omega⟩) (fun r11 f12 H locs hp hw => ?_)
        obtain ⟨rfl, B13, eB13, hm⟩ := hp
        exact h_lret C hr hlk hw (op_fin (by subst eB13; simp only [op_row, if_pos c3, if_pos c4, if_neg c5]; try rfl) hm) dX12_row_43
    · refine lv_aload_n hx hb dX12_row_22 rfl (lv_at hl 0 rfl) ?_
      refine lv_ldc2 hx hb C.1.2.2.2.1 (C.1.2.2.2.2 _ lk4) dX12_row_23 ?_
      refine h_calll hw (h_runV (n := 1) (As := [.long (lF 5)]) (rest := []) C hw (c_X12_finding hm (by omega)) gX12_row_X12_finding rfl rfl rfl (by decide +kernel) ⟨by decide, by decide⟩ bX12 hm.1 rfl hl.1 rfl (Nat.le_of_ble_eq_true rfl) dX12_row_26 ⟨by first | decide | omega, by first | decide | omega⟩) (fun r14 f15 H locs hp hw => ?_)
      obtain ⟨rfl, B16, eB16, hm⟩ := hp
      exact h_lret C hr hlk hw (op_fin (by subst eB16; simp only [op_row, if_pos c3, if_neg c4]; try rfl) hm) dX12_row_29
  · refine lv_aload_n hx hb dX12_row_9 rfl (lv_at hl 0 rfl) ?_
    refine lv_ldc2 hx hb C.1.2.2.2.1 (C.1.2.2.2.2 _ lk3) dX12_row_10 ?_
    refine h_calll hw (h_runV (n := 1) (As := [.long (lF 1)]) (rest := []) C hw (c_X12_finding hm (by omega)) gX12_row_X12_finding rfl rfl rfl (by decide +kernel) ⟨by decide, by decide⟩ bX12 hm.1 rfl hl.1 rfl (Nat.le_of_ble_eq_true rfl) dX12_row_13 ⟨by first | decide | omega, by first | decide | omega⟩) (fun r17 f18 H locs hp hw => ?_)
    obtain ⟨rfl, B19, eB19, hm⟩ := hp
    exact h_lret C hr hlk hw (op_fin (by subst eB19; simp only [op_row, if_neg c3]; try rfl) hm) dX12_row_16
set_option maxHeartbeats 4000000 in
set_option maxRecDepth 100000 in
theorem c_X12_put {l : Launch} {D : va_G} {cA : Nat → ClassId} {f : HF} {sz : Nat} {q : Nat → Nat} {A : MA} {B : MB} {ra k v : Int32} (hm : mo cA q A B f) (hrs : ∀ r, r < 2 → A 6 r = -1 ∨ ∃ n, n ≤ 24 ∧ A 6 r = nI n) : Met l yX12_put wsX12_put ({ frames := 1, cells := 0, slots := 0, locals := 22 } : Room) (va_Pc [.ref (q 0), .int ra, .int k, .int v] (hB D cA f sz)) (va_Ql (fun r f1 => (op_put A B ra k v).1 = r ∧ mo cA q (op_put A B ra k v).2.1 (op_put A B ra k v).2.2 f1) (hE D f sz) (hA f sz)) 0 0 (hA f sz) := by
  refine h_of (cc := cX12_put) (maxL := 4) (ret := (some .long)) (by decide +kernel) rfl (Nat.le_of_ble_eq_true rfl) ?_
  intro p e s m below meth c ls C hr hlk hnm hw hl
  have hx := C.1.1
  have hb := C.1.2.1
  have hl : lv_has ls 4 [(0, .ref (q 0)), (1, .int ra), (2, .int k), (3, .int v)] := hl
  have lk0 : Cond.fieldLink RX12 23 "FallingLightModel" "rowSize" "[I" ∈ wsX12_put := by decide +kernel
  have lk1 : ∀ w ∈ u_ws RX12 TX12 27, w ∈ wsX12_put := by decide +kernel
  have lk2 : Cond.fieldLink RX12 20 "FallingLightModel" "rows" "[I" ∈ wsX12_put := by decide +kernel
  have lk3 : Cond.constantLong RX12 91 (lF 1) ∈ wsX12_put := by decide +kernel
  have lk4 : Cond.constantLong RX12 106 (lF 2) ∈ wsX12_put := by decide +kernel
  refine lv_iload_n hx hb dX12_put_0 rfl (lv_at hl 1 rfl) ?_
  refine lv_iconst (v := nI 0) hx hb dX12_put_1 (by decide) ?_
  refine lv_iconst (v := nI 1) hx hb dX12_put_2 (by decide) ?_
  refine h_calli hw (h_runS (n := 3) (As := [.int ra, .int (nI 0), .int (nI 1)]) (rest := []) C hw c_X12_in gX12_put_X12_in rfl rfl rfl (by decide +kernel) ⟨by decide, by decide⟩ rfl hl.1 rfl (Nat.le_of_ble_eq_true rfl) dX12_put_3 ⟨by first | decide | omega, by first | decide | omega⟩) (fun r1 f2 H locs hp hw => ?_)
  obtain ⟨rfl, rfl⟩ := hp
  refine n_ifneB C (tgt := 17) dX12_put_6 (by decide) (fun c3 => ?_) (fun c3 => ?_)
  · obtain ⟨i, hi, rfl⟩ := inN (by decide) c3
    refine lv_aload_n hx hb dX12_put_17 rfl (lv_at hl 0 rfl) ?_
    refine m_fld C hw hm lk1 6 (by decide) lk0 (v := .ref (q 6)) rfl dX12_put_18 ?_
    refine lv_iload_n hx hb dX12_put_21 rfl (lv_at hl 1 rfl) ?_
    refine m_iald C hw hm 6 rfl (v := A 6 i) rfl (show i < 2 from (by omega)) dX12_put_22 ?_
    refine lv_if_ge (tgt := 34) hx hb dX12_put_23 (by decide) (fun c4 => ?_) (fun c4 => ?_)
    · obtain ⟨n9, hn9, hA6⟩ := rs_nn hrs (show i < 2 by omega) c4
      refine lv_iload_n hx hb dX12_put_34 rfl (lv_at hl 2 rfl) ?_
      refine lv_iconst (v := nI 0) hx hb dX12_put_35 (by decide) ?_
      refine lv_aload_n hx hb dX12_put_36 rfl (lv_at hl 0 rfl) ?_
      refine m_fld C hw hm lk1 6 (by decide) lk0 (v := .ref (q 6)) rfl dX12_put_37 ?_
      refine lv_iload_n hx hb dX12_put_40 rfl (lv_at hl 1 rfl) ?_
      refine m_iald C hw hm 6 rfl (v := A 6 i) rfl (show i < 2 from (by omega)) dX12_put_41 ?_
      refine lv_iconst (v := nI 1) hx hb dX12_put_42 (by decide) ?_
      refine lv_isub hx hb dX12_put_43 ?_
      refine h_calli hw (h_runS (n := 3) (As := [.int k, .int (nI 0), .int ((A 6 i) - (nI 1))]) (rest := []) C hw c_X12_in gX12_put_X12_in rfl rfl rfl (by decide +kernel) ⟨by decide, by decide⟩ rfl hl.1 rfl (Nat.le_of_ble_eq_true rfl) dX12_put_44 ⟨by first | decide | omega, by first | decide | omega⟩) (fun r5 f6 H locs hp hw => ?_)
      obtain ⟨rfl, rfl⟩ := hp
      refine n_ifneB C (tgt := 58) dX12_put_47 (by decide) (fun c7 => ?_) (fun c7 => ?_)
      · have hin := c7
        rw [hA6] at hin
        obtain ⟨j, hj, rfl⟩ := in1N (by omega) hin
        refine lv_aload_n hx hb dX12_put_58 rfl (lv_at hl 0 rfl) ?_
        refine m_fld C hw hm lk1 5 (by decide) lk2 (v := .ref (q 5)) rfl dX12_put_59 ?_
        refine lv_bipush (v := nI 24) hx hb dX12_put_62 (by decide) ?_
        refine lv_iload_n hx hb dX12_put_64 rfl (lv_at hl 1 rfl) ?_
        refine n_imul C dX12_put_65 ?_
        refine lv_iload_n hx hb dX12_put_66 rfl (lv_at hl 2 rfl) ?_
        refine n_iadd C dX12_put_67 ?_
        refine lv_iload_n hx hb dX12_put_68 rfl (lv_at hl 3 rfl) ?_
        refine lv_bipush (v := nI 16) hx hb dX12_put_69 (by decide) ?_
        refine lv_ishl hx hb dX12_put_71 ?_
        refine lv_bipush (v := nI 16) hx hb dX12_put_72 (by decide) ?_
        refine lv_ishr hx hb dX12_put_74 ?_
        refine m_iast C hw hm 5 rfl (show 24 * i + j < 48 from (by omega)) dX12_put_75 (fun A8 f9 H locs eA8 hw hm => ?_)
        refine lv_aload_n hx hb dX12_put_76 rfl (lv_at hl 0 rfl) ?_
        refine m_fld C hw hm lk1 5 (by decide) lk2 (v := .ref (q 5)) rfl dX12_put_77 ?_
        refine lv_bipush (v := nI 24) hx hb dX12_put_80 (by decide) ?_
        refine lv_iload_n hx hb dX12_put_82 rfl (lv_at hl 1 rfl) ?_
        refine n_imul C dX12_put_83 ?_
        refine lv_iload_n hx hb dX12_put_84 rfl (lv_at hl 2 rfl) ?_
        refine n_iadd C dX12_put_85 ?_
        refine m_iald C hw hm 5 rfl (v := A8 5 (24 * i + j)) rfl (show 24 * i + j < 48 from (by omega)) dX12_put_86 ?_
        refine lv_i2l hx hb dX12_put_87 rfl ?_
        exact h_lret C hr hlk hw (op_fin (by subst eA8; simp only [op_put, if_pos c3, if_pos c4, if_pos c7, nI_clamp (show i < 2 ^ 31 by omega), nI_clamp (show j < 2 ^ 31 by omega), va_up_self, pk_us]; try rfl) hm) dX12_put_88
      · refine lv_aload_n hx hb dX12_put_50 rfl (lv_at hl 0 rfl) ?_
        refine lv_ldc2 hx hb C.1.2.2.2.1 (C.1.2.2.2.2 _ lk3) dX12_put_51 ?_
        refine h_calll hw (h_runV (n := 1) (As := [.long (lF 1)]) (rest := []) C hw (c_X12_finding hm (by omega)) gX12_put_X12_finding rfl rfl rfl (by decide +kernel) ⟨by decide, by decide⟩ bX12 hm.1 rfl hl.1 rfl (Nat.le_of_ble_eq_true rfl) dX12_put_54 ⟨by first | decide | omega, by first | decide | omega⟩) (fun r10 f11 H locs hp hw => ?_)
        obtain ⟨rfl, B12, eB12, hm⟩ := hp
        exact h_lret C hr hlk hw (op_fin (by subst eB12; simp only [op_put, if_pos c3, if_pos c4, if_neg c7, nI_clamp (show i < 2 ^ 31 by omega)]; try rfl) hm) dX12_put_57
    · refine lv_aload_n hx hb dX12_put_26 rfl (lv_at hl 0 rfl) ?_
      refine lv_ldc2 hx hb C.1.2.2.2.1 (C.1.2.2.2.2 _ lk4) dX12_put_27 ?_
      refine h_calll hw (h_runV (n := 1) (As := [.long (lF 2)]) (rest := []) C hw (c_X12_finding hm (by omega)) gX12_put_X12_finding rfl rfl rfl (by decide +kernel) ⟨by decide, by decide⟩ bX12 hm.1 rfl hl.1 rfl (Nat.le_of_ble_eq_true rfl) dX12_put_30 ⟨by first | decide | omega, by first | decide | omega⟩) (fun r13 f14 H locs hp hw => ?_)
      obtain ⟨rfl, B15, eB15, hm⟩ := hp
      exact h_lret C hr hlk hw (op_fin (by subst eB15; simp only [op_put, if_pos c3, if_neg c4, nI_clamp (show i < 2 ^ 31 by omega)]; try rfl) hm) dX12_put_33
  · refine lv_aload_n hx hb dX12_put_9 rfl (lv_at hl 0 rfl) ?_
    refine lv_ldc2 hx hb C.1.2.2.2.1 (C.1.2.2.2.2 _ lk3) dX12_put_10 ?_
    refine h_calll hw (h_runV (n := 1) (As := [.long (lF 1)]) (rest := []) C hw (c_X12_finding hm (by omega)) gX12_put_X12_finding rfl rfl rfl (by decide +kernel) ⟨by decide, by decide⟩ bX12 hm.1 rfl hl.1 rfl (Nat.le_of_ble_eq_true rfl) dX12_put_13 ⟨by first | decide | omega, by first | decide | omega⟩) (fun r16 f17 H locs hp hw => ?_)
    obtain ⟨rfl, B18, eB18, hm⟩ := hp
    exact h_lret C hr hlk hw (op_fin (by subst eB18; simp only [op_put, if_neg c3]; try rfl) hm) dX12_put_16
set_option maxHeartbeats 4000000 in
set_option maxRecDepth 100000 in
theorem c_X12_count {l : Launch} {D : va_G} {cA : Nat → ClassId} {f : HF} {sz : Nat} {q : Nat → Nat} {A : MA} {B : MB} {ns nt tn : Nat} {k : Int32} (hm : mo cA q A B f) (hns : A 0 0 = nI ns) (hnt : A 1 0 = nI nt) (htn : A 13 0 = nI tn) (hns2 : ns ≤ 10) (hnt2 : nt ≤ 12) (htn2 : tn ≤ 9) : Met l yX12_count wsX12_count ({ frames := 1, cells := 0, slots := 0, locals := 22 } : Room) (va_Pc [.ref (q 0), .int k] (hB D cA f sz)) (va_Ql (fun r f1 => (op_count A B ns nt tn k).1 = r ∧ mo cA q (op_count A B ns nt tn k).2.1 (op_count A B ns nt tn k).2.2 f1) (hE D f sz) (hA f sz)) 0 0 (hA f sz) := by
  refine h_of (cc := cX12_count) (maxL := 2) (ret := (some .long)) (by decide +kernel) rfl (Nat.le_of_ble_eq_true rfl) ?_
  intro p e s m below meth c ls C hr hlk hnm hw hl
  have hx := C.1.1
  have hb := C.1.2.1
  have hl : lv_has ls 2 [(0, .ref (q 0)), (1, .int k)] := hl
  have lk0 : Cond.fieldLink RX12 29 "FallingLightModel" "sights" "[I" ∈ wsX12_count := by decide +kernel
  have lk1 : ∀ w ∈ u_ws RX12 TX12 27, w ∈ wsX12_count := by decide +kernel
  have lk2 : Cond.fieldLink RX12 167 "FallingLightModel" "taped" "I" ∈ wsX12_count := by decide +kernel
  have lk3 : Cond.fieldLink RX12 101 "FallingLightModel" "spots" "I" ∈ wsX12_count := by decide +kernel
  have lk4 : Cond.fieldLink RX12 96 "FallingLightModel" "stars" "I" ∈ wsX12_count := by decide +kernel
  have lk5 : Cond.constantLong RX12 91 (lF 1) ∈ wsX12_count := by decide +kernel
  refine lv_iload_n hx hb dX12_count_0 rfl (lv_at hl 1 rfl) ?_
  refine lv_iconst (v := nI 0) hx hb dX12_count_1 (by decide) ?_
  refine lv_bipush (v := nI 8) hx hb dX12_count_2 (by decide) ?_
  refine h_calli hw (h_runS (n := 3) (As := [.int k, .int (nI 0), .int (nI 8)]) (rest := []) C hw c_X12_in gX12_count_X12_in rfl rfl rfl (by decide +kernel) ⟨by decide, by decide⟩ rfl hl.1 rfl (Nat.le_of_ble_eq_true rfl) dX12_count_4 ⟨by first | decide | omega, by first | decide | omega⟩) (fun r1 f2 H locs hp hw => ?_)
  obtain ⟨rfl, rfl⟩ := hp
  refine n_ifneB C (tgt := 18) dX12_count_7 (by decide) (fun c3 => ?_) (fun c3 => ?_)
  · obtain ⟨i, hi, rfl⟩ := inN (by decide) c3
    refine lv_iload_n hx hb dX12_count_18 rfl (lv_at hl 1 rfl) ?_
    refine n_zne C (by omega) (tgt := 30) dX12_count_19 (by decide) (fun c4 => ?_) (fun c4 => ?_)
    · refine lv_iload_n hx hb dX12_count_30 rfl (lv_at hl 1 rfl) ?_
      refine lv_iconst (v := nI 1) hx hb dX12_count_31 (by decide) ?_
      refine n_cne C (by omega) (by omega) (tgt := 43) dX12_count_32 (by decide) (fun c5 => ?_) (fun c5 => ?_)
      · refine lv_iload_n hx hb dX12_count_43 rfl (lv_at hl 1 rfl) ?_
        refine lv_iconst (v := nI 2) hx hb dX12_count_44 (by decide) ?_
        refine n_cne C (by omega) (by omega) (tgt := 56) dX12_count_45 (by decide) (fun c6 => ?_) (fun c6 => ?_)
        · refine lv_aload_n hx hb dX12_count_56 rfl (lv_at hl 0 rfl) ?_
          refine m_fld C hw hm lk1 8 (by decide) lk0 (v := .ref (q 8)) rfl dX12_count_57 ?_
          refine lv_iload_n hx hb dX12_count_60 rfl (lv_at hl 1 rfl) ?_
          refine lv_iconst (v := nI 3) hx hb dX12_count_61 (by decide) ?_
          refine n_isub C (by omega) dX12_count_62 ?_
          refine m_iald C hw hm 8 rfl (v := A 8 (i - 3)) rfl (show i - 3 < 6 from (by omega)) dX12_count_63 ?_
          refine lv_i2l hx hb dX12_count_64 rfl ?_
          exact h_lret C hr hlk hw (op_fin (by simp only [op_count, if_pos c3, if_neg c4, if_neg c5, if_neg c6, nI_clamp (show i < 2 ^ 31 by omega)]; try rfl) hm) dX12_count_65
        · refine lv_aload_n hx hb dX12_count_48 rfl (lv_at hl 0 rfl) ?_
          refine m_fld C hw hm lk1 13 (by decide) lk2 (v := .int (nI tn)) (congrArg (fun z => some (Value.int z)) htn) dX12_count_49 ?_
          refine n_i2l C (by omega) dX12_count_52 ?_
          refine lv_goto (tgt := 65) hx hb dX12_count_53 (by decide) ?_
          exact h_lret C hr hlk hw (op_fin (by simp only [op_count, if_pos c3, if_neg c4, if_neg c5, if_pos c6, nI_clamp (show i < 2 ^ 31 by omega)]; try rfl) hm) dX12_count_65
      · refine lv_aload_n hx hb dX12_count_35 rfl (lv_at hl 0 rfl) ?_
        refine m_fld C hw hm lk1 0 (by decide) lk3 (v := .int (nI ns)) (congrArg (fun z => some (Value.int z)) hns) dX12_count_36 ?_
        refine n_i2l C (by omega) dX12_count_39 ?_
        refine lv_goto (tgt := 65) hx hb dX12_count_40 (by decide) ?_
        exact h_lret C hr hlk hw (op_fin (by simp only [op_count, if_pos c3, if_neg c4, if_pos c5, nI_clamp (show i < 2 ^ 31 by omega)]; try rfl) hm) dX12_count_65
    · refine lv_aload_n hx hb dX12_count_22 rfl (lv_at hl 0 rfl) ?_
      refine m_fld C hw hm lk1 1 (by decide) lk4 (v := .int (nI nt)) (congrArg (fun z => some (Value.int z)) hnt) dX12_count_23 ?_
      refine n_i2l C (by omega) dX12_count_26 ?_
      refine lv_goto (tgt := 65) hx hb dX12_count_27 (by decide) ?_
      exact h_lret C hr hlk hw (op_fin (by simp only [op_count, if_pos c3, if_pos c4, nI_clamp (show i < 2 ^ 31 by omega)]; try rfl) hm) dX12_count_65
  · refine lv_aload_n hx hb dX12_count_10 rfl (lv_at hl 0 rfl) ?_
    refine lv_ldc2 hx hb C.1.2.2.2.1 (C.1.2.2.2.2 _ lk5) dX12_count_11 ?_
    refine h_calll hw (h_runV (n := 1) (As := [.long (lF 1)]) (rest := []) C hw (c_X12_finding hm (by omega)) gX12_count_X12_finding rfl rfl rfl (by decide +kernel) ⟨by decide, by decide⟩ bX12 hm.1 rfl hl.1 rfl (Nat.le_of_ble_eq_true rfl) dX12_count_14 ⟨by first | decide | omega, by first | decide | omega⟩) (fun r7 f8 H locs hp hw => ?_)
    obtain ⟨rfl, B9, eB9, hm⟩ := hp
    exact h_lret C hr hlk hw (op_fin (by subst eB9; simp only [op_count, if_neg c3]; try rfl) hm) dX12_count_17
set_option maxHeartbeats 4000000 in
set_option maxRecDepth 100000 in
theorem c_X12_as {l : Launch} {D : va_G} {cA : Nat → ClassId} {f : HF} {sz : Nat} {q : Nat → Nat} {A : MA} {B : MB} {t k w : Int32} (hm : mo cA q A B f) (hsg : ∀ j, j < 6 → ∃ c, c ≤ 4 ∧ A 8 j = nI c) : Met l yX12_as wsX12_as ({ frames := 3, cells := 0, slots := 0, locals := 64 } : Room) (va_Pc [.ref (q 0), .int t, .int k, .int w] (hB D cA f sz)) (va_Ql (fun r f1 => (op_as A B t k w).1 = r ∧ mo cA q (op_as A B t k w).2.1 (op_as A B t k w).2.2 f1) (hE D f sz) (hA f sz)) 0 0 (hA f sz) := by
  refine h_of (cc := cX12_as) (maxL := 5) (ret := (some .long)) (by decide +kernel) rfl (Nat.le_of_ble_eq_true rfl) ?_
  intro p e s m below meth c ls C hr hlk hnm hw hl
  have hx := C.1.1
  have hb := C.1.2.1
  have hl : lv_has ls 5 [(0, .ref (q 0)), (1, .int t), (2, .int k), (3, .int w)] := hl
  have lk0 : Cond.constantLong RX12 91 (lF 1) ∈ wsX12_as := by decide +kernel
  have lk1 : Cond.fieldLink RX12 35 "FallingLightModel" "stationOf" "[I" ∈ wsX12_as := by decide +kernel
  have lk2 : ∀ w ∈ u_ws RX12 TX12 27, w ∈ wsX12_as := by decide +kernel
  have lk3 : Cond.fieldLink RX12 32 "FallingLightModel" "kindOf" "[I" ∈ wsX12_as := by decide +kernel
  have lk4 : Cond.constantLong RX12 183 (lF 3) ∈ wsX12_as := by decide +kernel
  refine lv_aload_n hx hb dX12_as_0 rfl (lv_at hl 0 rfl) ?_
  refine lv_iload_n hx hb dX12_as_1 rfl (lv_at hl 1 rfl) ?_
  refine lv_iload_n hx hb dX12_as_2 rfl (lv_at hl 2 rfl) ?_
  refine h_calli hw (h_runV (n := 2) (As := [.int t, .int k]) (rest := []) C hw (c_X12_isSight hm) gX12_as_X12_isSight rfl rfl rfl (by decide +kernel) ⟨by decide, by decide⟩ bX12 hm.1 rfl hl.1 rfl (Nat.le_of_ble_eq_true rfl) dX12_as_3 ⟨by first | decide | omega, by first | decide | omega⟩) (fun r1 f2 H locs hp hw => ?_)
  obtain ⟨rfl, rfl⟩ := hp
  refine n_ifeqB C (tgt := 18) dX12_as_6 (by decide) (fun c3 => ?_) (fun c3 => ?_)
  · refine lv_aload_n hx hb dX12_as_18 rfl (lv_at hl 0 rfl) ?_
    refine lv_ldc2 hx hb C.1.2.2.2.1 (C.1.2.2.2.2 _ lk0) dX12_as_19 ?_
    refine h_calll hw (h_runV (n := 1) (As := [.long (lF 1)]) (rest := []) C hw (c_X12_finding hm (by omega)) gX12_as_X12_finding rfl rfl rfl (by decide +kernel) ⟨by decide, by decide⟩ bX12 hm.1 rfl hl.1 rfl (Nat.le_of_ble_eq_true rfl) dX12_as_22 ⟨by first | decide | omega, by first | decide | omega⟩) (fun r4 f5 H locs hp hw => ?_)
    obtain ⟨rfl, B6, eB6, hm⟩ := hp
    exact h_lret C hr hlk hw (op_fin (by subst eB6; simp only [op_as, if_neg c3]; try rfl) hm) dX12_as_25
  · obtain ⟨i, j, c9, hi, hj, hc9, hA8, rfl, rfl⟩ := sgN hsg c3
    refine lv_iload_n hx hb dX12_as_9 rfl (lv_at hl 3 rfl) ?_
    refine lv_iconst (v := nI 0) hx hb dX12_as_10 (by decide) ?_
    refine lv_iconst (v := nI 2) hx hb dX12_as_11 (by decide) ?_
    refine h_calli hw (h_runS (n := 3) (As := [.int w, .int (nI 0), .int (nI 2)]) (rest := []) C hw c_X12_in gX12_as_X12_in rfl rfl rfl (by decide +kernel) ⟨by decide, by decide⟩ rfl hl.1 rfl (Nat.le_of_ble_eq_true rfl) dX12_as_12 ⟨by first | decide | omega, by first | decide | omega⟩) (fun r7 f8 H locs hp hw => ?_)
    obtain ⟨rfl, rfl⟩ := hp
    refine n_ifneB C (tgt := 26) dX12_as_15 (by decide) (fun c9 => ?_) (fun c9 => ?_)
    · refine lv_iconst (v := nI 4) hx hb dX12_as_26 (by decide) ?_
      refine lv_iload_n hx hb dX12_as_27 rfl (lv_at hl 1 rfl) ?_
      refine n_imul C dX12_as_28 ?_
      refine lv_iload_n hx hb dX12_as_29 rfl (lv_at hl 2 rfl) ?_
      refine n_iadd C dX12_as_30 ?_
      refine lv_istore (lv' := [(4, _), (0, _), (1, _), (2, _), (3, _)]) hx hb dX12_as_31 hl (by decide) rfl (fun ls hl => ?_)
      refine lv_iload_n hx hb dX12_as_33 rfl (lv_at hl 4 rfl) ?_
      refine lv_if_eq (tgt := 48) hx hb dX12_as_34 (by decide) (fun c10 => ?_) (fun c10 => ?_)
      · refine lv_aload_n hx hb dX12_as_48 rfl (lv_at hl 1 rfl) ?_
        refine m_fld C hw hm lk2 10 (by decide) lk1 (v := .ref (q 10)) rfl dX12_as_49 ?_
        refine lv_iload hx hb dX12_as_52 (lv_at hl 0 rfl) ?_
        refine m_iald C hw hm 10 rfl (v := A 10 (4 * i + j)) rfl (show 4 * i + j < 24 from (by omega)) dX12_as_54 ?_
        refine lv_i2l hx hb dX12_as_55 rfl ?_
        refine lv_goto (tgt := 66) hx hb dX12_as_56 (by decide) ?_
        exact h_lret C hr hlk hw (op_fin (by simp only [op_as, if_pos c3, if_pos c9, if_pos c10, atN hi (show j < 4 by omega)]; try rfl) hm) dX12_as_66
      · refine lv_aload_n hx hb dX12_as_37 rfl (lv_at hl 1 rfl) ?_
        refine m_fld C hw hm lk2 9 (by decide) lk3 (v := .ref (q 9)) rfl dX12_as_38 ?_
        refine lv_iload hx hb dX12_as_41 (lv_at hl 0 rfl) ?_
        refine m_iald C hw hm 9 rfl (v := A 9 (4 * i + j)) rfl (show 4 * i + j < 24 from (by omega)) dX12_as_43 ?_
        refine lv_iload_n hx hb dX12_as_44 rfl (lv_at hl 4 rfl) ?_
        refine lv_icmp_ne (tgt := 59) hx hb dX12_as_45 (by decide) (fun c11 => ?_) (fun c11 => ?_)
        · refine lv_aload_n hx hb dX12_as_59 rfl (lv_at hl 1 rfl) ?_
          refine lv_ldc2 hx hb C.1.2.2.2.1 (C.1.2.2.2.2 _ lk4) dX12_as_60 ?_
          refine h_calll hw (h_runV (n := 1) (As := [.long (lF 3)]) (rest := []) C hw (c_X12_finding hm (by omega)) gX12_as_X12_finding rfl rfl rfl (by decide +kernel) ⟨by decide, by decide⟩ bX12 hm.1 rfl hl.1 rfl (Nat.le_of_ble_eq_true rfl) dX12_as_63 ⟨by first | decide | omega, by first | decide | omega⟩) (fun r12 f13 H locs hp hw => ?_)
          obtain ⟨rfl, B14, eB14, hm⟩ := hp
          exact h_lret C hr hlk hw (op_fin (by subst eB14; simp only [op_as, if_pos c3, if_pos c9, if_neg c10, if_neg c11, atN hi (show j < 4 by omega)]; try rfl) hm) dX12_as_66
        · refine lv_aload_n hx hb dX12_as_48 rfl (lv_at hl 1 rfl) ?_
          refine m_fld C hw hm lk2 10 (by decide) lk1 (v := .ref (q 10)) rfl dX12_as_49 ?_
          refine lv_iload hx hb dX12_as_52 (lv_at hl 0 rfl) ?_
          refine m_iald C hw hm 10 rfl (v := A 10 (4 * i + j)) rfl (show 4 * i + j < 24 from (by omega)) dX12_as_54 ?_
          refine lv_i2l hx hb dX12_as_55 rfl ?_
          refine lv_goto (tgt := 66) hx hb dX12_as_56 (by decide) ?_
          exact h_lret C hr hlk hw (op_fin (by simp only [op_as, if_pos c3, if_pos c9, if_neg c10, if_pos c11, atN hi (show j < 4 by omega)]; try rfl) hm) dX12_as_66
    · refine lv_aload_n hx hb dX12_as_18 rfl (lv_at hl 0 rfl) ?_
      refine lv_ldc2 hx hb C.1.2.2.2.1 (C.1.2.2.2.2 _ lk0) dX12_as_19 ?_
      refine h_calll hw (h_runV (n := 1) (As := [.long (lF 1)]) (rest := []) C hw (c_X12_finding hm (by omega)) gX12_as_X12_finding rfl rfl rfl (by decide +kernel) ⟨by decide, by decide⟩ bX12 hm.1 rfl hl.1 rfl (Nat.le_of_ble_eq_true rfl) dX12_as_22 ⟨by first | decide | omega, by first | decide | omega⟩) (fun r15 f16 H locs hp hw => ?_)
      obtain ⟨rfl, B17, eB17, hm⟩ := hp
      exact h_lret C hr hlk hw (op_fin (by subst eB17; simp only [op_as, if_pos c3, if_neg c9, atN hi (show j < 4 by omega)]; try rfl) hm) dX12_as_25
set_option maxHeartbeats 4000000 in
set_option maxRecDepth 100000 in
theorem c_X12_about {l : Launch} {D : va_G} {cA : Nat → ClassId} {f : HF} {sz : Nat} {q : Nat → Nat} {A : MA} {B : MB} {t k w : Int32} (hm : mo cA q A B f) (hsg : ∀ j, j < 6 → ∃ c, c ≤ 4 ∧ A 8 j = nI c) : Met l yX12_about wsX12_about ({ frames := 3, cells := 0, slots := 0, locals := 68 } : Room) (va_Pc [.ref (q 0), .int t, .int k, .int w] (hB D cA f sz)) (va_Ql (fun r f1 => (op_about A B t k w).1 = r ∧ mo cA q (op_about A B t k w).2.1 (op_about A B t k w).2.2 f1) (hE D f sz) (hA f sz)) 0 0 (hA f sz) := by
  refine h_of (cc := cX12_about) (maxL := 5) (ret := (some .long)) (by decide +kernel) rfl (Nat.le_of_ble_eq_true rfl) ?_
  intro p e s m below meth c ls C hr hlk hnm hw hl
  have hx := C.1.1
  have hb := C.1.2.1
  have hl : lv_has ls 5 [(0, .ref (q 0)), (1, .int t), (2, .int k), (3, .int w)] := hl
  have lk0 : Cond.constantLong RX12 91 (lF 1) ∈ wsX12_about := by decide +kernel
  have lk1 : Cond.constantLong RX12 106 (lF 2) ∈ wsX12_about := by decide +kernel
  have lk2 : Cond.fieldLink RX12 32 "FallingLightModel" "kindOf" "[I" ∈ wsX12_about := by decide +kernel
  have lk3 : ∀ w ∈ u_ws RX12 TX12 27, w ∈ wsX12_about := by decide +kernel
  have lk4 : Cond.constantLong RX12 183 (lF 3) ∈ wsX12_about := by decide +kernel
  have lk5 : Cond.fieldLink RX12 35 "FallingLightModel" "stationOf" "[I" ∈ wsX12_about := by decide +kernel
  refine lv_aload_n hx hb dX12_about_0 rfl (lv_at hl 0 rfl) ?_
  refine lv_iload_n hx hb dX12_about_1 rfl (lv_at hl 1 rfl) ?_
  refine lv_iload_n hx hb dX12_about_2 rfl (lv_at hl 2 rfl) ?_
  refine h_calli hw (h_runV (n := 2) (As := [.int t, .int k]) (rest := []) C hw (c_X12_isSight hm) gX12_about_X12_isSight rfl rfl rfl (by decide +kernel) ⟨by decide, by decide⟩ bX12 hm.1 rfl hl.1 rfl (Nat.le_of_ble_eq_true rfl) dX12_about_3 ⟨by first | decide | omega, by first | decide | omega⟩) (fun r1 f2 H locs hp hw => ?_)
  obtain ⟨rfl, rfl⟩ := hp
  refine n_ifeqB C (tgt := 18) dX12_about_6 (by decide) (fun c3 => ?_) (fun c3 => ?_)
  · refine lv_aload_n hx hb dX12_about_18 rfl (lv_at hl 0 rfl) ?_
    refine lv_ldc2 hx hb C.1.2.2.2.1 (C.1.2.2.2.2 _ lk0) dX12_about_19 ?_
    refine h_calll hw (h_runV (n := 1) (As := [.long (lF 1)]) (rest := []) C hw (c_X12_finding hm (by omega)) gX12_about_X12_finding rfl rfl rfl (by decide +kernel) ⟨by decide, by decide⟩ bX12 hm.1 rfl hl.1 rfl (Nat.le_of_ble_eq_true rfl) dX12_about_22 ⟨by first | decide | omega, by first | decide | omega⟩) (fun r4 f5 H locs hp hw => ?_)
    obtain ⟨rfl, B6, eB6, hm⟩ := hp
    exact h_lret C hr hlk hw (op_fin (by subst eB6; simp only [op_about, if_neg c3]; try rfl) hm) dX12_about_25
  · obtain ⟨i, j, c9, hi, hj, hc9, hA8, rfl, rfl⟩ := sgN hsg c3
    refine lv_iload_n hx hb dX12_about_9 rfl (lv_at hl 3 rfl) ?_
    refine lv_iconst (v := nI 0) hx hb dX12_about_10 (by decide) ?_
    refine lv_iconst (v := nI 5) hx hb dX12_about_11 (by decide) ?_
    refine h_calli hw (h_runS (n := 3) (As := [.int w, .int (nI 0), .int (nI 5)]) (rest := []) C hw c_X12_in gX12_about_X12_in rfl rfl rfl (by decide +kernel) ⟨by decide, by decide⟩ rfl hl.1 rfl (Nat.le_of_ble_eq_true rfl) dX12_about_12 ⟨by first | decide | omega, by first | decide | omega⟩) (fun r7 f8 H locs hp hw => ?_)
    obtain ⟨rfl, rfl⟩ := hp
    refine n_ifneB C (tgt := 26) dX12_about_15 (by decide) (fun c9 => ?_) (fun c9 => ?_)
    · obtain ⟨u, hu, rfl⟩ := inN (by decide) c9
      refine lv_iconst (v := nI 4) hx hb dX12_about_26 (by decide) ?_
      refine lv_iload_n hx hb dX12_about_27 rfl (lv_at hl 1 rfl) ?_
      refine n_imul C dX12_about_28 ?_
      refine lv_iload_n hx hb dX12_about_29 rfl (lv_at hl 2 rfl) ?_
      refine n_iadd C dX12_about_30 ?_
      refine lv_istore (lv' := [(4, _), (0, _), (1, _), (2, _), (3, _)]) hx hb dX12_about_31 hl (by decide) rfl (fun ls hl => ?_)
      refine lv_iload_n hx hb dX12_about_33 rfl (lv_at hl 4 rfl) ?_
      refine lv_iconst (v := nI 2) hx hb dX12_about_34 (by decide) ?_
      refine n_cge C (by omega) (by omega) (tgt := 62) dX12_about_35 (by decide) (fun c10 => ?_) (fun c10 => ?_)
      · refine lv_iload_n hx hb dX12_about_62 rfl (lv_at hl 4 rfl) ?_
        refine lv_iconst (v := nI 5) hx hb dX12_about_63 (by decide) ?_
        refine n_cne C (by omega) (by omega) (tgt := 86) dX12_about_64 (by decide) (fun c11 => ?_) (fun c11 => ?_)
        · refine lv_aload_n hx hb dX12_about_86 rfl (lv_at hl 1 rfl) ?_
          refine lv_iload hx hb dX12_about_87 (lv_at hl 0 rfl) ?_
          refine h_calli hw (h_runV (n := 1) (As := [.int (nI (4 * i + j))]) (rest := []) C hw (c_X12_hasPlane hm (by omega)) gX12_about_X12_hasPlane rfl rfl rfl (by decide +kernel) ⟨by decide, by decide⟩ bX12 hm.1 rfl hl.1 rfl (Nat.le_of_ble_eq_true rfl) dX12_about_89 ⟨by first | decide | omega, by first | decide | omega⟩) (fun r12 f13 H locs hp hw => ?_)
          obtain ⟨rfl, rfl⟩ := hp
          refine n_ifneB C (tgt := 103) dX12_about_92 (by decide) (fun c14 => ?_) (fun c14 => ?_)
          · refine lv_iload_n hx hb dX12_about_103 rfl (lv_at hl 4 rfl) ?_
            refine lv_iconst (v := nI 5) hx hb dX12_about_104 (by decide) ?_
            refine n_cge C (by omega) (by omega) (tgt := 120) dX12_about_105 (by decide) (fun c15 => ?_) (fun c15 => ?_)
            · refine lv_aload_n hx hb dX12_about_120 rfl (lv_at hl 1 rfl) ?_
              refine lv_iload hx hb dX12_about_121 (lv_at hl 0 rfl) ?_
              refine lv_iconst (v := nI 0) hx hb dX12_about_123 (by decide) ?_
              refine h_calll hw (h_runV (n := 2) (As := [.int (nI (4 * i + j)), .int (nI 0)]) (rest := []) C hw (c_X12_plane hm (by omega) (by omega)) gX12_about_X12_plane rfl rfl rfl (by decide +kernel) ⟨by decide, by decide⟩ bX12 hm.1 rfl hl.1 rfl (Nat.le_of_ble_eq_true rfl) dX12_about_124 ⟨by first | decide | omega, by first | decide | omega⟩) (fun r16 f17 H locs hp hw => ?_)
              obtain ⟨rfl, rfl⟩ := hp
              refine lv_aload_n hx hb dX12_about_127 rfl (lv_at hl 1 rfl) ?_
              refine lv_iload hx hb dX12_about_128 (lv_at hl 0 rfl) ?_
              refine lv_iconst (v := nI 2) hx hb dX12_about_130 (by decide) ?_
              refine lv_iconst (v := nI 0) hx hb dX12_about_131 (by decide) ?_
              refine h_calll hw (h_runV (n := 3) (As := [.int (nI (4 * i + j)), .int (nI 2), .int (nI 0)]) (rest := [.long (plA A (4 * i + j) 0)]) C hw (c_X12_way hm (by omega) (by omega) (by omega)) gX12_about_X12_way rfl rfl rfl (by decide +kernel) ⟨by decide, by decide⟩ bX12 hm.1 rfl hl.1 rfl (Nat.le_of_ble_eq_true rfl) dX12_about_132 ⟨by first | decide | omega, by first | decide | omega⟩) (fun r18 f19 H locs hp hw => ?_)
              obtain ⟨rfl, rfl⟩ := hp
              refine lv_lmul hx hb dX12_about_135 ?_
              refine lv_aload_n hx hb dX12_about_136 rfl (lv_at hl 1 rfl) ?_
              refine lv_iload hx hb dX12_about_137 (lv_at hl 0 rfl) ?_
              refine lv_iconst (v := nI 1) hx hb dX12_about_139 (by decide) ?_
              refine h_calll hw (h_runV (n := 2) (As := [.int (nI (4 * i + j)), .int (nI 1)]) (rest := [.long ((plA A (4 * i + j) 0) * (wyA A (4 * i + j) 2 0))]) C hw (c_X12_plane hm (by omega) (by omega)) gX12_about_X12_plane rfl rfl rfl (by decide +kernel) ⟨by decide, by decide⟩ bX12 hm.1 rfl hl.1 rfl (Nat.le_of_ble_eq_true rfl) dX12_about_140 ⟨by first | decide | omega, by first | decide | omega⟩) (fun r20 f21 H locs hp hw => ?_)
              obtain ⟨rfl, rfl⟩ := hp
              refine lv_aload_n hx hb dX12_about_143 rfl (lv_at hl 1 rfl) ?_
              refine lv_iload hx hb dX12_about_144 (lv_at hl 0 rfl) ?_
              refine lv_iconst (v := nI 2) hx hb dX12_about_146 (by decide) ?_
              refine lv_iconst (v := nI 1) hx hb dX12_about_147 (by decide) ?_
              refine h_calll hw (h_runV (n := 3) (As := [.int (nI (4 * i + j)), .int (nI 2), .int (nI 1)]) (rest := [.long (plA A (4 * i + j) 1), .long ((plA A (4 * i + j) 0) * (wyA A (4 * i + j) 2 0))]) C hw (c_X12_way hm (by omega) (by omega) (by omega)) gX12_about_X12_way rfl rfl rfl (by decide +kernel) ⟨by decide, by decide⟩ bX12 hm.1 rfl hl.1 rfl (Nat.le_of_ble_eq_true rfl) dX12_about_148 ⟨by first | decide | omega, by first | decide | omega⟩) (fun r22 f23 H locs hp hw => ?_)
              obtain ⟨rfl, rfl⟩ := hp
              refine lv_lmul hx hb dX12_about_151 ?_
              refine lv_ladd hx hb dX12_about_152 ?_
              refine lv_aload_n hx hb dX12_about_153 rfl (lv_at hl 1 rfl) ?_
              refine lv_iload hx hb dX12_about_154 (lv_at hl 0 rfl) ?_
              refine lv_iconst (v := nI 2) hx hb dX12_about_156 (by decide) ?_
              refine h_calll hw (h_runV (n := 2) (As := [.int (nI (4 * i + j)), .int (nI 2)]) (rest := [.long (((plA A (4 * i + j) 0) * (wyA A (4 * i + j) 2 0)) + ((plA A (4 * i + j) 1) * (wyA A (4 * i + j) 2 1)))]) C hw (c_X12_plane hm (by omega) (by omega)) gX12_about_X12_plane rfl rfl rfl (by decide +kernel) ⟨by decide, by decide⟩ bX12 hm.1 rfl hl.1 rfl (Nat.le_of_ble_eq_true rfl) dX12_about_157 ⟨by first | decide | omega, by first | decide | omega⟩) (fun r24 f25 H locs hp hw => ?_)
              obtain ⟨rfl, rfl⟩ := hp
              refine lv_aload_n hx hb dX12_about_160 rfl (lv_at hl 1 rfl) ?_
              refine lv_iload hx hb dX12_about_161 (lv_at hl 0 rfl) ?_
              refine lv_iconst (v := nI 2) hx hb dX12_about_163 (by decide) ?_
              refine lv_iconst (v := nI 2) hx hb dX12_about_164 (by decide) ?_
              refine h_calll hw (h_runV (n := 3) (As := [.int (nI (4 * i + j)), .int (nI 2), .int (nI 2)]) (rest := [.long (plA A (4 * i + j) 2), .long (((plA A (4 * i + j) 0) * (wyA A (4 * i + j) 2 0)) + ((plA A (4 * i + j) 1) * (wyA A (4 * i + j) 2 1)))]) C hw (c_X12_way hm (by omega) (by omega) (by omega)) gX12_about_X12_way rfl rfl rfl (by decide +kernel) ⟨by decide, by decide⟩ bX12 hm.1 rfl hl.1 rfl (Nat.le_of_ble_eq_true rfl) dX12_about_165 ⟨by first | decide | omega, by first | decide | omega⟩) (fun r26 f27 H locs hp hw => ?_)
              obtain ⟨rfl, rfl⟩ := hp
              refine lv_lmul hx hb dX12_about_168 ?_
              refine lv_ladd hx hb dX12_about_169 ?_
              exact h_lret C hr hlk hw (op_fin (by simp only [op_about, if_pos c3, if_pos c9, if_pos c10, if_neg c11, if_pos c14, if_pos c15, ab2, bdA, nI_clamp (show u < 2 ^ 31 by omega), atN hi (show j < 4 by omega)]; try rfl) hm) dX12_about_170
            · refine lv_aload_n hx hb dX12_about_108 rfl (lv_at hl 1 rfl) ?_
              refine lv_iload hx hb dX12_about_109 (lv_at hl 0 rfl) ?_
              refine lv_iload_n hx hb dX12_about_111 rfl (lv_at hl 4 rfl) ?_
              refine lv_iconst (v := nI 2) hx hb dX12_about_112 (by decide) ?_
              refine n_isub C (by omega) dX12_about_113 ?_
              refine h_calll hw (h_runV (n := 2) (As := [.int (nI (4 * i + j)), .int (nI (u - 2))]) (rest := []) C hw (c_X12_plane hm (by omega) (by omega)) gX12_about_X12_plane rfl rfl rfl (by decide +kernel) ⟨by decide, by decide⟩ bX12 hm.1 rfl hl.1 rfl (Nat.le_of_ble_eq_true rfl) dX12_about_114 ⟨by first | decide | omega, by first | decide | omega⟩) (fun r28 f29 H locs hp hw => ?_)
              obtain ⟨rfl, rfl⟩ := hp
              refine lv_goto (tgt := 170) hx hb dX12_about_117 (by decide) ?_
              exact h_lret C hr hlk hw (op_fin (by simp only [op_about, if_pos c3, if_pos c9, if_pos c10, if_neg c11, if_pos c14, if_neg (Nat.not_le.mpr c15), ab2, bdA, nI_clamp (show u < 2 ^ 31 by omega), atN hi (show j < 4 by omega)]; try rfl) hm) dX12_about_170
          · refine lv_aload_n hx hb dX12_about_95 rfl (lv_at hl 1 rfl) ?_
            refine lv_ldc2 hx hb C.1.2.2.2.1 (C.1.2.2.2.2 _ lk1) dX12_about_96 ?_
            refine h_calll hw (h_runV (n := 1) (As := [.long (lF 2)]) (rest := []) C hw (c_X12_finding hm (by omega)) gX12_about_X12_finding rfl rfl rfl (by decide +kernel) ⟨by decide, by decide⟩ bX12 hm.1 rfl hl.1 rfl (Nat.le_of_ble_eq_true rfl) dX12_about_99 ⟨by first | decide | omega, by first | decide | omega⟩) (fun r30 f31 H locs hp hw => ?_)
            obtain ⟨rfl, B32, eB32, hm⟩ := hp
            exact h_lret C hr hlk hw (op_fin (by subst eB32; simp only [op_about, if_pos c3, if_pos c9, if_pos c10, if_neg c11, if_neg c14, ab2, bdA, nI_clamp (show u < 2 ^ 31 by omega), atN hi (show j < 4 by omega)]; try rfl) hm) dX12_about_102
        · refine lv_aload_n hx hb dX12_about_67 rfl (lv_at hl 1 rfl) ?_
          refine m_fld C hw hm lk3 9 (by decide) lk2 (v := .ref (q 9)) rfl dX12_about_68 ?_
          refine lv_iload hx hb dX12_about_71 (lv_at hl 0 rfl) ?_
          refine m_iald C hw hm 9 rfl (v := A 9 (4 * i + j)) rfl (show 4 * i + j < 24 from (by omega)) dX12_about_73 ?_
          refine lv_iconst (v := nI 1) hx hb dX12_about_74 (by decide) ?_
          refine lv_icmp_eq (tgt := 86) hx hb dX12_about_75 (by decide) (fun c33 => ?_) (fun c33 => ?_)
          · refine lv_aload_n hx hb dX12_about_86 rfl (lv_at hl 1 rfl) ?_
            refine lv_iload hx hb dX12_about_87 (lv_at hl 0 rfl) ?_
            refine h_calli hw (h_runV (n := 1) (As := [.int (nI (4 * i + j))]) (rest := []) C hw (c_X12_hasPlane hm (by omega)) gX12_about_X12_hasPlane rfl rfl rfl (by decide +kernel) ⟨by decide, by decide⟩ bX12 hm.1 rfl hl.1 rfl (Nat.le_of_ble_eq_true rfl) dX12_about_89 ⟨by first | decide | omega, by first | decide | omega⟩) (fun r34 f35 H locs hp hw => ?_)
            obtain ⟨rfl, rfl⟩ := hp
            refine n_ifneB C (tgt := 103) dX12_about_92 (by decide) (fun c36 => ?_) (fun c36 => ?_)
            · refine lv_iload_n hx hb dX12_about_103 rfl (lv_at hl 4 rfl) ?_
              refine lv_iconst (v := nI 5) hx hb dX12_about_104 (by decide) ?_
              refine n_cge C (by omega) (by omega) (tgt := 120) dX12_about_105 (by decide) (fun c37 => ?_) (fun c37 => ?_)
              · refine lv_aload_n hx hb dX12_about_120 rfl (lv_at hl 1 rfl) ?_
                refine lv_iload hx hb dX12_about_121 (lv_at hl 0 rfl) ?_
                refine lv_iconst (v := nI 0) hx hb dX12_about_123 (by decide) ?_
                refine h_calll hw (h_runV (n := 2) (As := [.int (nI (4 * i + j)), .int (nI 0)]) (rest := []) C hw (c_X12_plane hm (by omega) (by omega)) gX12_about_X12_plane rfl rfl rfl (by decide +kernel) ⟨by decide, by decide⟩ bX12 hm.1 rfl hl.1 rfl (Nat.le_of_ble_eq_true rfl) dX12_about_124 ⟨by first | decide | omega, by first | decide | omega⟩) (fun r38 f39 H locs hp hw => ?_)
                obtain ⟨rfl, rfl⟩ := hp
                refine lv_aload_n hx hb dX12_about_127 rfl (lv_at hl 1 rfl) ?_
                refine lv_iload hx hb dX12_about_128 (lv_at hl 0 rfl) ?_
                refine lv_iconst (v := nI 2) hx hb dX12_about_130 (by decide) ?_
                refine lv_iconst (v := nI 0) hx hb dX12_about_131 (by decide) ?_
                refine h_calll hw (h_runV (n := 3) (As := [.int (nI (4 * i + j)), .int (nI 2), .int (nI 0)]) (rest := [.long (plA A (4 * i + j) 0)]) C hw (c_X12_way hm (by omega) (by omega) (by omega)) gX12_about_X12_way rfl rfl rfl (by decide +kernel) ⟨by decide, by decide⟩ bX12 hm.1 rfl hl.1 rfl (Nat.le_of_ble_eq_true rfl) dX12_about_132 ⟨by first | decide | omega, by first | decide | omega⟩) (fun r40 f41 H locs hp hw => ?_)
                obtain ⟨rfl, rfl⟩ := hp
                refine lv_lmul hx hb dX12_about_135 ?_
                refine lv_aload_n hx hb dX12_about_136 rfl (lv_at hl 1 rfl) ?_
                refine lv_iload hx hb dX12_about_137 (lv_at hl 0 rfl) ?_
                refine lv_iconst (v := nI 1) hx hb dX12_about_139 (by decide) ?_
                refine h_calll hw (h_runV (n := 2) (As := [.int (nI (4 * i + j)), .int (nI 1)]) (rest := [.long ((plA A (4 * i + j) 0) * (wyA A (4 * i + j) 2 0))]) C hw (c_X12_plane hm (by omega) (by omega)) gX12_about_X12_plane rfl rfl rfl (by decide +kernel) ⟨by decide, by decide⟩ bX12 hm.1 rfl hl.1 rfl (Nat.le_of_ble_eq_true rfl) dX12_about_140 ⟨by first | decide | omega, by first | decide | omega⟩) (fun r42 f43 H locs hp hw => ?_)
                obtain ⟨rfl, rfl⟩ := hp
                refine lv_aload_n hx hb dX12_about_143 rfl (lv_at hl 1 rfl) ?_
                refine lv_iload hx hb dX12_about_144 (lv_at hl 0 rfl) ?_
                refine lv_iconst (v := nI 2) hx hb dX12_about_146 (by decide) ?_
                refine lv_iconst (v := nI 1) hx hb dX12_about_147 (by decide) ?_
                refine h_calll hw (h_runV (n := 3) (As := [.int (nI (4 * i + j)), .int (nI 2), .int (nI 1)]) (rest := [.long (plA A (4 * i + j) 1), .long ((plA A (4 * i + j) 0) * (wyA A (4 * i + j) 2 0))]) C hw (c_X12_way hm (by omega) (by omega) (by omega)) gX12_about_X12_way rfl rfl rfl (by decide +kernel) ⟨by decide, by decide⟩ bX12 hm.1 rfl hl.1 rfl (Nat.le_of_ble_eq_true rfl) dX12_about_148 ⟨by first | decide | omega, by first | decide | omega⟩) (fun r44 f45 H locs hp hw => ?_)
                obtain ⟨rfl, rfl⟩ := hp
                refine lv_lmul hx hb dX12_about_151 ?_
                refine lv_ladd hx hb dX12_about_152 ?_
                refine lv_aload_n hx hb dX12_about_153 rfl (lv_at hl 1 rfl) ?_
                refine lv_iload hx hb dX12_about_154 (lv_at hl 0 rfl) ?_
                refine lv_iconst (v := nI 2) hx hb dX12_about_156 (by decide) ?_
                refine h_calll hw (h_runV (n := 2) (As := [.int (nI (4 * i + j)), .int (nI 2)]) (rest := [.long (((plA A (4 * i + j) 0) * (wyA A (4 * i + j) 2 0)) + ((plA A (4 * i + j) 1) * (wyA A (4 * i + j) 2 1)))]) C hw (c_X12_plane hm (by omega) (by omega)) gX12_about_X12_plane rfl rfl rfl (by decide +kernel) ⟨by decide, by decide⟩ bX12 hm.1 rfl hl.1 rfl (Nat.le_of_ble_eq_true rfl) dX12_about_157 ⟨by first | decide | omega, by first | decide | omega⟩) (fun r46 f47 H locs hp hw => ?_)
                obtain ⟨rfl, rfl⟩ := hp
                refine lv_aload_n hx hb dX12_about_160 rfl (lv_at hl 1 rfl) ?_
                refine lv_iload hx hb dX12_about_161 (lv_at hl 0 rfl) ?_
                refine lv_iconst (v := nI 2) hx hb dX12_about_163 (by decide) ?_
                refine lv_iconst (v := nI 2) hx hb dX12_about_164 (by decide) ?_
                refine h_calll hw (h_runV (n := 3) (As := [.int (nI (4 * i + j)), .int (nI 2), .int (nI 2)]) (rest := [.long (plA A (4 * i + j) 2), .long (((plA A (4 * i + j) 0) * (wyA A (4 * i + j) 2 0)) + ((plA A (4 * i + j) 1) * (wyA A (4 * i + j) 2 1)))]) C hw (c_X12_way hm (by omega) (by omega) (by omega)) gX12_about_X12_way rfl rfl rfl (by decide +kernel) ⟨by decide, by decide⟩ bX12 hm.1 rfl hl.1 rfl (Nat.le_of_ble_eq_true rfl) dX12_about_165 ⟨by first | decide | omega, by first | decide | omega⟩) (fun r48 f49 H locs hp hw => ?_)
                obtain ⟨rfl, rfl⟩ := hp
                refine lv_lmul hx hb dX12_about_168 ?_
                refine lv_ladd hx hb dX12_about_169 ?_
                exact h_lret C hr hlk hw (op_fin (by simp only [op_about, if_pos c3, if_pos c9, if_pos c10, if_pos c11, if_pos c33, if_pos c36, if_pos c37, ab2, bdA, nI_clamp (show u < 2 ^ 31 by omega), atN hi (show j < 4 by omega)]; try rfl) hm) dX12_about_170
              · refine lv_aload_n hx hb dX12_about_108 rfl (lv_at hl 1 rfl) ?_
                refine lv_iload hx hb dX12_about_109 (lv_at hl 0 rfl) ?_
                refine lv_iload_n hx hb dX12_about_111 rfl (lv_at hl 4 rfl) ?_
                refine lv_iconst (v := nI 2) hx hb dX12_about_112 (by decide) ?_
                refine n_isub C (by omega) dX12_about_113 ?_
                refine h_calll hw (h_runV (n := 2) (As := [.int (nI (4 * i + j)), .int (nI (u - 2))]) (rest := []) C hw (c_X12_plane hm (by omega) (by omega)) gX12_about_X12_plane rfl rfl rfl (by decide +kernel) ⟨by decide, by decide⟩ bX12 hm.1 rfl hl.1 rfl (Nat.le_of_ble_eq_true rfl) dX12_about_114 ⟨by first | decide | omega, by first | decide | omega⟩) (fun r50 f51 H locs hp hw => ?_)
                obtain ⟨rfl, rfl⟩ := hp
                refine lv_goto (tgt := 170) hx hb dX12_about_117 (by decide) ?_
                exact h_lret C hr hlk hw (op_fin (by simp only [op_about, if_pos c3, if_pos c9, if_pos c10, if_pos c11, if_pos c33, if_pos c36, if_neg (Nat.not_le.mpr c37), ab2, bdA, nI_clamp (show u < 2 ^ 31 by omega), atN hi (show j < 4 by omega)]; try rfl) hm) dX12_about_170
            · refine lv_aload_n hx hb dX12_about_95 rfl (lv_at hl 1 rfl) ?_
              refine lv_ldc2 hx hb C.1.2.2.2.1 (C.1.2.2.2.2 _ lk1) dX12_about_96 ?_
              refine h_calll hw (h_runV (n := 1) (As := [.long (lF 2)]) (rest := []) C hw (c_X12_finding hm (by omega)) gX12_about_X12_finding rfl rfl rfl (by decide +kernel) ⟨by decide, by decide⟩ bX12 hm.1 rfl hl.1 rfl (Nat.le_of_ble_eq_true rfl) dX12_about_99 ⟨by first | decide | omega, by first | decide | omega⟩) (fun r52 f53 H locs hp hw => ?_)
              obtain ⟨rfl, B54, eB54, hm⟩ := hp
              exact h_lret C hr hlk hw (op_fin (by subst eB54; simp only [op_about, if_pos c3, if_pos c9, if_pos c10, if_pos c11, if_pos c33, if_neg c36, ab2, bdA, nI_clamp (show u < 2 ^ 31 by omega), atN hi (show j < 4 by omega)]; try rfl) hm) dX12_about_102
          · refine lv_aload_n hx hb dX12_about_78 rfl (lv_at hl 1 rfl) ?_
            refine lv_ldc2 hx hb C.1.2.2.2.1 (C.1.2.2.2.2 _ lk4) dX12_about_79 ?_
            refine h_calll hw (h_runV (n := 1) (As := [.long (lF 3)]) (rest := []) C hw (c_X12_finding hm (by omega)) gX12_about_X12_finding rfl rfl rfl (by decide +kernel) ⟨by decide, by decide⟩ bX12 hm.1 rfl hl.1 rfl (Nat.le_of_ble_eq_true rfl) dX12_about_82 ⟨by first | decide | omega, by first | decide | omega⟩) (fun r55 f56 H locs hp hw => ?_)
            obtain ⟨rfl, B57, eB57, hm⟩ := hp
            exact h_lret C hr hlk hw (op_fin (by subst eB57; simp only [op_about, if_pos c3, if_pos c9, if_pos c10, if_pos c11, if_neg c33, ab2, bdA, nI_clamp (show u < 2 ^ 31 by omega), atN hi (show j < 4 by omega)]; try rfl) hm) dX12_about_85
      · refine lv_iload_n hx hb dX12_about_38 rfl (lv_at hl 4 rfl) ?_
        refine n_zne C (by omega) (tgt := 53) dX12_about_39 (by decide) (fun c58 => ?_) (fun c58 => ?_)
        · refine lv_aload_n hx hb dX12_about_53 rfl (lv_at hl 1 rfl) ?_
          refine m_fld C hw hm lk3 10 (by decide) lk5 (v := .ref (q 10)) rfl dX12_about_54 ?_
          refine lv_iload hx hb dX12_about_57 (lv_at hl 0 rfl) ?_
          refine m_iald C hw hm 10 rfl (v := A 10 (4 * i + j)) rfl (show 4 * i + j < 24 from (by omega)) dX12_about_59 ?_
          refine lv_i2l hx hb dX12_about_60 rfl ?_
          exact h_lret C hr hlk hw (op_fin (by simp only [op_about, if_pos c3, if_pos c9, if_neg (Nat.not_le.mpr c10), if_neg c58, ab2, bdA, nI_clamp (show u < 2 ^ 31 by omega), atN hi (show j < 4 by omega)]; try rfl) hm) dX12_about_61
        · refine lv_aload_n hx hb dX12_about_42 rfl (lv_at hl 1 rfl) ?_
          refine m_fld C hw hm lk3 9 (by decide) lk2 (v := .ref (q 9)) rfl dX12_about_43 ?_
          refine lv_iload hx hb dX12_about_46 (lv_at hl 0 rfl) ?_
          refine m_iald C hw hm 9 rfl (v := A 9 (4 * i + j)) rfl (show 4 * i + j < 24 from (by omega)) dX12_about_48 ?_
          refine lv_i2l hx hb dX12_about_49 rfl ?_
          refine lv_goto (tgt := 61) hx hb dX12_about_50 (by decide) ?_
          exact h_lret C hr hlk hw (op_fin (by simp only [op_about, if_pos c3, if_pos c9, if_neg (Nat.not_le.mpr c10), if_pos c58, ab2, bdA, nI_clamp (show u < 2 ^ 31 by omega), atN hi (show j < 4 by omega)]; try rfl) hm) dX12_about_61
    · refine lv_aload_n hx hb dX12_about_18 rfl (lv_at hl 0 rfl) ?_
      refine lv_ldc2 hx hb C.1.2.2.2.1 (C.1.2.2.2.2 _ lk0) dX12_about_19 ?_
      refine h_calll hw (h_runV (n := 1) (As := [.long (lF 1)]) (rest := []) C hw (c_X12_finding hm (by omega)) gX12_about_X12_finding rfl rfl rfl (by decide +kernel) ⟨by decide, by decide⟩ bX12 hm.1 rfl hl.1 rfl (Nat.le_of_ble_eq_true rfl) dX12_about_22 ⟨by first | decide | omega, by first | decide | omega⟩) (fun r59 f60 H locs hp hw => ?_)
      obtain ⟨rfl, B61, eB61, hm⟩ := hp
      exact h_lret C hr hlk hw (op_fin (by subst eB61; simp only [op_about, if_pos c3, if_neg c9, atN hi (show j < 4 by omega)]; try rfl) hm) dX12_about_25
set_option maxHeartbeats 4000000 in
set_option maxRecDepth 100000 in
theorem c_X12_fall {l : Launch} {D : va_G} {cA : Nat → ClassId} {f : HF} {sz : Nat} {q : Nat → Nat} {A : MA} {B : MB} {t k k2 w : Int32} (hm : mo cA q A B f) (hsg : ∀ j, j < 6 → ∃ c, c ≤ 4 ∧ A 8 j = nI c) : Met l yX12_fall wsX12_fall ({ frames := 4, cells := 0, slots := 0, locals := 94 } : Room) (va_Pc [.ref (q 0), .int t, .int k, .int k2, .int w] (hB D cA f sz)) (va_Ql (fun r f1 => (op_fall A B t k k2 w).1 = r ∧ mo cA q (op_fall A B t k k2 w).2.1 (op_fall A B t k k2 w).2.2 f1) (hE D f sz) (hA f sz)) 0 0 (hA f sz) := by
  refine h_of (cc := cX12_fall) (maxL := 6) (ret := (some .long)) (by decide +kernel) rfl (Nat.le_of_ble_eq_true rfl) ?_
  intro p e s m below meth c ls C hr hlk hnm hw hl
  have hx := C.1.1
  have hb := C.1.2.1
  have hl : lv_has ls 6 [(0, .ref (q 0)), (1, .int t), (2, .int k), (3, .int k2), (4, .int w)] := hl
  have lk0 : Cond.constantLong RX12 91 (lF 1) ∈ wsX12_fall := by decide +kernel
  have lk1 : Cond.constantLong RX12 106 (lF 2) ∈ wsX12_fall := by decide +kernel
  refine lv_aload_n hx hb dX12_fall_0 rfl (lv_at hl 0 rfl) ?_
  refine lv_iload_n hx hb dX12_fall_1 rfl (lv_at hl 1 rfl) ?_
  refine lv_iload_n hx hb dX12_fall_2 rfl (lv_at hl 2 rfl) ?_
  refine lv_iload_n hx hb dX12_fall_3 rfl (lv_at hl 3 rfl) ?_
  refine h_calli hw (h_runV (n := 3) (As := [.int t, .int k, .int k2]) (rest := []) C hw (c_X12_areTwo hm) gX12_fall_X12_areTwo rfl rfl rfl (by decide +kernel) ⟨by decide, by decide⟩ bX12 hm.1 rfl hl.1 rfl (Nat.le_of_ble_eq_true rfl) dX12_fall_4 ⟨by first | decide | omega, by first | decide | omega⟩) (fun r1 f2 H locs hp hw => ?_)
  obtain ⟨rfl, rfl⟩ := hp
  refine n_ifeqB C (tgt := 20) dX12_fall_7 (by decide) (fun c3 => ?_) (fun c3 => ?_)
  · refine lv_aload_n hx hb dX12_fall_20 rfl (lv_at hl 0 rfl) ?_
    refine lv_ldc2 hx hb C.1.2.2.2.1 (C.1.2.2.2.2 _ lk0) dX12_fall_21 ?_
    refine h_calll hw (h_runV (n := 1) (As := [.long (lF 1)]) (rest := []) C hw (c_X12_finding hm (by omega)) gX12_fall_X12_finding rfl rfl rfl (by decide +kernel) ⟨by decide, by decide⟩ bX12 hm.1 rfl hl.1 rfl (Nat.le_of_ble_eq_true rfl) dX12_fall_24 ⟨by first | decide | omega, by first | decide | omega⟩) (fun r4 f5 H locs hp hw => ?_)
    obtain ⟨rfl, B6, eB6, hm⟩ := hp
    exact h_lret C hr hlk hw (op_fin (by subst eB6; simp only [op_fall, if_neg c3]; try rfl) hm) dX12_fall_27
  · obtain ⟨i, j, c9, hi, hj, hc9, hA8, rfl, rfl⟩ := sgN hsg c3.1
    obtain ⟨i2, j2, c8, hi2, hj2, hc8, hA82, hti, rfl⟩ := sgN hsg c3.2.1
    obtain rfl : i = i2 := (nI_eq (by omega) (by omega)).mp hti
    obtain rfl : c9 = c8 := (nI_eq (by omega) (by omega)).mp (hA8.symm.trans hA82)
    refine lv_iload hx hb dX12_fall_10 (lv_at hl 4 rfl) ?_
    refine lv_iconst (v := nI 0) hx hb dX12_fall_12 (by decide) ?_
    refine lv_iconst (v := nI 2) hx hb dX12_fall_13 (by decide) ?_
    refine h_calli hw (h_runS (n := 3) (As := [.int w, .int (nI 0), .int (nI 2)]) (rest := []) C hw c_X12_in gX12_fall_X12_in rfl rfl rfl (by decide +kernel) ⟨by decide, by decide⟩ rfl hl.1 rfl (Nat.le_of_ble_eq_true rfl) dX12_fall_14 ⟨by first | decide | omega, by first | decide | omega⟩) (fun r7 f8 H locs hp hw => ?_)
    obtain ⟨rfl, rfl⟩ := hp
    refine n_ifneB C (tgt := 28) dX12_fall_17 (by decide) (fun c9 => ?_) (fun c9 => ?_)
    · obtain ⟨u, hu, rfl⟩ := inN (by decide) c9
      refine lv_iconst (v := nI 4) hx hb dX12_fall_28 (by decide) ?_
      refine lv_iload_n hx hb dX12_fall_29 rfl (lv_at hl 1 rfl) ?_
      refine n_imul C dX12_fall_30 ?_
      refine lv_istore (lv' := [(5, _), (0, _), (1, _), (2, _), (3, _), (4, _)]) hx hb dX12_fall_31 hl (by decide) rfl (fun ls hl => ?_)
      refine lv_aload_n hx hb dX12_fall_33 rfl (lv_at hl 1 rfl) ?_
      refine lv_iload hx hb dX12_fall_34 (lv_at hl 0 rfl) ?_
      refine lv_iload_n hx hb dX12_fall_36 rfl (lv_at hl 3 rfl) ?_
      refine n_iadd C dX12_fall_37 ?_
      refine lv_iload hx hb dX12_fall_38 (lv_at hl 0 rfl) ?_
      refine lv_iload_n hx hb dX12_fall_40 rfl (lv_at hl 4 rfl) ?_
      refine n_iadd C dX12_fall_41 ?_
      refine h_calli hw (h_runV (n := 2) (As := [.int (nI (4 * i + j)), .int (nI (4 * i + j2))]) (rest := []) C hw (c_X12_hasFall hm (by omega) (by omega)) gX12_fall_X12_hasFall rfl rfl rfl (by decide +kernel) ⟨by decide, by decide⟩ bX12 hm.1 rfl hl.1 rfl (Nat.le_of_ble_eq_true rfl) dX12_fall_42 ⟨by first | decide | omega, by first | decide | omega⟩) (fun r10 f11 H locs hp hw => ?_)
      obtain ⟨rfl, rfl⟩ := hp
      refine n_ifeqB C (tgt := 65) dX12_fall_45 (by decide) (fun c12 => ?_) (fun c12 => ?_)
      · refine lv_aload_n hx hb dX12_fall_65 rfl (lv_at hl 1 rfl) ?_
        refine lv_ldc2 hx hb C.1.2.2.2.1 (C.1.2.2.2.2 _ lk1) dX12_fall_66 ?_
        refine h_calll hw (h_runV (n := 1) (As := [.long (lF 2)]) (rest := []) C hw (c_X12_finding hm (by omega)) gX12_fall_X12_finding rfl rfl rfl (by decide +kernel) ⟨by decide, by decide⟩ bX12 hm.1 rfl hl.1 rfl (Nat.le_of_ble_eq_true rfl) dX12_fall_69 ⟨by first | decide | omega, by first | decide | omega⟩) (fun r13 f14 H locs hp hw => ?_)
        obtain ⟨rfl, B15, eB15, hm⟩ := hp
        exact h_lret C hr hlk hw (op_fin (by subst eB15; simp only [op_fall, if_pos c3, if_pos c9, if_neg c12, nI_clamp (show u < 2 ^ 31 by omega), atN hi (show j < 4 by omega), atN hi (show j2 < 4 by omega)]; try rfl) hm) dX12_fall_72
      · refine lv_aload_n hx hb dX12_fall_48 rfl (lv_at hl 1 rfl) ?_
        refine lv_iload hx hb dX12_fall_49 (lv_at hl 0 rfl) ?_
        refine lv_iload_n hx hb dX12_fall_51 rfl (lv_at hl 3 rfl) ?_
        refine n_iadd C dX12_fall_52 ?_
        refine lv_iload hx hb dX12_fall_53 (lv_at hl 0 rfl) ?_
        refine lv_iload_n hx hb dX12_fall_55 rfl (lv_at hl 4 rfl) ?_
        refine n_iadd C dX12_fall_56 ?_
        refine lv_iload hx hb dX12_fall_57 (lv_at hl 5 rfl) ?_
        refine h_calll hw (h_runV (n := 3) (As := [.int (nI (4 * i + j)), .int (nI (4 * i + j2)), .int (nI u)]) (rest := []) C hw (c_X12_fallOf hm (by omega) (by omega) (by omega)) gX12_fall_X12_fallOf rfl rfl rfl (by decide +kernel) ⟨by decide, by decide⟩ bX12 hm.1 rfl hl.1 rfl (Nat.le_of_ble_eq_true rfl) dX12_fall_59 ⟨by first | decide | omega, by first | decide | omega⟩) (fun r16 f17 H locs hp hw => ?_)
        obtain ⟨rfl, rfl⟩ := hp
        refine lv_goto (tgt := 72) hx hb dX12_fall_62 (by decide) ?_
        exact h_lret C hr hlk hw (op_fin (by simp only [op_fall, if_pos c3, if_pos c9, if_pos c12, nI_clamp (show u < 2 ^ 31 by omega), atN hi (show j < 4 by omega), atN hi (show j2 < 4 by omega)]; try rfl) hm) dX12_fall_72
    · refine lv_aload_n hx hb dX12_fall_20 rfl (lv_at hl 0 rfl) ?_
      refine lv_ldc2 hx hb C.1.2.2.2.1 (C.1.2.2.2.2 _ lk0) dX12_fall_21 ?_
      refine h_calll hw (h_runV (n := 1) (As := [.long (lF 1)]) (rest := []) C hw (c_X12_finding hm (by omega)) gX12_fall_X12_finding rfl rfl rfl (by decide +kernel) ⟨by decide, by decide⟩ bX12 hm.1 rfl hl.1 rfl (Nat.le_of_ble_eq_true rfl) dX12_fall_24 ⟨by first | decide | omega, by first | decide | omega⟩) (fun r18 f19 H locs hp hw => ?_)
      obtain ⟨rfl, B20, eB20, hm⟩ := hp
      exact h_lret C hr hlk hw (op_fin (by subst eB20; simp only [op_fall, if_pos c3, if_neg c9, atN hi (show j < 4 by omega), atN hi (show j2 < 4 by omega)]; try rfl) hm) dX12_fall_27
set_option maxHeartbeats 4000000 in
set_option maxRecDepth 100000 in
theorem c_X12_firstPlane {l : Launch} {D : va_G} {cA : Nat → ClassId} {f : HF} {sz : Nat} {q : Nat → Nat} {A : MA} {B : MB} {i c9 : Nat} (hm : mo cA q A B f) (hi : i < 6) (hA8 : A 8 i = nI c9) (hc9 : c9 ≤ 4) : Met l yX12_firstPlane wsX12_firstPlane ({ frames := 3, cells := 0, slots := 0, locals := 68 } : Room) (va_Pc [.ref (q 0), .int (nI i)] (hB D cA f sz)) (va_Qi (fun r f1 => fpI A i c9 = r ∧ f = f1) (hE D f sz) (hA f sz)) 0 0 (hA f sz) := by
  refine h_of (cc := cX12_firstPlane) (maxL := 3) (ret := (some .int)) (by decide +kernel) rfl (Nat.le_of_ble_eq_true rfl) ?_
  intro p e s m below meth c ls C hr hlk hnm hw hl
  have hx := C.1.1
  have hb := C.1.2.1
  have hl : lv_has ls 3 [(0, .ref (q 0)), (1, .int (nI i))] := hl
  have lk0 : Cond.fieldLink RX12 29 "FallingLightModel" "sights" "[I" ∈ wsX12_firstPlane := by decide +kernel
  have lk1 : ∀ w ∈ u_ws RX12 TX12 27, w ∈ wsX12_firstPlane := by decide +kernel
  refine lv_iconst (v := nI 0) hx hb dX12_firstPlane_0 (by decide) ?_
  refine lv_istore_n (lv' := [(2, _), (0, _), (1, _)]) hx hb dX12_firstPlane_1 rfl hl (by decide) rfl (fun ls hl => ?_)
  have lp2 : ∀ (n : Nat) (k : Nat) (H1 : Heap) (locs1 : List Loc) (ls1 : Array Slot), hW D (hA f sz) s.heap f H1 locs1 → mo cA q A B f → lv_has ls1 3 [(0, .ref (q 0)), (1, .int (nI i)), (2, .int (nI k))] → (k ≤ c9) → (∀ j, j < k → ¬ hpA A (4 * i + j)) → c9 - k < n → W p l e ({ frames := 3, cells := 0, slots := 0, locals := 68 } : Room) s m ([.ref (q 0), .int (nI i)]).toArray below meth c H1 locs1 0 0 (MQ below (va_Qi (fun r f1 => fpI A i c9 = r ∧ f = f1) (hE D f sz) (hA f sz)) ([.ref (q 0), .int (nI i)]).toArray s 0 0 (hA f sz)) (F0 m 2 ls1 []) := by
    intro n
    induction n with
    | zero => intros; omega
    | succ n ih2 =>
      intro k H locs ls hw hm hl hk hno hmu
      refine lv_iload_n hx hb dX12_firstPlane_2 rfl (lv_at hl 2 rfl) ?_
      refine lv_aload_n hx hb dX12_firstPlane_3 rfl (lv_at hl 0 rfl) ?_
      refine m_fld C hw hm lk1 8 (by decide) lk0 (v := .ref (q 8)) rfl dX12_firstPlane_4 ?_
      refine lv_iload_n hx hb dX12_firstPlane_7 rfl (lv_at hl 1 rfl) ?_
      refine m_iald C hw hm 8 rfl (v := nI c9) hA8 (show i < 6 from (by omega)) dX12_firstPlane_8 ?_
      refine n_cge C (by omega) (by omega) (tgt := 36) dX12_firstPlane_9 (by decide) (fun c1 => ?_) (fun c1 => ?_)
      · refine lv_iconst (v := (-1)) hx hb dX12_firstPlane_36 (by decide) ?_
        exact h_iret C hr hlk hw (⟨fpI_n (fp_none (fun j hj => hno j (by omega))), rfl⟩) dX12_firstPlane_37
      · refine lv_aload_n hx hb dX12_firstPlane_12 rfl (lv_at hl 0 rfl) ?_
        refine lv_iconst (v := nI 4) hx hb dX12_firstPlane_13 (by decide) ?_
        refine lv_iload_n hx hb dX12_firstPlane_14 rfl (lv_at hl 1 rfl) ?_
        refine n_imul C dX12_firstPlane_15 ?_
        refine lv_iload_n hx hb dX12_firstPlane_16 rfl (lv_at hl 2 rfl) ?_
        refine n_iadd C dX12_firstPlane_17 ?_
        refine h_calli hw (h_runV (n := 1) (As := [.int (nI (4 * i + k))]) (rest := []) C hw (c_X12_hasPlane hm (by omega)) gX12_firstPlane_X12_hasPlane rfl rfl rfl (by decide +kernel) ⟨by decide, by decide⟩ bX12 hm.1 rfl hl.1 rfl (Nat.le_of_ble_eq_true rfl) dX12_firstPlane_18 ⟨by first | decide | omega, by first | decide | omega⟩) (fun r2 f3 H locs hp hw => ?_)
        obtain ⟨rfl, rfl⟩ := hp
        refine n_ifeqB C (tgt := 30) dX12_firstPlane_21 (by decide) (fun c4 => ?_) (fun c4 => ?_)
        · refine n_iinc C (lv' := [(2, _), (0, _), (1, _)]) dX12_firstPlane_30 hl (k := 2) rfl (by decide) rfl (fun ls hl => ?_)
          refine lv_goto (tgt := 2) hx hb dX12_firstPlane_33 (by decide) ?_
          exact ih2 _ _ _ _ hw hm (lv_sub hl [1, 2, 0] rfl) (by omega) (fun j hj => (Nat.lt_succ_iff_lt_or_eq.mp hj).elim (hno j) (fun e => by rw [e]; exact c4)) (by omega)
        · refine lv_iconst (v := nI 4) hx hb dX12_firstPlane_24 (by decide) ?_
          refine lv_iload_n hx hb dX12_firstPlane_25 rfl (lv_at hl 1 rfl) ?_
          refine n_imul C dX12_firstPlane_26 ?_
          refine lv_iload_n hx hb dX12_firstPlane_27 rfl (lv_at hl 2 rfl) ?_
          refine n_iadd C dX12_firstPlane_28 ?_
          exact h_iret C hr hlk hw (⟨fpI_s (fp_some (by omega) c4 hno), rfl⟩) dX12_firstPlane_29
  exact lp2 _ _ _ _ _ hw hm (lv_sub hl [1, 2, 0] rfl) (by omega) (fun j hj => absurd hj (by omega)) (Nat.lt_succ_self _)
set_option maxHeartbeats 4000000 in
set_option maxRecDepth 100000 in
theorem c_X12_hasRadiant {l : Launch} {D : va_G} {cA : Nat → ClassId} {f : HF} {sz : Nat} {q : Nat → Nat} {A : MA} {B : MB} {i j ci cj : Nat} (hm : mo cA q A B f) (hi : i < 6) (hj : j < 6) (hAi : A 8 i = nI ci) (hci : ci ≤ 4) (hAj : A 8 j = nI cj) (hcj : cj ≤ 4) : Met l yX12_hasRadiant wsX12_hasRadiant ({ frames := 4, cells := 0, slots := 0, locals := 94 } : Room) (va_Pc [.ref (q 0), .int (nI i), .int (nI j)] (hB D cA f sz)) (va_Qi (fun r f1 => bI (hrB A i ci j cj = true) = r ∧ f = f1) (hE D f sz) (hA f sz)) 0 0 (hA f sz) := by
  refine h_of (cc := cX12_hasRadiant) (maxL := 3) (ret := (some .boolean)) (by decide +kernel) rfl (Nat.le_of_ble_eq_true rfl) ?_
  intro p e s m below meth c ls C hr hlk hnm hw hl
  have hx := C.1.1
  have hb := C.1.2.1
  have hl : lv_has ls 3 [(0, .ref (q 0)), (1, .int (nI i)), (2, .int (nI j))] := hl
  refine lv_aload_n hx hb dX12_hasRadiant_0 rfl (lv_at hl 0 rfl) ?_
  refine lv_iload_n hx hb dX12_hasRadiant_1 rfl (lv_at hl 1 rfl) ?_
  refine h_calli hw (h_runV (n := 1) (As := [.int (nI i)]) (rest := []) C hw (c_X12_firstPlane hm hi hAi hci) gX12_hasRadiant_X12_firstPlane rfl rfl rfl (by decide +kernel) ⟨by decide, by decide⟩ bX12 hm.1 rfl hl.1 rfl (Nat.le_of_ble_eq_true rfl) dX12_hasRadiant_2 ⟨by first | decide | omega, by first | decide | omega⟩) (fun r1 f2 H locs hp hw => ?_)
  obtain ⟨rfl, rfl⟩ := hp
  refine lv_if_lt (tgt := 37) hx hb dX12_hasRadiant_5 (by decide) (fun c3 => ?_) (fun c3 => ?_)
  · have hn := fpI_lt hi hci c3
    refine lv_iconst (v := nI 0) hx hb dX12_hasRadiant_37 (by decide) ?_
    exact h_zret C hr (by first | rfl | decide) hlk hw (⟨bI_f (hr_1 hn), rfl⟩) dX12_hasRadiant_38
  · obtain ⟨ki, hki, hfi, hFi⟩ := fpI_nn c3
    refine lv_aload_n hx hb dX12_hasRadiant_8 rfl (lv_at hl 0 rfl) ?_
    refine lv_iload_n hx hb dX12_hasRadiant_9 rfl (lv_at hl 2 rfl) ?_
    refine h_calli hw (h_runV (n := 1) (As := [.int (nI j)]) (rest := []) C hw (c_X12_firstPlane hm hj hAj hcj) gX12_hasRadiant_X12_firstPlane rfl rfl rfl (by decide +kernel) ⟨by decide, by decide⟩ bX12 hm.1 rfl hl.1 rfl (Nat.le_of_ble_eq_true rfl) dX12_hasRadiant_10 ⟨by first | decide | omega, by first | decide | omega⟩) (fun r4 f5 H locs hp hw => ?_)
    obtain ⟨rfl, rfl⟩ := hp
    refine lv_if_lt (tgt := 37) hx hb dX12_hasRadiant_13 (by decide) (fun c6 => ?_) (fun c6 => ?_)
    · have hn := fpI_lt hj hcj c6
      refine lv_iconst (v := nI 0) hx hb dX12_hasRadiant_37 (by decide) ?_
      exact h_zret C hr (by first | rfl | decide) hlk hw (⟨bI_f (hr_2 hn), rfl⟩) dX12_hasRadiant_38
    · obtain ⟨kj, hkj, hfj, hFj⟩ := fpI_nn c6
      refine lv_aload_n hx hb dX12_hasRadiant_16 rfl (lv_at hl 0 rfl) ?_
      refine lv_aload_n hx hb dX12_hasRadiant_17 rfl (lv_at hl 0 rfl) ?_
      refine lv_iload_n hx hb dX12_hasRadiant_18 rfl (lv_at hl 1 rfl) ?_
      refine h_calli hw (h_runV (n := 1) (As := [.int (nI i)]) (rest := [.ref (q 0)]) C hw (c_X12_firstPlane hm hi hAi hci) gX12_hasRadiant_X12_firstPlane rfl rfl rfl (by decide +kernel) ⟨by decide, by decide⟩ bX12 hm.1 rfl hl.1 rfl (Nat.le_of_ble_eq_true rfl) dX12_hasRadiant_19 ⟨by first | decide | omega, by first | decide | omega⟩) (fun r7 f8 H locs hp hw => ?_)
      obtain ⟨rfl, rfl⟩ := hp
      refine W.eq (g2 := F0 m 22 ls [.int (nI (4 * i + ki)), _]) (by rw [hFi]) ?_
      refine lv_aload_n hx hb dX12_hasRadiant_22 rfl (lv_at hl 0 rfl) ?_
      refine lv_iload_n hx hb dX12_hasRadiant_23 rfl (lv_at hl 2 rfl) ?_
      refine h_calli hw (h_runV (n := 1) (As := [.int (nI j)]) (rest := [.int (nI (4 * i + ki)), .ref (q 0)]) C hw (c_X12_firstPlane hm hj hAj hcj) gX12_hasRadiant_X12_firstPlane rfl rfl rfl (by decide +kernel) ⟨by decide, by decide⟩ bX12 hm.1 rfl hl.1 rfl (Nat.le_of_ble_eq_true rfl) dX12_hasRadiant_24 ⟨by first | decide | omega, by first | decide | omega⟩) (fun r9 f10 H locs hp hw => ?_)
      obtain ⟨rfl, rfl⟩ := hp
      refine W.eq (g2 := F0 m 27 ls [.int (nI (4 * j + kj)), _, _]) (by rw [hFj]) ?_
      refine h_calli hw (h_runV (n := 2) (As := [.int (nI (4 * i + ki)), .int (nI (4 * j + kj))]) (rest := []) C hw (c_X12_hasFall hm (by omega) (by omega)) gX12_hasRadiant_X12_hasFall rfl rfl rfl (by decide +kernel) ⟨by decide, by decide⟩ bX12 hm.1 rfl hl.1 rfl (Nat.le_of_ble_eq_true rfl) dX12_hasRadiant_27 ⟨by first | decide | omega, by first | decide | omega⟩) (fun r11 f12 H locs hp hw => ?_)
      obtain ⟨rfl, rfl⟩ := hp
      refine n_ifeqB C (tgt := 37) dX12_hasRadiant_30 (by decide) (fun c13 => ?_) (fun c13 => ?_)
      · refine lv_iconst (v := nI 0) hx hb dX12_hasRadiant_37 (by decide) ?_
        exact h_zret C hr (by first | rfl | decide) hlk hw (⟨bI_f (fun h => c13 ((hr_s hfi hfj).mp h)), rfl⟩) dX12_hasRadiant_38
      · refine lv_iconst (v := nI 1) hx hb dX12_hasRadiant_33 (by decide) ?_
        refine lv_goto (tgt := 38) hx hb dX12_hasRadiant_34 (by decide) ?_
        exact h_zret C hr (by first | rfl | decide) hlk hw (⟨bI_t ((hr_s hfi hfj).mpr c13), rfl⟩) dX12_hasRadiant_38
