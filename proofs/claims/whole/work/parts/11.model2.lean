/-! ===== the reference, second methods (laid by program) ===== -/
theorem cp_lt {a b c d : Nat} (h : a * d < c * b) : cmpN a b c d = -1 := by rw [cmpN, if_pos h]
theorem cp_eq {a b c d : Nat} (h : a * d = c * b) : cmpN a b c d = nI 0 := by rw [cmpN, if_neg (by omega), if_pos h]
theorem cp_gt {a b c d : Nat} (h : c * b < a * d) : cmpN a b c d = nI 1 := by rw [cmpN, if_neg (by omega), if_neg (by omega)]
theorem cp_turn {a b c d : Nat} (h : a / b = c / d) : cmpN a b c d = cmpN d (c % d) b (a % b) := by
  obtain ⟨h1, h2⟩ := cq_eq h
  unfold cmpN
  rw [Nat.mul_comm d (a % b), Nat.mul_comm b (c % d)]
  by_cases h3 : a * d < c * b
  · rw [if_pos h3, if_pos (h1.mp h3)]
  · rw [if_neg h3, if_neg (fun h4 => h3 (h1.mpr h4))]
    by_cases h5 : a * d = c * b
    · rw [if_pos h5, if_pos (h2.mp h5)]
    · rw [if_neg h5, if_neg (fun h4 => h5 (h2.mpr h4))]
theorem cp_z {u v b d : Nat} (h : u = v) (h0 : u = 0 ∨ v = 0) : u * d = v * b := by
  have h1 : u = 0 := by omega
  have h2 : v = 0 := by omega
  rw [h1, h2, Nat.zero_mul, Nat.zero_mul]
theorem cp_g {a b c d : Nat} (hq : a / b = c / d) (hd : 0 < d) (hl : ¬ a % b = 0) (hr : c % d = 0) : c * b < a * d := by
  obtain ⟨h1, h2⟩ := cq_eq hq
  rw [hr, Nat.zero_mul] at h1 h2
  have h3 : 0 < a % b * d := Nat.mul_pos (Nat.pos_of_ne_zero hl) hd
  omega
/-! ===== what each act answers, and what it leaves: on the reference's numbers ===== -/
abbrev rg (lo hi v : Int32) : Prop := ¬ v < lo ∧ ¬ hi < v
def fnd (B : MB) (k : Nat) : MB := va_up B 15 (vp_updL (B 15) k (B 15 k + 1))
def stP (A : MA) (k j : Nat) (v : Int32) : MA := va_up A k (upd (A k) j v)
def stS (A : MA) (k : Nat) (v : Int32) : MA := va_up A k (fun _ => v)
abbrev OR : Type := Int64 × MA × MB
theorem op_fin {cA : Nat → ClassId} {q : Nat → Nat} {o : OR} {r : Int64} {A1 : MA} {B1 : MB} {f1 : HF} (h : o = (r, A1, B1)) (hm : mo cA q A1 B1 f1) : o.1 = r ∧ mo cA q o.2.1 o.2.2 f1 := by
  subst h
  exact ⟨rfl, hm⟩
def op_star (A : MA) (B : MB) (n : Nat) (u v : Int32) : OR := if rg (nI 0) (nI 199) u then (if rg (nI 0) (nI 199) v then (if n = 12 then (lF 4, A, fnd B 4) else (lN n, stS (stP (stP A 2 (10 + n) u) 3 (10 + n) v) 1 (nI (n + 1)), B)) else (lF 1, A, fnd B 1)) else (lF 1, A, fnd B 1)
def op_spot (A : MA) (B : MB) (n : Nat) (u v : Int32) : OR := if rg (nI 0) (nI 199) u then (if rg (nI 0) (nI 199) v then (if n = 10 then (lF 4, A, fnd B 4) else (lN n, stS (stP (stP A 2 n u) 3 n v) 0 (nI (n + 1)), B)) else (lF 1, A, fnd B 1)) else (lF 1, A, fnd B 1)
def op_near (A : MA) (B : MB) (t : Int32) : OR := if rg (nI 0) (nI 99) t then ((A 4 0).toInt64, stS A 4 t, B) else (lF 1, A, fnd B 1)
def op_clear (A : MA) (B : MB) (ns nt : Nat) (w : Int32) : OR := if w = 0 then (lN ns, stS A 0 (nI 0), B) else (lN nt, stS A 1 (nI 0), B)
def op_tell (A : MA) (B : MB) (n : Nat) (v : Int32) : OR := if n = 9 then (lF 4, A, fnd B 4) else (lN (n + 1), stS (stP A 14 n v) 13 (nI (n + 1)), B)
def op_station (A : MA) (B : MB) (k u v w : Int32) : OR := if rg (nI 0) (nI 3) k then (if rg (-99) (nI 99) u then (if rg (-99) (nI 99) v then (if rg (nI 0) (nI 9) w then (1, stP (stP (stP A 7 (3 * k.toNatClampNeg) u) 7 (3 * k.toNatClampNeg + 1) v) 7 (3 * k.toNatClampNeg + 2) w, B) else (lF 1, A, fnd B 1)) else (lF 1, A, fnd B 1)) else (lF 1, A, fnd B 1)) else (lF 1, A, fnd B 1)
def op_wind (A : MA) (B : MB) (k u v : Int32) : OR := if rg (nI 0) (nI 9) k then (if rg (-9) (nI 9) u then (if rg (-9) (nI 9) v then (1, stP (stP A 12 (2 * k.toNatClampNeg) u) 12 (2 * k.toNatClampNeg + 1) v, B) else (lF 1, A, fnd B 1)) else (lF 1, A, fnd B 1)) else (lF 1, A, fnd B 1)
def op_found (A : MA) (B : MB) (k : Int32) : OR := if rg (nI 1) (nI 5) k then (B 15 k.toNatClampNeg, A, B) else (lF 1, A, fnd B 1)
def op_drop (A : MA) (B : MB) (t : Int32) : OR := if rg (nI 0) (nI 5) t then (if A 8 t.toNatClampNeg = 0 then (lF 2, A, fnd B 2) else ((A 8 t.toNatClampNeg - nI 1).toInt64, stP A 8 t.toNatClampNeg (A 8 t.toNatClampNeg - nI 1), B)) else (lF 1, A, fnd B 1)
abbrev sgA (A : MA) (t k : Int32) : Prop := rg (nI 0) (nI 5) t ∧ rg (nI 0) (A 8 t.toNatClampNeg - nI 1) k
set_option maxHeartbeats 4000000 in
set_option maxRecDepth 100000 in
theorem c_X12_common {l : Launch} {D : va_G} {cA : Nat → ClassId} {f : HF} {sz : Nat} {a b : Int64} (ha : lA a < 2 ^ 63) (hb2 : lA b < 2 ^ 63) : Met l yX12_common wsX12_common ({ frames := 1, cells := 0, slots := 0, locals := 24 } : Room) (va_Pc [.long a, .long b] (hB D cA f sz)) (va_Ql (fun r f1 => lN (Nat.gcd (lA a) (lA b)) = r ∧ f = f1) (hE D f sz) (hA f sz)) 0 0 (hA f sz) := by
  refine h_of (cc := cX12_common) (maxL := 10) (ret := (some .long)) (by decide +kernel) rfl (Nat.le_of_ble_eq_true rfl) ?_
  intro p e s m below meth c ls C hr hlk hnm hw hl
  have hx := C.1.1
  have hb := C.1.2.1
  have hl : lv_has ls 10 [(0, .long a), (2, .long b)] := hl
  have lk0 : Cond.methodLink RX12 77 Lib.MathLoose.abs_long.x ∈ wsX12_common := by decide +kernel
  have lk1 : Cond.static Lib.MathLoose.abs_long.x ∈ wsX12_common := by decide +kernel
  have lk2 : Cond.initialized "java/lang/Math" ∈ wsX12_common := by decide +kernel
  have lk3 : Cond.code Lib.MathLoose.abs_long.x Lib.MathLoose.abs_long.code 2 (some .long) ∈ wsX12_common := by decide +kernel
  refine lv_lload_n hx hb dX12_common_0 rfl (lv_at hl 0 rfl) ?_
  refine va_mabs_long hx hb (C.1.2.2.1.trans hl.1.symm) C.1.2.2.2.1 (C.1.2.2.2.2 _ lk0) (C.1.2.2.2.2 _ lk1) (C.1.2.2.2.2 _ lk2) (C.1.2.2.2.2 _ lk3) (Nat.le_of_ble_eq_true rfl) (Nat.le_of_ble_eq_true rfl) (by first | decide | omega) (by first | decide | omega) dX12_common_1 ?_
  refine W.eq (g2 := F0 m 4 ls [.long (lN (lA a))]) (by rw [lA_abs ha]) ?_
  refine lv_lstore (lv' := [(4, _), (0, _), (2, _)]) hx hb dX12_common_4 hl (by decide) rfl (fun ls hl => ?_)
  refine lv_lload_n hx hb dX12_common_6 rfl (lv_at hl 2 rfl) ?_
  refine va_mabs_long hx hb (C.1.2.2.1.trans hl.1.symm) C.1.2.2.2.1 (C.1.2.2.2.2 _ lk0) (C.1.2.2.2.2 _ lk1) (C.1.2.2.2.2 _ lk2) (C.1.2.2.2.2 _ lk3) (Nat.le_of_ble_eq_true rfl) (Nat.le_of_ble_eq_true rfl) (by first | decide | omega) (by first | decide | omega) dX12_common_7 ?_
  refine W.eq (g2 := F0 m 10 ls [.long (lN (lA b))]) (by rw [lA_abs hb2]) ?_
  refine lv_lstore (lv' := [(6, _), (4, _), (0, _), (2, _)]) hx hb dX12_common_10 hl (by decide) rfl (fun ls hl => ?_)
  have lp12 : ∀ (n : Nat) (X : Nat) (Y : Nat) (H1 : Heap) (locs1 : List Loc) (ls1 : Array Slot), hW D (hA f sz) s.heap f H1 locs1 → lv_has ls1 10 [(4, .long (lN X)), (6, .long (lN Y))] → X < 2 ^ 63 → Y < 2 ^ 63 → Nat.gcd X Y = Nat.gcd (lA a) (lA b) → Y < n → W p l e ({ frames := 1, cells := 0, slots := 0, locals := 24 } : Room) s m ([.long a, .long b]).toArray below meth c H1 locs1 0 0 (MQ below (va_Ql (fun r f1 => lN (Nat.gcd (lA a) (lA b)) = r ∧ f = f1) (hE D f sz) (hA f sz)) ([.long a, .long b]).toArray s 0 0 (hA f sz)) (F0 m 12 ls1 []) := by
    intro n
    induction n with
    | zero => intros; omega
    | succ n ih12 =>
      intro X Y H locs ls hw hl hX hY hg hmu
      refine lv_lload hx hb dX12_common_12 (lv_at hl 1 rfl) ?_
      refine lv_lconst (v := 0) hx hb dX12_common_14 (by decide) ?_
      refine W.lcmp hx hb dX12_common_15 ?_
      refine l_ifeq C (tgt := 37) dX12_common_16 (by decide) (fun c1 => ?_) (fun c1 => ?_)
      · have hz : Y = 0 := (pk_lEQ (b := 0) hY (by decide)).mp c1
        refine lv_lload hx hb dX12_common_37 (lv_at hl 0 rfl) ?_
        exact h_lret C hr hlk hw (⟨by rw [← hg, hz, Nat.gcd_zero_right], rfl⟩) dX12_common_39
      · have hz : 0 < Y := Nat.pos_of_ne_zero (fun h => c1 (by rw [h]; rfl))
        refine lv_lload hx hb dX12_common_19 (lv_at hl 0 rfl) ?_
        refine lv_lload hx hb dX12_common_21 (lv_at hl 1 rfl) ?_
        refine n_lrem C hX hz hY dX12_common_23 ?_
        refine lv_lstore (lv' := [(8, _), (4, _), (6, _)]) hx hb dX12_common_24 hl (by decide) rfl (fun ls hl => ?_)
        refine lv_lload hx hb dX12_common_26 (lv_at hl 2 rfl) ?_
        refine lv_lstore (lv' := [(4, _), (8, _), (6, _)]) hx hb dX12_common_28 hl (by decide) rfl (fun ls hl => ?_)
        refine lv_lload hx hb dX12_common_30 (lv_at hl 1 rfl) ?_
        refine lv_lstore (lv' := [(6, _), (4, _), (8, _)]) hx hb dX12_common_32 hl (by decide) rfl (fun ls hl => ?_)
        refine lv_goto (tgt := 12) hx hb dX12_common_34 (by decide) ?_
        exact ih12 _ _ _ _ _ hw (lv_sub hl [1, 0] rfl) hY (Nat.lt_trans (Nat.mod_lt _ hz) hY) (by rw [Nat.gcd_comm, ← Nat.gcd_rec, Nat.gcd_comm]; exact hg) (by have := Nat.mod_lt X hz; omega)
  exact lp12 _ _ _ _ _ _ hw (lv_sub hl [1, 0] rfl) ha hb2 rfl (Nat.lt_succ_self _)
set_option maxHeartbeats 4000000 in
set_option maxRecDepth 100000 in
theorem c_X12_part {l : Launch} {D : va_G} {cA : Nat → ClassId} {f : HF} {sz : Nat} {a b : Int64} {w : Int32} (ha : lA a < 2 ^ 63) (hb2 : lA b < 2 ^ 63) (hu : ¬ b = 0) : Met l yX12_part wsX12_part ({ frames := 2, cells := 0, slots := 0, locals := 53 } : Room) (va_Pc [.long a, .long b, .int w] (hB D cA f sz)) (va_Ql (fun r f1 => prL a b w = r ∧ f = f1) (hE D f sz) (hA f sz)) 0 0 (hA f sz) := by
  refine h_of (cc := cX12_part) (maxL := 7) (ret := (some .long)) (by decide +kernel) rfl (Nat.le_of_ble_eq_true rfl) ?_
  intro p e s m below meth c ls C hr hlk hnm hw hl
  have hx := C.1.1
  have hb := C.1.2.1
  have hl : lv_has ls 7 [(0, .long a), (2, .long b), (4, .int w)] := hl
  refine lv_lload_n hx hb dX12_part_0 rfl (lv_at hl 0 rfl) ?_
  refine lv_lload_n hx hb dX12_part_1 rfl (lv_at hl 1 rfl) ?_
  refine h_calll hw (h_runS (n := 2) (As := [.long a, .long b]) (rest := []) C hw (c_X12_common ha hb2) gX12_part_X12_common rfl rfl rfl (by decide +kernel) ⟨by decide, by decide⟩ rfl hl.1 rfl (Nat.le_of_ble_eq_true rfl) dX12_part_2 ⟨by first | decide | omega, by first | decide | omega⟩) (fun r1 f2 H locs hp hw => ?_)
  obtain ⟨rfl, rfl⟩ := hp
  refine lv_lstore (lv' := [(5, _), (0, _), (2, _), (4, _)]) hx hb dX12_part_5 hl (by decide) rfl (fun ls hl => ?_)
  refine lv_lload_n hx hb dX12_part_7 rfl (lv_at hl 2 rfl) ?_
  refine lv_lconst (v := 0) hx hb dX12_part_8 (by decide) ?_
  refine W.lcmp hx hb dX12_part_9 ?_
  refine l_ifge C (tgt := 19) dX12_part_10 (by decide) (fun c3 => ?_) (fun c3 => ?_)
  · refine lv_lload hx hb dX12_part_19 (lv_at hl 0 rfl) ?_
    refine lv_lstore (lv' := [(5, _), (0, _), (2, _), (4, _)]) hx hb dX12_part_21 hl (by decide) rfl (fun ls hl => ?_)
    refine lv_iload hx hb dX12_part_23 (lv_at hl 3 rfl) ?_
    refine lv_if_eq (tgt := 35) hx hb dX12_part_25 (by decide) (fun c4 => ?_) (fun c4 => ?_)
    · refine lv_lload_n hx hb dX12_part_35 rfl (lv_at hl 1 rfl) ?_
      refine lv_lload hx hb dX12_part_36 (lv_at hl 0 rfl) ?_
      refine lv_ldiv hx hb dX12_part_38 (gd_ne hu hb2) ?_
      exact h_lret C hr hlk hw (⟨by rw [prL, if_pos c4, gdL, if_neg c3], rfl⟩) dX12_part_39
    · refine lv_lload_n hx hb dX12_part_28 rfl (lv_at hl 2 rfl) ?_
      refine lv_lload hx hb dX12_part_29 (lv_at hl 0 rfl) ?_
      refine lv_ldiv hx hb dX12_part_31 (gd_ne hu hb2) ?_
      refine lv_goto (tgt := 39) hx hb dX12_part_32 (by decide) ?_
      exact h_lret C hr hlk hw (⟨by rw [prL, if_neg c4, gdL, if_neg c3], rfl⟩) dX12_part_39
  · refine lv_lload hx hb dX12_part_13 (lv_at hl 0 rfl) ?_
    refine lv_lneg hx hb dX12_part_15 ?_
    refine lv_goto (tgt := 21) hx hb dX12_part_16 (by decide) ?_
    refine lv_lstore (lv' := [(5, _), (0, _), (2, _), (4, _)]) hx hb dX12_part_21 hl (by decide) rfl (fun ls hl => ?_)
    refine lv_iload hx hb dX12_part_23 (lv_at hl 3 rfl) ?_
    refine lv_if_eq (tgt := 35) hx hb dX12_part_25 (by decide) (fun c5 => ?_) (fun c5 => ?_)
    · refine lv_lload_n hx hb dX12_part_35 rfl (lv_at hl 1 rfl) ?_
      refine lv_lload hx hb dX12_part_36 (lv_at hl 0 rfl) ?_
      refine lv_ldiv hx hb dX12_part_38 (l_neg0 (gd_ne hu hb2)) ?_
      exact h_lret C hr hlk hw (⟨by rw [prL, if_pos c5, gdL, if_pos c3], rfl⟩) dX12_part_39
    · refine lv_lload_n hx hb dX12_part_28 rfl (lv_at hl 2 rfl) ?_
      refine lv_lload hx hb dX12_part_29 (lv_at hl 0 rfl) ?_
      refine lv_ldiv hx hb dX12_part_31 (l_neg0 (gd_ne hu hb2)) ?_
      refine lv_goto (tgt := 39) hx hb dX12_part_32 (by decide) ?_
      exact h_lret C hr hlk hw (⟨by rw [prL, if_neg c5, gdL, if_pos c3], rfl⟩) dX12_part_39
set_option maxHeartbeats 4000000 in
set_option maxRecDepth 100000 in
theorem c_X12_compare {l : Launch} {D : va_G} {cA : Nat → ClassId} {f : HF} {sz : Nat} {a0 b0 c0 d0 : Nat} (h1 : a0 < 2 ^ 63) (h2 : b0 < 2 ^ 63) (h3 : c0 < 2 ^ 63) (h4 : d0 < 2 ^ 63) (h5 : 0 < b0) (h6 : 0 < d0) : Met l yX12_compare wsX12_compare ({ frames := 0, cells := 0, slots := 0, locals := 0 } : Room) (va_Pc [.long (lN a0), .long (lN b0), .long (lN c0), .long (lN d0)] (hB D cA f sz)) (va_Qi (fun r f1 => cmpN a0 b0 c0 d0 = r ∧ f = f1) (hE D f sz) (hA f sz)) 0 0 (hA f sz) := by
  refine h_of (cc := cX12_compare) (maxL := 20) (ret := (some .int)) (by decide +kernel) rfl (Nat.le_of_ble_eq_true rfl) ?_
  intro p e s m below meth c ls C hr hlk hnm hw hl
  have hx := C.1.1
  have hb := C.1.2.1
  have hl : lv_has ls 20 [(0, .long (lN a0)), (2, .long (lN b0)), (4, .long (lN c0)), (6, .long (lN d0))] := hl
  refine lv_lload_n hx hb dX12_compare_0 rfl (lv_at hl 0 rfl) ?_
  refine lv_lstore (lv' := [(8, _), (0, _), (2, _), (4, _), (6, _)]) hx hb dX12_compare_1 hl (by decide) rfl (fun ls hl => ?_)
  refine lv_lload_n hx hb dX12_compare_3 rfl (lv_at hl 2 rfl) ?_
  refine lv_lstore (lv' := [(10, _), (8, _), (0, _), (2, _), (4, _), (6, _)]) hx hb dX12_compare_4 hl (by decide) rfl (fun ls hl => ?_)
  refine lv_lload hx hb dX12_compare_6 (lv_at hl 4 rfl) ?_
  refine lv_lstore (lv' := [(12, _), (10, _), (8, _), (0, _), (2, _), (4, _), (6, _)]) hx hb dX12_compare_8 hl (by decide) rfl (fun ls hl => ?_)
  refine lv_lload hx hb dX12_compare_10 (lv_at hl 6 rfl) ?_
  refine lv_lstore (lv' := [(14, _), (12, _), (10, _), (8, _), (0, _), (2, _), (4, _), (6, _)]) hx hb dX12_compare_12 hl (by decide) rfl (fun ls hl => ?_)
  have lp14 : ∀ (n : Nat) (a1 : Nat) (b1 : Nat) (z1 : Nat) (d1 : Nat) (H1 : Heap) (locs1 : List Loc) (ls1 : Array Slot), hW D (hA f sz) s.heap f H1 locs1 → lv_has ls1 20 [(8, .long (lN a1)), (10, .long (lN b1)), (12, .long (lN z1)), (14, .long (lN d1))] → a1 < 2 ^ 63 → b1 < 2 ^ 63 → z1 < 2 ^ 63 → d1 < 2 ^ 63 → 0 < b1 → 0 < d1 → cmpN a1 b1 z1 d1 = cmpN a0 b0 c0 d0 → b1 + d1 < n → W p l e ({ frames := 0, cells := 0, slots := 0, locals := 0 } : Room) s m ([.long (lN a0), .long (lN b0), .long (lN c0), .long (lN d0)]).toArray below meth c H1 locs1 0 0 (MQ below (va_Qi (fun r f1 => cmpN a0 b0 c0 d0 = r ∧ f = f1) (hE D f sz) (hA f sz)) ([.long (lN a0), .long (lN b0), .long (lN c0), .long (lN d0)]).toArray s 0 0 (hA f sz)) (F0 m 14 ls1 []) := by
    intro n
    induction n with
    | zero => intros; omega
    | succ n ih14 =>
      intro a1 b1 z1 d1 H locs ls hw hl h1 h2 h3 h4 h5 h6 hc hmu
      refine lv_lload hx hb dX12_compare_14 (lv_at hl 0 rfl) ?_
      refine lv_lload hx hb dX12_compare_16 (lv_at hl 1 rfl) ?_
      refine n_ldiv C h1 h5 h2 dX12_compare_18 ?_
      refine lv_lload hx hb dX12_compare_19 (lv_at hl 2 rfl) ?_
      refine lv_lload hx hb dX12_compare_21 (lv_at hl 3 rfl) ?_
      refine n_ldiv C h3 h6 h4 dX12_compare_23 ?_
      refine W.lcmp hx hb dX12_compare_24 ?_
      refine l_ifeq C (tgt := 48) dX12_compare_25 (by decide) (fun c1 => ?_) (fun c1 => ?_)
      · have hq : a1 / b1 = z1 / d1 := (pk_lEQ (Nat.lt_of_le_of_lt (Nat.div_le_self _ _) h1) (Nat.lt_of_le_of_lt (Nat.div_le_self _ _) h3)).mp c1
        refine lv_lload hx hb dX12_compare_48 (lv_at hl 0 rfl) ?_
        refine lv_lload hx hb dX12_compare_50 (lv_at hl 1 rfl) ?_
        refine n_lrem C h1 h5 h2 dX12_compare_52 ?_
        refine lv_lstore (lv' := [(16, _), (8, _), (10, _), (12, _), (14, _)]) hx hb dX12_compare_53 hl (by decide) rfl (fun ls hl => ?_)
        refine lv_lload hx hb dX12_compare_55 (lv_at hl 3 rfl) ?_
        refine lv_lload hx hb dX12_compare_57 (lv_at hl 4 rfl) ?_
        refine n_lrem C h3 h6 h4 dX12_compare_59 ?_
        refine lv_lstore (lv' := [(18, _), (16, _), (8, _), (10, _), (12, _), (14, _)]) hx hb dX12_compare_60 hl (by decide) rfl (fun ls hl => ?_)
        refine lv_lload hx hb dX12_compare_62 (lv_at hl 1 rfl) ?_
        refine lv_lconst (v := 0) hx hb dX12_compare_64 (by decide) ?_
        refine W.lcmp hx hb dX12_compare_65 ?_
        refine l_ifeq C (tgt := 76) dX12_compare_66 (by decide) (fun c2 => ?_) (fun c2 => ?_)
        · have hl0 : a1 % b1 = 0 := (pk_lEQ (b := 0) (Nat.lt_trans (Nat.mod_lt _ h5) h2) (by decide)).mp c2
          refine lv_lload hx hb dX12_compare_76 (lv_at hl 1 rfl) ?_
          refine lv_lload hx hb dX12_compare_78 (lv_at hl 0 rfl) ?_
          refine W.lcmp hx hb dX12_compare_80 ?_
          refine l_ifne C (tgt := 88) dX12_compare_81 (by decide) (fun c3 => ?_) (fun c3 => ?_)
          · have he : ¬ a1 % b1 = z1 % d1 := fun h => c3 (by rw [h])
            refine lv_lload hx hb dX12_compare_88 (lv_at hl 1 rfl) ?_
            refine lv_lconst (v := 0) hx hb dX12_compare_90 (by decide) ?_
            refine W.lcmp hx hb dX12_compare_91 ?_
            refine l_ifne C (tgt := 99) dX12_compare_92 (by decide) (fun c4 => ?_) (fun c4 => ?_)
            · have hl1 : ¬ a1 % b1 = 0 := fun h => c4 (by rw [h]; rfl)
              refine lv_iconst (v := nI 1) hx hb dX12_compare_99 (by decide) ?_
              exact h_iret C hr hlk hw (⟨hc.symm.trans (cp_gt (cp_g hq h6 hl1 (absurd hl0 hl1))), rfl⟩) dX12_compare_100
            · have hl1 : a1 % b1 = 0 := (pk_lEQ (b := 0) (Nat.lt_trans (Nat.mod_lt _ h5) h2) (by decide)).mp c4
              refine lv_iconst (v := (-1)) hx hb dX12_compare_95 (by decide) ?_
              refine lv_goto (tgt := 100) hx hb dX12_compare_96 (by decide) ?_
              exact h_iret C hr hlk hw (⟨hc.symm.trans (cp_lt (((cq_eq hq).1).mpr (by rw [hl1, Nat.zero_mul]; exact Nat.mul_pos (Nat.pos_of_ne_zero (fun h => he (by rw [hl1, h]))) h5))), rfl⟩) dX12_compare_100
          · have he : a1 % b1 = z1 % d1 := (pk_lEQ (Nat.lt_trans (Nat.mod_lt _ h5) h2) (Nat.lt_trans (Nat.mod_lt _ h6) h4)).mp c3
            refine lv_iconst (v := nI 0) hx hb dX12_compare_84 (by decide) ?_
            refine lv_goto (tgt := 100) hx hb dX12_compare_85 (by decide) ?_
            exact h_iret C hr hlk hw (⟨hc.symm.trans (cp_eq (((cq_eq hq).2).mpr (cp_z he (Or.inl hl0)))), rfl⟩) dX12_compare_100
        · have hl0 : ¬ a1 % b1 = 0 := fun h => c2 (by rw [h]; rfl)
          refine lv_lload hx hb dX12_compare_69 (lv_at hl 0 rfl) ?_
          refine lv_lconst (v := 0) hx hb dX12_compare_71 (by decide) ?_
          refine W.lcmp hx hb dX12_compare_72 ?_
          refine l_ifne C (tgt := 101) dX12_compare_73 (by decide) (fun c5 => ?_) (fun c5 => ?_)
          · have hr0 : ¬ z1 % d1 = 0 := fun h => c5 (by rw [h]; rfl)
            refine lv_lload hx hb dX12_compare_101 (lv_at hl 5 rfl) ?_
            refine lv_lstore (lv' := [(8, _), (18, _), (16, _), (10, _), (12, _), (14, _)]) hx hb dX12_compare_103 hl (by decide) rfl (fun ls hl => ?_)
            refine lv_lload hx hb dX12_compare_105 (lv_at hl 2 rfl) ?_
            refine lv_lstore (lv' := [(14, _), (8, _), (18, _), (16, _), (10, _), (12, _)]) hx hb dX12_compare_107 hl (by decide) rfl (fun ls hl => ?_)
            refine lv_lload hx hb dX12_compare_109 (lv_at hl 4 rfl) ?_
            refine lv_lstore (lv' := [(12, _), (14, _), (8, _), (18, _), (16, _), (10, _)]) hx hb dX12_compare_111 hl (by decide) rfl (fun ls hl => ?_)
            refine lv_lload hx hb dX12_compare_113 (lv_at hl 3 rfl) ?_
            refine lv_lstore (lv' := [(10, _), (12, _), (14, _), (8, _), (18, _), (16, _)]) hx hb dX12_compare_115 hl (by decide) rfl (fun ls hl => ?_)
            refine lv_goto (tgt := 14) hx hb dX12_compare_117 (by decide) ?_
            exact ih14 _ _ _ _ _ _ _ hw (lv_sub hl [3, 0, 1, 2] rfl) h4 (Nat.lt_trans (Nat.mod_lt _ h6) h4) h2 (Nat.lt_trans (Nat.mod_lt _ h5) h2) (Nat.pos_of_ne_zero hr0) (Nat.pos_of_ne_zero hl0) ((cp_turn hq).symm.trans hc) (by have := Nat.mod_lt a1 h5; have := Nat.mod_lt z1 h6; omega)
          · have hr0 : z1 % d1 = 0 := (pk_lEQ (b := 0) (Nat.lt_trans (Nat.mod_lt _ h6) h4) (by decide)).mp c5
            refine lv_lload hx hb dX12_compare_76 (lv_at hl 1 rfl) ?_
            refine lv_lload hx hb dX12_compare_78 (lv_at hl 0 rfl) ?_
            refine W.lcmp hx hb dX12_compare_80 ?_
            refine l_ifne C (tgt := 88) dX12_compare_81 (by decide) (fun c6 => ?_) (fun c6 => ?_)
            · have he : ¬ a1 % b1 = z1 % d1 := fun h => c6 (by rw [h])
              refine lv_lload hx hb dX12_compare_88 (lv_at hl 1 rfl) ?_
              refine lv_lconst (v := 0) hx hb dX12_compare_90 (by decide) ?_
              refine W.lcmp hx hb dX12_compare_91 ?_
              refine l_ifne C (tgt := 99) dX12_compare_92 (by decide) (fun c7 => ?_) (fun c7 => ?_)
              · have hl1 : ¬ a1 % b1 = 0 := fun h => c7 (by rw [h]; rfl)
                refine lv_iconst (v := nI 1) hx hb dX12_compare_99 (by decide) ?_
                exact h_iret C hr hlk hw (⟨hc.symm.trans (cp_gt (cp_g hq h6 hl1 hr0)), rfl⟩) dX12_compare_100
              · have hl1 : a1 % b1 = 0 := (pk_lEQ (b := 0) (Nat.lt_trans (Nat.mod_lt _ h5) h2) (by decide)).mp c7
                refine lv_iconst (v := (-1)) hx hb dX12_compare_95 (by decide) ?_
                refine lv_goto (tgt := 100) hx hb dX12_compare_96 (by decide) ?_
                exact h_iret C hr hlk hw (⟨hc.symm.trans (cp_lt (((cq_eq hq).1).mpr (by rw [hl1, Nat.zero_mul]; exact Nat.mul_pos (Nat.pos_of_ne_zero (fun h => he (by rw [hl1, h]))) h5))), rfl⟩) dX12_compare_100
            · have he : a1 % b1 = z1 % d1 := (pk_lEQ (Nat.lt_trans (Nat.mod_lt _ h5) h2) (Nat.lt_trans (Nat.mod_lt _ h6) h4)).mp c6
              refine lv_iconst (v := nI 0) hx hb dX12_compare_84 (by decide) ?_
              refine lv_goto (tgt := 100) hx hb dX12_compare_85 (by decide) ?_
              exact h_iret C hr hlk hw (⟨hc.symm.trans (cp_eq (((cq_eq hq).2).mpr (cp_z he (Or.inr hr0)))), rfl⟩) dX12_compare_100
      · have hq : ¬ a1 / b1 = z1 / d1 := fun h => c1 (by rw [h])
        refine lv_lload hx hb dX12_compare_28 (lv_at hl 0 rfl) ?_
        refine lv_lload hx hb dX12_compare_30 (lv_at hl 1 rfl) ?_
        refine n_ldiv C h1 h5 h2 dX12_compare_32 ?_
        refine lv_lload hx hb dX12_compare_33 (lv_at hl 2 rfl) ?_
        refine lv_lload hx hb dX12_compare_35 (lv_at hl 3 rfl) ?_
        refine n_ldiv C h3 h6 h4 dX12_compare_37 ?_
        refine W.lcmp hx hb dX12_compare_38 ?_
        refine l_ifge C (tgt := 46) dX12_compare_39 (by decide) (fun c8 => ?_) (fun c8 => ?_)
        · have hlt : z1 / d1 < a1 / b1 := by
            have := (pk_lLT (Nat.lt_of_le_of_lt (Nat.div_le_self a1 b1) h1) (Nat.lt_of_le_of_lt (Nat.div_le_self z1 d1) h3))
            have h9 : ¬ a1 / b1 < z1 / d1 := fun q => c8 (this.mpr q)
            omega
          have hgt := cq_lt h6 h5 hlt
          refine lv_iconst (v := nI 1) hx hb dX12_compare_46 (by decide) ?_
          exact h_iret C hr hlk hw (⟨hc.symm.trans (cp_gt hgt), rfl⟩) dX12_compare_47
        · have hlt := cq_lt h5 h6 ((pk_lLT (Nat.lt_of_le_of_lt (Nat.div_le_self a1 b1) h1) (Nat.lt_of_le_of_lt (Nat.div_le_self z1 d1) h3)).mp c8)
          refine lv_iconst (v := (-1)) hx hb dX12_compare_42 (by decide) ?_
          refine lv_goto (tgt := 47) hx hb dX12_compare_43 (by decide) ?_
          exact h_iret C hr hlk hw (⟨hc.symm.trans (cp_lt hlt), rfl⟩) dX12_compare_47
  exact lp14 _ _ _ _ _ _ _ _ hw (lv_sub hl [3, 2, 1, 0] rfl) h1 h2 h3 h4 h5 h6 rfl (Nat.lt_succ_self _)
set_option maxHeartbeats 4000000 in
set_option maxRecDepth 100000 in
theorem c_X12_star {l : Launch} {D : va_G} {cA : Nat → ClassId} {f : HF} {sz : Nat} {q : Nat → Nat} {A : MA} {B : MB} {nt : Nat} {u v : Int32} (hm : mo cA q A B f) (hnt : A 1 0 = nI nt) (hnt2 : nt ≤ 12) : Met l yX12_star wsX12_star ({ frames := 1, cells := 0, slots := 0, locals := 22 } : Room) (va_Pc [.ref (q 0), .int u, .int v] (hB D cA f sz)) (va_Ql (fun r f1 => (op_star A B nt u v).1 = r ∧ mo cA q (op_star A B nt u v).2.1 (op_star A B nt u v).2.2 f1) (hE D f sz) (hA f sz)) 0 0 (hA f sz) := by
  refine h_of (cc := cX12_star) (maxL := 3) (ret := (some .long)) (by decide +kernel) rfl (Nat.le_of_ble_eq_true rfl) ?_
  intro p e s m below meth c ls C hr hlk hnm hw hl
  have hx := C.1.1
  have hb := C.1.2.1
  have hl : lv_has ls 3 [(0, .ref (q 0)), (1, .int u), (2, .int v)] := hl
  have lk0 : Cond.constantLong RX12 91 (lF 1) ∈ wsX12_star := by decide +kernel
  have lk1 : Cond.fieldLink RX12 96 "FallingLightModel" "stars" "I" ∈ wsX12_star := by decide +kernel
  have lk2 : ∀ w ∈ u_ws RX12 TX12 27, w ∈ wsX12_star := by decide +kernel
  have lk3 : Cond.fieldLink RX12 9 "FallingLightModel" "pointX" "[I" ∈ wsX12_star := by decide +kernel
  have lk4 : Cond.fieldLink RX12 13 "FallingLightModel" "pointY" "[I" ∈ wsX12_star := by decide +kernel
  have lk5 : Cond.constantLong RX12 99 (lF 4) ∈ wsX12_star := by decide +kernel
  refine lv_iload_n hx hb dX12_star_0 rfl (lv_at hl 1 rfl) ?_
  refine lv_iconst (v := nI 0) hx hb dX12_star_1 (by decide) ?_
  refine lv_sipush (v := nI 199) hx hb dX12_star_2 (by decide) ?_
  refine h_calli hw (h_runS (n := 3) (As := [.int u, .int (nI 0), .int (nI 199)]) (rest := []) C hw c_X12_in gX12_star_X12_in rfl rfl rfl (by decide +kernel) ⟨by decide, by decide⟩ rfl hl.1 rfl (Nat.le_of_ble_eq_true rfl) dX12_star_5 ⟨by first | decide | omega, by first | decide | omega⟩) (fun r1 f2 H locs hp hw => ?_)
  obtain ⟨rfl, rfl⟩ := hp
  refine n_ifeqB C (tgt := 22) dX12_star_8 (by decide) (fun c3 => ?_) (fun c3 => ?_)
  · refine lv_aload_n hx hb dX12_star_22 rfl (lv_at hl 0 rfl) ?_
    refine lv_ldc2 hx hb C.1.2.2.2.1 (C.1.2.2.2.2 _ lk0) dX12_star_23 ?_
    refine h_calll hw (h_runV (n := 1) (As := [.long (lF 1)]) (rest := []) C hw (c_X12_finding hm (by omega)) gX12_star_X12_finding rfl rfl rfl (by decide +kernel) ⟨by decide, by decide⟩ bX12 hm.1 rfl hl.1 rfl (Nat.le_of_ble_eq_true rfl) dX12_star_26 ⟨by first | decide | omega, by first | decide | omega⟩) (fun r4 f5 H locs hp hw => ?_)
    obtain ⟨rfl, B6, eB6, hm⟩ := hp
    exact h_lret C hr hlk hw (op_fin (by subst eB6; simp only [op_star, if_neg c3]; try rfl) hm) dX12_star_29
  · refine lv_iload_n hx hb dX12_star_11 rfl (lv_at hl 2 rfl) ?_
    refine lv_iconst (v := nI 0) hx hb dX12_star_12 (by decide) ?_
    refine lv_sipush (v := nI 199) hx hb dX12_star_13 (by decide) ?_
    refine h_calli hw (h_runS (n := 3) (As := [.int v, .int (nI 0), .int (nI 199)]) (rest := []) C hw c_X12_in gX12_star_X12_in rfl rfl rfl (by decide +kernel) ⟨by decide, by decide⟩ rfl hl.1 rfl (Nat.le_of_ble_eq_true rfl) dX12_star_16 ⟨by first | decide | omega, by first | decide | omega⟩) (fun r7 f8 H locs hp hw => ?_)
    obtain ⟨rfl, rfl⟩ := hp
    refine n_ifneB C (tgt := 30) dX12_star_19 (by decide) (fun c9 => ?_) (fun c9 => ?_)
    · refine lv_aload_n hx hb dX12_star_30 rfl (lv_at hl 0 rfl) ?_
      refine m_fld C hw hm lk2 1 (by decide) lk1 (v := .int (nI nt)) (congrArg (fun z => some (Value.int z)) hnt) dX12_star_31 ?_
      refine lv_bipush (v := nI 12) hx hb dX12_star_34 (by decide) ?_
      refine n_cne C (by omega) (by omega) (tgt := 47) dX12_star_36 (by decide) (fun c10 => ?_) (fun c10 => ?_)
      · refine lv_aload_n hx hb dX12_star_47 rfl (lv_at hl 0 rfl) ?_
        refine m_fld C hw hm lk2 2 (by decide) lk3 (v := .ref (q 2)) rfl dX12_star_48 ?_
        refine lv_bipush (v := nI 10) hx hb dX12_star_51 (by decide) ?_
        refine lv_aload_n hx hb dX12_star_53 rfl (lv_at hl 0 rfl) ?_
        refine m_fld C hw hm lk2 1 (by decide) lk1 (v := .int (nI nt)) (congrArg (fun z => some (Value.int z)) hnt) dX12_star_54 ?_
        refine n_iadd C dX12_star_57 ?_
        refine lv_iload_n hx hb dX12_star_58 rfl (lv_at hl 1 rfl) ?_
        refine m_iast C hw hm 2 rfl (show 10 + nt < 22 from (by omega)) dX12_star_59 (fun A11 f12 H locs eA11 hw hm => ?_)
        have hn13 : A11 1 0 = nI nt := by rw [eA11, va_up_ne _ _ (by decide)]; exact hnt
        refine lv_aload_n hx hb dX12_star_60 rfl (lv_at hl 0 rfl) ?_
        refine m_fld C hw hm lk2 3 (by decide) lk4 (v := .ref (q 3)) rfl dX12_star_61 ?_
        refine lv_bipush (v := nI 10) hx hb dX12_star_64 (by decide) ?_
        refine lv_aload_n hx hb dX12_star_66 rfl (lv_at hl 0 rfl) ?_
        refine m_fld C hw hm lk2 1 (by decide) lk1 (v := .int (nI nt)) (congrArg (fun z => some (Value.int z)) hn13) dX12_star_67 ?_
        refine n_iadd C dX12_star_70 ?_
        refine lv_iload_n hx hb dX12_star_71 rfl (lv_at hl 2 rfl) ?_
        refine m_iast C hw hm 3 rfl (show 10 + nt < 22 from (by omega)) dX12_star_72 (fun A14 f15 H locs eA14 hw hm => ?_)
        have hn16 : A14 1 0 = nI nt := by rw [eA14, va_up_ne _ _ (by decide)]; exact hn13
        refine lv_aload_n hx hb dX12_star_73 rfl (lv_at hl 0 rfl) ?_
        refine lv_dup hx hb dX12_star_74 rfl ?_
        refine m_fld C hw hm lk2 1 (by decide) lk1 (v := .int (nI nt)) (congrArg (fun z => some (Value.int z)) hn16) dX12_star_75 ?_
        refine lv_iconst (v := nI 1) hx hb dX12_star_78 (by decide) ?_
        refine n_iadd C dX12_star_79 ?_
        refine m_puti C hw hm lk2 1 rfl (by decide) rfl rfl lk1 dX12_star_80 (fun A17 f18 H locs eA17 hw hm => ?_)
        have hn19 : A17 1 0 = nI (nt + 1) := by rw [eA17, va_up_self]
        refine lv_aload_n hx hb dX12_star_83 rfl (lv_at hl 0 rfl) ?_
        refine m_fld C hw hm lk2 1 (by decide) lk1 (v := .int (nI (nt + 1))) (congrArg (fun z => some (Value.int z)) hn19) dX12_star_84 ?_
        refine lv_iconst (v := nI 1) hx hb dX12_star_87 (by decide) ?_
        refine n_isub C (by omega) dX12_star_88 ?_
        refine n_i2l C (by omega) dX12_star_89 ?_
        exact h_lret C hr hlk hw (op_fin (by subst eA11; subst eA14; subst eA17; simp only [op_star, if_pos c3, if_pos c9, if_neg c10]; try rfl) hm) dX12_star_90
      · refine lv_aload_n hx hb dX12_star_39 rfl (lv_at hl 0 rfl) ?_
        refine lv_ldc2 hx hb C.1.2.2.2.1 (C.1.2.2.2.2 _ lk5) dX12_star_40 ?_
        refine h_calll hw (h_runV (n := 1) (As := [.long (lF 4)]) (rest := []) C hw (c_X12_finding hm (by omega)) gX12_star_X12_finding rfl rfl rfl (by decide +kernel) ⟨by decide, by decide⟩ bX12 hm.1 rfl hl.1 rfl (Nat.le_of_ble_eq_true rfl) dX12_star_43 ⟨by first | decide | omega, by first | decide | omega⟩) (fun r20 f21 H locs hp hw => ?_)
        obtain ⟨rfl, B22, eB22, hm⟩ := hp
        exact h_lret C hr hlk hw (op_fin (by subst eB22; simp only [op_star, if_pos c3, if_pos c9, if_pos c10]; try rfl) hm) dX12_star_46
    · refine lv_aload_n hx hb dX12_star_22 rfl (lv_at hl 0 rfl) ?_
      refine lv_ldc2 hx hb C.1.2.2.2.1 (C.1.2.2.2.2 _ lk0) dX12_star_23 ?_
      refine h_calll hw (h_runV (n := 1) (As := [.long (lF 1)]) (rest := []) C hw (c_X12_finding hm (by omega)) gX12_star_X12_finding rfl rfl rfl (by decide +kernel) ⟨by decide, by decide⟩ bX12 hm.1 rfl hl.1 rfl (Nat.le_of_ble_eq_true rfl) dX12_star_26 ⟨by first | decide | omega, by first | decide | omega⟩) (fun r23 f24 H locs hp hw => ?_)
      obtain ⟨rfl, B25, eB25, hm⟩ := hp
      exact h_lret C hr hlk hw (op_fin (by subst eB25; simp only [op_star, if_pos c3, if_neg c9]; try rfl) hm) dX12_star_29
set_option maxHeartbeats 4000000 in
set_option maxRecDepth 100000 in
theorem c_X12_spot {l : Launch} {D : va_G} {cA : Nat → ClassId} {f : HF} {sz : Nat} {q : Nat → Nat} {A : MA} {B : MB} {ns : Nat} {u v : Int32} (hm : mo cA q A B f) (hns : A 0 0 = nI ns) (hns2 : ns ≤ 10) : Met l yX12_spot wsX12_spot ({ frames := 1, cells := 0, slots := 0, locals := 22 } : Room) (va_Pc [.ref (q 0), .int u, .int v] (hB D cA f sz)) (va_Ql (fun r f1 => (op_spot A B ns u v).1 = r ∧ mo cA q (op_spot A B ns u v).2.1 (op_spot A B ns u v).2.2 f1) (hE D f sz) (hA f sz)) 0 0 (hA f sz) := by
  refine h_of (cc := cX12_spot) (maxL := 3) (ret := (some .long)) (by decide +kernel) rfl (Nat.le_of_ble_eq_true rfl) ?_
  intro p e s m below meth c ls C hr hlk hnm hw hl
  have hx := C.1.1
  have hb := C.1.2.1
  have hl : lv_has ls 3 [(0, .ref (q 0)), (1, .int u), (2, .int v)] := hl
  have lk0 : Cond.constantLong RX12 91 (lF 1) ∈ wsX12_spot := by decide +kernel
  have lk1 : Cond.fieldLink RX12 101 "FallingLightModel" "spots" "I" ∈ wsX12_spot := by decide +kernel
  have lk2 : ∀ w ∈ u_ws RX12 TX12 27, w ∈ wsX12_spot := by decide +kernel
  have lk3 : Cond.fieldLink RX12 9 "FallingLightModel" "pointX" "[I" ∈ wsX12_spot := by decide +kernel
  have lk4 : Cond.fieldLink RX12 13 "FallingLightModel" "pointY" "[I" ∈ wsX12_spot := by decide +kernel
  have lk5 : Cond.constantLong RX12 99 (lF 4) ∈ wsX12_spot := by decide +kernel
  refine lv_iload_n hx hb dX12_spot_0 rfl (lv_at hl 1 rfl) ?_
  refine lv_iconst (v := nI 0) hx hb dX12_spot_1 (by decide) ?_
  refine lv_sipush (v := nI 199) hx hb dX12_spot_2 (by decide) ?_
  refine h_calli hw (h_runS (n := 3) (As := [.int u, .int (nI 0), .int (nI 199)]) (rest := []) C hw c_X12_in gX12_spot_X12_in rfl rfl rfl (by decide +kernel) ⟨by decide, by decide⟩ rfl hl.1 rfl (Nat.le_of_ble_eq_true rfl) dX12_spot_5 ⟨by first | decide | omega, by first | decide | omega⟩) (fun r1 f2 H locs hp hw => ?_)
  obtain ⟨rfl, rfl⟩ := hp
  refine n_ifeqB C (tgt := 22) dX12_spot_8 (by decide) (fun c3 => ?_) (fun c3 => ?_)
  · refine lv_aload_n hx hb dX12_spot_22 rfl (lv_at hl 0 rfl) ?_
    refine lv_ldc2 hx hb C.1.2.2.2.1 (C.1.2.2.2.2 _ lk0) dX12_spot_23 ?_
    refine h_calll hw (h_runV (n := 1) (As := [.long (lF 1)]) (rest := []) C hw (c_X12_finding hm (by omega)) gX12_spot_X12_finding rfl rfl rfl (by decide +kernel) ⟨by decide, by decide⟩ bX12 hm.1 rfl hl.1 rfl (Nat.le_of_ble_eq_true rfl) dX12_spot_26 ⟨by first | decide | omega, by first | decide | omega⟩) (fun r4 f5 H locs hp hw => ?_)
    obtain ⟨rfl, B6, eB6, hm⟩ := hp
    exact h_lret C hr hlk hw (op_fin (by subst eB6; simp only [op_spot, if_neg c3]; try rfl) hm) dX12_spot_29
  · refine lv_iload_n hx hb dX12_spot_11 rfl (lv_at hl 2 rfl) ?_
    refine lv_iconst (v := nI 0) hx hb dX12_spot_12 (by decide) ?_
    refine lv_sipush (v := nI 199) hx hb dX12_spot_13 (by decide) ?_
    refine h_calli hw (h_runS (n := 3) (As := [.int v, .int (nI 0), .int (nI 199)]) (rest := []) C hw c_X12_in gX12_spot_X12_in rfl rfl rfl (by decide +kernel) ⟨by decide, by decide⟩ rfl hl.1 rfl (Nat.le_of_ble_eq_true rfl) dX12_spot_16 ⟨by first | decide | omega, by first | decide | omega⟩) (fun r7 f8 H locs hp hw => ?_)
    obtain ⟨rfl, rfl⟩ := hp
    refine n_ifneB C (tgt := 30) dX12_spot_19 (by decide) (fun c9 => ?_) (fun c9 => ?_)
    · refine lv_aload_n hx hb dX12_spot_30 rfl (lv_at hl 0 rfl) ?_
      refine m_fld C hw hm lk2 0 (by decide) lk1 (v := .int (nI ns)) (congrArg (fun z => some (Value.int z)) hns) dX12_spot_31 ?_
      refine lv_bipush (v := nI 10) hx hb dX12_spot_34 (by decide) ?_
      refine n_cne C (by omega) (by omega) (tgt := 47) dX12_spot_36 (by decide) (fun c10 => ?_) (fun c10 => ?_)
      · refine lv_aload_n hx hb dX12_spot_47 rfl (lv_at hl 0 rfl) ?_
        refine m_fld C hw hm lk2 2 (by decide) lk3 (v := .ref (q 2)) rfl dX12_spot_48 ?_
        refine lv_aload_n hx hb dX12_spot_51 rfl (lv_at hl 0 rfl) ?_
        refine m_fld C hw hm lk2 0 (by decide) lk1 (v := .int (nI ns)) (congrArg (fun z => some (Value.int z)) hns) dX12_spot_52 ?_
        refine lv_iload_n hx hb dX12_spot_55 rfl (lv_at hl 1 rfl) ?_
        refine m_iast C hw hm 2 rfl (show ns < 22 from (by omega)) dX12_spot_56 (fun A11 f12 H locs eA11 hw hm => ?_)
        have hn13 : A11 0 0 = nI ns := by rw [eA11, va_up_ne _ _ (by decide)]; exact hns
        refine lv_aload_n hx hb dX12_spot_57 rfl (lv_at hl 0 rfl) ?_
        refine m_fld C hw hm lk2 3 (by decide) lk4 (v := .ref (q 3)) rfl dX12_spot_58 ?_
        refine lv_aload_n hx hb dX12_spot_61 rfl (lv_at hl 0 rfl) ?_
        refine m_fld C hw hm lk2 0 (by decide) lk1 (v := .int (nI ns)) (congrArg (fun z => some (Value.int z)) hn13) dX12_spot_62 ?_
        refine lv_iload_n hx hb dX12_spot_65 rfl (lv_at hl 2 rfl) ?_
        refine m_iast C hw hm 3 rfl (show ns < 22 from (by omega)) dX12_spot_66 (fun A14 f15 H locs eA14 hw hm => ?_)
        have hn16 : A14 0 0 = nI ns := by rw [eA14, va_up_ne _ _ (by decide)]; exact hn13
        refine lv_aload_n hx hb dX12_spot_67 rfl (lv_at hl 0 rfl) ?_
        refine lv_dup hx hb dX12_spot_68 rfl ?_
        refine m_fld C hw hm lk2 0 (by decide) lk1 (v := .int (nI ns)) (congrArg (fun z => some (Value.int z)) hn16) dX12_spot_69 ?_
        refine lv_iconst (v := nI 1) hx hb dX12_spot_72 (by decide) ?_
        refine n_iadd C dX12_spot_73 ?_
        refine m_puti C hw hm lk2 0 rfl (by decide) rfl rfl lk1 dX12_spot_74 (fun A17 f18 H locs eA17 hw hm => ?_)
        have hn19 : A17 0 0 = nI (ns + 1) := by rw [eA17, va_up_self]
        refine lv_aload_n hx hb dX12_spot_77 rfl (lv_at hl 0 rfl) ?_
        refine m_fld C hw hm lk2 0 (by decide) lk1 (v := .int (nI (ns + 1))) (congrArg (fun z => some (Value.int z)) hn19) dX12_spot_78 ?_
        refine lv_iconst (v := nI 1) hx hb dX12_spot_81 (by decide) ?_
        refine n_isub C (by omega) dX12_spot_82 ?_
        refine n_i2l C (by omega) dX12_spot_83 ?_
        exact h_lret C hr hlk hw (op_fin (by subst eA11; subst eA14; subst eA17; simp only [op_spot, if_pos c3, if_pos c9, if_neg c10]; try rfl) hm) dX12_spot_84
      · refine lv_aload_n hx hb dX12_spot_39 rfl (lv_at hl 0 rfl) ?_
        refine lv_ldc2 hx hb C.1.2.2.2.1 (C.1.2.2.2.2 _ lk5) dX12_spot_40 ?_
        refine h_calll hw (h_runV (n := 1) (As := [.long (lF 4)]) (rest := []) C hw (c_X12_finding hm (by omega)) gX12_spot_X12_finding rfl rfl rfl (by decide +kernel) ⟨by decide, by decide⟩ bX12 hm.1 rfl hl.1 rfl (Nat.le_of_ble_eq_true rfl) dX12_spot_43 ⟨by first | decide | omega, by first | decide | omega⟩) (fun r20 f21 H locs hp hw => ?_)
        obtain ⟨rfl, B22, eB22, hm⟩ := hp
        exact h_lret C hr hlk hw (op_fin (by subst eB22; simp only [op_spot, if_pos c3, if_pos c9, if_pos c10]; try rfl) hm) dX12_spot_46
    · refine lv_aload_n hx hb dX12_spot_22 rfl (lv_at hl 0 rfl) ?_
      refine lv_ldc2 hx hb C.1.2.2.2.1 (C.1.2.2.2.2 _ lk0) dX12_spot_23 ?_
      refine h_calll hw (h_runV (n := 1) (As := [.long (lF 1)]) (rest := []) C hw (c_X12_finding hm (by omega)) gX12_spot_X12_finding rfl rfl rfl (by decide +kernel) ⟨by decide, by decide⟩ bX12 hm.1 rfl hl.1 rfl (Nat.le_of_ble_eq_true rfl) dX12_spot_26 ⟨by first | decide | omega, by first | decide | omega⟩) (fun r23 f24 H locs hp hw => ?_)
      obtain ⟨rfl, B25, eB25, hm⟩ := hp
      exact h_lret C hr hlk hw (op_fin (by subst eB25; simp only [op_spot, if_pos c3, if_neg c9]; try rfl) hm) dX12_spot_29
set_option maxHeartbeats 4000000 in
set_option maxRecDepth 100000 in
theorem c_X12_near {l : Launch} {D : va_G} {cA : Nat → ClassId} {f : HF} {sz : Nat} {q : Nat → Nat} {A : MA} {B : MB} {t : Int32} (hm : mo cA q A B f) : Met l yX12_near wsX12_near ({ frames := 1, cells := 0, slots := 0, locals := 22 } : Room) (va_Pc [.ref (q 0), .int t] (hB D cA f sz)) (va_Ql (fun r f1 => (op_near A B t).1 = r ∧ mo cA q (op_near A B t).2.1 (op_near A B t).2.2 f1) (hE D f sz) (hA f sz)) 0 0 (hA f sz) := by
  refine h_of (cc := cX12_near) (maxL := 3) (ret := (some .long)) (by decide +kernel) rfl (Nat.le_of_ble_eq_true rfl) ?_
  intro p e s m below meth c ls C hr hlk hnm hw hl
  have hx := C.1.1
  have hb := C.1.2.1
  have hl : lv_has ls 3 [(0, .ref (q 0)), (1, .int t)] := hl
  have lk0 : Cond.fieldLink RX12 16 "FallingLightModel" "near" "I" ∈ wsX12_near := by decide +kernel
  have lk1 : ∀ w ∈ u_ws RX12 TX12 27, w ∈ wsX12_near := by decide +kernel
  have lk2 : Cond.constantLong RX12 91 (lF 1) ∈ wsX12_near := by decide +kernel
  refine lv_iload_n hx hb dX12_near_0 rfl (lv_at hl 1 rfl) ?_
  refine lv_iconst (v := nI 0) hx hb dX12_near_1 (by decide) ?_
  refine lv_bipush (v := nI 99) hx hb dX12_near_2 (by decide) ?_
  refine h_calli hw (h_runS (n := 3) (As := [.int t, .int (nI 0), .int (nI 99)]) (rest := []) C hw c_X12_in gX12_near_X12_in rfl rfl rfl (by decide +kernel) ⟨by decide, by decide⟩ rfl hl.1 rfl (Nat.le_of_ble_eq_true rfl) dX12_near_4 ⟨by first | decide | omega, by first | decide | omega⟩) (fun r1 f2 H locs hp hw => ?_)
  obtain ⟨rfl, rfl⟩ := hp
  refine n_ifneB C (tgt := 18) dX12_near_7 (by decide) (fun c3 => ?_) (fun c3 => ?_)
  · refine lv_aload_n hx hb dX12_near_18 rfl (lv_at hl 0 rfl) ?_
    refine m_fld C hw hm lk1 4 (by decide) lk0 (v := .int (A 4 0)) rfl dX12_near_19 ?_
    refine lv_istore_n (lv' := [(2, _), (0, _), (1, _)]) hx hb dX12_near_22 rfl hl (by decide) rfl (fun ls hl => ?_)
    refine lv_aload_n hx hb dX12_near_23 rfl (lv_at hl 1 rfl) ?_
    refine lv_iload_n hx hb dX12_near_24 rfl (lv_at hl 2 rfl) ?_
    refine m_puti C hw hm lk1 4 rfl (by decide) rfl rfl lk0 dX12_near_25 (fun A4 f5 H locs eA4 hw hm => ?_)
    refine lv_iload_n hx hb dX12_near_28 rfl (lv_at hl 0 rfl) ?_
    refine lv_i2l hx hb dX12_near_29 rfl ?_
    exact h_lret C hr hlk hw (op_fin (by subst eA4; simp only [op_near, if_pos c3]; try rfl) hm) dX12_near_30
  · refine lv_aload_n hx hb dX12_near_10 rfl (lv_at hl 0 rfl) ?_
    refine lv_ldc2 hx hb C.1.2.2.2.1 (C.1.2.2.2.2 _ lk2) dX12_near_11 ?_
    refine h_calll hw (h_runV (n := 1) (As := [.long (lF 1)]) (rest := []) C hw (c_X12_finding hm (by omega)) gX12_near_X12_finding rfl rfl rfl (by decide +kernel) ⟨by decide, by decide⟩ bX12 hm.1 rfl hl.1 rfl (Nat.le_of_ble_eq_true rfl) dX12_near_14 ⟨by first | decide | omega, by first | decide | omega⟩) (fun r6 f7 H locs hp hw => ?_)
    obtain ⟨rfl, B8, eB8, hm⟩ := hp
    exact h_lret C hr hlk hw (op_fin (by subst eB8; simp only [op_near, if_neg c3]; try rfl) hm) dX12_near_17
set_option maxHeartbeats 4000000 in
set_option maxRecDepth 100000 in
theorem c_X12_clear {l : Launch} {D : va_G} {cA : Nat → ClassId} {f : HF} {sz : Nat} {q : Nat → Nat} {A : MA} {B : MB} {ns nt : Nat} {w : Int32} (hm : mo cA q A B f) (hns : A 0 0 = nI ns) (hnt : A 1 0 = nI nt) (hns2 : ns ≤ 10) (hnt2 : nt ≤ 12) : Met l yX12_clear wsX12_clear ({ frames := 0, cells := 0, slots := 0, locals := 0 } : Room) (va_Pc [.ref (q 0), .int w] (hB D cA f sz)) (va_Ql (fun r f1 => (op_clear A B ns nt w).1 = r ∧ mo cA q (op_clear A B ns nt w).2.1 (op_clear A B ns nt w).2.2 f1) (hE D f sz) (hA f sz)) 0 0 (hA f sz) := by
  refine h_of (cc := cX12_clear) (maxL := 3) (ret := (some .long)) (by decide +kernel) rfl (Nat.le_of_ble_eq_true rfl) ?_
  intro p e s m below meth c ls C hr hlk hnm hw hl
  have hx := C.1.1
  have hb := C.1.2.1
  have hl : lv_has ls 3 [(0, .ref (q 0)), (1, .int w)] := hl
  have lk0 : Cond.fieldLink RX12 101 "FallingLightModel" "spots" "I" ∈ wsX12_clear := by decide +kernel
  have lk1 : ∀ w ∈ u_ws RX12 TX12 27, w ∈ wsX12_clear := by decide +kernel
  have lk2 : Cond.fieldLink RX12 96 "FallingLightModel" "stars" "I" ∈ wsX12_clear := by decide +kernel
  refine lv_iload_n hx hb dX12_clear_0 rfl (lv_at hl 1 rfl) ?_
  refine lv_if_eq (tgt := 11) hx hb dX12_clear_1 (by decide) (fun c1 => ?_) (fun c1 => ?_)
  · refine lv_aload_n hx hb dX12_clear_11 rfl (lv_at hl 0 rfl) ?_
    refine m_fld C hw hm lk1 0 (by decide) lk0 (v := .int (nI ns)) (congrArg (fun z => some (Value.int z)) hns) dX12_clear_12 ?_
    refine lv_istore_n (lv' := [(2, _), (0, _), (1, _)]) hx hb dX12_clear_15 rfl hl (by decide) rfl (fun ls hl => ?_)
    refine lv_iload_n hx hb dX12_clear_16 rfl (lv_at hl 2 rfl) ?_
    refine lv_if_eq (tgt := 28) hx hb dX12_clear_17 (by decide) (fun c2 => ?_) (fun c2 => ?_)
    · refine lv_aload_n hx hb dX12_clear_28 rfl (lv_at hl 1 rfl) ?_
      refine lv_iconst (v := nI 0) hx hb dX12_clear_29 (by decide) ?_
      refine m_puti C hw hm lk1 0 rfl (by decide) rfl rfl lk0 dX12_clear_30 (fun A3 f4 H locs eA3 hw hm => ?_)
      have hn5 : A3 1 0 = nI nt := by rw [eA3, va_up_ne _ _ (by decide)]; exact hnt
      have hn6 : A3 0 0 = nI 0 := by rw [eA3, va_up_self]
      refine lv_iload_n hx hb dX12_clear_33 rfl (lv_at hl 0 rfl) ?_
      refine n_i2l C (by omega) dX12_clear_34 ?_
      exact h_lret C hr hlk hw (op_fin (by subst eA3; simp only [op_clear, if_pos c1]; try rfl) hm) dX12_clear_35
    · exact absurd c1 c2
  · refine lv_aload_n hx hb dX12_clear_4 rfl (lv_at hl 0 rfl) ?_
    refine m_fld C hw hm lk1 1 (by decide) lk2 (v := .int (nI nt)) (congrArg (fun z => some (Value.int z)) hnt) dX12_clear_5 ?_
    refine lv_goto (tgt := 15) hx hb dX12_clear_8 (by decide) ?_
    refine lv_istore_n (lv' := [(2, _), (0, _), (1, _)]) hx hb dX12_clear_15 rfl hl (by decide) rfl (fun ls hl => ?_)
    refine lv_iload_n hx hb dX12_clear_16 rfl (lv_at hl 2 rfl) ?_
    refine lv_if_eq (tgt := 28) hx hb dX12_clear_17 (by decide) (fun c7 => ?_) (fun c7 => ?_)
    · exact absurd c7 c1
    · refine lv_aload_n hx hb dX12_clear_20 rfl (lv_at hl 1 rfl) ?_
      refine lv_iconst (v := nI 0) hx hb dX12_clear_21 (by decide) ?_
      refine m_puti C hw hm lk1 1 rfl (by decide) rfl rfl lk2 dX12_clear_22 (fun A8 f9 H locs eA8 hw hm => ?_)
      have hn10 : A8 0 0 = nI ns := by rw [eA8, va_up_ne _ _ (by decide)]; exact hns
      have hn11 : A8 1 0 = nI 0 := by rw [eA8, va_up_self]
      refine lv_goto (tgt := 33) hx hb dX12_clear_25 (by decide) ?_
      refine lv_iload_n hx hb dX12_clear_33 rfl (lv_at hl 0 rfl) ?_
      refine n_i2l C (by omega) dX12_clear_34 ?_
      exact h_lret C hr hlk hw (op_fin (by subst eA8; simp only [op_clear, if_neg c1]; try rfl) hm) dX12_clear_35
set_option maxHeartbeats 4000000 in
set_option maxRecDepth 100000 in
theorem c_X12_tell {l : Launch} {D : va_G} {cA : Nat → ClassId} {f : HF} {sz : Nat} {q : Nat → Nat} {A : MA} {B : MB} {tn : Nat} {v : Int32} (hm : mo cA q A B f) (htn : A 13 0 = nI tn) (htn2 : tn ≤ 9) : Met l yX12_tell wsX12_tell ({ frames := 1, cells := 0, slots := 0, locals := 22 } : Room) (va_Pc [.ref (q 0), .int v] (hB D cA f sz)) (va_Ql (fun r f1 => (op_tell A B tn v).1 = r ∧ mo cA q (op_tell A B tn v).2.1 (op_tell A B tn v).2.2 f1) (hE D f sz) (hA f sz)) 0 0 (hA f sz) := by
  refine h_of (cc := cX12_tell) (maxL := 2) (ret := (some .long)) (by decide +kernel) rfl (Nat.le_of_ble_eq_true rfl) ?_
  intro p e s m below meth c ls C hr hlk hnm hw hl
  have hx := C.1.1
  have hb := C.1.2.1
  have hl : lv_has ls 2 [(0, .ref (q 0)), (1, .int v)] := hl
  have lk0 : Cond.fieldLink RX12 167 "FallingLightModel" "taped" "I" ∈ wsX12_tell := by decide +kernel
  have lk1 : ∀ w ∈ u_ws RX12 TX12 27, w ∈ wsX12_tell := by decide +kernel
  have lk2 : Cond.fieldLink RX12 44 "FallingLightModel" "tape" "[I" ∈ wsX12_tell := by decide +kernel
  have lk3 : Cond.constantLong RX12 99 (lF 4) ∈ wsX12_tell := by decide +kernel
  refine lv_aload_n hx hb dX12_tell_0 rfl (lv_at hl 0 rfl) ?_
  refine m_fld C hw hm lk1 13 (by decide) lk0 (v := .int (nI tn)) (congrArg (fun z => some (Value.int z)) htn) dX12_tell_1 ?_
  refine lv_bipush (v := nI 9) hx hb dX12_tell_4 (by decide) ?_
  refine n_cne C (by omega) (by omega) (tgt := 17) dX12_tell_6 (by decide) (fun c1 => ?_) (fun c1 => ?_)
  · refine lv_aload_n hx hb dX12_tell_17 rfl (lv_at hl 0 rfl) ?_
    refine m_fld C hw hm lk1 14 (by decide) lk2 (v := .ref (q 14)) rfl dX12_tell_18 ?_
    refine lv_aload_n hx hb dX12_tell_21 rfl (lv_at hl 0 rfl) ?_
    refine m_fld C hw hm lk1 13 (by decide) lk0 (v := .int (nI tn)) (congrArg (fun z => some (Value.int z)) htn) dX12_tell_22 ?_
    refine lv_iload_n hx hb dX12_tell_25 rfl (lv_at hl 1 rfl) ?_
    refine m_iast C hw hm 14 rfl (show tn < 9 from (by omega)) dX12_tell_26 (fun A2 f3 H locs eA2 hw hm => ?_)
    have hn4 : A2 13 0 = nI tn := by rw [eA2, va_up_ne _ _ (by decide)]; exact htn
    refine lv_aload_n hx hb dX12_tell_27 rfl (lv_at hl 0 rfl) ?_
    refine lv_dup hx hb dX12_tell_28 rfl ?_
    refine m_fld C hw hm lk1 13 (by decide) lk0 (v := .int (nI tn)) (congrArg (fun z => some (Value.int z)) hn4) dX12_tell_29 ?_
    refine lv_iconst (v := nI 1) hx hb dX12_tell_32 (by decide) ?_
    refine n_iadd C dX12_tell_33 ?_
    refine m_puti C hw hm lk1 13 rfl (by decide) rfl rfl lk0 dX12_tell_34 (fun A5 f6 H locs eA5 hw hm => ?_)
    have hn7 : A5 13 0 = nI (tn + 1) := by rw [eA5, va_up_self]
    refine lv_aload_n hx hb dX12_tell_37 rfl (lv_at hl 0 rfl) ?_
    refine m_fld C hw hm lk1 13 (by decide) lk0 (v := .int (nI (tn + 1))) (congrArg (fun z => some (Value.int z)) hn7) dX12_tell_38 ?_
    refine n_i2l C (by omega) dX12_tell_41 ?_
    exact h_lret C hr hlk hw (op_fin (by subst eA2; subst eA5; simp only [op_tell, if_neg c1]; try rfl) hm) dX12_tell_42
  · refine lv_aload_n hx hb dX12_tell_9 rfl (lv_at hl 0 rfl) ?_
    refine lv_ldc2 hx hb C.1.2.2.2.1 (C.1.2.2.2.2 _ lk3) dX12_tell_10 ?_
    refine h_calll hw (h_runV (n := 1) (As := [.long (lF 4)]) (rest := []) C hw (c_X12_finding hm (by omega)) gX12_tell_X12_finding rfl rfl rfl (by decide +kernel) ⟨by decide, by decide⟩ bX12 hm.1 rfl hl.1 rfl (Nat.le_of_ble_eq_true rfl) dX12_tell_13 ⟨by first | decide | omega, by first | decide | omega⟩) (fun r8 f9 H locs hp hw => ?_)
    obtain ⟨rfl, B10, eB10, hm⟩ := hp
    exact h_lret C hr hlk hw (op_fin (by subst eB10; simp only [op_tell, if_pos c1]; try rfl) hm) dX12_tell_16
set_option maxHeartbeats 4000000 in
set_option maxRecDepth 100000 in
theorem c_X12_station {l : Launch} {D : va_G} {cA : Nat → ClassId} {f : HF} {sz : Nat} {q : Nat → Nat} {A : MA} {B : MB} {k u v w : Int32} (hm : mo cA q A B f) : Met l yX12_station wsX12_station ({ frames := 2, cells := 0, slots := 0, locals := 42 } : Room) (va_Pc [.ref (q 0), .int k, .int u, .int v, .int w] (hB D cA f sz)) (va_Ql (fun r f1 => (op_station A B k u v w).1 = r ∧ mo cA q (op_station A B k u v w).2.1 (op_station A B k u v w).2.2 f1) (hE D f sz) (hA f sz)) 0 0 (hA f sz) := by
  refine h_of (cc := cX12_station) (maxL := 5) (ret := (some .long)) (by decide +kernel) rfl (Nat.le_of_ble_eq_true rfl) ?_
  intro p e s m below meth c ls C hr hlk hnm hw hl
  have hx := C.1.1
  have hb := C.1.2.1
  have hl : lv_has ls 5 [(0, .ref (q 0)), (1, .int k), (2, .int u), (3, .int v), (4, .int w)] := hl
  have lk0 : Cond.constantLong RX12 91 (lF 1) ∈ wsX12_station := by decide +kernel
  have lk1 : Cond.fieldLink RX12 26 "FallingLightModel" "stationAt" "[I" ∈ wsX12_station := by decide +kernel
  have lk2 : ∀ w ∈ u_ws RX12 TX12 27, w ∈ wsX12_station := by decide +kernel
  refine lv_iload_n hx hb dX12_station_0 rfl (lv_at hl 1 rfl) ?_
  refine h_calli hw (h_runS (n := 1) (As := [.int k]) (rest := []) C hw c_X12_isStation gX12_station_X12_isStation rfl rfl rfl (by decide +kernel) ⟨by decide, by decide⟩ rfl hl.1 rfl (Nat.le_of_ble_eq_true rfl) dX12_station_1 ⟨by first | decide | omega, by first | decide | omega⟩) (fun r1 f2 H locs hp hw => ?_)
  obtain ⟨rfl, rfl⟩ := hp
  refine n_ifeqB C (tgt := 40) dX12_station_4 (by decide) (fun c3 => ?_) (fun c3 => ?_)
  · refine lv_aload_n hx hb dX12_station_40 rfl (lv_at hl 0 rfl) ?_
    refine lv_ldc2 hx hb C.1.2.2.2.1 (C.1.2.2.2.2 _ lk0) dX12_station_41 ?_
    refine h_calll hw (h_runV (n := 1) (As := [.long (lF 1)]) (rest := []) C hw (c_X12_finding hm (by omega)) gX12_station_X12_finding rfl rfl rfl (by decide +kernel) ⟨by decide, by decide⟩ bX12 hm.1 rfl hl.1 rfl (Nat.le_of_ble_eq_true rfl) dX12_station_44 ⟨by first | decide | omega, by first | decide | omega⟩) (fun r4 f5 H locs hp hw => ?_)
    obtain ⟨rfl, B6, eB6, hm⟩ := hp
    exact h_lret C hr hlk hw (op_fin (by subst eB6; simp only [op_station, if_neg c3]; try rfl) hm) dX12_station_47
  · obtain ⟨i, hi, rfl⟩ := inN (by decide) c3
    refine lv_iload_n hx hb dX12_station_7 rfl (lv_at hl 2 rfl) ?_
    refine lv_bipush (v := (-99)) hx hb dX12_station_8 (by decide) ?_
    refine lv_bipush (v := nI 99) hx hb dX12_station_10 (by decide) ?_
    refine h_calli hw (h_runS (n := 3) (As := [.int u, .int (-99), .int (nI 99)]) (rest := []) C hw c_X12_in gX12_station_X12_in rfl rfl rfl (by decide +kernel) ⟨by decide, by decide⟩ rfl hl.1 rfl (Nat.le_of_ble_eq_true rfl) dX12_station_12 ⟨by first | decide | omega, by first | decide | omega⟩) (fun r7 f8 H locs hp hw => ?_)
    obtain ⟨rfl, rfl⟩ := hp
    refine n_ifeqB C (tgt := 40) dX12_station_15 (by decide) (fun c9 => ?_) (fun c9 => ?_)
    · refine lv_aload_n hx hb dX12_station_40 rfl (lv_at hl 0 rfl) ?_
      refine lv_ldc2 hx hb C.1.2.2.2.1 (C.1.2.2.2.2 _ lk0) dX12_station_41 ?_
      refine h_calll hw (h_runV (n := 1) (As := [.long (lF 1)]) (rest := []) C hw (c_X12_finding hm (by omega)) gX12_station_X12_finding rfl rfl rfl (by decide +kernel) ⟨by decide, by decide⟩ bX12 hm.1 rfl hl.1 rfl (Nat.le_of_ble_eq_true rfl) dX12_station_44 ⟨by first | decide | omega, by first | decide | omega⟩) (fun r10 f11 H locs hp hw => ?_)
      obtain ⟨rfl, B12, eB12, hm⟩ := hp
      exact h_lret C hr hlk hw (op_fin (by subst eB12; simp only [op_station, if_pos c3, if_neg c9, nI_clamp (show i < 2 ^ 31 by omega)]; try rfl) hm) dX12_station_47
    · refine lv_iload_n hx hb dX12_station_18 rfl (lv_at hl 3 rfl) ?_
      refine lv_bipush (v := (-99)) hx hb dX12_station_19 (by decide) ?_
      refine lv_bipush (v := nI 99) hx hb dX12_station_21 (by decide) ?_
      refine h_calli hw (h_runS (n := 3) (As := [.int v, .int (-99), .int (nI 99)]) (rest := []) C hw c_X12_in gX12_station_X12_in rfl rfl rfl (by decide +kernel) ⟨by decide, by decide⟩ rfl hl.1 rfl (Nat.le_of_ble_eq_true rfl) dX12_station_23 ⟨by first | decide | omega, by first | decide | omega⟩) (fun r13 f14 H locs hp hw => ?_)
      obtain ⟨rfl, rfl⟩ := hp
      refine n_ifeqB C (tgt := 40) dX12_station_26 (by decide) (fun c15 => ?_) (fun c15 => ?_)
      · refine lv_aload_n hx hb dX12_station_40 rfl (lv_at hl 0 rfl) ?_
        refine lv_ldc2 hx hb C.1.2.2.2.1 (C.1.2.2.2.2 _ lk0) dX12_station_41 ?_
        refine h_calll hw (h_runV (n := 1) (As := [.long (lF 1)]) (rest := []) C hw (c_X12_finding hm (by omega)) gX12_station_X12_finding rfl rfl rfl (by decide +kernel) ⟨by decide, by decide⟩ bX12 hm.1 rfl hl.1 rfl (Nat.le_of_ble_eq_true rfl) dX12_station_44 ⟨by first | decide | omega, by first | decide | omega⟩) (fun r16 f17 H locs hp hw => ?_)
        obtain ⟨rfl, B18, eB18, hm⟩ := hp
        exact h_lret C hr hlk hw (op_fin (by subst eB18; simp only [op_station, if_pos c3, if_pos c9, if_neg c15, nI_clamp (show i < 2 ^ 31 by omega)]; try rfl) hm) dX12_station_47
      · refine lv_iload hx hb dX12_station_29 (lv_at hl 4 rfl) ?_
        refine lv_iconst (v := nI 0) hx hb dX12_station_31 (by decide) ?_
        refine lv_bipush (v := nI 9) hx hb dX12_station_32 (by decide) ?_
        refine h_calli hw (h_runS (n := 3) (As := [.int w, .int (nI 0), .int (nI 9)]) (rest := []) C hw c_X12_in gX12_station_X12_in rfl rfl rfl (by decide +kernel) ⟨by decide, by decide⟩ rfl hl.1 rfl (Nat.le_of_ble_eq_true rfl) dX12_station_34 ⟨by first | decide | omega, by first | decide | omega⟩) (fun r19 f20 H locs hp hw => ?_)
        obtain ⟨rfl, rfl⟩ := hp
        refine n_ifneB C (tgt := 48) dX12_station_37 (by decide) (fun c21 => ?_) (fun c21 => ?_)
        · refine lv_aload_n hx hb dX12_station_48 rfl (lv_at hl 0 rfl) ?_
          refine m_fld C hw hm lk2 7 (by decide) lk1 (v := .ref (q 7)) rfl dX12_station_49 ?_
          refine lv_iconst (v := nI 3) hx hb dX12_station_52 (by decide) ?_
          refine lv_iload_n hx hb dX12_station_53 rfl (lv_at hl 1 rfl) ?_
          refine n_imul C dX12_station_54 ?_
          refine lv_iload_n hx hb dX12_station_55 rfl (lv_at hl 2 rfl) ?_
          refine m_iast C hw hm 7 rfl (show 3 * i < 12 from (by omega)) dX12_station_56 (fun A22 f23 H locs eA22 hw hm => ?_)
          refine lv_aload_n hx hb dX12_station_57 rfl (lv_at hl 0 rfl) ?_
          refine m_fld C hw hm lk2 7 (by decide) lk1 (v := .ref (q 7)) rfl dX12_station_58 ?_
          refine lv_iconst (v := nI 3) hx hb dX12_station_61 (by decide) ?_
          refine lv_iload_n hx hb dX12_station_62 rfl (lv_at hl 1 rfl) ?_
          refine n_imul C dX12_station_63 ?_
          refine lv_iconst (v := nI 1) hx hb dX12_station_64 (by decide) ?_
          refine n_iadd C dX12_station_65 ?_
          refine lv_iload_n hx hb dX12_station_66 rfl (lv_at hl 3 rfl) ?_
          refine m_iast C hw hm 7 rfl (show 3 * i + 1 < 12 from (by omega)) dX12_station_67 (fun A24 f25 H locs eA24 hw hm => ?_)
          refine lv_aload_n hx hb dX12_station_68 rfl (lv_at hl 0 rfl) ?_
          refine m_fld C hw hm lk2 7 (by decide) lk1 (v := .ref (q 7)) rfl dX12_station_69 ?_
          refine lv_iconst (v := nI 3) hx hb dX12_station_72 (by decide) ?_
          refine lv_iload_n hx hb dX12_station_73 rfl (lv_at hl 1 rfl) ?_
          refine n_imul C dX12_station_74 ?_
          refine lv_iconst (v := nI 2) hx hb dX12_station_75 (by decide) ?_
          refine n_iadd C dX12_station_76 ?_
          refine lv_iload hx hb dX12_station_77 (lv_at hl 4 rfl) ?_
          refine m_iast C hw hm 7 rfl (show 3 * i + 2 < 12 from (by omega)) dX12_station_79 (fun A26 f27 H locs eA26 hw hm => ?_)
          refine lv_lconst (v := 1) hx hb dX12_station_80 (by decide) ?_
          exact h_lret C hr hlk hw (op_fin (by subst eA22; subst eA24; subst eA26; simp only [op_station, if_pos c3, if_pos c9, if_pos c15, if_pos c21, nI_clamp (show i < 2 ^ 31 by omega)]; try rfl) hm) dX12_station_81
        · refine lv_aload_n hx hb dX12_station_40 rfl (lv_at hl 0 rfl) ?_
          refine lv_ldc2 hx hb C.1.2.2.2.1 (C.1.2.2.2.2 _ lk0) dX12_station_41 ?_
          refine h_calll hw (h_runV (n := 1) (As := [.long (lF 1)]) (rest := []) C hw (c_X12_finding hm (by omega)) gX12_station_X12_finding rfl rfl rfl (by decide +kernel) ⟨by decide, by decide⟩ bX12 hm.1 rfl hl.1 rfl (Nat.le_of_ble_eq_true rfl) dX12_station_44 ⟨by first | decide | omega, by first | decide | omega⟩) (fun r28 f29 H locs hp hw => ?_)
          obtain ⟨rfl, B30, eB30, hm⟩ := hp
          exact h_lret C hr hlk hw (op_fin (by subst eB30; simp only [op_station, if_pos c3, if_pos c9, if_pos c15, if_neg c21, nI_clamp (show i < 2 ^ 31 by omega)]; try rfl) hm) dX12_station_47
set_option maxHeartbeats 4000000 in
set_option maxRecDepth 100000 in
theorem c_X12_wind {l : Launch} {D : va_G} {cA : Nat → ClassId} {f : HF} {sz : Nat} {q : Nat → Nat} {A : MA} {B : MB} {k u v : Int32} (hm : mo cA q A B f) : Met l yX12_wind wsX12_wind ({ frames := 1, cells := 0, slots := 0, locals := 22 } : Room) (va_Pc [.ref (q 0), .int k, .int u, .int v] (hB D cA f sz)) (va_Ql (fun r f1 => (op_wind A B k u v).1 = r ∧ mo cA q (op_wind A B k u v).2.1 (op_wind A B k u v).2.2 f1) (hE D f sz) (hA f sz)) 0 0 (hA f sz) := by
  refine h_of (cc := cX12_wind) (maxL := 4) (ret := (some .long)) (by decide +kernel) rfl (Nat.le_of_ble_eq_true rfl) ?_
  intro p e s m below meth c ls C hr hlk hnm hw hl
  have hx := C.1.1
  have hb := C.1.2.1
  have hl : lv_has ls 4 [(0, .ref (q 0)), (1, .int k), (2, .int u), (3, .int v)] := hl
  have lk0 : Cond.constantLong RX12 91 (lF 1) ∈ wsX12_wind := by decide +kernel
  have lk1 : Cond.fieldLink RX12 41 "FallingLightModel" "drifts" "[I" ∈ wsX12_wind := by decide +kernel
  have lk2 : ∀ w ∈ u_ws RX12 TX12 27, w ∈ wsX12_wind := by decide +kernel
  refine lv_iload_n hx hb dX12_wind_0 rfl (lv_at hl 1 rfl) ?_
  refine lv_iconst (v := nI 0) hx hb dX12_wind_1 (by decide) ?_
  refine lv_bipush (v := nI 9) hx hb dX12_wind_2 (by decide) ?_
  refine h_calli hw (h_runS (n := 3) (As := [.int k, .int (nI 0), .int (nI 9)]) (rest := []) C hw c_X12_in gX12_wind_X12_in rfl rfl rfl (by decide +kernel) ⟨by decide, by decide⟩ rfl hl.1 rfl (Nat.le_of_ble_eq_true rfl) dX12_wind_4 ⟨by first | decide | omega, by first | decide | omega⟩) (fun r1 f2 H locs hp hw => ?_)
  obtain ⟨rfl, rfl⟩ := hp
  refine n_ifeqB C (tgt := 32) dX12_wind_7 (by decide) (fun c3 => ?_) (fun c3 => ?_)
  · refine lv_aload_n hx hb dX12_wind_32 rfl (lv_at hl 0 rfl) ?_
    refine lv_ldc2 hx hb C.1.2.2.2.1 (C.1.2.2.2.2 _ lk0) dX12_wind_33 ?_
    refine h_calll hw (h_runV (n := 1) (As := [.long (lF 1)]) (rest := []) C hw (c_X12_finding hm (by omega)) gX12_wind_X12_finding rfl rfl rfl (by decide +kernel) ⟨by decide, by decide⟩ bX12 hm.1 rfl hl.1 rfl (Nat.le_of_ble_eq_true rfl) dX12_wind_36 ⟨by first | decide | omega, by first | decide | omega⟩) (fun r4 f5 H locs hp hw => ?_)
    obtain ⟨rfl, B6, eB6, hm⟩ := hp
    exact h_lret C hr hlk hw (op_fin (by subst eB6; simp only [op_wind, if_neg c3]; try rfl) hm) dX12_wind_39
  · obtain ⟨i, hi, rfl⟩ := inN (by decide) c3
    refine lv_iload_n hx hb dX12_wind_10 rfl (lv_at hl 2 rfl) ?_
    refine lv_bipush (v := (-9)) hx hb dX12_wind_11 (by decide) ?_
    refine lv_bipush (v := nI 9) hx hb dX12_wind_13 (by decide) ?_
    refine h_calli hw (h_runS (n := 3) (As := [.int u, .int (-9), .int (nI 9)]) (rest := []) C hw c_X12_in gX12_wind_X12_in rfl rfl rfl (by decide +kernel) ⟨by decide, by decide⟩ rfl hl.1 rfl (Nat.le_of_ble_eq_true rfl) dX12_wind_15 ⟨by first | decide | omega, by first | decide | omega⟩) (fun r7 f8 H locs hp hw => ?_)
    obtain ⟨rfl, rfl⟩ := hp
    refine n_ifeqB C (tgt := 32) dX12_wind_18 (by decide) (fun c9 => ?_) (fun c9 => ?_)
    · refine lv_aload_n hx hb dX12_wind_32 rfl (lv_at hl 0 rfl) ?_
      refine lv_ldc2 hx hb C.1.2.2.2.1 (C.1.2.2.2.2 _ lk0) dX12_wind_33 ?_
      refine h_calll hw (h_runV (n := 1) (As := [.long (lF 1)]) (rest := []) C hw (c_X12_finding hm (by omega)) gX12_wind_X12_finding rfl rfl rfl (by decide +kernel) ⟨by decide, by decide⟩ bX12 hm.1 rfl hl.1 rfl (Nat.le_of_ble_eq_true rfl) dX12_wind_36 ⟨by first | decide | omega, by first | decide | omega⟩) (fun r10 f11 H locs hp hw => ?_)
      obtain ⟨rfl, B12, eB12, hm⟩ := hp
      exact h_lret C hr hlk hw (op_fin (by subst eB12; simp only [op_wind, if_pos c3, if_neg c9, nI_clamp (show i < 2 ^ 31 by omega)]; try rfl) hm) dX12_wind_39
    · refine lv_iload_n hx hb dX12_wind_21 rfl (lv_at hl 3 rfl) ?_
      refine lv_bipush (v := (-9)) hx hb dX12_wind_22 (by decide) ?_
      refine lv_bipush (v := nI 9) hx hb dX12_wind_24 (by decide) ?_
      refine h_calli hw (h_runS (n := 3) (As := [.int v, .int (-9), .int (nI 9)]) (rest := []) C hw c_X12_in gX12_wind_X12_in rfl rfl rfl (by decide +kernel) ⟨by decide, by decide⟩ rfl hl.1 rfl (Nat.le_of_ble_eq_true rfl) dX12_wind_26 ⟨by first | decide | omega, by first | decide | omega⟩) (fun r13 f14 H locs hp hw => ?_)
      obtain ⟨rfl, rfl⟩ := hp
      refine n_ifneB C (tgt := 40) dX12_wind_29 (by decide) (fun c15 => ?_) (fun c15 => ?_)
      · refine lv_aload_n hx hb dX12_wind_40 rfl (lv_at hl 0 rfl) ?_
        refine m_fld C hw hm lk2 12 (by decide) lk1 (v := .ref (q 12)) rfl dX12_wind_41 ?_
        refine lv_iconst (v := nI 2) hx hb dX12_wind_44 (by decide) ?_
        refine lv_iload_n hx hb dX12_wind_45 rfl (lv_at hl 1 rfl) ?_
        refine n_imul C dX12_wind_46 ?_
        refine lv_iload_n hx hb dX12_wind_47 rfl (lv_at hl 2 rfl) ?_
        refine m_iast C hw hm 12 rfl (show 2 * i < 20 from (by omega)) dX12_wind_48 (fun A16 f17 H locs eA16 hw hm => ?_)
        refine lv_aload_n hx hb dX12_wind_49 rfl (lv_at hl 0 rfl) ?_
        refine m_fld C hw hm lk2 12 (by decide) lk1 (v := .ref (q 12)) rfl dX12_wind_50 ?_
        refine lv_iconst (v := nI 2) hx hb dX12_wind_53 (by decide) ?_
        refine lv_iload_n hx hb dX12_wind_54 rfl (lv_at hl 1 rfl) ?_
        refine n_imul C dX12_wind_55 ?_
        refine lv_iconst (v := nI 1) hx hb dX12_wind_56 (by decide) ?_
        refine n_iadd C dX12_wind_57 ?_
        refine lv_iload_n hx hb dX12_wind_58 rfl (lv_at hl 3 rfl) ?_
        refine m_iast C hw hm 12 rfl (show 2 * i + 1 < 20 from (by omega)) dX12_wind_59 (fun A18 f19 H locs eA18 hw hm => ?_)
        refine lv_lconst (v := 1) hx hb dX12_wind_60 (by decide) ?_
        exact h_lret C hr hlk hw (op_fin (by subst eA16; subst eA18; simp only [op_wind, if_pos c3, if_pos c9, if_pos c15, nI_clamp (show i < 2 ^ 31 by omega)]; try rfl) hm) dX12_wind_61
      · refine lv_aload_n hx hb dX12_wind_32 rfl (lv_at hl 0 rfl) ?_
        refine lv_ldc2 hx hb C.1.2.2.2.1 (C.1.2.2.2.2 _ lk0) dX12_wind_33 ?_
        refine h_calll hw (h_runV (n := 1) (As := [.long (lF 1)]) (rest := []) C hw (c_X12_finding hm (by omega)) gX12_wind_X12_finding rfl rfl rfl (by decide +kernel) ⟨by decide, by decide⟩ bX12 hm.1 rfl hl.1 rfl (Nat.le_of_ble_eq_true rfl) dX12_wind_36 ⟨by first | decide | omega, by first | decide | omega⟩) (fun r20 f21 H locs hp hw => ?_)
        obtain ⟨rfl, B22, eB22, hm⟩ := hp
        exact h_lret C hr hlk hw (op_fin (by subst eB22; simp only [op_wind, if_pos c3, if_pos c9, if_neg c15, nI_clamp (show i < 2 ^ 31 by omega)]; try rfl) hm) dX12_wind_39
set_option maxHeartbeats 4000000 in
set_option maxRecDepth 100000 in
theorem c_X12_found {l : Launch} {D : va_G} {cA : Nat → ClassId} {f : HF} {sz : Nat} {q : Nat → Nat} {A : MA} {B : MB} {k : Int32} (hm : mo cA q A B f) : Met l yX12_found wsX12_found ({ frames := 1, cells := 0, slots := 0, locals := 22 } : Room) (va_Pc [.ref (q 0), .int k] (hB D cA f sz)) (va_Ql (fun r f1 => (op_found A B k).1 = r ∧ mo cA q (op_found A B k).2.1 (op_found A B k).2.2 f1) (hE D f sz) (hA f sz)) 0 0 (hA f sz) := by
  refine h_of (cc := cX12_found) (maxL := 2) (ret := (some .long)) (by decide +kernel) rfl (Nat.le_of_ble_eq_true rfl) ?_
  intro p e s m below meth c ls C hr hlk hnm hw hl
  have hx := C.1.1
  have hb := C.1.2.1
  have hl : lv_has ls 2 [(0, .ref (q 0)), (1, .int k)] := hl
  have lk0 : Cond.constantLong RX12 91 (lF 1) ∈ wsX12_found := by decide +kernel
  have lk1 : Cond.fieldLink RX12 47 "FallingLightModel" "findings" "[J" ∈ wsX12_found := by decide +kernel
  have lk2 : ∀ w ∈ u_ws RX12 TX12 27, w ∈ wsX12_found := by decide +kernel
  refine lv_iload_n hx hb dX12_found_0 rfl (lv_at hl 1 rfl) ?_
  refine lv_iconst (v := nI 1) hx hb dX12_found_1 (by decide) ?_
  refine lv_iconst (v := nI 5) hx hb dX12_found_2 (by decide) ?_
  refine h_calli hw (h_runS (n := 3) (As := [.int k, .int (nI 1), .int (nI 5)]) (rest := []) C hw c_X12_in gX12_found_X12_in rfl rfl rfl (by decide +kernel) ⟨by decide, by decide⟩ rfl hl.1 rfl (Nat.le_of_ble_eq_true rfl) dX12_found_3 ⟨by first | decide | omega, by first | decide | omega⟩) (fun r1 f2 H locs hp hw => ?_)
  obtain ⟨rfl, rfl⟩ := hp
  refine n_ifeqB C (tgt := 18) dX12_found_6 (by decide) (fun c3 => ?_) (fun c3 => ?_)
  · refine lv_aload_n hx hb dX12_found_18 rfl (lv_at hl 0 rfl) ?_
    refine lv_ldc2 hx hb C.1.2.2.2.1 (C.1.2.2.2.2 _ lk0) dX12_found_19 ?_
    refine h_calll hw (h_runV (n := 1) (As := [.long (lF 1)]) (rest := []) C hw (c_X12_finding hm (by omega)) gX12_found_X12_finding rfl rfl rfl (by decide +kernel) ⟨by decide, by decide⟩ bX12 hm.1 rfl hl.1 rfl (Nat.le_of_ble_eq_true rfl) dX12_found_22 ⟨by first | decide | omega, by first | decide | omega⟩) (fun r4 f5 H locs hp hw => ?_)
    obtain ⟨rfl, B6, eB6, hm⟩ := hp
    exact h_lret C hr hlk hw (op_fin (by subst eB6; simp only [op_found, if_neg c3]; try rfl) hm) dX12_found_25
  · obtain ⟨i, hi, rfl⟩ := inN (v := k) (k := 5) (by decide) ⟨fun h => c3.1 (Int32.lt_trans h (by decide)), c3.2⟩
    refine lv_aload_n hx hb dX12_found_9 rfl (lv_at hl 0 rfl) ?_
    refine m_fld C hw hm lk2 15 (by decide) lk1 (v := .ref (q 15)) rfl dX12_found_10 ?_
    refine lv_iload_n hx hb dX12_found_13 rfl (lv_at hl 1 rfl) ?_
    refine m_lald C hw hm 15 rfl (v := B 15 i) rfl (show i < 6 from (by omega)) dX12_found_14 ?_
    refine lv_goto (tgt := 25) hx hb dX12_found_15 (by decide) ?_
    exact h_lret C hr hlk hw (op_fin (by simp only [op_found, if_pos c3, nI_clamp (show i < 2 ^ 31 by omega)]; try rfl) hm) dX12_found_25
set_option maxHeartbeats 4000000 in
set_option maxRecDepth 100000 in
theorem c_X12_drop {l : Launch} {D : va_G} {cA : Nat → ClassId} {f : HF} {sz : Nat} {q : Nat → Nat} {A : MA} {B : MB} {t : Int32} (hm : mo cA q A B f) : Met l yX12_drop wsX12_drop ({ frames := 2, cells := 0, slots := 0, locals := 42 } : Room) (va_Pc [.ref (q 0), .int t] (hB D cA f sz)) (va_Ql (fun r f1 => (op_drop A B t).1 = r ∧ mo cA q (op_drop A B t).2.1 (op_drop A B t).2.2 f1) (hE D f sz) (hA f sz)) 0 0 (hA f sz) := by
  refine h_of (cc := cX12_drop) (maxL := 2) (ret := (some .long)) (by decide +kernel) rfl (Nat.le_of_ble_eq_true rfl) ?_
  intro p e s m below meth c ls C hr hlk hnm hw hl
  have hx := C.1.1
  have hb := C.1.2.1
  have hl : lv_has ls 2 [(0, .ref (q 0)), (1, .int t)] := hl
  have lk0 : Cond.fieldLink RX12 29 "FallingLightModel" "sights" "[I" ∈ wsX12_drop := by decide +kernel
  have lk1 : ∀ w ∈ u_ws RX12 TX12 27, w ∈ wsX12_drop := by decide +kernel
  have lk2 : Cond.constantLong RX12 106 (lF 2) ∈ wsX12_drop := by decide +kernel
  have lk3 : Cond.constantLong RX12 91 (lF 1) ∈ wsX12_drop := by decide +kernel
  refine lv_iload_n hx hb dX12_drop_0 rfl (lv_at hl 1 rfl) ?_
  refine h_calli hw (h_runS (n := 1) (As := [.int t]) (rest := []) C hw c_X12_isMeteor gX12_drop_X12_isMeteor rfl rfl rfl (by decide +kernel) ⟨by decide, by decide⟩ rfl hl.1 rfl (Nat.le_of_ble_eq_true rfl) dX12_drop_1 ⟨by first | decide | omega, by first | decide | omega⟩) (fun r1 f2 H locs hp hw => ?_)
  obtain ⟨rfl, rfl⟩ := hp
  refine n_ifneB C (tgt := 15) dX12_drop_4 (by decide) (fun c3 => ?_) (fun c3 => ?_)
  · obtain ⟨i, hi, rfl⟩ := inN (by decide) c3
    refine lv_aload_n hx hb dX12_drop_15 rfl (lv_at hl 0 rfl) ?_
    refine m_fld C hw hm lk1 8 (by decide) lk0 (v := .ref (q 8)) rfl dX12_drop_16 ?_
    refine lv_iload_n hx hb dX12_drop_19 rfl (lv_at hl 1 rfl) ?_
    refine m_iald C hw hm 8 rfl (v := A 8 i) rfl (show i < 6 from (by omega)) dX12_drop_20 ?_
    refine lv_if_ne (tgt := 32) hx hb dX12_drop_21 (by decide) (fun c4 => ?_) (fun c4 => ?_)
    · refine lv_aload_n hx hb dX12_drop_32 rfl (lv_at hl 0 rfl) ?_
      refine m_fld C hw hm lk1 8 (by decide) lk0 (v := .ref (q 8)) rfl dX12_drop_33 ?_
      refine lv_iload_n hx hb dX12_drop_36 rfl (lv_at hl 1 rfl) ?_
      refine lv_dup2_11 hx hb dX12_drop_37 rfl rfl ?_
      refine m_iald C hw hm 8 rfl (v := A 8 i) rfl (show i < 6 from (by omega)) dX12_drop_38 ?_
      refine lv_iconst (v := nI 1) hx hb dX12_drop_39 (by decide) ?_
      refine lv_isub hx hb dX12_drop_40 ?_
      refine m_iast C hw hm 8 rfl (show i < 6 from (by omega)) dX12_drop_41 (fun A5 f6 H locs eA5 hw hm => ?_)
      refine lv_aload_n hx hb dX12_drop_42 rfl (lv_at hl 0 rfl) ?_
      refine m_fld C hw hm lk1 8 (by decide) lk0 (v := .ref (q 8)) rfl dX12_drop_43 ?_
      refine lv_iload_n hx hb dX12_drop_46 rfl (lv_at hl 1 rfl) ?_
      refine m_iald C hw hm 8 rfl (v := A5 8 i) rfl (show i < 6 from (by omega)) dX12_drop_47 ?_
      refine lv_i2l hx hb dX12_drop_48 rfl ?_
      exact h_lret C hr hlk hw (op_fin (by subst eA5; simp only [op_drop, if_pos c3, if_neg c4, nI_clamp (show i < 2 ^ 31 by omega), va_up_self, pk_us]; try rfl) hm) dX12_drop_49
    · refine lv_aload_n hx hb dX12_drop_24 rfl (lv_at hl 0 rfl) ?_
      refine lv_ldc2 hx hb C.1.2.2.2.1 (C.1.2.2.2.2 _ lk2) dX12_drop_25 ?_
      refine h_calll hw (h_runV (n := 1) (As := [.long (lF 2)]) (rest := []) C hw (c_X12_finding hm (by omega)) gX12_drop_X12_finding rfl rfl rfl (by decide +kernel) ⟨by decide, by decide⟩ bX12 hm.1 rfl hl.1 rfl (Nat.le_of_ble_eq_true rfl) dX12_drop_28 ⟨by first | decide | omega, by first | decide | omega⟩) (fun r7 f8 H locs hp hw => ?_)
      obtain ⟨rfl, B9, eB9, hm⟩ := hp
      exact h_lret C hr hlk hw (op_fin (by subst eB9; simp only [op_drop, if_pos c3, if_pos c4, nI_clamp (show i < 2 ^ 31 by omega)]; try rfl) hm) dX12_drop_31
  · refine lv_aload_n hx hb dX12_drop_7 rfl (lv_at hl 0 rfl) ?_
    refine lv_ldc2 hx hb C.1.2.2.2.1 (C.1.2.2.2.2 _ lk3) dX12_drop_8 ?_
    refine h_calll hw (h_runV (n := 1) (As := [.long (lF 1)]) (rest := []) C hw (c_X12_finding hm (by omega)) gX12_drop_X12_finding rfl rfl rfl (by decide +kernel) ⟨by decide, by decide⟩ bX12 hm.1 rfl hl.1 rfl (Nat.le_of_ble_eq_true rfl) dX12_drop_11 ⟨by first | decide | omega, by first | decide | omega⟩) (fun r10 f11 H locs hp hw => ?_)
    obtain ⟨rfl, B12, eB12, hm⟩ := hp
    exact h_lret C hr hlk hw (op_fin (by subst eB12; simp only [op_drop, if_neg c3]; try rfl) hm) dX12_drop_14
set_option maxHeartbeats 4000000 in
set_option maxRecDepth 100000 in
theorem c_X12_isSight {l : Launch} {D : va_G} {cA : Nat → ClassId} {f : HF} {sz : Nat} {q : Nat → Nat} {A : MA} {B : MB} {t k : Int32} (hm : mo cA q A B f) : Met l yX12_isSight wsX12_isSight ({ frames := 2, cells := 0, slots := 0, locals := 42 } : Room) (va_Pc [.ref (q 0), .int t, .int k] (hB D cA f sz)) (va_Qi (fun r f1 => bI (sgA A t k) = r ∧ f = f1) (hE D f sz) (hA f sz)) 0 0 (hA f sz) := by
  refine h_of (cc := cX12_isSight) (maxL := 3) (ret := (some .boolean)) (by decide +kernel) rfl (Nat.le_of_ble_eq_true rfl) ?_
  intro p e s m below meth c ls C hr hlk hnm hw hl
  have hx := C.1.1
  have hb := C.1.2.1
  have hl : lv_has ls 3 [(0, .ref (q 0)), (1, .int t), (2, .int k)] := hl
  have lk0 : Cond.fieldLink RX12 29 "FallingLightModel" "sights" "[I" ∈ wsX12_isSight := by decide +kernel
  have lk1 : ∀ w ∈ u_ws RX12 TX12 27, w ∈ wsX12_isSight := by decide +kernel
  refine lv_iload_n hx hb dX12_isSight_0 rfl (lv_at hl 1 rfl) ?_
  refine h_calli hw (h_runS (n := 1) (As := [.int t]) (rest := []) C hw c_X12_isMeteor gX12_isSight_X12_isMeteor rfl rfl rfl (by decide +kernel) ⟨by decide, by decide⟩ rfl hl.1 rfl (Nat.le_of_ble_eq_true rfl) dX12_isSight_1 ⟨by first | decide | omega, by first | decide | omega⟩) (fun r1 f2 H locs hp hw => ?_)
  obtain ⟨rfl, rfl⟩ := hp
  refine n_ifeqB C (tgt := 27) dX12_isSight_4 (by decide) (fun c3 => ?_) (fun c3 => ?_)
  · refine lv_iconst (v := nI 0) hx hb dX12_isSight_27 (by decide) ?_
    exact h_zret C hr (by first | rfl | decide) hlk hw (⟨bI_f (by simp only [sgA]; grind), rfl⟩) dX12_isSight_28
  · obtain ⟨i, hi, rfl⟩ := inN (v := t) (by decide) c3
    refine lv_iload_n hx hb dX12_isSight_7 rfl (lv_at hl 2 rfl) ?_
    refine lv_iconst (v := nI 0) hx hb dX12_isSight_8 (by decide) ?_
    refine lv_aload_n hx hb dX12_isSight_9 rfl (lv_at hl 0 rfl) ?_
    refine m_fld C hw hm lk1 8 (by decide) lk0 (v := .ref (q 8)) rfl dX12_isSight_10 ?_
    refine lv_iload_n hx hb dX12_isSight_13 rfl (lv_at hl 1 rfl) ?_
    refine m_iald C hw hm 8 rfl (v := A 8 (nI i).toNatClampNeg) (by rw [nI_clamp (by omega)]) (show i < 6 from (by omega)) dX12_isSight_14 ?_
    refine lv_iconst (v := nI 1) hx hb dX12_isSight_15 (by decide) ?_
    refine lv_isub hx hb dX12_isSight_16 ?_
    refine h_calli hw (h_runS (n := 3) (As := [.int k, .int (nI 0), .int ((A 8 (nI i).toNatClampNeg) - (nI 1))]) (rest := []) C hw c_X12_in gX12_isSight_X12_in rfl rfl rfl (by decide +kernel) ⟨by decide, by decide⟩ rfl hl.1 rfl (Nat.le_of_ble_eq_true rfl) dX12_isSight_17 ⟨by first | decide | omega, by first | decide | omega⟩) (fun r4 f5 H locs hp hw => ?_)
    obtain ⟨rfl, rfl⟩ := hp
    refine n_ifeqB C (tgt := 27) dX12_isSight_20 (by decide) (fun c6 => ?_) (fun c6 => ?_)
    · refine lv_iconst (v := nI 0) hx hb dX12_isSight_27 (by decide) ?_
      exact h_zret C hr (by first | rfl | decide) hlk hw (⟨bI_f (by simp only [sgA]; grind), rfl⟩) dX12_isSight_28
    · refine lv_iconst (v := nI 1) hx hb dX12_isSight_23 (by decide) ?_
      refine lv_goto (tgt := 28) hx hb dX12_isSight_24 (by decide) ?_
      exact h_zret C hr (by first | rfl | decide) hlk hw (⟨bI_t (by simp only [sgA]; grind), rfl⟩) dX12_isSight_28
set_option maxHeartbeats 4000000 in
set_option maxRecDepth 100000 in
theorem c_X12_areTwo {l : Launch} {D : va_G} {cA : Nat → ClassId} {f : HF} {sz : Nat} {q : Nat → Nat} {A : MA} {B : MB} {t k j : Int32} (hm : mo cA q A B f) : Met l yX12_areTwo wsX12_areTwo ({ frames := 3, cells := 0, slots := 0, locals := 64 } : Room) (va_Pc [.ref (q 0), .int t, .int k, .int j] (hB D cA f sz)) (va_Qi (fun r f1 => bI (sgA A t k ∧ sgA A t j ∧ ¬ k = j) = r ∧ f = f1) (hE D f sz) (hA f sz)) 0 0 (hA f sz) := by
  refine h_of (cc := cX12_areTwo) (maxL := 4) (ret := (some .boolean)) (by decide +kernel) rfl (Nat.le_of_ble_eq_true rfl) ?_
  intro p e s m below meth c ls C hr hlk hnm hw hl
  have hx := C.1.1
  have hb := C.1.2.1
  have hl : lv_has ls 4 [(0, .ref (q 0)), (1, .int t), (2, .int k), (3, .int j)] := hl
  refine lv_aload_n hx hb dX12_areTwo_0 rfl (lv_at hl 0 rfl) ?_
  refine lv_iload_n hx hb dX12_areTwo_1 rfl (lv_at hl 1 rfl) ?_
  refine lv_iload_n hx hb dX12_areTwo_2 rfl (lv_at hl 2 rfl) ?_
  refine h_calli hw (h_runV (n := 2) (As := [.int t, .int k]) (rest := []) C hw (c_X12_isSight hm) gX12_areTwo_X12_isSight rfl rfl rfl (by decide +kernel) ⟨by decide, by decide⟩ bX12 hm.1 rfl hl.1 rfl (Nat.le_of_ble_eq_true rfl) dX12_areTwo_3 ⟨by first | decide | omega, by first | decide | omega⟩) (fun r1 f2 H locs hp hw => ?_)
  obtain ⟨rfl, rfl⟩ := hp
  refine n_ifeqB C (tgt := 27) dX12_areTwo_6 (by decide) (fun c3 => ?_) (fun c3 => ?_)
  · refine lv_iconst (v := nI 0) hx hb dX12_areTwo_27 (by decide) ?_
    exact h_zret C hr (by first | rfl | decide) hlk hw (⟨bI_f (by grind), rfl⟩) dX12_areTwo_28
  · refine lv_aload_n hx hb dX12_areTwo_9 rfl (lv_at hl 0 rfl) ?_
    refine lv_iload_n hx hb dX12_areTwo_10 rfl (lv_at hl 1 rfl) ?_
    refine lv_iload_n hx hb dX12_areTwo_11 rfl (lv_at hl 3 rfl) ?_
    refine h_calli hw (h_runV (n := 2) (As := [.int t, .int j]) (rest := []) C hw (c_X12_isSight hm) gX12_areTwo_X12_isSight rfl rfl rfl (by decide +kernel) ⟨by decide, by decide⟩ bX12 hm.1 rfl hl.1 rfl (Nat.le_of_ble_eq_true rfl) dX12_areTwo_12 ⟨by first | decide | omega, by first | decide | omega⟩) (fun r4 f5 H locs hp hw => ?_)
    obtain ⟨rfl, rfl⟩ := hp
    refine n_ifeqB C (tgt := 27) dX12_areTwo_15 (by decide) (fun c6 => ?_) (fun c6 => ?_)
    · refine lv_iconst (v := nI 0) hx hb dX12_areTwo_27 (by decide) ?_
      exact h_zret C hr (by first | rfl | decide) hlk hw (⟨bI_f (by grind), rfl⟩) dX12_areTwo_28
    · refine lv_iload_n hx hb dX12_areTwo_18 rfl (lv_at hl 2 rfl) ?_
      refine lv_iload_n hx hb dX12_areTwo_19 rfl (lv_at hl 3 rfl) ?_
      refine lv_icmp_eq (tgt := 27) hx hb dX12_areTwo_20 (by decide) (fun c7 => ?_) (fun c7 => ?_)
      · refine lv_iconst (v := nI 0) hx hb dX12_areTwo_27 (by decide) ?_
        exact h_zret C hr (by first | rfl | decide) hlk hw (⟨bI_f (by grind), rfl⟩) dX12_areTwo_28
      · refine lv_iconst (v := nI 1) hx hb dX12_areTwo_23 (by decide) ?_
        refine lv_goto (tgt := 28) hx hb dX12_areTwo_24 (by decide) ?_
        exact h_zret C hr (by first | rfl | decide) hlk hw (⟨bI_t (by grind), rfl⟩) dX12_areTwo_28
