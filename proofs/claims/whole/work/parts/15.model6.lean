/-! ===== the reference, sixth methods (laid by program) ===== -/
def ct (A : MA) (i : Nat) : Nat := (A 8 i).toNatClampNeg
theorem ctN {A : MA} (hsg : ∀ j, j < 6 → ∃ c, c ≤ 4 ∧ A 8 j = nI c) {i : Nat} (hi : i < 6) : A 8 i = nI (ct A i) ∧ ct A i ≤ 4 := by
  obtain ⟨c, hc, h⟩ := hsg i hi
  have h2 : ct A i = c := by unfold ct; rw [h, nI_clamp (by omega)]
  rw [h2]
  exact ⟨h, hc⟩
def dtA (A : MA) (t u v : Nat) : Int64 := plA A t 0 * faA A u v 0 + plA A t 1 * faA A u v 1 + plA A t 2 * faA A u v 2
def ofB (A : MA) (i c u v : Nat) : Bool := (List.range c).all (fun k => decide (dtA A (4 * i + k) u v = 0)) && (fpA A i c).isSome
theorem of_0 {A : MA} {i c u v k : Nat} (h : ofB A i c u v = true) (hk : k < c) : dtA A (4 * i + k) u v = 0 := by
  unfold ofB at h
  simp only [Bool.and_eq_true, List.all_eq_true, decide_eq_true_eq] at h
  exact h.1 k (List.mem_range.mpr hk)
theorem of_n {A : MA} {i c u v : Nat} (h : fpA A i c = none) : ¬ ofB A i c u v = true := by unfold ofB; rw [h]; simp
theorem of_t {A : MA} {i c u v j : Nat} (h : ∀ k, k < c → dtA A (4 * i + k) u v = 0) (h2 : fpA A i c = some j) : ofB A i c u v = true := by
  unfold ofB
  rw [h2]
  simp only [Bool.and_eq_true, List.all_eq_true, decide_eq_true_eq]
  exact ⟨fun k hk => h k (List.mem_range.mp hk), rfl⟩
def shK (A : MA) (u v : Nat) : Nat → Int64
  | 0 => 0
  | k + 1 => shK A u v k ||| (if ofB A k (ct A k) u v = true then 1 <<< ((nI k).toInt64 &&& 63) else 0)
def fq (A : MA) (i : Nat) : Nat := 4 * i + (fpA A i (ct A i)).getD 0
theorem fq_s {A : MA} {i k : Nat} (h : fpA A i (ct A i) = some k) : fq A i = 4 * i + k := by unfold fq; rw [h]; rfl
def op_radiant (A : MA) (B : MB) (a b w : Int32) : OR := if rg (nI 0) (nI 5) a then (if rg (nI 0) (nI 5) b then (if a.toNatClampNeg = b.toNatClampNeg then (lF 1, A, fnd B 1) else (if rg (nI 0) (nI 2) w then (if hrB A a.toNatClampNeg (ct A a.toNatClampNeg) b.toNatClampNeg (ct A b.toNatClampNeg) = true then (faA A (fq A a.toNatClampNeg) (fq A b.toNatClampNeg) w.toNatClampNeg, A, B) else (lF 2, A, fnd B 2)) else (lF 1, A, fnd B 1))) else (lF 1, A, fnd B 1)) else (lF 1, A, fnd B 1)
def op_shower (A : MA) (B : MB) (a b : Int32) : OR := if rg (nI 0) (nI 5) a then (if rg (nI 0) (nI 5) b then (if a.toNatClampNeg = b.toNatClampNeg then (lF 1, A, fnd B 1) else (if hrB A a.toNatClampNeg (ct A a.toNatClampNeg) b.toNatClampNeg (ct A b.toNatClampNeg) = true then (shK A (fq A a.toNatClampNeg) (fq A b.toNatClampNeg) 6, A, B) else (lF 2, A, fnd B 2))) else (lF 1, A, fnd B 1)) else (lF 1, A, fnd B 1)
abbrev wok (A : MA) (k : Nat) : Prop := (¬ A 14 k = 0 ∨ ¬ A 14 (k + 1) = 0 ∨ ¬ A 14 (k + 2) = 0) ∧ rg (-9) (nI 9) (A 14 k) ∧ rg (-9) (nI 9) (A 14 (k + 1)) ∧ rg (-9) (nI 9) (A 14 (k + 2))
abbrev awA (A : MA) (n : Nat) : Prop := ∀ w, w < n → wok A (3 * w)
def wyS (A : MA) (p n : Nat) : MA := va_up A 11 (fun j => if 9 * p ≤ j ∧ j < 9 * p + n then A 14 (j - 9 * p) else A 11 j)
theorem wyS_0 (A : MA) (p : Nat) : A = wyS A p 0 := by
  funext k j
  unfold wyS
  by_cases h : k = 11
  · subst h
    rw [va_up_self, if_neg (by omega)]
  · rw [va_up_ne _ _ h]
theorem wyS_s (A : MA) (p i : Nat) : va_up (wyS A p i) 11 (upd (wyS A p i 11) (9 * p + i) (wyS A p i 14 i)) = wyS A p (i + 1) := by
  funext k j
  unfold wyS
  by_cases h : k = 11
  · subst h
    rw [va_up_self, va_up_self, va_up_self, va_up_ne _ _ (by decide)]
    by_cases h2 : j = 9 * p + i
    · subst h2
      rw [pk_us, if_pos (by omega), Nat.add_sub_cancel_left]
    · rw [pk_un h2]
      by_cases h3 : 9 * p ≤ j ∧ j < 9 * p + i
      · rw [if_pos h3, if_pos (by omega)]
      · rw [if_neg h3, if_neg (by omega)]
  · rw [va_up_ne _ _ h, va_up_ne _ _ h, va_up_ne _ _ h]
def sgS (A : MA) (p n i c : Nat) (k u : Int32) : MA := stP (wyS (stP (stP A 9 p k) 10 p u) p n) 8 i (nI (c + 1))
def sg3 (A : MA) (B : MB) (n n3 i c : Nat) (k u : Int32) : OR := if awA A n3 then (if c = 4 then (lF 4, A, fnd B 4) else (lN c, sgS A (4 * i + c) n i c k u, B)) else (lF 1, A, fnd B 1)
def op_sight (A : MA) (B : MB) (tn : Nat) (t k u : Int32) : OR := if rg (nI 0) (nI 5) t then (if rg (nI 0) (nI 2) k then (if rg (nI 0) (nI 3) u then (if k = nI 1 then (if tn = 9 then sg3 (stS A 13 (nI 0)) B 9 3 t.toNatClampNeg (ct A t.toNatClampNeg) k u else (lF 5, stS A 13 (nI 0), fnd B 5)) else (if tn = 6 then sg3 (stS A 13 (nI 0)) B 6 2 t.toNatClampNeg (ct A t.toNatClampNeg) k u else (lF 5, stS A 13 (nI 0), fnd B 5))) else (lF 1, A, fnd B 1)) else (lF 1, A, fnd B 1)) else (lF 1, A, fnd B 1)
set_option maxHeartbeats 4000000 in
set_option maxRecDepth 100000 in
theorem c_X12_isOf {l : Launch} {D : va_G} {cA : Nat → ClassId} {f : HF} {sz : Nat} {q : Nat → Nat} {A : MA} {B : MB} {i c9 u v : Nat} (hm : mo cA q A B f) (hi : i < 6) (hA8 : A 8 i = nI c9) (hc9 : c9 ≤ 4) (hu : u < 24) (hv : v < 24) : Met l yX12_isOf wsX12_isOf ({ frames := 4, cells := 0, slots := 0, locals := 90 } : Room) (va_Pc [.ref (q 0), .int (nI i), .int (nI u), .int (nI v)] (hB D cA f sz)) (va_Qi (fun r f1 => bI (ofB A i c9 u v = true) = r ∧ f = f1) (hE D f sz) (hA f sz)) 0 0 (hA f sz) := by
  refine h_of (cc := cX12_isOf) (maxL := 8) (ret := (some .boolean)) (by decide +kernel) rfl (Nat.le_of_ble_eq_true rfl) ?_
  intro p e s m below meth c ls C hr hlk hnm hw hl
  have hx := C.1.1
  have hb := C.1.2.1
  have hl : lv_has ls 8 [(0, .ref (q 0)), (1, .int (nI i)), (2, .int (nI u)), (3, .int (nI v))] := hl
  have lk0 : Cond.fieldLink RX12 29 "FallingLightModel" "sights" "[I" ∈ wsX12_isOf := by decide +kernel
  have lk1 : ∀ w ∈ u_ws RX12 TX12 27, w ∈ wsX12_isOf := by decide +kernel
  refine lv_iconst (v := nI 0) hx hb dX12_isOf_0 (by decide) ?_
  refine lv_istore (lv' := [(4, _), (0, _), (1, _), (2, _), (3, _)]) hx hb dX12_isOf_1 hl (by decide) rfl (fun ls hl => ?_)
  have lp3 : ∀ (n : Nat) (k : Nat) (H1 : Heap) (locs1 : List Loc) (ls1 : Array Slot), hW D (hA f sz) s.heap f H1 locs1 → mo cA q A B f → lv_has ls1 8 [(0, .ref (q 0)), (1, .int (nI i)), (2, .int (nI u)), (3, .int (nI v)), (4, .int (nI k))] → (k ≤ c9) → (∀ j, j < k → dtA A (4 * i + j) u v = 0) → c9 - k < n → W p l e ({ frames := 4, cells := 0, slots := 0, locals := 90 } : Room) s m ([.ref (q 0), .int (nI i), .int (nI u), .int (nI v)]).toArray below meth c H1 locs1 0 0 (MQ below (va_Qi (fun r f1 => bI (ofB A i c9 u v = true) = r ∧ f = f1) (hE D f sz) (hA f sz)) ([.ref (q 0), .int (nI i), .int (nI u), .int (nI v)]).toArray s 0 0 (hA f sz)) (F0 m 3 ls1 []) := by
    intro n
    induction n with
    | zero => intros; omega
    | succ n ih3 =>
      intro k H locs ls hw hm hl hk hall hmu
      refine lv_iload hx hb dX12_isOf_3 (lv_at hl 4 rfl) ?_
      refine lv_aload_n hx hb dX12_isOf_5 rfl (lv_at hl 0 rfl) ?_
      refine m_fld C hw hm lk1 8 (by decide) lk0 (v := .ref (q 8)) rfl dX12_isOf_6 ?_
      refine lv_iload_n hx hb dX12_isOf_9 rfl (lv_at hl 1 rfl) ?_
      refine m_iald C hw hm 8 rfl (v := nI c9) hA8 (show i < 6 from (by omega)) dX12_isOf_10 ?_
      refine n_cge C (by omega) (by omega) (tgt := 86) dX12_isOf_11 (by decide) (fun c1 => ?_) (fun c1 => ?_)
      · refine lv_aload_n hx hb dX12_isOf_86 rfl (lv_at hl 0 rfl) ?_
        refine lv_iload_n hx hb dX12_isOf_87 rfl (lv_at hl 1 rfl) ?_
        refine h_calli hw (h_runV (n := 1) (As := [.int (nI i)]) (rest := []) C hw (c_X12_firstPlane hm hi hA8 hc9) gX12_isOf_X12_firstPlane rfl rfl rfl (by decide +kernel) ⟨by decide, by decide⟩ bX12 hm.1 rfl hl.1 rfl (Nat.le_of_ble_eq_true rfl) dX12_isOf_88 ⟨by first | decide | omega, by first | decide | omega⟩) (fun r2 f3 H locs hp hw => ?_)
        obtain ⟨rfl, rfl⟩ := hp
        refine lv_if_lt (tgt := 98) hx hb dX12_isOf_91 (by decide) (fun c4 => ?_) (fun c4 => ?_)
        · have hn := fpI_lt hi hc9 c4
          refine lv_iconst (v := nI 0) hx hb dX12_isOf_98 (by decide) ?_
          exact h_zret C hr (by first | rfl | decide) hlk hw (⟨bI_f (of_n hn), rfl⟩) dX12_isOf_99
        · obtain ⟨ki, hki, hfi, hFi⟩ := fpI_nn c4
          refine lv_iconst (v := nI 1) hx hb dX12_isOf_94 (by decide) ?_
          refine lv_goto (tgt := 99) hx hb dX12_isOf_95 (by decide) ?_
          exact h_zret C hr (by first | rfl | decide) hlk hw (⟨bI_t (of_t (fun j hj => hall j (by omega)) hfi), rfl⟩) dX12_isOf_99
      · refine lv_iconst (v := nI 4) hx hb dX12_isOf_14 (by decide) ?_
        refine lv_iload_n hx hb dX12_isOf_15 rfl (lv_at hl 1 rfl) ?_
        refine n_imul C dX12_isOf_16 ?_
        refine lv_iload hx hb dX12_isOf_17 (lv_at hl 4 rfl) ?_
        refine n_iadd C dX12_isOf_19 ?_
        refine lv_istore (lv' := [(5, _), (0, _), (1, _), (2, _), (3, _), (4, _)]) hx hb dX12_isOf_20 hl (by decide) rfl (fun ls hl => ?_)
        refine lv_aload_n hx hb dX12_isOf_22 rfl (lv_at hl 1 rfl) ?_
        refine lv_iload hx hb dX12_isOf_23 (lv_at hl 0 rfl) ?_
        refine lv_iconst (v := nI 0) hx hb dX12_isOf_25 (by decide) ?_
        refine h_calll hw (h_runV (n := 2) (As := [.int (nI (4 * i + k)), .int (nI 0)]) (rest := []) C hw (c_X12_plane hm (by omega) (by omega)) gX12_isOf_X12_plane rfl rfl rfl (by decide +kernel) ⟨by decide, by decide⟩ bX12 hm.1 rfl hl.1 rfl (Nat.le_of_ble_eq_true rfl) dX12_isOf_26 ⟨by first | decide | omega, by first | decide | omega⟩) (fun r5 f6 H locs hp hw => ?_)
        obtain ⟨rfl, rfl⟩ := hp
        refine lv_aload_n hx hb dX12_isOf_29 rfl (lv_at hl 1 rfl) ?_
        refine lv_iload_n hx hb dX12_isOf_30 rfl (lv_at hl 3 rfl) ?_
        refine lv_iload_n hx hb dX12_isOf_31 rfl (lv_at hl 4 rfl) ?_
        refine lv_iconst (v := nI 0) hx hb dX12_isOf_32 (by decide) ?_
        refine h_calll hw (h_runV (n := 3) (As := [.int (nI u), .int (nI v), .int (nI 0)]) (rest := [.long (plA A (4 * i + k) 0)]) C hw (c_X12_fallOf hm (by omega) (by omega) (by omega)) gX12_isOf_X12_fallOf rfl rfl rfl (by decide +kernel) ⟨by decide, by decide⟩ bX12 hm.1 rfl hl.1 rfl (Nat.le_of_ble_eq_true rfl) dX12_isOf_33 ⟨by first | decide | omega, by first | decide | omega⟩) (fun r7 f8 H locs hp hw => ?_)
        obtain ⟨rfl, rfl⟩ := hp
        refine lv_lmul hx hb dX12_isOf_36 ?_
        refine lv_aload_n hx hb dX12_isOf_37 rfl (lv_at hl 1 rfl) ?_
        refine lv_iload hx hb dX12_isOf_38 (lv_at hl 0 rfl) ?_
        refine lv_iconst (v := nI 1) hx hb dX12_isOf_40 (by decide) ?_
        refine h_calll hw (h_runV (n := 2) (As := [.int (nI (4 * i + k)), .int (nI 1)]) (rest := [.long ((plA A (4 * i + k) 0) * (faA A u v 0))]) C hw (c_X12_plane hm (by omega) (by omega)) gX12_isOf_X12_plane rfl rfl rfl (by decide +kernel) ⟨by decide, by decide⟩ bX12 hm.1 rfl hl.1 rfl (Nat.le_of_ble_eq_true rfl) dX12_isOf_41 ⟨by first | decide | omega, by first | decide | omega⟩) (fun r9 f10 H locs hp hw => ?_)
        obtain ⟨rfl, rfl⟩ := hp
        refine lv_aload_n hx hb dX12_isOf_44 rfl (lv_at hl 1 rfl) ?_
        refine lv_iload_n hx hb dX12_isOf_45 rfl (lv_at hl 3 rfl) ?_
        refine lv_iload_n hx hb dX12_isOf_46 rfl (lv_at hl 4 rfl) ?_
        refine lv_iconst (v := nI 1) hx hb dX12_isOf_47 (by decide) ?_
        refine h_calll hw (h_runV (n := 3) (As := [.int (nI u), .int (nI v), .int (nI 1)]) (rest := [.long (plA A (4 * i + k) 1), .long ((plA A (4 * i + k) 0) * (faA A u v 0))]) C hw (c_X12_fallOf hm (by omega) (by omega) (by omega)) gX12_isOf_X12_fallOf rfl rfl rfl (by decide +kernel) ⟨by decide, by decide⟩ bX12 hm.1 rfl hl.1 rfl (Nat.le_of_ble_eq_true rfl) dX12_isOf_48 ⟨by first | decide | omega, by first | decide | omega⟩) (fun r11 f12 H locs hp hw => ?_)
        obtain ⟨rfl, rfl⟩ := hp
        refine lv_lmul hx hb dX12_isOf_51 ?_
        refine lv_ladd hx hb dX12_isOf_52 ?_
        refine lv_aload_n hx hb dX12_isOf_53 rfl (lv_at hl 1 rfl) ?_
        refine lv_iload hx hb dX12_isOf_54 (lv_at hl 0 rfl) ?_
        refine lv_iconst (v := nI 2) hx hb dX12_isOf_56 (by decide) ?_
        refine h_calll hw (h_runV (n := 2) (As := [.int (nI (4 * i + k)), .int (nI 2)]) (rest := [.long (((plA A (4 * i + k) 0) * (faA A u v 0)) + ((plA A (4 * i + k) 1) * (faA A u v 1)))]) C hw (c_X12_plane hm (by omega) (by omega)) gX12_isOf_X12_plane rfl rfl rfl (by decide +kernel) ⟨by decide, by decide⟩ bX12 hm.1 rfl hl.1 rfl (Nat.le_of_ble_eq_true rfl) dX12_isOf_57 ⟨by first | decide | omega, by first | decide | omega⟩) (fun r13 f14 H locs hp hw => ?_)
        obtain ⟨rfl, rfl⟩ := hp
        refine lv_aload_n hx hb dX12_isOf_60 rfl (lv_at hl 1 rfl) ?_
        refine lv_iload_n hx hb dX12_isOf_61 rfl (lv_at hl 3 rfl) ?_
        refine lv_iload_n hx hb dX12_isOf_62 rfl (lv_at hl 4 rfl) ?_
        refine lv_iconst (v := nI 2) hx hb dX12_isOf_63 (by decide) ?_
        refine h_calll hw (h_runV (n := 3) (As := [.int (nI u), .int (nI v), .int (nI 2)]) (rest := [.long (plA A (4 * i + k) 2), .long (((plA A (4 * i + k) 0) * (faA A u v 0)) + ((plA A (4 * i + k) 1) * (faA A u v 1)))]) C hw (c_X12_fallOf hm (by omega) (by omega) (by omega)) gX12_isOf_X12_fallOf rfl rfl rfl (by decide +kernel) ⟨by decide, by decide⟩ bX12 hm.1 rfl hl.1 rfl (Nat.le_of_ble_eq_true rfl) dX12_isOf_64 ⟨by first | decide | omega, by first | decide | omega⟩) (fun r15 f16 H locs hp hw => ?_)
        obtain ⟨rfl, rfl⟩ := hp
        refine lv_lmul hx hb dX12_isOf_67 ?_
        refine lv_ladd hx hb dX12_isOf_68 ?_
        refine lv_lstore (lv' := [(6, _), (5, _), (0, _), (1, _), (2, _), (3, _), (4, _)]) hx hb dX12_isOf_69 hl (by decide) rfl (fun ls hl => ?_)
        refine lv_lload hx hb dX12_isOf_71 (lv_at hl 0 rfl) ?_
        refine lv_lconst (v := 0) hx hb dX12_isOf_73 (by decide) ?_
        refine W.lcmp hx hb dX12_isOf_74 ?_
        refine l_ifeq C (tgt := 80) dX12_isOf_75 (by decide) (fun c17 => ?_) (fun c17 => ?_)
        · refine n_iinc C (lv' := [(4, _), (6, _), (5, _), (0, _), (1, _), (2, _), (3, _)]) dX12_isOf_80 hl (k := 6) rfl (by decide) rfl (fun ls hl => ?_)
          refine lv_goto (tgt := 3) hx hb dX12_isOf_83 (by decide) ?_
          exact ih3 _ _ _ _ hw hm (lv_sub hl [3, 4, 5, 6, 0] rfl) (by omega) (fun j hj => (Nat.lt_succ_iff_lt_or_eq.mp hj).elim (hall j) (fun e => by rw [e]; exact c17)) (by omega)
        · refine lv_iconst (v := nI 0) hx hb dX12_isOf_78 (by decide) ?_
          exact h_zret C hr (by first | rfl | decide) hlk hw (⟨bI_f (fun h => c17 (of_0 h (k := k) (by omega))), rfl⟩) dX12_isOf_79
  exact lp3 _ _ _ _ _ hw hm (lv_sub hl [1, 2, 3, 4, 0] rfl) (by omega) (fun j hj => absurd hj (by omega)) (Nat.lt_succ_self _)
set_option maxHeartbeats 4000000 in
set_option maxRecDepth 100000 in
theorem c_X12_radiant {l : Launch} {D : va_G} {cA : Nat → ClassId} {f : HF} {sz : Nat} {q : Nat → Nat} {A : MA} {B : MB} {a b w : Int32} (hm : mo cA q A B f) (hsg : ∀ j, j < 6 → ∃ c, c ≤ 4 ∧ A 8 j = nI c) : Met l yX12_radiant wsX12_radiant ({ frames := 5, cells := 0, slots := 0, locals := 116 } : Room) (va_Pc [.ref (q 0), .int a, .int b, .int w] (hB D cA f sz)) (va_Ql (fun r f1 => (op_radiant A B a b w).1 = r ∧ mo cA q (op_radiant A B a b w).2.1 (op_radiant A B a b w).2.2 f1) (hE D f sz) (hA f sz)) 0 0 (hA f sz) := by
  refine h_of (cc := cX12_radiant) (maxL := 4) (ret := (some .long)) (by decide +kernel) rfl (Nat.le_of_ble_eq_true rfl) ?_
  intro p e s m below meth c ls C hr hlk hnm hw hl
  have hx := C.1.1
  have hb := C.1.2.1
  have hl : lv_has ls 4 [(0, .ref (q 0)), (1, .int a), (2, .int b), (3, .int w)] := hl
  have lk0 : Cond.constantLong RX12 91 (lF 1) ∈ wsX12_radiant := by decide +kernel
  have lk1 : Cond.constantLong RX12 106 (lF 2) ∈ wsX12_radiant := by decide +kernel
  refine lv_iload_n hx hb dX12_radiant_0 rfl (lv_at hl 1 rfl) ?_
  refine h_calli hw (h_runS (n := 1) (As := [.int a]) (rest := []) C hw c_X12_isMeteor gX12_radiant_X12_isMeteor rfl rfl rfl (by decide +kernel) ⟨by decide, by decide⟩ rfl hl.1 rfl (Nat.le_of_ble_eq_true rfl) dX12_radiant_1 ⟨by first | decide | omega, by first | decide | omega⟩) (fun r1 f2 H locs hp hw => ?_)
  obtain ⟨rfl, rfl⟩ := hp
  refine n_ifeqB C (tgt := 28) dX12_radiant_4 (by decide) (fun c3 => ?_) (fun c3 => ?_)
  · refine lv_aload_n hx hb dX12_radiant_28 rfl (lv_at hl 0 rfl) ?_
    refine lv_ldc2 hx hb C.1.2.2.2.1 (C.1.2.2.2.2 _ lk0) dX12_radiant_29 ?_
    refine h_calll hw (h_runV (n := 1) (As := [.long (lF 1)]) (rest := []) C hw (c_X12_finding hm (by omega)) gX12_radiant_X12_finding rfl rfl rfl (by decide +kernel) ⟨by decide, by decide⟩ bX12 hm.1 rfl hl.1 rfl (Nat.le_of_ble_eq_true rfl) dX12_radiant_32 ⟨by first | decide | omega, by first | decide | omega⟩) (fun r4 f5 H locs hp hw => ?_)
    obtain ⟨rfl, B6, eB6, hm⟩ := hp
    exact h_lret C hr hlk hw (op_fin (by subst eB6; simp only [op_radiant, if_neg c3]; try rfl) hm) dX12_radiant_35
  · obtain ⟨i, hi, rfl⟩ := inN (by decide) c3
    refine lv_iload_n hx hb dX12_radiant_7 rfl (lv_at hl 2 rfl) ?_
    refine h_calli hw (h_runS (n := 1) (As := [.int b]) (rest := []) C hw c_X12_isMeteor gX12_radiant_X12_isMeteor rfl rfl rfl (by decide +kernel) ⟨by decide, by decide⟩ rfl hl.1 rfl (Nat.le_of_ble_eq_true rfl) dX12_radiant_8 ⟨by first | decide | omega, by first | decide | omega⟩) (fun r7 f8 H locs hp hw => ?_)
    obtain ⟨rfl, rfl⟩ := hp
    refine n_ifeqB C (tgt := 28) dX12_radiant_11 (by decide) (fun c9 => ?_) (fun c9 => ?_)
    · refine lv_aload_n hx hb dX12_radiant_28 rfl (lv_at hl 0 rfl) ?_
      refine lv_ldc2 hx hb C.1.2.2.2.1 (C.1.2.2.2.2 _ lk0) dX12_radiant_29 ?_
      refine h_calll hw (h_runV (n := 1) (As := [.long (lF 1)]) (rest := []) C hw (c_X12_finding hm (by omega)) gX12_radiant_X12_finding rfl rfl rfl (by decide +kernel) ⟨by decide, by decide⟩ bX12 hm.1 rfl hl.1 rfl (Nat.le_of_ble_eq_true rfl) dX12_radiant_32 ⟨by first | decide | omega, by first | decide | omega⟩) (fun r10 f11 H locs hp hw => ?_)
      obtain ⟨rfl, B12, eB12, hm⟩ := hp
      exact h_lret C hr hlk hw (op_fin (by subst eB12; simp only [op_radiant, if_pos c3, if_neg c9, nI_clamp (show i < 2 ^ 31 by omega)]; try rfl) hm) dX12_radiant_35
    · obtain ⟨j, hj, rfl⟩ := inN (by decide) c9
      refine lv_iload_n hx hb dX12_radiant_14 rfl (lv_at hl 1 rfl) ?_
      refine lv_iload_n hx hb dX12_radiant_15 rfl (lv_at hl 2 rfl) ?_
      refine n_ceq C (by omega) (by omega) (tgt := 28) dX12_radiant_16 (by decide) (fun c13 => ?_) (fun c13 => ?_)
      · refine lv_aload_n hx hb dX12_radiant_28 rfl (lv_at hl 0 rfl) ?_
        refine lv_ldc2 hx hb C.1.2.2.2.1 (C.1.2.2.2.2 _ lk0) dX12_radiant_29 ?_
        refine h_calll hw (h_runV (n := 1) (As := [.long (lF 1)]) (rest := []) C hw (c_X12_finding hm (by omega)) gX12_radiant_X12_finding rfl rfl rfl (by decide +kernel) ⟨by decide, by decide⟩ bX12 hm.1 rfl hl.1 rfl (Nat.le_of_ble_eq_true rfl) dX12_radiant_32 ⟨by first | decide | omega, by first | decide | omega⟩) (fun r14 f15 H locs hp hw => ?_)
        obtain ⟨rfl, B16, eB16, hm⟩ := hp
        exact h_lret C hr hlk hw (op_fin (by subst eB16; simp only [op_radiant, if_pos c3, if_pos c9, if_pos c13, nI_clamp (show i < 2 ^ 31 by omega), nI_clamp (show j < 2 ^ 31 by omega)]; try rfl) hm) dX12_radiant_35
      · refine lv_iload_n hx hb dX12_radiant_19 rfl (lv_at hl 3 rfl) ?_
        refine lv_iconst (v := nI 0) hx hb dX12_radiant_20 (by decide) ?_
        refine lv_iconst (v := nI 2) hx hb dX12_radiant_21 (by decide) ?_
        refine h_calli hw (h_runS (n := 3) (As := [.int w, .int (nI 0), .int (nI 2)]) (rest := []) C hw c_X12_in gX12_radiant_X12_in rfl rfl rfl (by decide +kernel) ⟨by decide, by decide⟩ rfl hl.1 rfl (Nat.le_of_ble_eq_true rfl) dX12_radiant_22 ⟨by first | decide | omega, by first | decide | omega⟩) (fun r17 f18 H locs hp hw => ?_)
        obtain ⟨rfl, rfl⟩ := hp
        refine n_ifneB C (tgt := 36) dX12_radiant_25 (by decide) (fun c19 => ?_) (fun c19 => ?_)
        · obtain ⟨u, hu, rfl⟩ := inN (by decide) c19
          refine lv_aload_n hx hb dX12_radiant_36 rfl (lv_at hl 0 rfl) ?_
          refine lv_iload_n hx hb dX12_radiant_37 rfl (lv_at hl 1 rfl) ?_
          refine lv_iload_n hx hb dX12_radiant_38 rfl (lv_at hl 2 rfl) ?_
          refine h_calli hw (h_runV (n := 2) (As := [.int (nI i), .int (nI j)]) (rest := []) C hw (c_X12_hasRadiant hm (show i < 6 by omega) (show j < 6 by omega) (ctN hsg (show i < 6 by omega)).1 (ctN hsg (show i < 6 by omega)).2 (ctN hsg (show j < 6 by omega)).1 (ctN hsg (show j < 6 by omega)).2) gX12_radiant_X12_hasRadiant rfl rfl rfl (by decide +kernel) ⟨by decide, by decide⟩ bX12 hm.1 rfl hl.1 rfl (Nat.le_of_ble_eq_true rfl) dX12_radiant_39 ⟨by first | decide | omega, by first | decide | omega⟩) (fun r20 f21 H locs hp hw => ?_)
          obtain ⟨rfl, rfl⟩ := hp
          refine n_ifeqB C (tgt := 63) dX12_radiant_42 (by decide) (fun c22 => ?_) (fun c22 => ?_)
          · refine lv_aload_n hx hb dX12_radiant_63 rfl (lv_at hl 0 rfl) ?_
            refine lv_ldc2 hx hb C.1.2.2.2.1 (C.1.2.2.2.2 _ lk1) dX12_radiant_64 ?_
            refine h_calll hw (h_runV (n := 1) (As := [.long (lF 2)]) (rest := []) C hw (c_X12_finding hm (by omega)) gX12_radiant_X12_finding rfl rfl rfl (by decide +kernel) ⟨by decide, by decide⟩ bX12 hm.1 rfl hl.1 rfl (Nat.le_of_ble_eq_true rfl) dX12_radiant_67 ⟨by first | decide | omega, by first | decide | omega⟩) (fun r23 f24 H locs hp hw => ?_)
            obtain ⟨rfl, B25, eB25, hm⟩ := hp
            exact h_lret C hr hlk hw (op_fin (by subst eB25; simp only [op_radiant, if_pos c3, if_pos c9, if_neg c13, if_pos c19, if_neg c22, nI_clamp (show i < 2 ^ 31 by omega), nI_clamp (show j < 2 ^ 31 by omega), nI_clamp (show u < 2 ^ 31 by omega)]; try rfl) hm) dX12_radiant_70
          · obtain ⟨ki, kj, hfi, hfj⟩ := hr_x c22
            have hki := fp_lt hfi
            have hkj := fp_lt hfj
            have hci := (ctN hsg (show i < 6 by omega)).2
            have hcj := (ctN hsg (show j < 6 by omega)).2
            refine lv_aload_n hx hb dX12_radiant_45 rfl (lv_at hl 0 rfl) ?_
            refine lv_aload_n hx hb dX12_radiant_46 rfl (lv_at hl 0 rfl) ?_
            refine lv_iload_n hx hb dX12_radiant_47 rfl (lv_at hl 1 rfl) ?_
            refine h_calli hw (h_runV (n := 1) (As := [.int (nI i)]) (rest := [.ref (q 0)]) C hw (c_X12_firstPlane hm (show i < 6 by omega) (ctN hsg (show i < 6 by omega)).1 (ctN hsg (show i < 6 by omega)).2) gX12_radiant_X12_firstPlane rfl rfl rfl (by decide +kernel) ⟨by decide, by decide⟩ bX12 hm.1 rfl hl.1 rfl (Nat.le_of_ble_eq_true rfl) dX12_radiant_48 ⟨by first | decide | omega, by first | decide | omega⟩) (fun r26 f27 H locs hp hw => ?_)
            obtain ⟨rfl, rfl⟩ := hp
            refine W.eq (g2 := F0 m 51 ls [.int (nI (4 * i + ki)), _]) (by rw [fpI_s hfi]) ?_
            refine lv_aload_n hx hb dX12_radiant_51 rfl (lv_at hl 0 rfl) ?_
            refine lv_iload_n hx hb dX12_radiant_52 rfl (lv_at hl 2 rfl) ?_
            refine h_calli hw (h_runV (n := 1) (As := [.int (nI j)]) (rest := [.int (nI (4 * i + ki)), .ref (q 0)]) C hw (c_X12_firstPlane hm (show j < 6 by omega) (ctN hsg (show j < 6 by omega)).1 (ctN hsg (show j < 6 by omega)).2) gX12_radiant_X12_firstPlane rfl rfl rfl (by decide +kernel) ⟨by decide, by decide⟩ bX12 hm.1 rfl hl.1 rfl (Nat.le_of_ble_eq_true rfl) dX12_radiant_53 ⟨by first | decide | omega, by first | decide | omega⟩) (fun r28 f29 H locs hp hw => ?_)
            obtain ⟨rfl, rfl⟩ := hp
            refine W.eq (g2 := F0 m 56 ls [.int (nI (4 * j + kj)), _, _]) (by rw [fpI_s hfj]) ?_
            refine lv_iload_n hx hb dX12_radiant_56 rfl (lv_at hl 3 rfl) ?_
            refine h_calll hw (h_runV (n := 3) (As := [.int (nI (4 * i + ki)), .int (nI (4 * j + kj)), .int (nI u)]) (rest := []) C hw (c_X12_fallOf hm (by omega) (by omega) (by omega)) gX12_radiant_X12_fallOf rfl rfl rfl (by decide +kernel) ⟨by decide, by decide⟩ bX12 hm.1 rfl hl.1 rfl (Nat.le_of_ble_eq_true rfl) dX12_radiant_57 ⟨by first | decide | omega, by first | decide | omega⟩) (fun r30 f31 H locs hp hw => ?_)
            obtain ⟨rfl, rfl⟩ := hp
            refine lv_goto (tgt := 70) hx hb dX12_radiant_60 (by decide) ?_
            exact h_lret C hr hlk hw (op_fin (by simp only [op_radiant, if_pos c3, if_pos c9, if_neg c13, if_pos c19, if_pos c22, nI_clamp (show i < 2 ^ 31 by omega), nI_clamp (show j < 2 ^ 31 by omega), nI_clamp (show u < 2 ^ 31 by omega), fq_s hfi, fq_s hfj]; try rfl) hm) dX12_radiant_70
        · refine lv_aload_n hx hb dX12_radiant_28 rfl (lv_at hl 0 rfl) ?_
          refine lv_ldc2 hx hb C.1.2.2.2.1 (C.1.2.2.2.2 _ lk0) dX12_radiant_29 ?_
          refine h_calll hw (h_runV (n := 1) (As := [.long (lF 1)]) (rest := []) C hw (c_X12_finding hm (by omega)) gX12_radiant_X12_finding rfl rfl rfl (by decide +kernel) ⟨by decide, by decide⟩ bX12 hm.1 rfl hl.1 rfl (Nat.le_of_ble_eq_true rfl) dX12_radiant_32 ⟨by first | decide | omega, by first | decide | omega⟩) (fun r32 f33 H locs hp hw => ?_)
          obtain ⟨rfl, B34, eB34, hm⟩ := hp
          exact h_lret C hr hlk hw (op_fin (by subst eB34; simp only [op_radiant, if_pos c3, if_pos c9, if_neg c13, if_neg c19, nI_clamp (show i < 2 ^ 31 by omega), nI_clamp (show j < 2 ^ 31 by omega)]; try rfl) hm) dX12_radiant_35
set_option maxHeartbeats 4000000 in
set_option maxRecDepth 100000 in
theorem c_X12_shower {l : Launch} {D : va_G} {cA : Nat → ClassId} {f : HF} {sz : Nat} {q : Nat → Nat} {A : MA} {B : MB} {a b : Int32} (hm : mo cA q A B f) (hsg : ∀ j, j < 6 → ∃ c, c ≤ 4 ∧ A 8 j = nI c) : Met l yX12_shower wsX12_shower ({ frames := 5, cells := 0, slots := 0, locals := 117 } : Room) (va_Pc [.ref (q 0), .int a, .int b] (hB D cA f sz)) (va_Ql (fun r f1 => (op_shower A B a b).1 = r ∧ mo cA q (op_shower A B a b).2.1 (op_shower A B a b).2.2 f1) (hE D f sz) (hA f sz)) 0 0 (hA f sz) := by
  refine h_of (cc := cX12_shower) (maxL := 6) (ret := (some .long)) (by decide +kernel) rfl (Nat.le_of_ble_eq_true rfl) ?_
  intro p e s m below meth c ls C hr hlk hnm hw hl
  have hx := C.1.1
  have hb := C.1.2.1
  have hl : lv_has ls 6 [(0, .ref (q 0)), (1, .int a), (2, .int b)] := hl
  have lk0 : Cond.constantLong RX12 91 (lF 1) ∈ wsX12_shower := by decide +kernel
  have lk1 : Cond.constantLong RX12 106 (lF 2) ∈ wsX12_shower := by decide +kernel
  refine lv_iload_n hx hb dX12_shower_0 rfl (lv_at hl 1 rfl) ?_
  refine h_calli hw (h_runS (n := 1) (As := [.int a]) (rest := []) C hw c_X12_isMeteor gX12_shower_X12_isMeteor rfl rfl rfl (by decide +kernel) ⟨by decide, by decide⟩ rfl hl.1 rfl (Nat.le_of_ble_eq_true rfl) dX12_shower_1 ⟨by first | decide | omega, by first | decide | omega⟩) (fun r1 f2 H locs hp hw => ?_)
  obtain ⟨rfl, rfl⟩ := hp
  refine n_ifeqB C (tgt := 19) dX12_shower_4 (by decide) (fun c3 => ?_) (fun c3 => ?_)
  · refine lv_aload_n hx hb dX12_shower_19 rfl (lv_at hl 0 rfl) ?_
    refine lv_ldc2 hx hb C.1.2.2.2.1 (C.1.2.2.2.2 _ lk0) dX12_shower_20 ?_
    refine h_calll hw (h_runV (n := 1) (As := [.long (lF 1)]) (rest := []) C hw (c_X12_finding hm (by omega)) gX12_shower_X12_finding rfl rfl rfl (by decide +kernel) ⟨by decide, by decide⟩ bX12 hm.1 rfl hl.1 rfl (Nat.le_of_ble_eq_true rfl) dX12_shower_23 ⟨by first | decide | omega, by first | decide | omega⟩) (fun r4 f5 H locs hp hw => ?_)
    obtain ⟨rfl, B6, eB6, hm⟩ := hp
    exact h_lret C hr hlk hw (op_fin (by subst eB6; simp only [op_shower, if_neg c3]; try rfl) hm) dX12_shower_26
  · obtain ⟨i, hi, rfl⟩ := inN (by decide) c3
    refine lv_iload_n hx hb dX12_shower_7 rfl (lv_at hl 2 rfl) ?_
    refine h_calli hw (h_runS (n := 1) (As := [.int b]) (rest := []) C hw c_X12_isMeteor gX12_shower_X12_isMeteor rfl rfl rfl (by decide +kernel) ⟨by decide, by decide⟩ rfl hl.1 rfl (Nat.le_of_ble_eq_true rfl) dX12_shower_8 ⟨by first | decide | omega, by first | decide | omega⟩) (fun r7 f8 H locs hp hw => ?_)
    obtain ⟨rfl, rfl⟩ := hp
    refine n_ifeqB C (tgt := 19) dX12_shower_11 (by decide) (fun c9 => ?_) (fun c9 => ?_)
    · refine lv_aload_n hx hb dX12_shower_19 rfl (lv_at hl 0 rfl) ?_
      refine lv_ldc2 hx hb C.1.2.2.2.1 (C.1.2.2.2.2 _ lk0) dX12_shower_20 ?_
      refine h_calll hw (h_runV (n := 1) (As := [.long (lF 1)]) (rest := []) C hw (c_X12_finding hm (by omega)) gX12_shower_X12_finding rfl rfl rfl (by decide +kernel) ⟨by decide, by decide⟩ bX12 hm.1 rfl hl.1 rfl (Nat.le_of_ble_eq_true rfl) dX12_shower_23 ⟨by first | decide | omega, by first | decide | omega⟩) (fun r10 f11 H locs hp hw => ?_)
      obtain ⟨rfl, B12, eB12, hm⟩ := hp
      exact h_lret C hr hlk hw (op_fin (by subst eB12; simp only [op_shower, if_pos c3, if_neg c9, nI_clamp (show i < 2 ^ 31 by omega)]; try rfl) hm) dX12_shower_26
    · obtain ⟨j, hj, rfl⟩ := inN (by decide) c9
      refine lv_iload_n hx hb dX12_shower_14 rfl (lv_at hl 1 rfl) ?_
      refine lv_iload_n hx hb dX12_shower_15 rfl (lv_at hl 2 rfl) ?_
      refine n_cne C (by omega) (by omega) (tgt := 27) dX12_shower_16 (by decide) (fun c13 => ?_) (fun c13 => ?_)
      · refine lv_aload_n hx hb dX12_shower_27 rfl (lv_at hl 0 rfl) ?_
        refine lv_iload_n hx hb dX12_shower_28 rfl (lv_at hl 1 rfl) ?_
        refine lv_iload_n hx hb dX12_shower_29 rfl (lv_at hl 2 rfl) ?_
        refine h_calli hw (h_runV (n := 2) (As := [.int (nI i), .int (nI j)]) (rest := []) C hw (c_X12_hasRadiant hm (show i < 6 by omega) (show j < 6 by omega) (ctN hsg (show i < 6 by omega)).1 (ctN hsg (show i < 6 by omega)).2 (ctN hsg (show j < 6 by omega)).1 (ctN hsg (show j < 6 by omega)).2) gX12_shower_X12_hasRadiant rfl rfl rfl (by decide +kernel) ⟨by decide, by decide⟩ bX12 hm.1 rfl hl.1 rfl (Nat.le_of_ble_eq_true rfl) dX12_shower_30 ⟨by first | decide | omega, by first | decide | omega⟩) (fun r14 f15 H locs hp hw => ?_)
        obtain ⟨rfl, rfl⟩ := hp
        refine n_ifneB C (tgt := 44) dX12_shower_33 (by decide) (fun c16 => ?_) (fun c16 => ?_)
        · obtain ⟨ki, kj, hfi, hfj⟩ := hr_x c16
          have hki := fp_lt hfi
          have hkj := fp_lt hfj
          have hci := (ctN hsg (show i < 6 by omega)).2
          have hcj := (ctN hsg (show j < 6 by omega)).2
          refine lv_lconst (v := 0) hx hb dX12_shower_44 (by decide) ?_
          refine lv_lstore_n (lv' := [(3, _), (0, _), (1, _), (2, _)]) hx hb dX12_shower_45 rfl hl (by decide) rfl (fun ls hl => ?_)
          refine lv_iconst (v := nI 0) hx hb dX12_shower_46 (by decide) ?_
          refine lv_istore (lv' := [(5, _), (3, _), (0, _), (1, _), (2, _)]) hx hb dX12_shower_47 hl (by decide) rfl (fun ls hl => ?_)
          have lp49 : ∀ (n : Nat) (k : Nat) (H1 : Heap) (locs1 : List Loc) (ls1 : Array Slot), hW D (hA f sz) s.heap f H1 locs1 → mo cA q A B f → lv_has ls1 6 [(0, .ref (q 0)), (1, .int (nI i)), (2, .int (nI j)), (3, .long (shK A (4 * i + ki) (4 * j + kj) k)), (5, .int (nI k))] → (k ≤ 6) → 6 - k < n → W p l e ({ frames := 5, cells := 0, slots := 0, locals := 117 } : Room) s m ([.ref (q 0), .int (nI i), .int (nI j)]).toArray below meth c H1 locs1 0 0 (MQ below (va_Ql (fun r f1 => (op_shower A B (nI i) (nI j)).1 = r ∧ mo cA q (op_shower A B (nI i) (nI j)).2.1 (op_shower A B (nI i) (nI j)).2.2 f1) (hE D f sz) (hA f sz)) ([.ref (q 0), .int (nI i), .int (nI j)]).toArray s 0 0 (hA f sz)) (F0 m 49 ls1 []) := by
            intro n
            induction n with
            | zero => intros; omega
            | succ n ih49 =>
              intro k H locs ls hw hm hl hk hmu
              refine lv_iload hx hb dX12_shower_49 (lv_at hl 4 rfl) ?_
              refine lv_bipush (v := nI 6) hx hb dX12_shower_51 (by decide) ?_
              refine n_cge C (by omega) (by omega) (tgt := 92) dX12_shower_53 (by decide) (fun c17 => ?_) (fun c17 => ?_)
              · obtain rfl : k = 6 := by omega
                refine lv_lload_n hx hb dX12_shower_92 rfl (lv_at hl 3 rfl) ?_
                exact h_lret C hr hlk hw (op_fin (by simp only [op_shower, if_pos c3, if_pos c9, if_neg c13, if_pos c16, nI_clamp (show i < 2 ^ 31 by omega), nI_clamp (show j < 2 ^ 31 by omega), fq_s hfi, fq_s hfj]; try rfl) hm) dX12_shower_93
              · refine lv_lload_n hx hb dX12_shower_56 rfl (lv_at hl 3 rfl) ?_
                refine lv_aload_n hx hb dX12_shower_57 rfl (lv_at hl 0 rfl) ?_
                refine lv_iload hx hb dX12_shower_58 (lv_at hl 4 rfl) ?_
                refine lv_aload_n hx hb dX12_shower_60 rfl (lv_at hl 0 rfl) ?_
                refine lv_iload_n hx hb dX12_shower_61 rfl (lv_at hl 1 rfl) ?_
                refine h_calli hw (h_runV (n := 1) (As := [.int (nI i)]) (rest := [.int (nI k), .ref (q 0), .long (shK A (4 * i + ki) (4 * j + kj) k)]) C hw (c_X12_firstPlane hm (show i < 6 by omega) (ctN hsg (show i < 6 by omega)).1 (ctN hsg (show i < 6 by omega)).2) gX12_shower_X12_firstPlane rfl rfl rfl (by decide +kernel) ⟨by decide, by decide⟩ bX12 hm.1 rfl hl.1 rfl (Nat.le_of_ble_eq_true rfl) dX12_shower_62 ⟨by first | decide | omega, by first | decide | omega⟩) (fun r18 f19 H locs hp hw => ?_)
                obtain ⟨rfl, rfl⟩ := hp
                refine W.eq (g2 := F0 m 65 ls [.int (nI (4 * i + ki)), _, _, _]) (by rw [fpI_s hfi]) ?_
                refine lv_aload_n hx hb dX12_shower_65 rfl (lv_at hl 0 rfl) ?_
                refine lv_iload_n hx hb dX12_shower_66 rfl (lv_at hl 2 rfl) ?_
                refine h_calli hw (h_runV (n := 1) (As := [.int (nI j)]) (rest := [.int (nI (4 * i + ki)), .int (nI k), .ref (q 0), .long (shK A (4 * i + ki) (4 * j + kj) k)]) C hw (c_X12_firstPlane hm (show j < 6 by omega) (ctN hsg (show j < 6 by omega)).1 (ctN hsg (show j < 6 by omega)).2) gX12_shower_X12_firstPlane rfl rfl rfl (by decide +kernel) ⟨by decide, by decide⟩ bX12 hm.1 rfl hl.1 rfl (Nat.le_of_ble_eq_true rfl) dX12_shower_67 ⟨by first | decide | omega, by first | decide | omega⟩) (fun r20 f21 H locs hp hw => ?_)
                obtain ⟨rfl, rfl⟩ := hp
                refine W.eq (g2 := F0 m 70 ls [.int (nI (4 * j + kj)), _, _, _, _]) (by rw [fpI_s hfj]) ?_
                refine h_calli hw (h_runV (n := 3) (As := [.int (nI k), .int (nI (4 * i + ki)), .int (nI (4 * j + kj))]) (rest := [.long (shK A (4 * i + ki) (4 * j + kj) k)]) C hw (c_X12_isOf hm (show k < 6 by omega) (ctN hsg (show k < 6 by omega)).1 (ctN hsg (show k < 6 by omega)).2 (by omega) (by omega)) gX12_shower_X12_isOf rfl rfl rfl (by decide +kernel) ⟨by decide, by decide⟩ bX12 hm.1 rfl hl.1 rfl (Nat.le_of_ble_eq_true rfl) dX12_shower_70 ⟨by first | decide | omega, by first | decide | omega⟩) (fun r22 f23 H locs hp hw => ?_)
                obtain ⟨rfl, rfl⟩ := hp
                refine n_ifeqB C (tgt := 83) dX12_shower_73 (by decide) (fun c24 => ?_) (fun c24 => ?_)
                · refine lv_lconst (v := 0) hx hb dX12_shower_83 (by decide) ?_
                  refine lv_lor hx hb dX12_shower_84 ?_
                  refine W.eq (g2 := F0 m 85 ls [.long (shK A (4 * i + ki) (4 * j + kj) (k + 1))]) (by rw [shK, if_neg c24]) ?_
                  refine lv_lstore_n (lv' := [(3, _), (0, _), (1, _), (2, _), (5, _)]) hx hb dX12_shower_85 rfl hl (by decide) rfl (fun ls hl => ?_)
                  refine n_iinc C (lv' := [(5, _), (3, _), (0, _), (1, _), (2, _)]) dX12_shower_86 hl (k := 4) rfl (by decide) rfl (fun ls hl => ?_)
                  refine lv_goto (tgt := 49) hx hb dX12_shower_89 (by decide) ?_
                  exact ih49 (k + 1) _ _ _ hw hm (lv_sub hl [2, 3, 4, 1, 0] rfl) (by omega) (by omega)
                · refine lv_lconst (v := 1) hx hb dX12_shower_76 (by decide) ?_
                  refine lv_iload hx hb dX12_shower_77 (lv_at hl 4 rfl) ?_
                  refine lv_lshl hx hb dX12_shower_79 rfl ?_
                  refine lv_goto (tgt := 84) hx hb dX12_shower_80 (by decide) ?_
                  refine lv_lor hx hb dX12_shower_84 ?_
                  refine W.eq (g2 := F0 m 85 ls [.long (shK A (4 * i + ki) (4 * j + kj) (k + 1))]) (by rw [shK, if_pos c24]) ?_
                  refine lv_lstore_n (lv' := [(3, _), (0, _), (1, _), (2, _), (5, _)]) hx hb dX12_shower_85 rfl hl (by decide) rfl (fun ls hl => ?_)
                  refine n_iinc C (lv' := [(5, _), (3, _), (0, _), (1, _), (2, _)]) dX12_shower_86 hl (k := 4) rfl (by decide) rfl (fun ls hl => ?_)
                  refine lv_goto (tgt := 49) hx hb dX12_shower_89 (by decide) ?_
                  exact ih49 (k + 1) _ _ _ hw hm (lv_sub hl [2, 3, 4, 1, 0] rfl) (by omega) (by omega)
          exact lp49 _ 0 _ _ _ hw hm (lv_sub hl [2, 3, 4, 1, 0] rfl) (by omega) (Nat.lt_succ_self _)
        · refine lv_aload_n hx hb dX12_shower_36 rfl (lv_at hl 0 rfl) ?_
          refine lv_ldc2 hx hb C.1.2.2.2.1 (C.1.2.2.2.2 _ lk1) dX12_shower_37 ?_
          refine h_calll hw (h_runV (n := 1) (As := [.long (lF 2)]) (rest := []) C hw (c_X12_finding hm (by omega)) gX12_shower_X12_finding rfl rfl rfl (by decide +kernel) ⟨by decide, by decide⟩ bX12 hm.1 rfl hl.1 rfl (Nat.le_of_ble_eq_true rfl) dX12_shower_40 ⟨by first | decide | omega, by first | decide | omega⟩) (fun r25 f26 H locs hp hw => ?_)
          obtain ⟨rfl, B27, eB27, hm⟩ := hp
          exact h_lret C hr hlk hw (op_fin (by subst eB27; simp only [op_shower, if_pos c3, if_pos c9, if_neg c13, if_neg c16, nI_clamp (show i < 2 ^ 31 by omega), nI_clamp (show j < 2 ^ 31 by omega)]; try rfl) hm) dX12_shower_43
      · refine lv_aload_n hx hb dX12_shower_19 rfl (lv_at hl 0 rfl) ?_
        refine lv_ldc2 hx hb C.1.2.2.2.1 (C.1.2.2.2.2 _ lk0) dX12_shower_20 ?_
        refine h_calll hw (h_runV (n := 1) (As := [.long (lF 1)]) (rest := []) C hw (c_X12_finding hm (by omega)) gX12_shower_X12_finding rfl rfl rfl (by decide +kernel) ⟨by decide, by decide⟩ bX12 hm.1 rfl hl.1 rfl (Nat.le_of_ble_eq_true rfl) dX12_shower_23 ⟨by first | decide | omega, by first | decide | omega⟩) (fun r28 f29 H locs hp hw => ?_)
        obtain ⟨rfl, B30, eB30, hm⟩ := hp
        exact h_lret C hr hlk hw (op_fin (by subst eB30; simp only [op_shower, if_pos c3, if_pos c9, if_pos c13, nI_clamp (show i < 2 ^ 31 by omega), nI_clamp (show j < 2 ^ 31 by omega)]; try rfl) hm) dX12_shower_26
set_option maxHeartbeats 4000000 in
set_option maxRecDepth 100000 in
theorem c_X12_areWays {l : Launch} {D : va_G} {cA : Nat → ClassId} {f : HF} {sz : Nat} {q : Nat → Nat} {A : MA} {B : MB} {n3 : Nat} (hm : mo cA q A B f) (hn3 : n3 ≤ 3) : Met l yX12_areWays wsX12_areWays ({ frames := 1, cells := 0, slots := 0, locals := 22 } : Room) (va_Pc [.ref (q 0), .int (nI (3 * n3))] (hB D cA f sz)) (va_Qi (fun r f1 => bI (awA A n3) = r ∧ f = f1) (hE D f sz) (hA f sz)) 0 0 (hA f sz) := by
  refine h_of (cc := cX12_areWays) (maxL := 4) (ret := (some .boolean)) (by decide +kernel) rfl (Nat.le_of_ble_eq_true rfl) ?_
  intro p e s m below meth c ls C hr hlk hnm hw hl
  have hx := C.1.1
  have hb := C.1.2.1
  have hl : lv_has ls 4 [(0, .ref (q 0)), (1, .int (nI (3 * n3)))] := hl
  have lk0 : Cond.fieldLink RX12 44 "FallingLightModel" "tape" "[I" ∈ wsX12_areWays := by decide +kernel
  have lk1 : ∀ w ∈ u_ws RX12 TX12 27, w ∈ wsX12_areWays := by decide +kernel
  refine lv_iconst (v := nI 0) hx hb dX12_areWays_0 (by decide) ?_
  refine lv_istore_n (lv' := [(2, _), (0, _), (1, _)]) hx hb dX12_areWays_1 rfl hl (by decide) rfl (fun ls hl => ?_)
  have lp2 : ∀ (n : Nat) (w : Nat) (H1 : Heap) (locs1 : List Loc) (ls1 : Array Slot), hW D (hA f sz) s.heap f H1 locs1 → mo cA q A B f → lv_has ls1 4 [(0, .ref (q 0)), (1, .int (nI (3 * n3))), (2, .int (nI (3 * w)))] → (w ≤ n3) → (∀ w9, w9 < w → wok A (3 * w9)) → n3 - w < n → W p l e ({ frames := 1, cells := 0, slots := 0, locals := 22 } : Room) s m ([.ref (q 0), .int (nI (3 * n3))]).toArray below meth c H1 locs1 0 0 (MQ below (va_Qi (fun r f1 => bI (awA A n3) = r ∧ f = f1) (hE D f sz) (hA f sz)) ([.ref (q 0), .int (nI (3 * n3))]).toArray s 0 0 (hA f sz)) (F0 m 2 ls1 []) := by
    intro n
    induction n with
    | zero => intros; omega
    | succ n ih2 =>
      intro w H locs ls hw hm hl hk hall hmu
      refine lv_iload_n hx hb dX12_areWays_2 rfl (lv_at hl 2 rfl) ?_
      refine lv_iload_n hx hb dX12_areWays_3 rfl (lv_at hl 1 rfl) ?_
      refine n_cge C (by omega) (by omega) (tgt := 108) dX12_areWays_4 (by decide) (fun c1 => ?_) (fun c1 => ?_)
      · refine lv_iconst (v := nI 1) hx hb dX12_areWays_108 (by decide) ?_
        exact h_zret C hr (by first | rfl | decide) hlk hw (⟨bI_t (fun w9 h9 => hall w9 (by omega)), rfl⟩) dX12_areWays_109
      · refine lv_aload_n hx hb dX12_areWays_7 rfl (lv_at hl 0 rfl) ?_
        refine m_fld C hw hm lk1 14 (by decide) lk0 (v := .ref (q 14)) rfl dX12_areWays_8 ?_
        refine lv_iload_n hx hb dX12_areWays_11 rfl (lv_at hl 2 rfl) ?_
        refine m_iald C hw hm 14 rfl (v := A 14 (3 * w)) rfl (show 3 * w < 9 from (by omega)) dX12_areWays_12 ?_
        refine lv_if_ne (tgt := 38) hx hb dX12_areWays_13 (by decide) (fun c2 => ?_) (fun c2 => ?_)
        · refine lv_iconst (v := nI 1) hx hb dX12_areWays_38 (by decide) ?_
          refine lv_goto (tgt := 43) hx hb dX12_areWays_39 (by decide) ?_
          refine lv_istore_n (lv' := [(3, _), (0, _), (1, _), (2, _)]) hx hb dX12_areWays_43 rfl hl (by decide) rfl (fun ls hl => ?_)
          refine lv_iload_n hx hb dX12_areWays_44 rfl (lv_at hl 0 rfl) ?_
          refine n_zeq C (by omega) (tgt := 100) dX12_areWays_45 (by decide) (fun c3 => ?_) (fun c3 => ?_)
          · exact absurd c3 (by decide)
          · refine lv_aload_n hx hb dX12_areWays_48 rfl (lv_at hl 1 rfl) ?_
            refine m_fld C hw hm lk1 14 (by decide) lk0 (v := .ref (q 14)) rfl dX12_areWays_49 ?_
            refine lv_iload_n hx hb dX12_areWays_52 rfl (lv_at hl 3 rfl) ?_
            refine m_iald C hw hm 14 rfl (v := A 14 (3 * w)) rfl (show 3 * w < 9 from (by omega)) dX12_areWays_53 ?_
            refine lv_bipush (v := (-9)) hx hb dX12_areWays_54 (by decide) ?_
            refine lv_bipush (v := nI 9) hx hb dX12_areWays_56 (by decide) ?_
            refine h_calli hw (h_runS (n := 3) (As := [.int (A 14 (3 * w)), .int (-9), .int (nI 9)]) (rest := []) C hw c_X12_in gX12_areWays_X12_in rfl rfl rfl (by decide +kernel) ⟨by decide, by decide⟩ rfl hl.1 rfl (Nat.le_of_ble_eq_true rfl) dX12_areWays_58 ⟨by first | decide | omega, by first | decide | omega⟩) (fun r4 f5 H locs hp hw => ?_)
            obtain ⟨rfl, rfl⟩ := hp
            refine n_ifeqB C (tgt := 100) dX12_areWays_61 (by decide) (fun c6 => ?_) (fun c6 => ?_)
            · refine lv_iconst (v := nI 0) hx hb dX12_areWays_100 (by decide) ?_
              exact h_zret C hr (by first | rfl | decide) hlk hw (⟨bI_f (fun h => c6 (h w (by omega)).2.1), rfl⟩) dX12_areWays_101
            · refine lv_aload_n hx hb dX12_areWays_64 rfl (lv_at hl 1 rfl) ?_
              refine m_fld C hw hm lk1 14 (by decide) lk0 (v := .ref (q 14)) rfl dX12_areWays_65 ?_
              refine lv_iload_n hx hb dX12_areWays_68 rfl (lv_at hl 3 rfl) ?_
              refine lv_iconst (v := nI 1) hx hb dX12_areWays_69 (by decide) ?_
              refine n_iadd C dX12_areWays_70 ?_
              refine m_iald C hw hm 14 rfl (v := A 14 (3 * w + 1)) rfl (show 3 * w + 1 < 9 from (by omega)) dX12_areWays_71 ?_
              refine lv_bipush (v := (-9)) hx hb dX12_areWays_72 (by decide) ?_
              refine lv_bipush (v := nI 9) hx hb dX12_areWays_74 (by decide) ?_
              refine h_calli hw (h_runS (n := 3) (As := [.int (A 14 (3 * w + 1)), .int (-9), .int (nI 9)]) (rest := []) C hw c_X12_in gX12_areWays_X12_in rfl rfl rfl (by decide +kernel) ⟨by decide, by decide⟩ rfl hl.1 rfl (Nat.le_of_ble_eq_true rfl) dX12_areWays_76 ⟨by first | decide | omega, by first | decide | omega⟩) (fun r7 f8 H locs hp hw => ?_)
              obtain ⟨rfl, rfl⟩ := hp
              refine n_ifeqB C (tgt := 100) dX12_areWays_79 (by decide) (fun c9 => ?_) (fun c9 => ?_)
              · refine lv_iconst (v := nI 0) hx hb dX12_areWays_100 (by decide) ?_
                exact h_zret C hr (by first | rfl | decide) hlk hw (⟨bI_f (fun h => c9 (h w (by omega)).2.2.1), rfl⟩) dX12_areWays_101
              · refine lv_aload_n hx hb dX12_areWays_82 rfl (lv_at hl 1 rfl) ?_
                refine m_fld C hw hm lk1 14 (by decide) lk0 (v := .ref (q 14)) rfl dX12_areWays_83 ?_
                refine lv_iload_n hx hb dX12_areWays_86 rfl (lv_at hl 3 rfl) ?_
                refine lv_iconst (v := nI 2) hx hb dX12_areWays_87 (by decide) ?_
                refine n_iadd C dX12_areWays_88 ?_
                refine m_iald C hw hm 14 rfl (v := A 14 (3 * w + 2)) rfl (show 3 * w + 2 < 9 from (by omega)) dX12_areWays_89 ?_
                refine lv_bipush (v := (-9)) hx hb dX12_areWays_90 (by decide) ?_
                refine lv_bipush (v := nI 9) hx hb dX12_areWays_92 (by decide) ?_
                refine h_calli hw (h_runS (n := 3) (As := [.int (A 14 (3 * w + 2)), .int (-9), .int (nI 9)]) (rest := []) C hw c_X12_in gX12_areWays_X12_in rfl rfl rfl (by decide +kernel) ⟨by decide, by decide⟩ rfl hl.1 rfl (Nat.le_of_ble_eq_true rfl) dX12_areWays_94 ⟨by first | decide | omega, by first | decide | omega⟩) (fun r10 f11 H locs hp hw => ?_)
                obtain ⟨rfl, rfl⟩ := hp
                refine n_ifneB C (tgt := 102) dX12_areWays_97 (by decide) (fun c12 => ?_) (fun c12 => ?_)
                · refine lv_iinc (v := nI (3 * w + 3)) (lv' := [(2, _), (3, _), (0, _), (1, _)]) hx hb dX12_areWays_102 hl (k := 3) rfl (by rw [← nI_add]; rfl) (by decide) rfl (fun ls hl => ?_)
                  refine lv_goto (tgt := 2) hx hb dX12_areWays_105 (by decide) ?_
                  exact ih2 (w + 1) _ _ _ hw hm (lv_sub hl [2, 3, 0] rfl) (by omega) (fun j hj => (Nat.lt_succ_iff_lt_or_eq.mp hj).elim (hall j) (fun e => by rw [e]; exact ⟨Or.inl c2, c6, c9, c12⟩)) (by omega)
                · refine lv_iconst (v := nI 0) hx hb dX12_areWays_100 (by decide) ?_
                  exact h_zret C hr (by first | rfl | decide) hlk hw (⟨bI_f (fun h => c12 (h w (by omega)).2.2.2), rfl⟩) dX12_areWays_101
        · refine lv_aload_n hx hb dX12_areWays_16 rfl (lv_at hl 0 rfl) ?_
          refine m_fld C hw hm lk1 14 (by decide) lk0 (v := .ref (q 14)) rfl dX12_areWays_17 ?_
          refine lv_iload_n hx hb dX12_areWays_20 rfl (lv_at hl 2 rfl) ?_
          refine lv_iconst (v := nI 1) hx hb dX12_areWays_21 (by decide) ?_
          refine n_iadd C dX12_areWays_22 ?_
          refine m_iald C hw hm 14 rfl (v := A 14 (3 * w + 1)) rfl (show 3 * w + 1 < 9 from (by omega)) dX12_areWays_23 ?_
          refine lv_if_ne (tgt := 38) hx hb dX12_areWays_24 (by decide) (fun c13 => ?_) (fun c13 => ?_)
          · refine lv_iconst (v := nI 1) hx hb dX12_areWays_38 (by decide) ?_
            refine lv_goto (tgt := 43) hx hb dX12_areWays_39 (by decide) ?_
            refine lv_istore_n (lv' := [(3, _), (0, _), (1, _), (2, _)]) hx hb dX12_areWays_43 rfl hl (by decide) rfl (fun ls hl => ?_)
            refine lv_iload_n hx hb dX12_areWays_44 rfl (lv_at hl 0 rfl) ?_
            refine n_zeq C (by omega) (tgt := 100) dX12_areWays_45 (by decide) (fun c14 => ?_) (fun c14 => ?_)
            · exact absurd c14 (by decide)
            · refine lv_aload_n hx hb dX12_areWays_48 rfl (lv_at hl 1 rfl) ?_
              refine m_fld C hw hm lk1 14 (by decide) lk0 (v := .ref (q 14)) rfl dX12_areWays_49 ?_
              refine lv_iload_n hx hb dX12_areWays_52 rfl (lv_at hl 3 rfl) ?_
              refine m_iald C hw hm 14 rfl (v := A 14 (3 * w)) rfl (show 3 * w < 9 from (by omega)) dX12_areWays_53 ?_
              refine lv_bipush (v := (-9)) hx hb dX12_areWays_54 (by decide) ?_
              refine lv_bipush (v := nI 9) hx hb dX12_areWays_56 (by decide) ?_
              refine h_calli hw (h_runS (n := 3) (As := [.int (A 14 (3 * w)), .int (-9), .int (nI 9)]) (rest := []) C hw c_X12_in gX12_areWays_X12_in rfl rfl rfl (by decide +kernel) ⟨by decide, by decide⟩ rfl hl.1 rfl (Nat.le_of_ble_eq_true rfl) dX12_areWays_58 ⟨by first | decide | omega, by first | decide | omega⟩) (fun r15 f16 H locs hp hw => ?_)
              obtain ⟨rfl, rfl⟩ := hp
              refine n_ifeqB C (tgt := 100) dX12_areWays_61 (by decide) (fun c17 => ?_) (fun c17 => ?_)
              · refine lv_iconst (v := nI 0) hx hb dX12_areWays_100 (by decide) ?_
                exact h_zret C hr (by first | rfl | decide) hlk hw (⟨bI_f (fun h => c17 (h w (by omega)).2.1), rfl⟩) dX12_areWays_101
              · refine lv_aload_n hx hb dX12_areWays_64 rfl (lv_at hl 1 rfl) ?_
                refine m_fld C hw hm lk1 14 (by decide) lk0 (v := .ref (q 14)) rfl dX12_areWays_65 ?_
                refine lv_iload_n hx hb dX12_areWays_68 rfl (lv_at hl 3 rfl) ?_
                refine lv_iconst (v := nI 1) hx hb dX12_areWays_69 (by decide) ?_
                refine n_iadd C dX12_areWays_70 ?_
                refine m_iald C hw hm 14 rfl (v := A 14 (3 * w + 1)) rfl (show 3 * w + 1 < 9 from (by omega)) dX12_areWays_71 ?_
                refine lv_bipush (v := (-9)) hx hb dX12_areWays_72 (by decide) ?_
                refine lv_bipush (v := nI 9) hx hb dX12_areWays_74 (by decide) ?_
                refine h_calli hw (h_runS (n := 3) (As := [.int (A 14 (3 * w + 1)), .int (-9), .int (nI 9)]) (rest := []) C hw c_X12_in gX12_areWays_X12_in rfl rfl rfl (by decide +kernel) ⟨by decide, by decide⟩ rfl hl.1 rfl (Nat.le_of_ble_eq_true rfl) dX12_areWays_76 ⟨by first | decide | omega, by first | decide | omega⟩) (fun r18 f19 H locs hp hw => ?_)
                obtain ⟨rfl, rfl⟩ := hp
                refine n_ifeqB C (tgt := 100) dX12_areWays_79 (by decide) (fun c20 => ?_) (fun c20 => ?_)
                · refine lv_iconst (v := nI 0) hx hb dX12_areWays_100 (by decide) ?_
                  exact h_zret C hr (by first | rfl | decide) hlk hw (⟨bI_f (fun h => c20 (h w (by omega)).2.2.1), rfl⟩) dX12_areWays_101
                · refine lv_aload_n hx hb dX12_areWays_82 rfl (lv_at hl 1 rfl) ?_
                  refine m_fld C hw hm lk1 14 (by decide) lk0 (v := .ref (q 14)) rfl dX12_areWays_83 ?_
                  refine lv_iload_n hx hb dX12_areWays_86 rfl (lv_at hl 3 rfl) ?_
                  refine lv_iconst (v := nI 2) hx hb dX12_areWays_87 (by decide) ?_
                  refine n_iadd C dX12_areWays_88 ?_
                  refine m_iald C hw hm 14 rfl (v := A 14 (3 * w + 2)) rfl (show 3 * w + 2 < 9 from (by omega)) dX12_areWays_89 ?_
                  refine lv_bipush (v := (-9)) hx hb dX12_areWays_90 (by decide) ?_
                  refine lv_bipush (v := nI 9) hx hb dX12_areWays_92 (by decide) ?_
                  refine h_calli hw (h_runS (n := 3) (As := [.int (A 14 (3 * w + 2)), .int (-9), .int (nI 9)]) (rest := []) C hw c_X12_in gX12_areWays_X12_in rfl rfl rfl (by decide +kernel) ⟨by decide, by decide⟩ rfl hl.1 rfl (Nat.le_of_ble_eq_true rfl) dX12_areWays_94 ⟨by first | decide | omega, by first | decide | omega⟩) (fun r21 f22 H locs hp hw => ?_)
                  obtain ⟨rfl, rfl⟩ := hp
                  refine n_ifneB C (tgt := 102) dX12_areWays_97 (by decide) (fun c23 => ?_) (fun c23 => ?_)
                  · refine lv_iinc (v := nI (3 * w + 3)) (lv' := [(2, _), (3, _), (0, _), (1, _)]) hx hb dX12_areWays_102 hl (k := 3) rfl (by rw [← nI_add]; rfl) (by decide) rfl (fun ls hl => ?_)
                    refine lv_goto (tgt := 2) hx hb dX12_areWays_105 (by decide) ?_
                    exact ih2 (w + 1) _ _ _ hw hm (lv_sub hl [2, 3, 0] rfl) (by omega) (fun j hj => (Nat.lt_succ_iff_lt_or_eq.mp hj).elim (hall j) (fun e => by rw [e]; exact ⟨Or.inr (Or.inl c13), c17, c20, c23⟩)) (by omega)
                  · refine lv_iconst (v := nI 0) hx hb dX12_areWays_100 (by decide) ?_
                    exact h_zret C hr (by first | rfl | decide) hlk hw (⟨bI_f (fun h => c23 (h w (by omega)).2.2.2), rfl⟩) dX12_areWays_101
          · refine lv_aload_n hx hb dX12_areWays_27 rfl (lv_at hl 0 rfl) ?_
            refine m_fld C hw hm lk1 14 (by decide) lk0 (v := .ref (q 14)) rfl dX12_areWays_28 ?_
            refine lv_iload_n hx hb dX12_areWays_31 rfl (lv_at hl 2 rfl) ?_
            refine lv_iconst (v := nI 2) hx hb dX12_areWays_32 (by decide) ?_
            refine n_iadd C dX12_areWays_33 ?_
            refine m_iald C hw hm 14 rfl (v := A 14 (3 * w + 2)) rfl (show 3 * w + 2 < 9 from (by omega)) dX12_areWays_34 ?_
            refine lv_if_eq (tgt := 42) hx hb dX12_areWays_35 (by decide) (fun c24 => ?_) (fun c24 => ?_)
            · refine lv_iconst (v := nI 0) hx hb dX12_areWays_42 (by decide) ?_
              refine lv_istore_n (lv' := [(3, _), (0, _), (1, _), (2, _)]) hx hb dX12_areWays_43 rfl hl (by decide) rfl (fun ls hl => ?_)
              refine lv_iload_n hx hb dX12_areWays_44 rfl (lv_at hl 0 rfl) ?_
              refine n_zeq C (by omega) (tgt := 100) dX12_areWays_45 (by decide) (fun c25 => ?_) (fun c25 => ?_)
              · refine lv_iconst (v := nI 0) hx hb dX12_areWays_100 (by decide) ?_
                exact h_zret C hr (by first | rfl | decide) hlk hw (⟨bI_f (fun h => (h w (by omega)).1.elim (fun z => z c2) (fun z => z.elim (fun z => z c13) (fun z => z c24))), rfl⟩) dX12_areWays_101
              · exact absurd rfl c25
            · refine lv_iconst (v := nI 1) hx hb dX12_areWays_38 (by decide) ?_
              refine lv_goto (tgt := 43) hx hb dX12_areWays_39 (by decide) ?_
              refine lv_istore_n (lv' := [(3, _), (0, _), (1, _), (2, _)]) hx hb dX12_areWays_43 rfl hl (by decide) rfl (fun ls hl => ?_)
              refine lv_iload_n hx hb dX12_areWays_44 rfl (lv_at hl 0 rfl) ?_
              refine n_zeq C (by omega) (tgt := 100) dX12_areWays_45 (by decide) (fun c26 => ?_) (fun c26 => ?_)
              · exact absurd c26 (by decide)
              · refine lv_aload_n hx hb dX12_areWays_48 rfl (lv_at hl 1 rfl) ?_
                refine m_fld C hw hm lk1 14 (by decide) lk0 (v := .ref (q 14)) rfl dX12_areWays_49 ?_
                refine lv_iload_n hx hb dX12_areWays_52 rfl (lv_at hl 3 rfl) ?_
                refine m_iald C hw hm 14 rfl (v := A 14 (3 * w)) rfl (show 3 * w < 9 from (by omega)) dX12_areWays_53 ?_
                refine lv_bipush (v := (-9)) hx hb dX12_areWays_54 (by decide) ?_
                refine lv_bipush (v := nI 9) hx hb dX12_areWays_56 (by decide) ?_
                refine h_calli hw (h_runS (n := 3) (As := [.int (A 14 (3 * w)), .int (-9), .int (nI 9)]) (rest := []) C hw c_X12_in gX12_areWays_X12_in rfl rfl rfl (by decide +kernel) ⟨by decide, by decide⟩ rfl hl.1 rfl (Nat.le_of_ble_eq_true rfl) dX12_areWays_58 ⟨by first | decide | omega, by first | decide | omega⟩) (fun r27 f28 H locs hp hw => ?_)
                obtain ⟨rfl, rfl⟩ := hp
                refine n_ifeqB C (tgt := 100) dX12_areWays_61 (by decide) (fun c29 => ?_) (fun c29 => ?_)
                · refine lv_iconst (v := nI 0) hx hb dX12_areWays_100 (by decide) ?_
                  exact h_zret C hr (by first | rfl | decide) hlk hw (⟨bI_f (fun h => c29 (h w (by omega)).2.1), rfl⟩) dX12_areWays_101
                · refine lv_aload_n hx hb dX12_areWays_64 rfl (lv_at hl 1 rfl) ?_
                  refine m_fld C hw hm lk1 14 (by decide) lk0 (v := .ref (q 14)) rfl dX12_areWays_65 ?_
                  refine lv_iload_n hx hb dX12_areWays_68 rfl (lv_at hl 3 rfl) ?_
                  refine lv_iconst (v := nI 1) hx hb dX12_areWays_69 (by decide) ?_
                  refine n_iadd C dX12_areWays_70 ?_
                  refine m_iald C hw hm 14 rfl (v := A 14 (3 * w + 1)) rfl (show 3 * w + 1 < 9 from (by omega)) dX12_areWays_71 ?_
                  refine lv_bipush (v := (-9)) hx hb dX12_areWays_72 (by decide) ?_
                  refine lv_bipush (v := nI 9) hx hb dX12_areWays_74 (by decide) ?_
                  refine h_calli hw (h_runS (n := 3) (As := [.int (A 14 (3 * w + 1)), .int (-9), .int (nI 9)]) (rest := []) C hw c_X12_in gX12_areWays_X12_in rfl rfl rfl (by decide +kernel) ⟨by decide, by decide⟩ rfl hl.1 rfl (Nat.le_of_ble_eq_true rfl) dX12_areWays_76 ⟨by first | decide | omega, by first | decide | omega⟩) (fun r30 f31 H locs hp hw => ?_)
                  obtain ⟨rfl, rfl⟩ := hp
                  refine n_ifeqB C (tgt := 100) dX12_areWays_79 (by decide) (fun c32 => ?_) (fun c32 => ?_)
                  · refine lv_iconst (v := nI 0) hx hb dX12_areWays_100 (by decide) ?_
                    exact h_zret C hr (by first | rfl | decide) hlk hw (⟨bI_f (fun h => c32 (h w (by omega)).2.2.1), rfl⟩) dX12_areWays_101
                  · refine lv_aload_n hx hb dX12_areWays_82 rfl (lv_at hl 1 rfl) ?_
                    refine m_fld C hw hm lk1 14 (by decide) lk0 (v := .ref (q 14)) rfl dX12_areWays_83 ?_
                    refine lv_iload_n hx hb dX12_areWays_86 rfl (lv_at hl 3 rfl) ?_
                    refine lv_iconst (v := nI 2) hx hb dX12_areWays_87 (by decide) ?_
                    refine n_iadd C dX12_areWays_88 ?_
                    refine m_iald C hw hm 14 rfl (v := A 14 (3 * w + 2)) rfl (show 3 * w + 2 < 9 from (by omega)) dX12_areWays_89 ?_
                    refine lv_bipush (v := (-9)) hx hb dX12_areWays_90 (by decide) ?_
                    refine lv_bipush (v := nI 9) hx hb dX12_areWays_92 (by decide) ?_
                    refine h_calli hw (h_runS (n := 3) (As := [.int (A 14 (3 * w + 2)), .int (-9), .int (nI 9)]) (rest := []) C hw c_X12_in gX12_areWays_X12_in rfl rfl rfl (by decide +kernel) ⟨by decide, by decide⟩ rfl hl.1 rfl (Nat.le_of_ble_eq_true rfl) dX12_areWays_94 ⟨by first | decide | omega, by first | decide | omega⟩) (fun r33 f34 H locs hp hw => ?_)
                    obtain ⟨rfl, rfl⟩ := hp
                    refine n_ifneB C (tgt := 102) dX12_areWays_97 (by decide) (fun c35 => ?_) (fun c35 => ?_)
                    · refine lv_iinc (v := nI (3 * w + 3)) (lv' := [(2, _), (3, _), (0, _), (1, _)]) hx hb dX12_areWays_102 hl (k := 3) rfl (by rw [← nI_add]; rfl) (by decide) rfl (fun ls hl => ?_)
                      refine lv_goto (tgt := 2) hx hb dX12_areWays_105 (by decide) ?_
                      exact ih2 (w + 1) _ _ _ hw hm (lv_sub hl [2, 3, 0] rfl) (by omega) (fun j hj => (Nat.lt_succ_iff_lt_or_eq.mp hj).elim (hall j) (fun e => by rw [e]; exact ⟨Or.inr (Or.inr c24), c29, c32, c35⟩)) (by omega)
                    · refine lv_iconst (v := nI 0) hx hb dX12_areWays_100 (by decide) ?_
                      exact h_zret C hr (by first | rfl | decide) hlk hw (⟨bI_f (fun h => c35 (h w (by omega)).2.2.2), rfl⟩) dX12_areWays_101
  exact lp2 _ 0 _ _ _ hw hm (lv_sub hl [1, 2, 0] rfl) (by omega) (fun j hj => absurd hj (by omega)) (Nat.lt_succ_self _)
