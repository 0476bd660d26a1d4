/-! ===== the reference, fifteenth methods (laid by program) ===== -/
abbrev N3 : Type := Nat × Nat × Nat
abbrev tkA (A : MA) (ns nt a b d : Nat) : Prop := (mA A ns nt a).isSome = true ∧ (mA A ns nt b).isSome = true ∧ (mA A ns nt d).isSome = true ∧ ¬ crA A a b d = 0
def t1A (A : MA) (ns nt a b d : Nat) : Option N3 := if tkA A ns nt a b d then some (a, b, d) else none
def orE (u v : Option N3) : Option N3 := match u with
  | some t => some t
  | none => v
def tC (A : MA) (ns nt a b d : Nat) : Option N3 := (List.range' d (ns - d)).findSome? (t1A A ns nt a b)
def tB (A : MA) (ns nt a b : Nat) : Option N3 := (List.range' b (ns - b)).findSome? (fun b1 => tC A ns nt a b1 (b1 + 1))
def tAA (A : MA) (ns nt a : Nat) : Option N3 := (List.range' a (ns - a)).findSome? (fun a1 => tB A ns nt a1 (a1 + 1))
def tbA (A : MA) (ns nt : Nat) : Option N3 := tAA A ns nt 0
theorem fs_c {α : Type} {f : α → Option N3} {z : α} {l : List α} : (z :: l).findSome? f = orE (f z) (l.findSome? f) := by
  rw [List.findSome?_cons]
  unfold orE
  cases f z <;> rfl
theorem tC_s {A : MA} {ns nt a b d : Nat} (h : d < ns) : tC A ns nt a b d = orE (t1A A ns nt a b d) (tC A ns nt a b (d + 1)) := by unfold tC; rw [r_c h, fs_c]
theorem tC_e {A : MA} {ns nt a b d : Nat} (h : ns ≤ d) : tC A ns nt a b d = none := by unfold tC; rw [r_n h]; rfl
theorem tB_s {A : MA} {ns nt a b : Nat} (h : b < ns) : tB A ns nt a b = orE (tC A ns nt a b (b + 1)) (tB A ns nt a (b + 1)) := by unfold tB; rw [r_c h, fs_c]
theorem tB_e {A : MA} {ns nt a b : Nat} (h : ns ≤ b) : tB A ns nt a b = none := by unfold tB; rw [r_n h]; rfl
theorem tA_s {A : MA} {ns nt a : Nat} (h : a < ns) : tAA A ns nt a = orE (tB A ns nt a (a + 1)) (tAA A ns nt (a + 1)) := by unfold tAA; rw [r_c h, fs_c]
theorem tA_e {A : MA} {ns nt a : Nat} (h : ns ≤ a) : tAA A ns nt a = none := by unfold tAA; rw [r_n h]; rfl
theorem orE_n (v : Option N3) : orE none v = v := rfl
theorem orE_a (u v w : Option N3) : orE (orE u v) w = orE u (orE v w) := by cases u <;> rfl
theorem t1_n {A : MA} {ns nt a b d : Nat} (h : ¬ tkA A ns nt a b d) : t1A A ns nt a b d = none := if_neg h
theorem t1_s {A : MA} {ns nt a b d : Nat} (h : tkA A ns nt a b d) : t1A A ns nt a b d = some (a, b, d) := if_pos h
theorem is_s {α : Type} {o : Option α} {b : α} (h : o = some b) : o.isSome = true := by rw [h]; rfl
theorem is_n {α : Type} {o : Option α} (h : o = none) : ¬ o.isSome = true := by rw [h]; exact fun h9 => by cases h9
def pk3 (t : N3) (u : Nat) : Nat := if u = 0 then t.1 else if u = 1 then t.2.1 else t.2.2
theorem pk3_at {A : MA} {t : N3} {u : Nat} (hu : u < 3) (h0 : A 24 0 = nI t.1) (h1 : A 24 1 = nI t.2.1) (h2 : A 24 2 = nI t.2.2) : A 24 u = nI (pk3 t u) := by
  have h : u = 0 ∨ u = 1 ∨ u = 2 := by omega
  rcases h with rfl | rfl | rfl
  · exact h0
  · exact h1
  · exact h2
theorem pk3_lt {t : N3} {u n : Nat} (h0 : t.1 < n) (h1 : t.2.1 < n) (h2 : t.2.2 < n) : pk3 t u < n := by
  unfold pk3
  by_cases e0 : u = 0
  · rw [if_pos e0]; exact h0
  · rw [if_neg e0]
    by_cases e1 : u = 1
    · rw [if_pos e1]; exact h1
    · rw [if_neg e1]; exact h2
theorem fsm {α : Type} {f : α → Option N3} {l : List α} {t : N3} (h : l.findSome? f = some t) : ∃ z, z ∈ l ∧ f z = some t := List.exists_of_findSome?_eq_some h
theorem tb_ok {A : MA} {ns nt : Nat} {t : N3} (h : tbA A ns nt = some t) : t.1 < ns ∧ t.2.1 < ns ∧ t.2.2 < ns ∧ tkA A ns nt t.1 t.2.1 t.2.2 := by
  obtain ⟨a, ha, h1⟩ := fsm h
  obtain ⟨b, hb, h2⟩ := fsm h1
  obtain ⟨d, hd, h3⟩ := fsm h2
  rw [List.mem_range'_1] at ha hb hd
  by_cases hk : tkA A ns nt a b d
  · rw [t1_s hk] at h3
    cases h3
    exact ⟨show a < ns by omega, show b < ns by omega, show d < ns by omega, hk⟩
  · rw [t1_n hk] at h3
    cases h3
def tbR (A : MA) (B : MB) (o : Option N3) (u : Nat) : OR := match o with
  | some t => (lN (pk3 t u), A, B)
  | none => (lF 2, A, fnd B 2)
def op_table (A : MA) (B : MB) (ns nt : Nat) (k : Int32) : OR := if rg (nI 0) (nI 2) k then tbR A B (tbA A ns nt) k.toNatClampNeg else (lF 1, A, fnd B 1)
set_option maxHeartbeats 4000000 in
set_option maxRecDepth 100000 in
theorem c_X12_findTable {l : Launch} {D : va_G} {cA : Nat → ClassId} {f : HF} {sz : Nat} {q : Nat → Nat} {A : MA} {B : MB} {ns nt : Nat} (hm : mo cA q A B f) (hns : A 0 0 = nI ns) (hnt : A 1 0 = nI nt) (hns2 : ns ≤ 10) (hnt2 : nt ≤ 12) : Met l yX12_findTable wsX12_findTable ({ frames := 4, cells := 0, slots := 0, locals := 99 } : Room) (va_Pc [.ref (q 0)] (hB D cA f sz)) (va_Qi (fun r f1 => bI ((tbA A ns nt).isSome = true) = r ∧ ∃ A1 B1, mo cA q A1 B1 f1 ∧ (∀ k, k ≠ 16 → k ≠ 18 → k ≠ 19 → k ≠ 20 → k ≠ 22 → k ≠ 23 → k ≠ 24 → A1 k = A k) ∧ (∀ k, k ≠ 17 → k ≠ 21 → B1 k = B k) ∧ (∀ j, j < 120 → A1 23 j = vtA A ns nt j) ∧ ∀ t, tbA A ns nt = some t → A1 24 0 = nI t.1 ∧ A1 24 1 = nI t.2.1 ∧ A1 24 2 = nI t.2.2) (hE D f sz) (hA f sz)) 0 0 (hA f sz) := by
  refine h_of (cc := cX12_findTable) (maxL := 4) (ret := (some .boolean)) (by decide +kernel) rfl (Nat.le_of_ble_eq_true rfl) ?_
  intro p e s m below meth c ls C hr hlk hnm hw hl
  have hx := C.1.1
  have hb := C.1.2.1
  have hl : lv_has ls 4 [(0, .ref (q 0))] := hl
  have lk0 : Cond.fieldLink RX12 101 "FallingLightModel" "spots" "I" ∈ wsX12_findTable := by decide +kernel
  have lk1 : ∀ w ∈ u_ws RX12 TX12 27, w ∈ wsX12_findTable := by decide +kernel
  have lk2 : Cond.fieldLink RX12 69 "FallingLightModel" "three" "[I" ∈ wsX12_findTable := by decide +kernel
  refine lv_aload_n hx hb dX12_findTable_0 rfl (lv_at hl 0 rfl) ?_
  refine h_callv hw (h_runV (n := 0) (As := []) (rest := []) C hw (c_X12_findVotes hm hns hnt (by omega) (by omega)) gX12_findTable_X12_findVotes rfl rfl rfl (by decide +kernel) ⟨by decide, by decide⟩ bX12 hm.1 rfl hl.1 rfl (Nat.le_of_ble_eq_true rfl) dX12_findTable_1 ⟨by first | decide | omega, by first | decide | omega⟩) (fun  f1 H locs hp hw => ?_)
  obtain ⟨A2, B3, hm, hFAA2, hFBA2, hVA2⟩ := hp
  have hn4 : A2 0 0 = nI ns := by rw [hFAA2 0 (by decide) (by decide) (by decide) (by decide) (by decide) (by decide)]; exact hns
  have hn5 : A2 1 0 = nI nt := by rw [hFAA2 1 (by decide) (by decide) (by decide) (by decide) (by decide) (by decide)]; exact hnt
  refine lv_iconst (v := nI 0) hx hb dX12_findTable_4 (by decide) ?_
  refine lv_istore_n (lv' := [(1, _), (0, _)]) hx hb dX12_findTable_5 rfl hl (by decide) rfl (fun ls hl => ?_)
  have lp6 : ∀ (n : Nat) (a : Nat) (H1 : Heap) (locs1 : List Loc) (ls1 : Array Slot), hW D (hA f sz) s.heap f1 H1 locs1 → mo cA q A2 B3 f1 → lv_has ls1 4 [(0, .ref (q 0)), (1, .int (nI a))] → (a ≤ ns) → (tAA A ns nt a = tbA A ns nt) → ns - a < n → W p l e ({ frames := 4, cells := 0, slots := 0, locals := 99 } : Room) s m ([.ref (q 0)]).toArray below meth c H1 locs1 0 0 (MQ below (va_Qi (fun r f1 => bI ((tbA A ns nt).isSome = true) = r ∧ ∃ A1 B1, mo cA q A1 B1 f1 ∧ (∀ k, k ≠ 16 → k ≠ 18 → k ≠ 19 → k ≠ 20 → k ≠ 22 → k ≠ 23 → k ≠ 24 → A1 k = A k) ∧ (∀ k, k ≠ 17 → k ≠ 21 → B1 k = B k) ∧ (∀ j, j < 120 → A1 23 j = vtA A ns nt j) ∧ ∀ t, tbA A ns nt = some t → A1 24 0 = nI t.1 ∧ A1 24 1 = nI t.2.1 ∧ A1 24 2 = nI t.2.2) (hE D f sz) (hA f sz)) ([.ref (q 0)]).toArray s 0 0 (hA f sz)) (F0 m 6 ls1 []) := by
    intro n
    induction n with
    | zero => intros; omega
    | succ n ih6 =>
      intro a H locs ls hw hm hl hale htot hmu
      refine lv_iload_n hx hb dX12_findTable_6 rfl (lv_at hl 1 rfl) ?_
      refine lv_aload_n hx hb dX12_findTable_7 rfl (lv_at hl 0 rfl) ?_
      refine m_fld C hw hm lk1 0 (by decide) lk0 (v := .int (nI ns)) (congrArg (fun z => some (Value.int z)) hn4) dX12_findTable_8 ?_
      refine n_cge C (by omega) (by omega) (tgt := 115) dX12_findTable_11 (by decide) (fun cq6 => ?_) (fun cq6 => ?_)
      · refine lv_iconst (v := nI 0) hx hb dX12_findTable_115 (by decide) ?_
        exact h_zret C hr (by first | rfl | decide) hlk hw (by rw [tA_e (show ns ≤ a by omega)] at htot; exact ⟨bI_f (is_n htot.symm), _, _, hm, fun k h1 h2 h3 h4 h5 h6 _ => hFAA2 k h1 h2 h3 h4 h5 h6, hFBA2, hVA2, fun t ht => by rw [← htot] at ht; cases ht⟩) dX12_findTable_116
      · refine lv_iload_n hx hb dX12_findTable_14 rfl (lv_at hl 1 rfl) ?_
        refine lv_iconst (v := nI 1) hx hb dX12_findTable_15 (by decide) ?_
        refine n_iadd C dX12_findTable_16 ?_
        refine lv_istore_n (lv' := [(2, _), (0, _), (1, _)]) hx hb dX12_findTable_17 rfl hl (by decide) rfl (fun ls hl => ?_)
        have lp18 : ∀ (n : Nat) (b : Nat) (H1 : Heap) (locs1 : List Loc) (ls1 : Array Slot), hW D (hA f sz) s.heap f1 H1 locs1 → mo cA q A2 B3 f1 → lv_has ls1 4 [(0, .ref (q 0)), (1, .int (nI a)), (2, .int (nI b))] → (b ≤ ns) → (a < ns) → (orE (tB A ns nt a b) (tAA A ns nt (a + 1)) = tbA A ns nt) → ns - b < n → W p l e ({ frames := 4, cells := 0, slots := 0, locals := 99 } : Room) s m ([.ref (q 0)]).toArray below meth c H1 locs1 0 0 (MQ below (va_Qi (fun r f1 => bI ((tbA A ns nt).isSome = true) = r ∧ ∃ A1 B1, mo cA q A1 B1 f1 ∧ (∀ k, k ≠ 16 → k ≠ 18 → k ≠ 19 → k ≠ 20 → k ≠ 22 → k ≠ 23 → k ≠ 24 → A1 k = A k) ∧ (∀ k, k ≠ 17 → k ≠ 21 → B1 k = B k) ∧ (∀ j, j < 120 → A1 23 j = vtA A ns nt j) ∧ ∀ t, tbA A ns nt = some t → A1 24 0 = nI t.1 ∧ A1 24 1 = nI t.2.1 ∧ A1 24 2 = nI t.2.2) (hE D f sz) (hA f sz)) ([.ref (q 0)]).toArray s 0 0 (hA f sz)) (F0 m 18 ls1 []) := by
          intro n
          induction n with
          | zero => intros; omega
          | succ n ih18 =>
            intro b H locs ls hw hm hl hble ha3 htot hmu
            refine lv_iload_n hx hb dX12_findTable_18 rfl (lv_at hl 2 rfl) ?_
            refine lv_aload_n hx hb dX12_findTable_19 rfl (lv_at hl 0 rfl) ?_
            refine m_fld C hw hm lk1 0 (by decide) lk0 (v := .int (nI ns)) (congrArg (fun z => some (Value.int z)) hn4) dX12_findTable_20 ?_
            refine n_cge C (by omega) (by omega) (tgt := 109) dX12_findTable_23 (by decide) (fun cq7 => ?_) (fun cq7 => ?_)
            · refine n_iinc C (lv' := [(1, _), (0, _), (2, _)]) dX12_findTable_109 hl (k := 1) rfl (by decide) rfl (fun ls hl => ?_)
              refine lv_goto (tgt := 6) hx hb dX12_findTable_112 (by decide) ?_
              exact ih6 (a + 1) _ _ _ hw hm (lv_sub hl [1, 0] rfl) (by omega) (by rw [tB_e (show ns ≤ b by omega), orE_n] at htot; exact htot) (by omega)
            · refine lv_iload_n hx hb dX12_findTable_26 rfl (lv_at hl 2 rfl) ?_
              refine lv_iconst (v := nI 1) hx hb dX12_findTable_27 (by decide) ?_
              refine n_iadd C dX12_findTable_28 ?_
              refine lv_istore_n (lv' := [(3, _), (0, _), (1, _), (2, _)]) hx hb dX12_findTable_29 rfl hl (by decide) rfl (fun ls hl => ?_)
              have lp30 : ∀ (n : Nat) (d : Nat) (H1 : Heap) (locs1 : List Loc) (ls1 : Array Slot), hW D (hA f sz) s.heap f1 H1 locs1 → mo cA q A2 B3 f1 → lv_has ls1 4 [(0, .ref (q 0)), (1, .int (nI a)), (2, .int (nI b)), (3, .int (nI d))] → (d ≤ ns) → (a < ns) → (b < ns) → (orE (tC A ns nt a b d) (orE (tB A ns nt a (b + 1)) (tAA A ns nt (a + 1))) = tbA A ns nt) → ns - d < n → W p l e ({ frames := 4, cells := 0, slots := 0, locals := 99 } : Room) s m ([.ref (q 0)]).toArray below meth c H1 locs1 0 0 (MQ below (va_Qi (fun r f1 => bI ((tbA A ns nt).isSome = true) = r ∧ ∃ A1 B1, mo cA q A1 B1 f1 ∧ (∀ k, k ≠ 16 → k ≠ 18 → k ≠ 19 → k ≠ 20 → k ≠ 22 → k ≠ 23 → k ≠ 24 → A1 k = A k) ∧ (∀ k, k ≠ 17 → k ≠ 21 → B1 k = B k) ∧ (∀ j, j < 120 → A1 23 j = vtA A ns nt j) ∧ ∀ t, tbA A ns nt = some t → A1 24 0 = nI t.1 ∧ A1 24 1 = nI t.2.1 ∧ A1 24 2 = nI t.2.2) (hE D f sz) (hA f sz)) ([.ref (q 0)]).toArray s 0 0 (hA f sz)) (F0 m 30 ls1 []) := by
                intro n
                induction n with
                | zero => intros; omega
                | succ n ih30 =>
                  intro d H locs ls hw hm hl hdle ha3 hb9 htot hmu
                  refine lv_iload_n hx hb dX12_findTable_30 rfl (lv_at hl 3 rfl) ?_
                  refine lv_aload_n hx hb dX12_findTable_31 rfl (lv_at hl 0 rfl) ?_
                  refine m_fld C hw hm lk1 0 (by decide) lk0 (v := .int (nI ns)) (congrArg (fun z => some (Value.int z)) hn4) dX12_findTable_32 ?_
                  refine n_cge C (by omega) (by omega) (tgt := 103) dX12_findTable_35 (by decide) (fun cq8 => ?_) (fun cq8 => ?_)
                  · refine n_iinc C (lv' := [(2, _), (0, _), (1, _), (3, _)]) dX12_findTable_103 hl (k := 2) rfl (by decide) rfl (fun ls hl => ?_)
                    refine lv_goto (tgt := 18) hx hb dX12_findTable_106 (by decide) ?_
                    exact ih18 (b + 1) _ _ _ hw hm (lv_sub hl [1, 2, 0] rfl) (by omega) ha3 (by rw [tC_e (show ns ≤ d by omega), orE_n] at htot; exact htot) (by omega)
                  · refine lv_aload_n hx hb dX12_findTable_38 rfl (lv_at hl 0 rfl) ?_
                    refine lv_iload_n hx hb dX12_findTable_39 rfl (lv_at hl 1 rfl) ?_
                    refine h_calli hw (h_runV (n := 1) (As := [.int (nI a)]) (rest := []) C hw (c_X12_matchOf hm hn4 hn5 (by omega) (by omega) (by omega)) gX12_findTable_X12_matchOf rfl rfl rfl (by decide +kernel) ⟨by decide, by decide⟩ bX12 hm.1 rfl hl.1 rfl (Nat.le_of_ble_eq_true rfl) dX12_findTable_40 ⟨by first | decide | omega, by first | decide | omega⟩) (fun r9 f10 H locs hp hw => ?_)
                    obtain ⟨rfl, rfl⟩ := hp
                    refine W.eq (g2 := F0 m 43 ls [.int (oI (mA A ns nt a))]) (by rw [mt_c hVA2 hns2 hnt2 (show a < ns by omega)]) ?_
                    refine lv_if_lt (tgt := 97) hx hb dX12_findTable_43 (by decide) (fun cq11 => ?_) (fun cq11 => ?_)
                    · have hb1 := oI_lt (fun b h9 => by have := mt_lt h9; omega) cq11
                      refine n_iinc C (lv' := [(3, _), (0, _), (1, _), (2, _)]) dX12_findTable_97 hl (k := 3) rfl (by decide) rfl (fun ls hl => ?_)
                      refine lv_goto (tgt := 30) hx hb dX12_findTable_100 (by decide) ?_
                      exact ih30 (d + 1) _ _ _ hw hm (lv_sub hl [1, 2, 3, 0] rfl) (by omega) ha3 hb9 (by rw [tC_s (show d < ns by omega), t1_n (fun h => is_n hb1 h.1), orE_n] at htot; exact htot) (by omega)
                    · obtain ⟨b1, hb1, hbI1⟩ := oI_nn cq11
                      refine lv_aload_n hx hb dX12_findTable_46 rfl (lv_at hl 0 rfl) ?_
                      refine lv_iload_n hx hb dX12_findTable_47 rfl (lv_at hl 2 rfl) ?_
                      refine h_calli hw (h_runV (n := 1) (As := [.int (nI b)]) (rest := []) C hw (c_X12_matchOf hm hn4 hn5 (by omega) (by omega) (by omega)) gX12_findTable_X12_matchOf rfl rfl rfl (by decide +kernel) ⟨by decide, by decide⟩ bX12 hm.1 rfl hl.1 rfl (Nat.le_of_ble_eq_true rfl) dX12_findTable_48 ⟨by first | decide | omega, by first | decide | omega⟩) (fun r12 f13 H locs hp hw => ?_)
                      obtain ⟨rfl, rfl⟩ := hp
                      refine W.eq (g2 := F0 m 51 ls [.int (oI (mA A ns nt b))]) (by rw [mt_c hVA2 hns2 hnt2 (show b < ns by omega)]) ?_
                      refine lv_if_lt (tgt := 97) hx hb dX12_findTable_51 (by decide) (fun cq14 => ?_) (fun cq14 => ?_)
                      · have hb2 := oI_lt (fun b h9 => by have := mt_lt h9; omega) cq14
                        refine n_iinc C (lv' := [(3, _), (0, _), (1, _), (2, _)]) dX12_findTable_97 hl (k := 3) rfl (by decide) rfl (fun ls hl => ?_)
                        refine lv_goto (tgt := 30) hx hb dX12_findTable_100 (by decide) ?_
                        exact ih30 (d + 1) _ _ _ hw hm (lv_sub hl [1, 2, 3, 0] rfl) (by omega) ha3 hb9 (by rw [tC_s (show d < ns by omega), t1_n (fun h => is_n hb2 h.2.1), orE_n] at htot; exact htot) (by omega)
                      · obtain ⟨b2, hb2, hbI2⟩ := oI_nn cq14
                        refine lv_aload_n hx hb dX12_findTable_54 rfl (lv_at hl 0 rfl) ?_
                        refine lv_iload_n hx hb dX12_findTable_55 rfl (lv_at hl 3 rfl) ?_
                        refine h_calli hw (h_runV (n := 1) (As := [.int (nI d)]) (rest := []) C hw (c_X12_matchOf hm hn4 hn5 (by omega) (by omega) (by omega)) gX12_findTable_X12_matchOf rfl rfl rfl (by decide +kernel) ⟨by decide, by decide⟩ bX12 hm.1 rfl hl.1 rfl (Nat.le_of_ble_eq_true rfl) dX12_findTable_56 ⟨by first | decide | omega, by first | decide | omega⟩) (fun r15 f16 H locs hp hw => ?_)
                        obtain ⟨rfl, rfl⟩ := hp
                        refine W.eq (g2 := F0 m 59 ls [.int (oI (mA A ns nt d))]) (by rw [mt_c hVA2 hns2 hnt2 (show d < ns by omega)]) ?_
                        refine lv_if_lt (tgt := 97) hx hb dX12_findTable_59 (by decide) (fun cq17 => ?_) (fun cq17 => ?_)
                        · have hb3 := oI_lt (fun b h9 => by have := mt_lt h9; omega) cq17
                          refine n_iinc C (lv' := [(3, _), (0, _), (1, _), (2, _)]) dX12_findTable_97 hl (k := 3) rfl (by decide) rfl (fun ls hl => ?_)
                          refine lv_goto (tgt := 30) hx hb dX12_findTable_100 (by decide) ?_
                          exact ih30 (d + 1) _ _ _ hw hm (lv_sub hl [1, 2, 3, 0] rfl) (by omega) ha3 hb9 (by rw [tC_s (show d < ns by omega), t1_n (fun h => is_n hb3 h.2.2.1), orE_n] at htot; exact htot) (by omega)
                        · obtain ⟨b3, hb3, hbI3⟩ := oI_nn cq17
                          refine lv_aload_n hx hb dX12_findTable_62 rfl (lv_at hl 0 rfl) ?_
                          refine lv_iload_n hx hb dX12_findTable_63 rfl (lv_at hl 1 rfl) ?_
                          refine lv_iload_n hx hb dX12_findTable_64 rfl (lv_at hl 2 rfl) ?_
                          refine lv_iload_n hx hb dX12_findTable_65 rfl (lv_at hl 3 rfl) ?_
                          refine h_calll hw (h_runV (n := 3) (As := [.int (nI a), .int (nI b), .int (nI d)]) (rest := []) C hw (c_X12_cross hm (by omega) (by omega) (by omega)) gX12_findTable_X12_cross rfl rfl rfl (by decide +kernel) ⟨by decide, by decide⟩ bX12 hm.1 rfl hl.1 rfl (Nat.le_of_ble_eq_true rfl) dX12_findTable_66 ⟨by first | decide | omega, by first | decide | omega⟩) (fun r18 f19 H locs hp hw => ?_)
                          obtain ⟨rfl, rfl⟩ := hp
                          refine W.eq (g2 := F0 m 69 ls [.long (crA A a b d)]) (by rw [cr_c (hFAA2 2 (by decide) (by decide) (by decide) (by decide) (by decide) (by decide)) (hFAA2 3 (by decide) (by decide) (by decide) (by decide) (by decide) (by decide))]) ?_
                          refine lv_lconst (v := 0) hx hb dX12_findTable_69 (by decide) ?_
                          refine W.lcmp hx hb dX12_findTable_70 ?_
                          refine l_ifeq C (tgt := 97) dX12_findTable_71 (by decide) (fun cq20 => ?_) (fun cq20 => ?_)
                          · refine n_iinc C (lv' := [(3, _), (0, _), (1, _), (2, _)]) dX12_findTable_97 hl (k := 3) rfl (by decide) rfl (fun ls hl => ?_)
                            refine lv_goto (tgt := 30) hx hb dX12_findTable_100 (by decide) ?_
                            exact ih30 (d + 1) _ _ _ hw hm (lv_sub hl [1, 2, 3, 0] rfl) (by omega) ha3 hb9 (by rw [tC_s (show d < ns by omega), t1_n (fun h => h.2.2.2 cq20), orE_n] at htot; exact htot) (by omega)
                          · refine lv_aload_n hx hb dX12_findTable_74 rfl (lv_at hl 0 rfl) ?_
                            refine m_fld C hw hm lk1 24 (by decide) lk2 (v := .ref (q 24)) rfl dX12_findTable_75 ?_
                            refine lv_iconst (v := nI 0) hx hb dX12_findTable_78 (by decide) ?_
                            refine lv_iload_n hx hb dX12_findTable_79 rfl (lv_at hl 1 rfl) ?_
                            refine m_iast C hw hm 24 rfl (show 0 < 3 from (by omega)) dX12_findTable_80 (fun A21 f22 H locs eA21 hw hm => ?_)
                            have hn23 : A21 0 0 = nI ns := by rw [eA21, va_up_ne _ _ (by decide)]; exact hn4
                            have hn24 : A21 1 0 = nI nt := by rw [eA21, va_up_ne _ _ (by decide)]; exact hn5
                            refine lv_aload_n hx hb dX12_findTable_81 rfl (lv_at hl 0 rfl) ?_
                            refine m_fld C hw hm lk1 24 (by decide) lk2 (v := .ref (q 24)) rfl dX12_findTable_82 ?_
                            refine lv_iconst (v := nI 1) hx hb dX12_findTable_85 (by decide) ?_
                            refine lv_iload_n hx hb dX12_findTable_86 rfl (lv_at hl 2 rfl) ?_
                            refine m_iast C hw hm 24 rfl (show 1 < 3 from (by omega)) dX12_findTable_87 (fun A25 f26 H locs eA25 hw hm => ?_)
                            have hn27 : A25 0 0 = nI ns := by rw [eA25, va_up_ne _ _ (by decide)]; exact hn23
                            have hn28 : A25 1 0 = nI nt := by rw [eA25, va_up_ne _ _ (by decide)]; exact hn24
                            refine lv_aload_n hx hb dX12_findTable_88 rfl (lv_at hl 0 rfl) ?_
                            refine m_fld C hw hm lk1 24 (by decide) lk2 (v := .ref (q 24)) rfl dX12_findTable_89 ?_
                            refine lv_iconst (v := nI 2) hx hb dX12_findTable_92 (by decide) ?_
                            refine lv_iload_n hx hb dX12_findTable_93 rfl (lv_at hl 3 rfl) ?_
                            refine m_iast C hw hm 24 rfl (show 2 < 3 from (by omega)) dX12_findTable_94 (fun A29 f30 H locs eA29 hw hm => ?_)
                            have hn31 : A29 0 0 = nI ns := by rw [eA29, va_up_ne _ _ (by decide)]; exact hn27
                            have hn32 : A29 1 0 = nI nt := by rw [eA29, va_up_ne _ _ (by decide)]; exact hn28
                            refine lv_iconst (v := nI 1) hx hb dX12_findTable_95 (by decide) ?_
                            exact h_zret C hr (by first | rfl | decide) hlk hw (by
      have hk : tkA A ns nt a b d := ⟨is_s hb1, is_s hb2, is_s hb3, cq20⟩
      rw [tC_s (show d < ns by omega), t1_s hk] at htot
      have ht : some (a, b, d) = tbA A ns nt := htot
      exact ⟨bI_t (is_s ht.symm), _, _, hm, fun k h1 h2 h3 h4 h5 h6 h7 => by rw [eA29, va_up_ne _ _ h7, eA25, va_up_ne _ _ h7, eA21, va_up_ne _ _ h7]; exact hFAA2 k h1 h2 h3 h4 h5 h6, hFBA2, fun j hj => by rw [eA29, va_up_ne _ _ (by decide), eA25, va_up_ne _ _ (by decide), eA21, va_up_ne _ _ (by decide)]; exact hVA2 j hj, fun t ht2 => by rw [← ht] at ht2; cases ht2; exact ⟨by rw [eA29, va_up_self, pk_un (by decide), eA25, va_up_self, pk_un (by decide), eA21, va_up_self, pk_us], by rw [eA29, va_up_self, pk_un (by decide), eA25, va_up_self, pk_us], by rw [eA29, va_up_self, pk_us]⟩⟩) dX12_findTable_96
              exact lp30 _ (b + 1) _ _ _ hw hm (lv_sub hl [1, 2, 3, 0] rfl) (by omega) (by omega) (by omega) (by rw [tB_s (show b < ns by omega), orE_a] at htot; exact htot) (Nat.lt_succ_self _)
        exact lp18 _ (a + 1) _ _ _ hw hm (lv_sub hl [1, 2, 0] rfl) (by omega) (by omega) (by rw [tA_s (show a < ns by omega)] at htot; exact htot) (Nat.lt_succ_self _)
  exact lp6 _ 0 _ _ _ hw hm (lv_sub hl [1, 0] rfl) (by omega) rfl (Nat.lt_succ_self _)
set_option maxHeartbeats 4000000 in
set_option maxRecDepth 100000 in
theorem c_X12_table {l : Launch} {D : va_G} {cA : Nat → ClassId} {f : HF} {sz : Nat} {q : Nat → Nat} {A : MA} {B : MB} {ns nt : Nat} {k : Int32} (hm : mo cA q A B f) (hns : A 0 0 = nI ns) (hnt : A 1 0 = nI nt) (hns2 : ns ≤ 10) (hnt2 : nt ≤ 12) : Met l yX12_table wsX12_table ({ frames := 5, cells := 0, slots := 0, locals := 122 } : Room) (va_Pc [.ref (q 0), .int k] (hB D cA f sz)) (va_Ql (fun r f1 => (op_table A B ns nt k).1 = r ∧ ∃ A1 B1, mo cA q A1 B1 f1 ∧ veq (op_table A B ns nt k).2.1 (op_table A B ns nt k).2.2 A1 B1) (hE D f sz) (hA f sz)) 0 0 (hA f sz) := by
  refine h_of (cc := cX12_table) (maxL := 2) (ret := (some .long)) (by decide +kernel) rfl (Nat.le_of_ble_eq_true rfl) ?_
  intro p e s m below meth c ls C hr hlk hnm hw hl
  have hx := C.1.1
  have hb := C.1.2.1
  have hl : lv_has ls 2 [(0, .ref (q 0)), (1, .int k)] := hl
  have lk0 : Cond.constantLong RX12 106 (lF 2) ∈ wsX12_table := by decide +kernel
  have lk1 : Cond.fieldLink RX12 69 "FallingLightModel" "three" "[I" ∈ wsX12_table := by decide +kernel
  have lk2 : ∀ w ∈ u_ws RX12 TX12 27, w ∈ wsX12_table := by decide +kernel
  have lk3 : Cond.constantLong RX12 91 (lF 1) ∈ wsX12_table := by decide +kernel
  refine lv_iload_n hx hb dX12_table_0 rfl (lv_at hl 1 rfl) ?_
  refine lv_iconst (v := nI 0) hx hb dX12_table_1 (by decide) ?_
  refine lv_iconst (v := nI 2) hx hb dX12_table_2 (by decide) ?_
  refine h_calli hw (h_runS (n := 3) (As := [.int k, .int (nI 0), .int (nI 2)]) (rest := []) C hw c_X12_in gX12_table_X12_in rfl rfl rfl (by decide +kernel) ⟨by decide, by decide⟩ rfl hl.1 rfl (Nat.le_of_ble_eq_true rfl) dX12_table_3 ⟨by first | decide | omega, by first | decide | omega⟩) (fun r1 f2 H locs hp hw => ?_)
  obtain ⟨rfl, rfl⟩ := hp
  refine n_ifneB C (tgt := 17) dX12_table_6 (by decide) (fun cq3 => ?_) (fun cq3 => ?_)
  · obtain ⟨u, hu, rfl⟩ := inN (by decide) cq3
    refine lv_aload_n hx hb dX12_table_17 rfl (lv_at hl 0 rfl) ?_
    refine h_calli hw (h_runV (n := 0) (As := []) (rest := []) C hw (c_X12_findTable hm hns hnt (by omega) (by omega)) gX12_table_X12_findTable rfl rfl rfl (by decide +kernel) ⟨by decide, by decide⟩ bX12 hm.1 rfl hl.1 rfl (Nat.le_of_ble_eq_true rfl) dX12_table_18 ⟨by first | decide | omega, by first | decide | omega⟩) (fun r4 f5 H locs hp hw => ?_)
    obtain ⟨rfl, A6, B7, hm, hFAA6, hFBA6, hVA6, hT3⟩ := hp
    have hn8 : A6 0 0 = nI ns := by rw [hFAA6 0 (by decide) (by decide) (by decide) (by decide) (by decide) (by decide) (by decide)]; exact hns
    have hn9 : A6 1 0 = nI nt := by rw [hFAA6 1 (by decide) (by decide) (by decide) (by decide) (by decide) (by decide) (by decide)]; exact hnt
    refine n_ifeqB C (tgt := 34) dX12_table_21 (by decide) (fun cq10 => ?_) (fun cq10 => ?_)
    · have ho := Option.not_isSome_iff_eq_none.mp cq10
      refine lv_aload_n hx hb dX12_table_34 rfl (lv_at hl 0 rfl) ?_
      refine lv_ldc2 hx hb C.1.2.2.2.1 (C.1.2.2.2.2 _ lk0) dX12_table_35 ?_
      refine h_calll hw (h_runV (n := 1) (As := [.long (lF 2)]) (rest := []) C hw (c_X12_finding hm (by omega)) gX12_table_X12_finding rfl rfl rfl (by decide +kernel) ⟨by decide, by decide⟩ bX12 hm.1 rfl hl.1 rfl (Nat.le_of_ble_eq_true rfl) dX12_table_38 ⟨by first | decide | omega, by first | decide | omega⟩) (fun r11 f12 H locs hp hw => ?_)
      obtain ⟨rfl, B13, eB13, hm⟩ := hp
      exact h_lret C hr hlk hw (op_fin2 (A0 := A) (B0 := fnd B 2) (by simp only [op_table, if_pos cq3, nI_clamp (show u < 2 ^ 31 by omega), tbR, ho]) hm ⟨fun k hk => hFAA6 k (by omega) (by omega) (by omega) (by omega) (by omega) (by omega) (by omega), by rw [eB13]; exact fnd_15 (hFBA6 15 (by decide) (by decide))⟩) dX12_table_41
    · obtain ⟨t, ho⟩ := Option.isSome_iff_exists.mp cq10
      obtain ⟨h30, h31, h32⟩ := hT3 t ho
      have hok := tb_ok ho
      have hpk : pk3 t u < ns := pk3_lt hok.1 hok.2.1 hok.2.2.1
      refine lv_aload_n hx hb dX12_table_24 rfl (lv_at hl 0 rfl) ?_
      refine m_fld C hw hm lk2 24 (by decide) lk1 (v := .ref (q 24)) rfl dX12_table_25 ?_
      refine lv_iload_n hx hb dX12_table_28 rfl (lv_at hl 1 rfl) ?_
      refine m_iald C hw hm 24 rfl (v := nI (pk3 t u)) (pk3_at (by omega) h30 h31 h32) (show u < 3 from (by omega)) dX12_table_29 ?_
      refine n_i2l C (by omega) dX12_table_30 ?_
      refine lv_goto (tgt := 41) hx hb dX12_table_31 (by decide) ?_
      exact h_lret C hr hlk hw (op_fin2 (A0 := A) (B0 := B) (by simp only [op_table, if_pos cq3, nI_clamp (show u < 2 ^ 31 by omega), tbR, ho]) hm ⟨fun k hk => hFAA6 k (by omega) (by omega) (by omega) (by omega) (by omega) (by omega) (by omega), hFBA6 15 (by decide) (by decide)⟩) dX12_table_41
  · refine lv_aload_n hx hb dX12_table_9 rfl (lv_at hl 0 rfl) ?_
    refine lv_ldc2 hx hb C.1.2.2.2.1 (C.1.2.2.2.2 _ lk3) dX12_table_10 ?_
    refine h_calll hw (h_runV (n := 1) (As := [.long (lF 1)]) (rest := []) C hw (c_X12_finding hm (by omega)) gX12_table_X12_finding rfl rfl rfl (by decide +kernel) ⟨by decide, by decide⟩ bX12 hm.1 rfl hl.1 rfl (Nat.le_of_ble_eq_true rfl) dX12_table_13 ⟨by first | decide | omega, by first | decide | omega⟩) (fun r14 f15 H locs hp hw => ?_)
    obtain ⟨rfl, B16, eB16, hm⟩ := hp
    exact h_lret C hr hlk hw (op_fin2 (A0 := A) (B0 := fnd B 1) (by simp only [op_table, if_neg cq3]) hm ⟨fun _ _ => rfl, by rw [eB16]; exact fnd_15 (rfl)⟩) dX12_table_16
