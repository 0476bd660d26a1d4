/-! ===== the reference, best (laid by program) ===== -/
theorem bsI_lt {o : Option (Nat × Nat)} (hb : ∀ z, o = some z → 10 * z.1 + z.2 < 2 ^ 31) (h : bsI o < 0) : o = none := by
  cases o with
  | none => rfl
  | some z => exact absurd h (nI_pos (hb z rfl))
theorem bsI_nn {o : Option (Nat × Nat)} (h : ¬ bsI o < 0) : ∃ z, o = some z := by
  cases o with
  | none => exact absurd (show bsI none < 0 by decide) h
  | some z => exact ⟨z, rfl⟩
theorem bsP_n {A : MA} {i u t : Nat} {o : Option (Nat × Nat)} (h : ¬ cdA A i u t) : bsP A i u o t = o := if_neg h
theorem bsP_e {A : MA} {i u t : Nat} (h : cdA A i u t) : bsP A i u none t = some (u, t) := if_pos h
theorem bsP_k {A : MA} {i u t : Nat} {z : Nat × Nat} (h : cdA A i u t) (h2 : ¬ cmpN (nuA A (4 * i + u) (4 * i + t)) (deA A (4 * i + u) (4 * i + t)) (nuA A (4 * i + z.1) (4 * i + z.2)) (deA A (4 * i + z.1) (4 * i + z.2)) < 0) : bsP A i u (some z) t = some z := (if_pos h).trans (if_neg h2)
theorem bsP_r {A : MA} {i u t : Nat} {z : Nat × Nat} (h : cdA A i u t) (h2 : cmpN (nuA A (4 * i + u) (4 * i + t)) (deA A (4 * i + u) (4 * i + t)) (nuA A (4 * i + z.1) (4 * i + z.2)) (deA A (4 * i + z.1) (4 * i + z.2)) < 0) : bsP A i u (some z) t = some (u, t) := (if_pos h).trans (if_pos h2)
set_option maxHeartbeats 4000000 in
set_option maxRecDepth 100000 in
theorem c_X12_best {l : Launch} {D : va_G} {cA : Nat → ClassId} {f : HF} {sz : Nat} {q : Nat → Nat} {A : MA} {B : MB} {t9 : Int32} (hm : mo cA q A B f) (hsg : ∀ j, j < 6 → ∃ c, c ≤ 4 ∧ A 8 j = nI c) (hwy : ∀ j, j < 216 → ib 9 (A 11 j)) (hso : ∀ j, j < 24 → ∃ c, c < 4 ∧ A 10 j = nI c) : Met l yX12_best wsX12_best ({ frames := 4, cells := 0, slots := 0, locals := 94 } : Room) (va_Pc [.ref (q 0), .int t9] (hB D cA f sz)) (va_Ql (fun r f1 => (op_best A B t9).1 = r ∧ ∃ A1 B1, mo cA q A1 B1 f1 ∧ veq (op_best A B t9).2.1 (op_best A B t9).2.2 A1 B1) (hE D f sz) (hA f sz)) 0 0 (hA f sz) := by
  refine h_of (cc := cX12_best) (maxL := 15) (ret := (some .long)) (by decide +kernel) rfl (Nat.le_of_ble_eq_true rfl) ?_
  intro p e s m below meth c ls C hr hlk hnm hw hl
  have hx := C.1.1
  have hb := C.1.2.1
  have hl : lv_has ls 15 [(0, .ref (q 0)), (1, .int t9)] := hl
  have lk0 : Cond.fieldLink RX12 29 "FallingLightModel" "sights" "[I" ∈ wsX12_best := by decide +kernel
  have lk1 : ∀ w ∈ u_ws RX12 TX12 27, w ∈ wsX12_best := by decide +kernel
  have lk2 : Cond.constantLong RX12 106 (lF 2) ∈ wsX12_best := by decide +kernel
  have lk3 : Cond.fieldLink RX12 32 "FallingLightModel" "kindOf" "[I" ∈ wsX12_best := by decide +kernel
  have lk4 : Cond.constantLong RX12 91 (lF 1) ∈ wsX12_best := by decide +kernel
  refine lv_iload_n hx hb dX12_best_0 rfl (lv_at hl 1 rfl) ?_
  refine h_calli hw (h_runS (n := 1) (As := [.int t9]) (rest := []) C hw c_X12_isMeteor gX12_best_X12_isMeteor rfl rfl rfl (by decide +kernel) ⟨by decide, by decide⟩ rfl hl.1 rfl (Nat.le_of_ble_eq_true rfl) dX12_best_1 ⟨by first | decide | omega, by first | decide | omega⟩) (fun r1 f2 H locs hp hw => ?_)
  obtain ⟨rfl, rfl⟩ := hp
  refine n_ifneB C (tgt := 15) dX12_best_4 (by decide) (fun cq3 => ?_) (fun cq3 => ?_)
  · obtain ⟨i, hi, rfl⟩ := inN (by decide) cq3
    obtain ⟨hA8, hc9⟩ := ctN hsg (show i < 6 by omega)
    generalize hcc : ct A i = c9 at hA8 hc9
    refine lv_iconst (v := (-1)) hx hb dX12_best_15 (by decide) ?_
    refine lv_istore_n (lv' := [(2, _), (0, _), (1, _)]) hx hb dX12_best_16 rfl hl (by decide) rfl (fun ls hl => ?_)
    refine lv_lconst (v := 0) hx hb dX12_best_17 (by decide) ?_
    refine lv_lstore_n (lv' := [(3, _), (2, _), (0, _), (1, _)]) hx hb dX12_best_18 rfl hl (by decide) rfl (fun ls hl => ?_)
    refine lv_lconst (v := 1) hx hb dX12_best_19 (by decide) ?_
    refine lv_lstore (lv' := [(5, _), (3, _), (2, _), (0, _), (1, _)]) hx hb dX12_best_20 hl (by decide) rfl (fun ls hl => ?_)
    refine lv_iconst (v := nI 0) hx hb dX12_best_22 (by decide) ?_
    refine lv_istore (lv' := [(7, _), (5, _), (3, _), (2, _), (0, _), (1, _)]) hx hb dX12_best_23 hl (by decide) rfl (fun ls hl => ?_)
    have lp25 : ∀ (n : Nat) (o : Option (Nat × Nat)) (u : Nat) (Bk : MB) (f1 : HF) (H1 : Heap) (locs1 : List Loc) (ls1 : Array Slot), hW D (hA f sz) s.heap f1 H1 locs1 → mo cA q A Bk f1 → lv_has ls1 15 [(0, .ref (q 0)), (1, .int (nI i)), (2, .int (bsI o)), (3, .long (abv A i o)), (5, .long (und A i o)), (7, .int (nI u))] → (∀ k, k ≠ 25 → k ≠ 26 → Bk k = B k) → (∀ z, o = some z → z.1 < c9 ∧ z.2 < c9 ∧ 0 < deA A (4 * i + z.1) (4 * i + z.2)) → (u ≤ c9) → ((List.range' u (c9 - u)).foldl (fun o u => bsR A i c9 u o) o = bstA A i c9) → c9 - u < n → W p l e ({ frames := 4, cells := 0, slots := 0, locals := 94 } : Room) s m ([.ref (q 0), .int (nI i)]).toArray below meth c H1 locs1 0 0 (MQ below (va_Ql (fun r f1 => (op_best A B (nI i)).1 = r ∧ ∃ A1 B1, mo cA q A1 B1 f1 ∧ veq (op_best A B (nI i)).2.1 (op_best A B (nI i)).2.2 A1 B1) (hE D f sz) (hA f sz)) ([.ref (q 0), .int (nI i)]).toArray s 0 0 (hA f sz)) (F0 m 25 ls1 []) := by
      intro n
      induction n with
      | zero => intros; omega
      | succ n ih25 =>
        intro o u Bk f1 H locs ls hw hm hl hBg hok hu9 htot hmu
        refine lv_iload hx hb dX12_best_25 (lv_at hl 5 rfl) ?_
        refine lv_aload_n hx hb dX12_best_27 rfl (lv_at hl 0 rfl) ?_
        refine m_fld C hw hm lk1 8 (by decide) lk0 (v := .ref (q 8)) rfl dX12_best_28 ?_
        refine lv_iload_n hx hb dX12_best_31 rfl (lv_at hl 1 rfl) ?_
        refine m_iald C hw hm 8 rfl (v := nI c9) hA8 (show i < 6 from (by omega)) dX12_best_32 ?_
        refine n_cge C (by omega) (by omega) (tgt := 193) dX12_best_33 (by decide) (fun cq4 => ?_) (fun cq4 => ?_)
        · refine lv_iload_n hx hb dX12_best_193 rfl (lv_at hl 2 rfl) ?_
          refine lv_if_ge (tgt := 207) hx hb dX12_best_194 (by decide) (fun cq5 => ?_) (fun cq5 => ?_)
          · obtain ⟨z, rfl⟩ := bsI_nn ((c_nlt _ _).mp cq5)
            obtain ⟨hz1, hz2, hz3⟩ := hok z rfl
            refine lv_iload_n hx hb dX12_best_207 rfl (lv_at hl 2 rfl) ?_
            refine W.eq (g2 := F0 m 208 ls [.int (nI (10 * z.1 + z.2))]) rfl ?_
            refine n_i2l C (by omega) dX12_best_208 ?_
            exact h_lret C hr hlk hw (op_fin2 (A0 := A) (B0 := B) (by rw [r_n (show c9 ≤ u by omega), List.foldl_nil] at htot; rw [op_best, if_pos cq3, nI_clamp (show i < 2 ^ 31 by omega), hcc, ← htot]; rfl) hm ⟨fun _ _ => rfl, hBg 15 (by decide) (by decide)⟩) dX12_best_209
          · obtain rfl : o = none := bsI_lt (fun z h9 => by have := hok z h9; omega) (Decidable.not_not.mp (fun h => cq5 ((c_nlt _ _).mpr h)))
            refine lv_aload_n hx hb dX12_best_197 rfl (lv_at hl 0 rfl) ?_
            refine lv_ldc2 hx hb C.1.2.2.2.1 (C.1.2.2.2.2 _ lk2) dX12_best_198 ?_
            refine h_calll hw (h_runV (n := 1) (As := [.long (lF 2)]) (rest := []) C hw (c_X12_finding hm (by omega)) gX12_best_X12_finding rfl rfl rfl (by decide +kernel) ⟨by decide, by decide⟩ bX12 hm.1 rfl hl.1 rfl (Nat.le_of_ble_eq_true rfl) dX12_best_201 ⟨by first | decide | omega, by first | decide | omega⟩) (fun r6 f7 H locs hp hw => ?_)
            obtain ⟨rfl, B8, eB8, hm⟩ := hp
            refine lv_goto (tgt := 209) hx hb dX12_best_204 (by decide) ?_
            exact h_lret C hr hlk hw (op_fin2 (A0 := A) (B0 := fnd B 2) (by rw [r_n (show c9 ≤ u by omega), List.foldl_nil] at htot; rw [op_best, if_pos cq3, nI_clamp (show i < 2 ^ 31 by omega), hcc, ← htot]; rfl) hm ⟨fun _ _ => rfl, by rw [eB8]; exact fnd_15 (hBg 15 (by decide) (by decide))⟩) dX12_best_209
        · refine lv_iconst (v := nI 0) hx hb dX12_best_36 (by decide) ?_
          refine lv_istore (lv' := [(8, _), (0, _), (1, _), (2, _), (3, _), (5, _), (7, _)]) hx hb dX12_best_37 hl (by decide) rfl (fun ls hl => ?_)
          have lp39 : ∀ (n : Nat) (o : Option (Nat × Nat)) (t : Nat) (Bk : MB) (f1 : HF) (H1 : Heap) (locs1 : List Loc) (ls1 : Array Slot), hW D (hA f sz) s.heap f1 H1 locs1 → mo cA q A Bk f1 → lv_has ls1 15 [(0, .ref (q 0)), (1, .int (nI i)), (2, .int (bsI o)), (3, .long (abv A i o)), (5, .long (und A i o)), (7, .int (nI u)), (8, .int (nI t))] → (∀ k, k ≠ 25 → k ≠ 26 → Bk k = B k) → (∀ z, o = some z → z.1 < c9 ∧ z.2 < c9 ∧ 0 < deA A (4 * i + z.1) (4 * i + z.2)) → (u < c9) → (t ≤ c9) → ((List.range' (u + 1) (c9 - (u + 1))).foldl (fun o u => bsR A i c9 u o) ((List.range' t (c9 - t)).foldl (bsP A i u) o) = bstA A i c9) → c9 - t < n → W p l e ({ frames := 4, cells := 0, slots := 0, locals := 94 } : Room) s m ([.ref (q 0), .int (nI i)]).toArray below meth c H1 locs1 0 0 (MQ below (va_Ql (fun r f1 => (op_best A B (nI i)).1 = r ∧ ∃ A1 B1, mo cA q A1 B1 f1 ∧ veq (op_best A B (nI i)).2.1 (op_best A B (nI i)).2.2 A1 B1) (hE D f sz) (hA f sz)) ([.ref (q 0), .int (nI i)]).toArray s 0 0 (hA f sz)) (F0 m 39 ls1 []) := by
            intro n
            induction n with
            | zero => intros; omega
            | succ n ih39 =>
              intro o t Bk f1 H locs ls hw hm hl hBg hok hu3 ht9 htot hmu
              refine lv_iload hx hb dX12_best_39 (lv_at hl 6 rfl) ?_
              refine lv_aload_n hx hb dX12_best_41 rfl (lv_at hl 0 rfl) ?_
              refine m_fld C hw hm lk1 8 (by decide) lk0 (v := .ref (q 8)) rfl dX12_best_42 ?_
              refine lv_iload_n hx hb dX12_best_45 rfl (lv_at hl 1 rfl) ?_
              refine m_iald C hw hm 8 rfl (v := nI c9) hA8 (show i < 6 from (by omega)) dX12_best_46 ?_
              refine n_cge C (by omega) (by omega) (tgt := 187) dX12_best_47 (by decide) (fun cq9 => ?_) (fun cq9 => ?_)
              · refine n_iinc C (lv' := [(7, _), (0, _), (1, _), (2, _), (3, _), (5, _), (8, _)]) dX12_best_187 hl (k := 5) rfl (by decide) rfl (fun ls hl => ?_)
                refine lv_goto (tgt := 25) hx hb dX12_best_190 (by decide) ?_
                exact ih25 o (u + 1) _ _ _ _ _ hw hm (lv_sub hl [1, 2, 3, 4, 5, 0] rfl) hBg hok (by omega) (by rw [r_n (show c9 ≤ t by omega), List.foldl_nil] at htot; exact htot) (by omega)
              · refine lv_iconst (v := nI 4) hx hb dX12_best_50 (by decide) ?_
                refine lv_iload_n hx hb dX12_best_51 rfl (lv_at hl 1 rfl) ?_
                refine n_imul C dX12_best_52 ?_
                refine lv_iload hx hb dX12_best_53 (lv_at hl 5 rfl) ?_
                refine n_iadd C dX12_best_55 ?_
                refine lv_istore (lv' := [(9, _), (0, _), (1, _), (2, _), (3, _), (5, _), (7, _), (8, _)]) hx hb dX12_best_56 hl (by decide) rfl (fun ls hl => ?_)
                refine lv_iconst (v := nI 4) hx hb dX12_best_58 (by decide) ?_
                refine lv_iload_n hx hb dX12_best_59 rfl (lv_at hl 2 rfl) ?_
                refine n_imul C dX12_best_60 ?_
                refine lv_iload hx hb dX12_best_61 (lv_at hl 7 rfl) ?_
                refine n_iadd C dX12_best_63 ?_
                refine lv_istore (lv' := [(10, _), (9, _), (0, _), (1, _), (2, _), (3, _), (5, _), (7, _), (8, _)]) hx hb dX12_best_64 hl (by decide) rfl (fun ls hl => ?_)
                refine lv_iload hx hb dX12_best_66 (lv_at hl 7 rfl) ?_
                refine lv_iload hx hb dX12_best_68 (lv_at hl 8 rfl) ?_
                refine n_ceq C (by omega) (by omega) (tgt := 181) dX12_best_70 (by decide) (fun cq10 => ?_) (fun cq10 => ?_)
                · refine n_iinc C (lv' := [(8, _), (10, _), (9, _), (0, _), (1, _), (2, _), (3, _), (5, _), (7, _)]) dX12_best_181 hl (k := 8) rfl (by decide) rfl (fun ls hl => ?_)
                  refine lv_goto (tgt := 39) hx hb dX12_best_184 (by decide) ?_
                  exact ih39 o (t + 1) _ _ _ _ _ hw hm (lv_sub hl [3, 4, 5, 6, 7, 8, 0] rfl) hBg hok hu3 (by omega) (by rw [r_c (show t < c9 by omega), List.foldl_cons, bsP_n (A := A) (i := i) (u := u) (t := t) (fun h => h.1 cq10)] at htot; exact htot) (by omega)
                · refine lv_aload_n hx hb dX12_best_73 rfl (lv_at hl 2 rfl) ?_
                  refine m_fld C hw hm lk1 9 (by decide) lk3 (v := .ref (q 9)) rfl dX12_best_74 ?_
                  refine lv_iload hx hb dX12_best_77 (lv_at hl 1 rfl) ?_
                  refine m_iald C hw hm 9 rfl (v := A 9 (4 * i + u)) rfl (show 4 * i + u < 24 from (by omega)) dX12_best_79 ?_
                  refine lv_iconst (v := nI 2) hx hb dX12_best_80 (by decide) ?_
                  refine lv_icmp_eq (tgt := 181) hx hb dX12_best_81 (by decide) (fun cq11 => ?_) (fun cq11 => ?_)
                  · refine n_iinc C (lv' := [(8, _), (10, _), (9, _), (0, _), (1, _), (2, _), (3, _), (5, _), (7, _)]) dX12_best_181 hl (k := 8) rfl (by decide) rfl (fun ls hl => ?_)
                    refine lv_goto (tgt := 39) hx hb dX12_best_184 (by decide) ?_
                    exact ih39 o (t + 1) _ _ _ _ _ hw hm (lv_sub hl [3, 4, 5, 6, 7, 8, 0] rfl) hBg hok hu3 (by omega) (by rw [r_c (show t < c9 by omega), List.foldl_cons, bsP_n (A := A) (i := i) (u := u) (t := t) (fun h => h.2.1 cq11)] at htot; exact htot) (by omega)
                  · refine lv_aload_n hx hb dX12_best_84 rfl (lv_at hl 2 rfl) ?_
                    refine lv_iload hx hb dX12_best_85 (lv_at hl 1 rfl) ?_
                    refine lv_iload hx hb dX12_best_87 (lv_at hl 0 rfl) ?_
                    refine h_calli hw (h_runV (n := 2) (As := [.int (nI (4 * i + u)), .int (nI (4 * i + t))]) (rest := []) C hw (c_X12_hasFall hm (by omega) (by omega)) gX12_best_X12_hasFall rfl rfl rfl (by decide +kernel) ⟨by decide, by decide⟩ bX12 hm.1 rfl hl.1 rfl (Nat.le_of_ble_eq_true rfl) dX12_best_89 ⟨by first | decide | omega, by first | decide | omega⟩) (fun r12 f13 H locs hp hw => ?_)
                    obtain ⟨rfl, rfl⟩ := hp
                    refine n_ifeqB C (tgt := 181) dX12_best_92 (by decide) (fun cq14 => ?_) (fun cq14 => ?_)
                    · refine n_iinc C (lv' := [(8, _), (10, _), (9, _), (0, _), (1, _), (2, _), (3, _), (5, _), (7, _)]) dX12_best_181 hl (k := 8) rfl (by decide) rfl (fun ls hl => ?_)
                      refine lv_goto (tgt := 39) hx hb dX12_best_184 (by decide) ?_
                      exact ih39 o (t + 1) _ _ _ _ _ hw hm (lv_sub hl [3, 4, 5, 6, 7, 8, 0] rfl) hBg hok hu3 (by omega) (by rw [r_c (show t < c9 by omega), List.foldl_cons, bsP_n (A := A) (i := i) (u := u) (t := t) (fun h => cq14 h.2.2.1)] at htot; exact htot) (by omega)
                    · refine lv_aload_n hx hb dX12_best_95 rfl (lv_at hl 2 rfl) ?_
                      refine lv_iload hx hb dX12_best_96 (lv_at hl 1 rfl) ?_
                      refine lv_iload hx hb dX12_best_98 (lv_at hl 0 rfl) ?_
                      refine lv_iconst (v := nI 0) hx hb dX12_best_100 (by decide) ?_
                      refine h_calli hw (h_runV (n := 3) (As := [.int (nI (4 * i + u)), .int (nI (4 * i + t)), .int (nI 0)]) (rest := []) C hw (c_X12_findPoint hm (by omega) (by omega) (by omega) hso) gX12_best_X12_findPoint rfl rfl rfl (by decide +kernel) ⟨by decide, by decide⟩ bX12 hm.1 rfl hl.1 rfl (Nat.le_of_ble_eq_true rfl) dX12_best_101 ⟨by first | decide | omega, by first | decide | omega⟩) (fun r15 f16 H locs hp hw => ?_)
                      obtain ⟨rfl, B17, hm, hBf, hBv⟩ := hp
                      refine n_ifneB C (tgt := 110) dX12_best_104 (by decide) (fun cq18 => ?_) (fun cq18 => ?_)
                      · refine lv_aload_n hx hb dX12_best_110 rfl (lv_at hl 2 rfl) ?_
                        refine lv_iload hx hb dX12_best_111 (lv_at hl 1 rfl) ?_
                        refine lv_iload hx hb dX12_best_113 (lv_at hl 0 rfl) ?_
                        refine h_calll hw (h_runV (n := 2) (As := [.int (nI (4 * i + u)), .int (nI (4 * i + t))]) (rest := []) C hw (c_X12_scalar hm (by omega) (by omega)) gX12_best_X12_scalar rfl rfl rfl (by decide +kernel) ⟨by decide, by decide⟩ bX12 hm.1 rfl hl.1 rfl (Nat.le_of_ble_eq_true rfl) dX12_best_115 ⟨by first | decide | omega, by first | decide | omega⟩) (fun r19 f20 H locs hp hw => ?_)
                        obtain ⟨rfl, rfl⟩ := hp
                        refine lv_aload_n hx hb dX12_best_118 rfl (lv_at hl 2 rfl) ?_
                        refine lv_iload hx hb dX12_best_119 (lv_at hl 1 rfl) ?_
                        refine lv_iload hx hb dX12_best_121 (lv_at hl 0 rfl) ?_
                        refine h_calll hw (h_runV (n := 2) (As := [.int (nI (4 * i + u)), .int (nI (4 * i + t))]) (rest := [.long (scA A (4 * i + u) (4 * i + t))]) C hw (c_X12_scalar hm (by omega) (by omega)) gX12_best_X12_scalar rfl rfl rfl (by decide +kernel) ⟨by decide, by decide⟩ bX12 hm.1 rfl hl.1 rfl (Nat.le_of_ble_eq_true rfl) dX12_best_123 ⟨by first | decide | omega, by first | decide | omega⟩) (fun r21 f22 H locs hp hw => ?_)
                        obtain ⟨rfl, rfl⟩ := hp
                        refine lv_lmul hx hb dX12_best_126 ?_
                        refine W.eq (g2 := F0 m 127 ls [.long (lN (nuA A (4 * i + u) (4 * i + t)))]) (by rw [nu_eq hwy (by omega) (by omega)]) ?_
                        refine lv_lstore (lv' := [(11, _), (10, _), (9, _), (0, _), (1, _), (2, _), (3, _), (5, _), (7, _), (8, _)]) hx hb dX12_best_127 hl (by decide) rfl (fun ls hl => ?_)
                        refine lv_aload_n hx hb dX12_best_129 rfl (lv_at hl 3 rfl) ?_
                        refine lv_iload hx hb dX12_best_130 (lv_at hl 2 rfl) ?_
                        refine lv_iload hx hb dX12_best_132 (lv_at hl 2 rfl) ?_
                        refine h_calll hw (h_runV (n := 2) (As := [.int (nI (4 * i + u)), .int (nI (4 * i + u))]) (rest := []) C hw (c_X12_scalar hm (by omega) (by omega)) gX12_best_X12_scalar rfl rfl rfl (by decide +kernel) ⟨by decide, by decide⟩ bX12 hm.1 rfl hl.1 rfl (Nat.le_of_ble_eq_true rfl) dX12_best_134 ⟨by first | decide | omega, by first | decide | omega⟩) (fun r23 f24 H locs hp hw => ?_)
                        obtain ⟨rfl, rfl⟩ := hp
                        refine lv_aload_n hx hb dX12_best_137 rfl (lv_at hl 3 rfl) ?_
                        refine lv_iload hx hb dX12_best_138 (lv_at hl 1 rfl) ?_
                        refine lv_iload hx hb dX12_best_140 (lv_at hl 1 rfl) ?_
                        refine h_calll hw (h_runV (n := 2) (As := [.int (nI (4 * i + t)), .int (nI (4 * i + t))]) (rest := [.long (scA A (4 * i + u) (4 * i + u))]) C hw (c_X12_scalar hm (by omega) (by omega)) gX12_best_X12_scalar rfl rfl rfl (by decide +kernel) ⟨by decide, by decide⟩ bX12 hm.1 rfl hl.1 rfl (Nat.le_of_ble_eq_true rfl) dX12_best_142 ⟨by first | decide | omega, by first | decide | omega⟩) (fun r25 f26 H locs hp hw => ?_)
                        obtain ⟨rfl, rfl⟩ := hp
                        refine lv_lmul hx hb dX12_best_145 ?_
                        refine W.eq (g2 := F0 m 146 ls [.long (lN (deA A (4 * i + u) (4 * i + t)))]) (by rw [de_eq hwy (by omega) (by omega) (hf_hp cq14).1 (hf_hp cq14).2]) ?_
                        refine lv_lstore (lv' := [(13, _), (11, _), (10, _), (9, _), (0, _), (1, _), (2, _), (3, _), (5, _), (7, _), (8, _)]) hx hb dX12_best_146 hl (by decide) rfl (fun ls hl => ?_)
                        refine lv_iload_n hx hb dX12_best_148 rfl (lv_at hl 6 rfl) ?_
                        refine lv_if_lt (tgt := 165) hx hb dX12_best_149 (by decide) (fun cq27 => ?_) (fun cq27 => ?_)
                        · obtain rfl : o = none := bsI_lt (fun z h9 => by have := hok z h9; omega) cq27
                          refine lv_bipush (v := nI 10) hx hb dX12_best_165 (by decide) ?_
                          refine lv_iload hx hb dX12_best_167 (lv_at hl 9 rfl) ?_
                          refine n_imul C dX12_best_169 ?_
                          refine lv_iload hx hb dX12_best_170 (lv_at hl 10 rfl) ?_
                          refine n_iadd C dX12_best_172 ?_
                          refine lv_istore_n (lv' := [(2, _), (13, _), (11, _), (10, _), (9, _), (0, _), (1, _), (3, _), (5, _), (7, _), (8, _)]) hx hb dX12_best_173 rfl hl (by decide) rfl (fun ls hl => ?_)
                          refine lv_lload hx hb dX12_best_174 (lv_at hl 2 rfl) ?_
                          refine lv_lstore_n (lv' := [(3, _), (2, _), (13, _), (11, _), (10, _), (9, _), (0, _), (1, _), (5, _), (7, _), (8, _)]) hx hb dX12_best_176 rfl hl (by decide) rfl (fun ls hl => ?_)
                          refine lv_lload hx hb dX12_best_177 (lv_at hl 2 rfl) ?_
                          refine lv_lstore (lv' := [(5, _), (3, _), (2, _), (13, _), (11, _), (10, _), (9, _), (0, _), (1, _), (7, _), (8, _)]) hx hb dX12_best_179 hl (by decide) rfl (fun ls hl => ?_)
                          refine n_iinc C (lv' := [(8, _), (5, _), (3, _), (2, _), (13, _), (11, _), (10, _), (9, _), (0, _), (1, _), (7, _)]) dX12_best_181 hl (k := 10) rfl (by decide) rfl (fun ls hl => ?_)
                          refine lv_goto (tgt := 39) hx hb dX12_best_184 (by decide) ?_
                          exact ih39 (some (u, t)) (t + 1) _ _ _ _ _ hw hm (lv_sub hl [8, 9, 3, 2, 1, 10, 0] rfl) (fun k h1 h2 => by rw [hBf k h1 h2]; exact hBg k h1 h2) (fun z9 h9 => by cases h9; exact ⟨show u < c9 by omega, show t < c9 by omega, de_pos hwy (by omega) (by omega) (hf_hp cq14).1 (hf_hp cq14).2⟩) hu3 (by omega) (by rw [r_c (show t < c9 by omega), List.foldl_cons, bsP_e (A := A) (i := i) (u := u) (t := t) ⟨cq10, cq11, cq14, cq18⟩] at htot; exact htot) (by omega)
                        · obtain ⟨z, rfl⟩ := bsI_nn cq27
                          obtain ⟨hz1, hz2, hz3⟩ := hok z rfl
                          refine lv_lload hx hb dX12_best_152 (lv_at hl 1 rfl) ?_
                          refine lv_lload hx hb dX12_best_154 (lv_at hl 0 rfl) ?_
                          refine lv_lload_n hx hb dX12_best_156 rfl (lv_at hl 7 rfl) ?_
                          refine lv_lload hx hb dX12_best_157 (lv_at hl 8 rfl) ?_
                          refine h_calli hw (h_runS (n := 4) (As := [.long (lN (nuA A (4 * i + u) (4 * i + t))), .long (lN (deA A (4 * i + u) (4 * i + t))), .long (lN (nuA A (4 * i + z.1) (4 * i + z.2))), .long (lN (deA A (4 * i + z.1) (4 * i + z.2)))]) (rest := []) C hw (c_X12_compare (nu_lt hwy (by omega) (by omega)) (de_lt hwy (by omega) (by omega)) (nu_lt hwy (by omega) (by omega)) (de_lt hwy (by omega) (by omega)) (de_pos hwy (by omega) (by omega) (hf_hp cq14).1 (hf_hp cq14).2) hz3) gX12_best_X12_compare rfl rfl rfl (by decide +kernel) ⟨by decide, by decide⟩ rfl hl.1 rfl (Nat.le_of_ble_eq_true rfl) dX12_best_159 ⟨by first | decide | omega, by first | decide | omega⟩) (fun r28 f29 H locs hp hw => ?_)
                          obtain ⟨rfl, rfl⟩ := hp
                          refine lv_if_ge (tgt := 181) hx hb dX12_best_162 (by decide) (fun cq30 => ?_) (fun cq30 => ?_)
                          · refine n_iinc C (lv' := [(8, _), (13, _), (11, _), (10, _), (9, _), (0, _), (1, _), (2, _), (3, _), (5, _), (7, _)]) dX12_best_181 hl (k := 10) rfl (by decide) rfl (fun ls hl => ?_)
                            refine lv_goto (tgt := 39) hx hb dX12_best_184 (by decide) ?_
                            exact ih39 (some z) (t + 1) _ _ _ _ _ hw hm (lv_sub hl [5, 6, 7, 8, 9, 10, 0] rfl) (fun k h1 h2 => by rw [hBf k h1 h2]; exact hBg k h1 h2) hok hu3 (by omega) (by rw [r_c (show t < c9 by omega), List.foldl_cons, bsP_k (A := A) (i := i) (u := u) (t := t) ⟨cq10, cq11, cq14, cq18⟩ ((c_nlt _ _).mp cq30)] at htot; exact htot) (by omega)
                          · refine lv_bipush (v := nI 10) hx hb dX12_best_165 (by decide) ?_
                            refine lv_iload hx hb dX12_best_167 (lv_at hl 9 rfl) ?_
                            refine n_imul C dX12_best_169 ?_
                            refine lv_iload hx hb dX12_best_170 (lv_at hl 10 rfl) ?_
                            refine n_iadd C dX12_best_172 ?_
                            refine lv_istore_n (lv' := [(2, _), (13, _), (11, _), (10, _), (9, _), (0, _), (1, _), (3, _), (5, _), (7, _), (8, _)]) hx hb dX12_best_173 rfl hl (by decide) rfl (fun ls hl => ?_)
                            refine lv_lload hx hb dX12_best_174 (lv_at hl 2 rfl) ?_
                            refine lv_lstore_n (lv' := [(3, _), (2, _), (13, _), (11, _), (10, _), (9, _), (0, _), (1, _), (5, _), (7, _), (8, _)]) hx hb dX12_best_176 rfl hl (by decide) rfl (fun ls hl => ?_)
                            refine lv_lload hx hb dX12_best_177 (lv_at hl 2 rfl) ?_
                            refine lv_lstore (lv' := [(5, _), (3, _), (2, _), (13, _), (11, _), (10, _), (9, _), (0, _), (1, _), (7, _), (8, _)]) hx hb dX12_best_179 hl (by decide) rfl (fun ls hl => ?_)
                            refine n_iinc C (lv' := [(8, _), (5, _), (3, _), (2, _), (13, _), (11, _), (10, _), (9, _), (0, _), (1, _), (7, _)]) dX12_best_181 hl (k := 10) rfl (by decide) rfl (fun ls hl => ?_)
                            refine lv_goto (tgt := 39) hx hb dX12_best_184 (by decide) ?_
                            exact ih39 (some (u, t)) (t + 1) _ _ _ _ _ hw hm (lv_sub hl [8, 9, 3, 2, 1, 10, 0] rfl) (fun k h1 h2 => by rw [hBf k h1 h2]; exact hBg k h1 h2) (fun z9 h9 => by cases h9; exact ⟨show u < c9 by omega, show t < c9 by omega, de_pos hwy (by omega) (by omega) (hf_hp cq14).1 (hf_hp cq14).2⟩) hu3 (by omega) (by rw [r_c (show t < c9 by omega), List.foldl_cons, bsP_r (A := A) (i := i) (u := u) (t := t) ⟨cq10, cq11, cq14, cq18⟩ (Decidable.not_not.mp (fun h => cq30 ((c_nlt _ _).mpr h)))] at htot; exact htot) (by omega)
                      · refine lv_goto (tgt := 181) hx hb dX12_best_107 (by decide) ?_
                        refine n_iinc C (lv' := [(8, _), (10, _), (9, _), (0, _), (1, _), (2, _), (3, _), (5, _), (7, _)]) dX12_best_181 hl (k := 8) rfl (by decide) rfl (fun ls hl => ?_)
                        refine lv_goto (tgt := 39) hx hb dX12_best_184 (by decide) ?_
                        exact ih39 o (t + 1) _ _ _ _ _ hw hm (lv_sub hl [3, 4, 5, 6, 7, 8, 0] rfl) (fun k h1 h2 => by rw [hBf k h1 h2]; exact hBg k h1 h2) hok hu3 (by omega) (by rw [r_c (show t < c9 by omega), List.foldl_cons, bsP_n (A := A) (i := i) (u := u) (t := t) (fun h => cq18 h.2.2.2)] at htot; exact htot) (by omega)
          exact lp39 _ o 0 _ _ _ _ _ hw hm (lv_sub hl [1, 2, 3, 4, 5, 6, 0] rfl) hBg hok (by omega) (by omega) (by rw [r_c (show u < c9 by omega), List.foldl_cons, bsR] at htot; exact htot) (Nat.lt_succ_self _)
    exact lp25 _ none 0 _ _ _ _ _ hw hm (lv_sub hl [4, 5, 3, 2, 1, 0] rfl) (fun _ _ _ => rfl) (fun z h9 => by cases h9) (by omega) rfl (Nat.lt_succ_self _)
  · refine lv_aload_n hx hb dX12_best_7 rfl (lv_at hl 0 rfl) ?_
    refine lv_ldc2 hx hb C.1.2.2.2.1 (C.1.2.2.2.2 _ lk4) dX12_best_8 ?_
    refine h_calll hw (h_runV (n := 1) (As := [.long (lF 1)]) (rest := []) C hw (c_X12_finding hm (by omega)) gX12_best_X12_finding rfl rfl rfl (by decide +kernel) ⟨by decide, by decide⟩ bX12 hm.1 rfl hl.1 rfl (Nat.le_of_ble_eq_true rfl) dX12_best_11 ⟨by first | decide | omega, by first | decide | omega⟩) (fun r31 f32 H locs hp hw => ?_)
    obtain ⟨rfl, B33, eB33, hm⟩ := hp
    exact h_lret C hr hlk hw (op_fin2 (A0 := A) (B0 := fnd B 1) (by simp only [op_best, if_neg cq3]) hm ⟨fun _ _ => rfl, by rw [eB33]; exact fnd_15 (rfl)⟩) dX12_best_14
