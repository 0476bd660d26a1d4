/-! ===== the class: load (laid by program) ===== -/
abbrev hpO (g : Nat → Int32) (ln : Nat) (k : Int32) (m : Nat) : Prop := ¬ k < 0 ∧ k.toNatClampNeg + m ≤ ln ∧ ∀ z, z < m → rg (nI 0) (nI 199) (g (k.toNatClampNeg + z))
theorem hp_le {j m ln : Nat} (hj : j < 2 ^ 31) (hm : m < 2 ^ 31) (hl : ln ≤ 24) : nI j ≤ nI ln - nI m ↔ j + m ≤ ln := by
  have h1 : (nI ln - nI m).toInt = (ln : Int) - m := by rw [Int32.toInt_sub, nI_toInt (by omega), nI_toInt hm, fb_bmod (by omega) (by omega)]
  rw [Int32.le_iff_toInt_le, h1, nI_toInt hj]
  omega
def ldI (K K9 : KK) (A : MA) (px py pb p q : Nat) : Prop := (∀ j, j ≠ 3 → j ≠ px → j ≠ py → j ≠ pb → K9 j = K j) ∧ K9 3 1 = nI 0 ∧ K9 3 2 = K 3 2 ∧ K9 pb 0 = nI q ∧ ∀ z, K9 px z = (if z < q then A 5 (p + 2 * z) else K px z) ∧ K9 py z = (if z < q then A 5 (p + 2 * z + 1) else K py z)
theorem ld_0i {K K1 K2 : KK} {A : MA} {px py pb p : Nat} (hd : px ≠ 3 ∧ py ≠ 3 ∧ pb ≠ 3 ∧ px ≠ pb ∧ py ≠ pb) (e1 : K1 = va_up K 3 (upd (K 3) 1 (nI 0))) (e2 : K2 = va_up K1 pb (upd (K1 pb) 0 (nI 0))) : ldI K K2 A px py pb p 0 := by
  refine ⟨fun j h1 _ _ h4 => by rw [e2, va_up_ne _ _ h4, e1, va_up_ne _ _ h1], ?_, ?_, by rw [e2, va_up_self, pk_us], fun z => ⟨?_, ?_⟩⟩
  · rw [e2, va_up_ne _ _ (Ne.symm hd.2.2.1), e1, va_up_self, pk_us]
  · rw [e2, va_up_ne _ _ (Ne.symm hd.2.2.1), e1, va_up_self, pk_un (by decide)]
  · rw [if_neg (by omega), e2, va_up_ne _ _ hd.2.2.2.1, e1, va_up_ne _ _ hd.1]
  · rw [if_neg (by omega), e2, va_up_ne _ _ hd.2.2.2.2, e1, va_up_ne _ _ hd.2.1]
theorem ld_si {K K9 K1 K2 K3 : KK} {A : MA} {px py pb p q : Nat} {u v : Int32} (hd : px ≠ 3 ∧ py ≠ 3 ∧ pb ≠ 3 ∧ px ≠ pb ∧ py ≠ pb ∧ px ≠ py) (h : ldI K K9 A px py pb p q) (e1 : K1 = va_up K9 px (upd (K9 px) q u)) (e2 : K2 = va_up K1 py (upd (K9 py) q v)) (e3 : K3 = va_up K2 pb (upd (K2 pb) 0 (nI (q + 1)))) (hu : u = A 5 (p + 2 * q)) (hv : v = A 5 (p + 2 * q + 1)) : ldI K K3 A px py pb p (q + 1) := by
  obtain ⟨h1, h2, h3, h4, h5⟩ := h
  have hx : K3 px = upd (K9 px) q u := by rw [e3, va_up_ne _ _ hd.2.2.2.1, e2, va_up_ne _ _ hd.2.2.2.2.2, e1, va_up_self]
  have hy : K3 py = upd (K9 py) q v := by rw [e3, va_up_ne _ _ hd.2.2.2.2.1, e2, va_up_self]
  refine ⟨fun j g1 g2 g3 g4 => by rw [e3, va_up_ne _ _ g4, e2, va_up_ne _ _ g3, e1, va_up_ne _ _ g2]; exact h1 j g1 g2 g3 g4, ?_, ?_, by rw [e3, va_up_self, pk_us], fun z => ?_⟩
  · rw [e3, va_up_ne _ _ (Ne.symm hd.2.2.1), e2, va_up_ne _ _ (Ne.symm hd.2.1), e1, va_up_ne _ _ (Ne.symm hd.1)]; exact h2
  · rw [e3, va_up_ne _ _ (Ne.symm hd.2.2.1), e2, va_up_ne _ _ (Ne.symm hd.2.1), e1, va_up_ne _ _ (Ne.symm hd.1)]; exact h3
  · rw [hx, hy]
    by_cases e : z = q
    · subst e; rw [pk_us, pk_us, if_pos (by omega), if_pos (by omega)]; exact ⟨hu, hv⟩
    · rw [pk_un e, pk_un e, (h5 z).1, (h5 z).2]
      by_cases hz : z < q
      · rw [if_pos hz, if_pos hz, if_pos (by omega), if_pos (by omega)]; exact ⟨rfl, rfl⟩
      · rw [if_neg hz, if_neg hz, if_neg (by omega), if_neg (by omega)]; exact ⟨rfl, rfl⟩
theorem ldA2 (A : MA) (o p k : Nat) : ldA A o p k 2 = fun z => if o ≤ z ∧ z < o + k then A 5 (p + 2 * (z - o)) else A 2 z := by unfold ldA; rw [va_up_ne _ _ (by decide), va_up_self]
theorem ldA3 (A : MA) (o p k : Nat) : ldA A o p k 3 = fun z => if o ≤ z ∧ z < o + k then A 5 (p + 2 * (z - o) + 1) else A 3 z := by unfold ldA; rw [va_up_self]
theorem ldAn (A : MA) (o p k : Nat) {j : Nat} (h2 : j ≠ 2) (h3 : j ≠ 3) : ldA A o p k j = A j := by unfold ldA; rw [va_up_ne _ _ h3, va_up_ne _ _ h2]
theorem pts_l1 {K K9 : KK} {A : MA} {p h : Nat} (hp : pts K A) (hl : ldI K K9 A 12 13 1 p h) (hh : h ≤ 12) : pts K9 (stS (ldA A 10 p h) 1 (nI h)) := by
  obtain ⟨h1, h2, h3, h4, h5⟩ := hl
  unfold pts stS
  rw [va_up_self, va_up_ne _ _ (by decide), va_up_ne _ _ (by decide), va_up_ne _ _ (by decide), ldA2, ldA3, ldAn _ _ _ _ (by decide) (by decide), h1 2 (by decide) (by decide) (by decide) (by decide), h1 14 (by decide) (by decide) (by decide) (by decide), h1 15 (by decide) (by decide) (by decide) (by decide)]
  refine ⟨h4, hp.2.1, fun j hj => ?_, fun j hj => ?_⟩
  · rw [(h5 j).1, (h5 j).2]
    by_cases e : j < h
    · rw [if_pos e, if_pos e]
      show _ = (if 10 ≤ 10 + j ∧ 10 + j < 10 + h then _ else _) ∧ _ = (if 10 ≤ 10 + j ∧ 10 + j < 10 + h then _ else _)
      rw [if_pos (by omega), if_pos (by omega), Nat.add_sub_cancel_left]
      exact ⟨rfl, rfl⟩
    · rw [if_neg e, if_neg e]
      show _ = (if 10 ≤ 10 + j ∧ 10 + j < 10 + h then _ else _) ∧ _ = (if 10 ≤ 10 + j ∧ 10 + j < 10 + h then _ else _)
      rw [if_neg (by omega), if_neg (by omega)]
      exact hp.2.2.1 j hj
  · show _ = (if 10 ≤ j ∧ j < 10 + h then _ else _) ∧ _ = (if 10 ≤ j ∧ j < 10 + h then _ else _)
    rw [if_neg (by omega), if_neg (by omega)]
    exact hp.2.2.2 j hj
theorem pts_l2 {K K9 : KK} {A : MA} {p h : Nat} (hp : pts K A) (hl : ldI K K9 A 14 15 2 p h) (hh : h ≤ 10) : pts K9 (stS (ldA A 0 p h) 0 (nI h)) := by
  obtain ⟨h1, h2, h3, h4, h5⟩ := hl
  unfold pts stS
  rw [va_up_self, va_up_ne _ _ (by decide), va_up_ne _ _ (by decide), va_up_ne _ _ (by decide), ldA2, ldA3, ldAn _ _ _ _ (by decide) (by decide), h1 1 (by decide) (by decide) (by decide) (by decide), h1 12 (by decide) (by decide) (by decide) (by decide), h1 13 (by decide) (by decide) (by decide) (by decide)]
  refine ⟨hp.1, h4, fun j hj => ?_, fun j hj => ?_⟩
  · show _ = (if 0 ≤ 10 + j ∧ 10 + j < 0 + h then _ else _) ∧ _ = (if 0 ≤ 10 + j ∧ 10 + j < 0 + h then _ else _)
    rw [if_neg (by omega), if_neg (by omega)]
    exact hp.2.2.1 j hj
  · rw [(h5 j).1, (h5 j).2]
    show _ = (if 0 ≤ j ∧ j < 0 + h then _ else _) ∧ _ = (if 0 ≤ j ∧ j < 0 + h then _ else _)
    by_cases e : j < h
    · rw [if_pos e, if_pos e, if_pos (by omega), if_pos (by omega), Nat.sub_zero]
      exact ⟨rfl, rfl⟩
    · rw [if_neg e, if_neg e, if_neg (by omega), if_neg (by omega)]
      exact hp.2.2.2 j hj
theorem ib_ld {A : MA} {o p h m : Nat} (hp : ∀ j, j < 22 → ib 199 (A 2 j)) (hz : ∀ z, z < m → rg (nI 0) (nI 199) (A 5 (p + z))) (hm : 2 * h ≤ m) : ∀ j, j < 22 → ib 199 (ldA A o p h 2 j) := fun j hj => by
  rw [ldA2]
  show ib 199 (if o ≤ j ∧ j < o + h then _ else _)
  by_cases e : o ≤ j ∧ j < o + h
  · rw [if_pos e]; exact ib_rg (hz _ (by omega))
  · rw [if_neg e]; exact hp j hj
theorem ib_ld3 {A : MA} {o p h m : Nat} (hp : ∀ j, j < 22 → ib 199 (A 3 j)) (hz : ∀ z, z < m → rg (nI 0) (nI 199) (A 5 (p + z))) (hm : 2 * h ≤ m) : ∀ j, j < 22 → ib 199 (ldA A o p h 3 j) := fun j hj => by
  rw [ldA3]
  show ib 199 (if o ≤ j ∧ j < o + h then _ else _)
  by_cases e : o ≤ j ∧ j < o + h
  · rw [if_pos e, Nat.add_assoc]; exact ib_rg (hz _ (by omega))
  · rw [if_neg e]; exact hp j hj
theorem ld_no {A : MA} {B : MB} {X : OR} {k : Int32} {i m nl : Nat} {g : Nat → Int32} (hg : ∀ z, z < nl → g z = A 5 (24 * i + z)) (h : ¬ hpO g nl k m) : (if k < 0 then (lF 1, A, fnd B 1) else (if k.toNatClampNeg + m ≤ nl then (if ∀ z, z < m → rg (nI 0) (nI 199) (A 5 (24 * i + (k.toNatClampNeg + z))) then X else (lF 1, A, fnd B 1)) else (lF 1, A, fnd B 1))) = (lF 1, A, fnd B 1) := by
  by_cases h1 : k < 0
  · rw [if_pos h1]
  · rw [if_neg h1]
    by_cases h2 : k.toNatClampNeg + m ≤ nl
    · rw [if_pos h2, if_neg (fun h3 => h ⟨h1, h2, fun z hz => by rw [hg _ (by omega)]; exact h3 z hz⟩)]
    · rw [if_neg h2]
set_option maxHeartbeats 4000000 in
set_option maxRecDepth 100000 in
theorem c_X5_holdsPlate {l : Launch} {D : va_G} {cA : Nat → ClassId} {f : HF} {sz : Nat} {a pa ln mm : Nat} {k : Int32} {g : Nat → Int32}  (h0 : f a = some (eO 5 [.ref pa, .int (nI ln)])) (h1 : f pa = some (eS cA 24 g)) (hl24 : ln ≤ 24) (hmm : mm < 2 ^ 31) : Met l yX5_holdsPlate wsX5_holdsPlate ({ frames := 1, cells := 0, slots := 0, locals := 20 } : Room) (va_Pc [.ref a, .int k, .int (nI mm)] (hB D cA f sz)) (va_Qi (fun r f1 => bI (hpO g ln k mm) = r ∧ f = f1) (hE D f sz) (hA f sz)) 0 0 (hA f sz) := by
  refine h_of (cc := cX5_holdsPlate) (maxL := 4) (ret := (some .boolean)) (by decide +kernel) rfl (Nat.le_of_ble_eq_true rfl) ?_
  intro p e s m below meth c ls C hr hlk hnm hw hl
  have hx := C.1.1
  have hb := C.1.2.1
  have hl : lv_has ls 4 [(0, .ref a), (1, .int k), (2, .int (nI mm))] := hl
  have lk0 : Cond.fieldLink RX5 15 "FallingLight$Row" "length" "I" ∈ wsX5_holdsPlate := by decide +kernel
  have lk1 : ∀ w ∈ u_ws RX5 TX5 2, w ∈ wsX5_holdsPlate := by decide +kernel
  have lk2 : Cond.fieldLink RX5 9 "FallingLight$Row" "places" "[S" ∈ wsX5_holdsPlate := by decide +kernel
  have lk3 : Cond.static yX11_isOnPlate ∈ wsX5_holdsPlate := by decide +kernel
  have lk4 : Cond.initialized RX11 ∈ wsX5_holdsPlate := by decide +kernel
  refine lv_iload_n hx hb dX5_holdsPlate_0 rfl (lv_at hl 1 rfl) ?_
  refine lv_if_lt (tgt := 18) hx hb dX5_holdsPlate_1 (by decide) (fun cq1 => ?_) (fun cq1 => ?_)
  · refine lv_iconst (v := nI 0) hx hb dX5_holdsPlate_18 (by decide) ?_
    exact h_zret C hr (by first | rfl | decide) hlk hw (⟨bI_f (fun h9 => h9.1 cq1), rfl⟩) dX5_holdsPlate_19
  · obtain ⟨j, hj, rfl⟩ := nI_of cq1
    refine lv_iload_n hx hb dX5_holdsPlate_4 rfl (lv_at hl 2 rfl) ?_
    refine n_zlt C (by omega) (tgt := 18) dX5_holdsPlate_5 (by decide) ?_
    refine lv_iload_n hx hb dX5_holdsPlate_8 rfl (lv_at hl 1 rfl) ?_
    refine lv_aload_n hx hb dX5_holdsPlate_9 rfl (lv_at hl 0 rfl) ?_
    refine h_get C hw bX5 h0 lk1 1 (by decide) lk0 (v := .int (nI ln)) rfl dX5_holdsPlate_10 ?_
    refine lv_iload_n hx hb dX5_holdsPlate_13 rfl (lv_at hl 2 rfl) ?_
    refine lv_isub hx hb dX5_holdsPlate_14 ?_
    refine lv_icmp_le (tgt := 20) hx hb dX5_holdsPlate_15 (by decide) (fun cq3 => ?_) (fun cq3 => ?_)
    · have hjm := (hp_le hj hmm (by omega)).mp cq3
      refine lv_iconst (v := nI 0) hx hb dX5_holdsPlate_20 (by decide) ?_
      refine lv_istore_n (lv' := [(3, _), (0, _), (1, _), (2, _)]) hx hb dX5_holdsPlate_21 rfl hl (by decide) rfl (fun ls hl => ?_)
      have lp22 : ∀ (n : Nat) (z : Nat) (H1 : Heap) (locs1 : List Loc) (ls1 : Array Slot), hW D (hA f sz) s.heap f H1 locs1 → lv_has ls1 4 [(0, .ref a), (1, .int (nI j)), (2, .int (nI mm)), (3, .int (nI z))] → (z ≤ mm) → (∀ z9, z9 < z → rg (nI 0) (nI 199) (g (j + z9))) → mm - z < n → W p l e ({ frames := 1, cells := 0, slots := 0, locals := 20 } : Room) s m ([.ref a, .int (nI j), .int (nI mm)]).toArray below meth c H1 locs1 0 0 (MQ below (va_Qi (fun r f1 => bI (hpO g ln (nI j) mm) = r ∧ f = f1) (hE D f sz) (hA f sz)) ([.ref a, .int (nI j), .int (nI mm)]).toArray s 0 0 (hA f sz)) (F0 m 22 ls1 []) := by
        intro n
        induction n with
        | zero => intros; omega
        | succ n ih22 =>
          intro z H locs ls hw hl hz hall hmu
          refine lv_iload_n hx hb dX5_holdsPlate_22 rfl (lv_at hl 3 rfl) ?_
          refine lv_iload_n hx hb dX5_holdsPlate_23 rfl (lv_at hl 2 rfl) ?_
          refine n_cge C (by omega) (by omega) (tgt := 49) dX5_holdsPlate_24 (by decide) (fun cq4 => ?_) (fun cq4 => ?_)
          · refine lv_iconst (v := nI 1) hx hb dX5_holdsPlate_49 (by decide) ?_
            exact h_zret C hr (by first | rfl | decide) hlk hw (⟨bI_t ⟨nI_pos hj, by rw [nI_clamp hj]; exact hjm, by rw [nI_clamp hj]; exact fun z9 h9 => hall z9 (by omega)⟩, rfl⟩) dX5_holdsPlate_50
          · refine lv_aload_n hx hb dX5_holdsPlate_27 rfl (lv_at hl 0 rfl) ?_
            refine h_get C hw bX5 h0 lk1 0 (by decide) lk2 (v := .ref pa) rfl dX5_holdsPlate_28 ?_
            refine lv_iload_n hx hb dX5_holdsPlate_31 rfl (lv_at hl 1 rfl) ?_
            refine lv_iload_n hx hb dX5_holdsPlate_32 rfl (lv_at hl 3 rfl) ?_
            refine n_iadd C dX5_holdsPlate_33 ?_
            refine h_sald1 C hw (v := g (j + z)) h1 rfl (show j + z < 24 from (by omega)) (by first | omega | decide) dX5_holdsPlate_34 ?_
            refine h_calli hw (h_runSN (n := 1) (As := [.int (g (j + z))]) (rest := []) C hw c_X11_isOnPlate gX5_holdsPlate_X11_isOnPlate_n19 rfl rfl rfl C.2.2.1 lk3 lk4 (by decide +kernel) ⟨by decide, by decide⟩ rfl hl.1 rfl (Nat.le_of_ble_eq_true rfl) dX5_holdsPlate_35 ⟨by first | decide | omega | (dsimp only; omega), by first | decide | omega | (dsimp only; omega)⟩) (fun r5 f6 H locs hp hw => ?_)
            obtain ⟨rfl, rfl⟩ := hp
            refine n_ifneB C (tgt := 43) dX5_holdsPlate_38 (by decide) (fun cq7 => ?_) (fun cq7 => ?_)
            · have hzz := cq7
              refine n_iinc C (lv' := [(3, _), (0, _), (1, _), (2, _)]) dX5_holdsPlate_43 hl (k := 3) rfl (by decide) rfl (fun ls hl => ?_)
              refine lv_goto (tgt := 22) hx hb dX5_holdsPlate_46 (by decide) ?_
              exact ih22 (z + 1) _ _ _ hw (lv_sub hl [1, 2, 3, 0] rfl) (by omega) (fun z9 h9 => (Nat.lt_succ_iff_lt_or_eq.mp h9).elim (hall z9) (fun e9 => by rw [e9]; exact hzz)) (by omega)
            · refine lv_iconst (v := nI 0) hx hb dX5_holdsPlate_41 (by decide) ?_
              exact h_zret C hr (by first | rfl | decide) hlk hw (⟨bI_f (fun h9 => cq7 (by have := h9.2.2 z (by omega); rw [nI_clamp hj] at this; exact this)), rfl⟩) dX5_holdsPlate_42
      exact lp22 _ 0 _ _ _ hw (lv_sub hl [1, 2, 3, 0] rfl) (by omega) (fun z9 h9 => absurd h9 (by omega)) (Nat.lt_succ_self _)
    · refine lv_iconst (v := nI 0) hx hb dX5_holdsPlate_18 (by decide) ?_
      exact h_zret C hr (by first | rfl | decide) hlk hw (⟨bI_f (fun h9 => cq3 ((hp_le hj hmm (by omega)).mpr (by have := h9.2.1; rw [nI_clamp hj] at this; exact this))), rfl⟩) dX5_holdsPlate_19
set_option maxHeartbeats 4000000 in
set_option maxRecDepth 100000 in
theorem c_X11_load {l : Launch} {D : va_G} {cA : Nat → ClassId} {f : HF} {sz : Nat} {ad : Nat → Nat} {K : KK} {G : GG} {A : MA} {B : MB} {N : Nat} {ra k n9 w : Int32}  (hc : co cA ad K G f) (hr9 : rp ad K G A B N f) (hN : N < 2 ^ 20) : Met l yX11_load wsX11_load ({ frames := 2, cells := 0, slots := 0, locals := 43 } : Room) (va_Pc [.ref (ad 0), .int ra, .int k, .int n9, .int w] (hB D cA f sz)) (va_Ql (fun r f1 => (op_load A B ra k n9 w).1 = r ∧ ∃ K1 G1, co cA ad K1 G1 f1 ∧ rp ad K1 G1 (op_load A B ra k n9 w).2.1 (op_load A B ra k n9 w).2.2 (N + 1) f1) (hE D f sz) (hA f sz)) 0 0 (hA f sz) := by
  refine h_of (cc := cX11_load) (maxL := 8) (ret := (some .long)) (by decide +kernel) rfl (Nat.le_of_ble_eq_true rfl) ?_
  intro p e s m below meth c ls C hr hlk hnm hw hl
  have hx := C.1.1
  have hb := C.1.2.1
  have hl : lv_has ls 8 [(0, .ref (ad 0)), (1, .int ra), (2, .int k), (3, .int n9), (4, .int w)] := hl
  have lk0 : Cond.fieldLink RX11 39 "FallingLight" "rows" "[LFallingLight$Row;" ∈ wsX11_load := by decide +kernel
  have lk1 : ∀ w ∈ u_ws RX11 TX11 11, w ∈ wsX11_load := by decide +kernel
  have lk2 : Cond.fieldLink RX11 93 "FallingLight$Points" "limit" "I" ∈ wsX11_load := by decide +kernel
  have lk3 : ∀ w ∈ u_ws RX4 TX4 4, w ∈ wsX11_load := by decide +kernel
  have lk4 : Cond.fieldLink RX11 26 "FallingLight" "matching" "LFallingLight$Matching;" ∈ wsX11_load := by decide +kernel
  have lk5 : Cond.fieldLink RX11 96 "FallingLight$Matching" "fresh" "Z" ∈ wsX11_load := by decide +kernel
  have lk6 : ∀ w ∈ u_ws RX1 TX1 10, w ∈ wsX11_load := by decide +kernel
  have lk7 : Cond.fieldLink RX11 89 "FallingLight$Points" "size" "I" ∈ wsX11_load := by decide +kernel
  have lk8 : Cond.fieldLink RX11 117 "FallingLight$Row" "places" "[S" ∈ wsX11_load := by decide +kernel
  have lk9 : ∀ w ∈ u_ws RX5 TX5 2, w ∈ wsX11_load := by decide +kernel
  obtain ⟨hI, hF, hS, hT, hP, hRw, hTp, hWd, hTr, hMt⟩ := id hr9
  obtain ⟨-, -, -, hrs, hso, hwy, hst, hdr, hpx, hpy⟩ := id hI
  refine lv_iload_n hx hb dX11_load_0 rfl (lv_at hl 1 rfl) ?_
  refine h_calli hw (h_runS (n := 1) (As := [.int ra]) (rest := []) C hw c_X11_isRow gX11_load_X11_isRow rfl rfl rfl (by decide +kernel) ⟨by decide, by decide⟩ rfl hl.1 rfl (Nat.le_of_ble_eq_true rfl) dX11_load_1 ⟨by first | decide | omega | (dsimp only; omega), by first | decide | omega | (dsimp only; omega)⟩) (fun r1 f2 H locs hp hw => ?_)
  obtain ⟨rfl, rfl⟩ := hp
  refine n_ifneB C (tgt := 13) dX11_load_4 (by decide) (fun cq3 => ?_) (fun cq3 => ?_)
  · obtain ⟨i, hi, rfl⟩ := inN (by decide) cq3
    have hK6 := (hRw i (by omega)).1
    refine lv_aload_n hx hb dX11_load_13 rfl (lv_at hl 0 rfl) ?_
    refine h_get C hw bX11 (co.a0 hc) lk1 4 (by decide) lk0 (v := .ref (ad 5)) rfl dX11_load_14 ?_
    refine lv_iload_n hx hb dX11_load_17 rfl (lv_at hl 1 rfl) ?_
    refine h_aldS C hw 3 rfl (co.a5 hc) (if_pos (by omega)) (show i < 2 from (by omega)) (by first | omega | decide) dX11_load_18 ?_
    refine lv_astore (lv' := [(5, _), (0, _), (1, _), (2, _), (3, _), (4, _)]) hx hb dX11_load_19 hl (by decide) rfl (fun ls hl => ?_)
    refine lv_aload hx hb dX11_load_21 (lv_at hl 0 rfl) ?_
    refine h_calli hw (h_runV (n := 0) (As := []) (rest := []) C hw (c_X5_isMissing (co.row hc (show i < 2 by omega))) gX11_load_X5_isMissing rfl rfl rfl (by decide +kernel) ⟨by decide, by decide⟩ bX5 (co.row hc (show i < 2 by omega)) rfl hl.1 rfl (Nat.le_of_ble_eq_true rfl) dX11_load_23 ⟨by first | decide | omega | (dsimp only; omega), by first | decide | omega | (dsimp only; omega)⟩) (fun r4 f5 H locs hp hw => ?_)
    obtain ⟨rfl, rfl⟩ := hp
    refine n_ifeqB C (tgt := 35) dX11_load_26 (by decide) (fun cq6 => ?_) (fun cq6 => ?_)
    · have hnn : ¬ A 6 i < 0 := by rw [← hK6]; exact cq6
      obtain ⟨nl, hnl, hA6⟩ := rs_len hrs (show i < 2 by omega) hnn
      refine lv_iload_n hx hb dX11_load_35 rfl (lv_at hl 4 rfl) ?_
      refine lv_if_lt (tgt := 45) hx hb dX11_load_36 (by decide) (fun cq7 => ?_) (fun cq7 => ?_)
      · refine lv_aload_n hx hb dX11_load_45 rfl (lv_at hl 1 rfl) ?_
        refine lv_iconst (v := nI 5) hx hb dX11_load_46 (by decide) ?_
        refine h_calll hw (h_runV (n := 1) (As := [.int (nI 5)]) (rest := []) C hw (c_X11_finding hc (by omega)) gX11_load_X11_finding rfl rfl rfl (by decide +kernel) ⟨by decide, by decide⟩ bX11 (co.a0 hc) rfl hl.1 rfl (Nat.le_of_ble_eq_true rfl) dX11_load_47 ⟨by first | decide | omega | (dsimp only; omega), by first | decide | omega | (dsimp only; omega)⟩) (fun r8 f9 H locs hp hw => ?_)
        obtain ⟨rfl, K10, hc, eK11, kp12⟩ := hp
        exact h_lret C hr hlk hw (cop (by simp only [op_load, if_pos cq3, nI_clamp (show i < 2 ^ 31 by omega), hA6, if_pos (show 0 ≤ nI nl from Int32.not_lt.mp (nI_pos (by omega))), if_pos cq7]) hc (rp_fnd hr9 eK11 (kp.tr (kp_le (hle.rf f)) kp12) (by decide) hN)) dX11_load_50
      · obtain ⟨m9, hm9, rfl⟩ := nI_of cq7
        refine lv_iload_n hx hb dX11_load_39 rfl (lv_at hl 4 rfl) ?_
        refine lv_iconst (v := nI 2) hx hb dX11_load_40 (by decide) ?_
        refine n_irem C (by omega) (by decide) (by decide) dX11_load_41 ?_
        refine n_zeq C (by omega) (tgt := 51) dX11_load_42 (by decide) (fun cq13 => ?_) (fun cq13 => ?_)
        · refine lv_aload hx hb dX11_load_51 (lv_at hl 0 rfl) ?_
          refine lv_iload_n hx hb dX11_load_53 rfl (lv_at hl 3 rfl) ?_
          refine lv_iload_n hx hb dX11_load_54 rfl (lv_at hl 4 rfl) ?_
          refine h_calli hw (h_runV (n := 2) (As := [.int k, .int (nI m9)]) (rest := []) C hw (c_X5_holdsPlate ((co.row hc (show i < 2 by omega)).trans (by rw [(hK6.trans hA6)])) (co.pla hc (show i < 2 by omega)) hnl (by omega)) gX11_load_X5_holdsPlate rfl rfl rfl (by decide +kernel) ⟨by decide, by decide⟩ bX5 (co.row hc (show i < 2 by omega)) rfl hl.1 rfl (Nat.le_of_ble_eq_true rfl) dX11_load_55 ⟨by first | decide | omega | (dsimp only; omega), by first | decide | omega | (dsimp only; omega)⟩) (fun r14 f15 H locs hp hw => ?_)
          obtain ⟨rfl, rfl⟩ := hp
          refine n_ifneB C (tgt := 67) dX11_load_58 (by decide) (fun cq16 => ?_) (fun cq16 => ?_)
          · obtain ⟨hk0, hkl, hkz⟩ := cq16
            obtain ⟨j9, hj9, rfl⟩ := nI_of hk0
            rw [nI_clamp hj9] at hkl hkz
            have hzA : ∀ z, z < m9 → rg (nI 0) (nI 199) (A 5 (24 * i + (j9 + z))) := fun z9 h9 => by rw [← (hRw i (by omega)).2 (j9 + z9) nl hA6 hnl (by omega)]; exact hkz z9 h9
            refine lv_aload_n hx hb dX11_load_67 rfl (lv_at hl 1 rfl) ?_
            refine lv_iload hx hb dX11_load_68 (lv_at hl 5 rfl) ?_
            by_cases hw0 : w = 0
            · refine h_callq hw (h_runV (n := 1) (As := [.int w]) (rest := []) C hw (c_X11_pointsOf hc) gX11_load_X11_pointsOf rfl rfl rfl (by decide +kernel) ⟨by decide, by decide⟩ bX11 (co.a0 hc) rfl hl.1 rfl (Nat.le_of_ble_eq_true rfl) dX11_load_70 ⟨by first | decide | omega | (dsimp only; omega), by first | decide | omega | (dsimp only; omega)⟩) (fun r17 f18 H locs hp hw => ?_)
              obtain ⟨hy9, hz9, rfl⟩ := hp
              have e19 := hy9 hw0
              subst e19
              refine lv_astore (lv' := [(6, _), (5, _), (0, _), (1, _), (2, _), (3, _), (4, _)]) hx hb dX11_load_73 hl (by decide) rfl (fun ls hl => ?_)
              refine lv_iload_n hx hb dX11_load_75 rfl (lv_at hl 5 rfl) ?_
              refine lv_iconst (v := nI 2) hx hb dX11_load_76 (by decide) ?_
              refine n_idiv C (by omega) (by decide) (by decide) dX11_load_77 ?_
              refine lv_aload hx hb dX11_load_78 (lv_at hl 0 rfl) ?_
              refine h_get C hw bX4 (co.a2 hc) lk3 0 (by decide) lk2 (v := .int (nI 10)) rfl dX11_load_80 ?_
              refine n_cle C (by omega) (by omega) (tgt := 92) dX11_load_83 (by decide) (fun cq20 => ?_) (fun cq20 => ?_)
              · refine lv_aload_n hx hb dX11_load_92 rfl (lv_at hl 2 rfl) ?_
                refine h_get C hw bX11 (co.a0 hc) lk1 2 (by decide) lk4 (v := .ref (ad 3)) rfl dX11_load_93 ?_
                refine lv_iconst (v := nI 0) hx hb dX11_load_96 (by decide) ?_
                refine h_put1 C hw bX1 (co.a3 hc) lk6 8 (by decide) lk5 rfl (by first | rfl | decide) rfl (Nat.le_of_ble_eq_true rfl) dX11_load_97 (fun f21 H locs e22 hw => ?_)
                obtain ⟨K23, eK24, hc2⟩ := hc.upK 3 (κ := upd (K 3) 1 (nI 0)) (e := eO 1 [.ref (ad 2), .ref (ad 1), .ref (ad 16), .ref (ad 17), .ref (ad 18), .ref (ad 19), .ref (ad 20), .int (K 3 0), .int (nI 0), .int (K 3 2)]) (by omega) rfl
                have hc3 := hc
                have hc := hc2.of e22
                have kpK23 := kp_up hc3 3 (by omega) e22
                have kfK23 := kp.tr (kp_le (hle.rf f)) kpK23
                have kn25 : K23 (23 + i) 0 = nI nl := by rw [eK24, va_up_ne _ _ (by first | decide | omega)]; exact (hK6.trans hA6)
                have kn26 : K23 3 1 = nI 0 := by rw [eK24, va_up_self, pk_us]
                refine lv_aload hx hb dX11_load_100 (lv_at hl 0 rfl) ?_
                refine lv_iconst (v := nI 0) hx hb dX11_load_102 (by decide) ?_
                refine h_put1 C hw bX4 (co.a2 hc) lk3 3 (by decide) lk7 rfl rfl rfl (Nat.le_of_ble_eq_true rfl) dX11_load_103 (fun f27 H locs e28 hw => ?_)
                obtain ⟨K29, eK30, hc2⟩ := hc.upK 2 (κ := upd (K23 2) 0 (nI 0)) (e := eO 4 [.int (nI 10), .ref (ad 14), .ref (ad 15), .int (nI 0)]) (by omega) rfl
                have hc3 := hc
                have hc := hc2.of e28
                have kpK29 := kp_up hc3 2 (by omega) e28
                have kfK29 := kp.tr kfK23 kpK29
                have kn31 : K29 (23 + i) 0 = nI nl := by rw [eK30, va_up_ne _ _ (by first | decide | omega)]; exact kn25
                have kn32 : K29 3 1 = nI 0 := by rw [eK30, va_up_ne _ _ (by first | decide | omega)]; exact kn26
                have kn33 : K29 2 0 = nI 0 := by rw [eK30, va_up_self, pk_us]
                refine lv_iconst (v := nI 0) hx hb dX11_load_106 (by decide) ?_
                refine lv_istore (lv' := [(7, _), (6, _), (5, _), (0, _), (1, _), (2, _), (3, _), (4, _)]) hx hb dX11_load_107 hl (by decide) rfl (fun ls hl => ?_)
                have lp109 : ∀ (n : Nat) (q : Nat) (f9 : HF) (K9 : Nat → Nat → Int32) (H1 : Heap) (locs1 : List Loc) (ls1 : Array Slot), hW D (hA f sz) s.heap f9 H1 locs1 → co cA ad K9 G f9 → lv_has ls1 8 [(0, .ref (ad 0)), (1, .int (nI i)), (2, .int (nI j9)), (3, .int (nI m9)), (4, .int w), (5, .ref (ad (23 + i))), (6, .ref (ad 2)), (7, .int (nI (2 * q)))] → (2 * q ≤ m9) → (kp f f9) → (ldI K K9 A 14 15 2 (24 * i + j9) q) → m9 - 2 * q < n → W p l e ({ frames := 2, cells := 0, slots := 0, locals := 43 } : Room) s m ([.ref (ad 0), .int (nI i), .int (nI j9), .int (nI m9), .int w]).toArray below meth c H1 locs1 0 0 (MQ below (va_Ql (fun r f1 => (op_load A B (nI i) (nI j9) (nI m9) w).1 = r ∧ ∃ K1 G1, co cA ad K1 G1 f1 ∧ rp ad K1 G1 (op_load A B (nI i) (nI j9) (nI m9) w).2.1 (op_load A B (nI i) (nI j9) (nI m9) w).2.2 (N + 1) f1) (hE D f sz) (hA f sz)) ([.ref (ad 0), .int (nI i), .int (nI j9), .int (nI m9), .int w]).toArray s 0 0 (hA f sz)) (F0 m 109 ls1 []) := by
                  intro n
                  induction n with
                  | zero => intros; omega
                  | succ n ih109 =>
                    intro q f9 K9 H locs ls hw hc hl hq hkp hld hmu
                    refine lv_iload hx hb dX11_load_109 (lv_at hl 7 rfl) ?_
                    refine lv_iload_n hx hb dX11_load_111 rfl (lv_at hl 3 rfl) ?_
                    refine n_cge C (by omega) (by omega) (tgt := 149) dX11_load_112 (by decide) (fun cq34 => ?_) (fun cq34 => ?_)
                    · have hq9 : m9 / 2 = q := by omega
                      refine lv_aload hx hb dX11_load_149 (lv_at hl 6 rfl) ?_
                      refine h_get C hw bX4 (co.a2 hc) lk3 3 (by decide) lk7 (v := .int (nI q)) (congrArg (fun z => some (Value.int z)) hld.2.2.2.1) dX11_load_151 ?_
                      refine n_i2l C (by omega) dX11_load_154 ?_
                      have hKn : ∀ jj, jj ≠ 3 → jj ≠ 14 → jj ≠ 15 → jj ≠ 2 → K9 jj = K jj := hld.1
                      have hAn : ∀ jj, jj ≠ 2 → jj ≠ 3 → jj ≠ 0 → (stS (ldA A 0 (24 * i + j9) q) 0 (nI q)) jj = A jj := fun jj h2 h3 h4 => by unfold stS; rw [va_up_ne _ _ h4]; exact ldAn _ _ _ _ h2 h3
                      exact h_lret C hr hlk hw (cop (A1 := stS (ldA A 0 (24 * i + j9) q) 0 (nI q)) (by simp only [op_load, if_pos cq3, nI_clamp (show i < 2 ^ 31 by omega), hA6, if_pos (show 0 ≤ nI nl from Int32.not_lt.mp (nI_pos (by omega))), if_neg (show ¬ nI m9 < 0 from nI_pos (by omega)), nI_clamp (show m9 < 2 ^ 31 by omega), if_neg (show ¬ m9 % 2 = 1 by omega), nI_clamp (show nl < 2 ^ 31 by omega), if_neg (show ¬ nI j9 < 0 from nI_pos (by omega)), nI_clamp (show j9 < 2 ^ 31 by omega), if_pos hkl, if_pos hzA, ld2, if_pos hw0, if_pos (show m9 / 2 ≤ 10 by omega)] <;> rw [hq9]) hc ⟨(inA_c hr9.1 ⟨q, by omega, by unfold stS; rw [va_up_self]⟩ (by unfold stS; rw [va_up_ne _ _ (by decide), ldAn _ _ _ _ (by decide) (by decide)]; exact hr9.1.2.1) (by unfold stS; rw [va_up_ne _ _ (by decide)]; exact ib_ld hpx (fun z9 h9 => (by rw [Nat.add_assoc]; exact hzA z9 h9)) (by omega)) (by unfold stS; rw [va_up_ne _ _ (by decide)]; exact ib_ld3 hpy (fun z9 h9 => (by rw [Nat.add_assoc]; exact hzA z9 h9)) (by omega)) (fun jj hj => (by unfold stS; rw [va_up_ne _ _ (by omega)]; exact ldAn _ _ _ _ (by omega) (by omega)))), (hr9.2.1.cg (hKn 11 (by omega) (by omega) (by omega) (by omega)) rfl), (hr9.2.2.1.cg hkp (fun i9 _ => hKn _ (by omega) (by omega) (by omega) (by omega)) (fun _ _ => rfl) (fun k9 _ _ => hAn k9 (by omega) (by omega) (by omega))), (hr9.2.2.2.1.cg hkp rfl (hAn 7 (by omega) (by omega) (by omega))), (pts_l2 hr9.2.2.2.2.1 hld (by omega)), (hr9.2.2.2.2.2.1.cg (fun k9 _ _ => hKn k9 (by omega) (by omega) (by omega) (by omega)) (hAn 5 (by omega) (by omega) (by omega)) (hAn 6 (by omega) (by omega) (by omega))), (hr9.2.2.2.2.2.2.1.cg (hKn 6 (by omega) (by omega) (by omega) (by omega)) (hKn 27 (by omega) (by omega) (by omega) (by omega)) (hAn 13 (by omega) (by omega) (by omega)) (hAn 14 (by omega) (by omega) (by omega))), (hr9.2.2.2.2.2.2.2.1.cg (hKn 9 (by omega) (by omega) (by omega) (by omega)) (hKn 10 (by omega) (by omega) (by omega) (by omega)) (hAn 12 (by omega) (by omega) (by omega))), (hr9.2.2.2.2.2.2.2.2.1.cg hkp rfl rfl), (mtg_w hld.2.1 (by rw [hAn 4 (by omega) (by omega) (by omega)]; exact hld.2.2.1.trans hMt.1))⟩) dX11_load_155
                    · refine lv_aload hx hb dX11_load_115 (lv_at hl 6 rfl) ?_
                      refine lv_aload hx hb dX11_load_117 (lv_at hl 5 rfl) ?_
                      refine h_get C hw bX5 (co.row hc (show i < 2 by omega)) lk9 0 (by decide) lk8 (v := .ref (ad (25 + i))) rfl dX11_load_119 ?_
                      refine lv_iload_n hx hb dX11_load_122 rfl (lv_at hl 2 rfl) ?_
                      refine lv_iload hx hb dX11_load_123 (lv_at hl 7 rfl) ?_
                      refine n_iadd C dX11_load_125 ?_
                      refine h_sald1 C hw (v := A 5 (24 * i + j9 + 2 * q)) (co.pla hc (show i < 2 by omega)) (by rw [hld.1 (25 + i) (by omega) (by omega) (by omega) (by omega), (hRw i (by omega)).2 _ nl hA6 hnl (by omega)]; congr 1; omega) (show j9 + (2 * q) < 24 from (by omega)) (by first | omega | decide) dX11_load_126 ?_
                      refine lv_aload hx hb dX11_load_127 (lv_at hl 5 rfl) ?_
                      refine h_get C hw bX5 (co.row hc (show i < 2 by omega)) lk9 0 (by decide) lk8 (v := .ref (ad (25 + i))) rfl dX11_load_129 ?_
                      refine lv_iload_n hx hb dX11_load_132 rfl (lv_at hl 2 rfl) ?_
                      refine lv_iload hx hb dX11_load_133 (lv_at hl 7 rfl) ?_
                      refine n_iadd C dX11_load_135 ?_
                      refine lv_iconst (v := nI 1) hx hb dX11_load_136 (by decide) ?_
                      refine n_iadd C dX11_load_137 ?_
                      refine h_sald1 C hw (v := A 5 (24 * i + j9 + 2 * q + 1)) (co.pla hc (show i < 2 by omega)) (by rw [hld.1 (25 + i) (by omega) (by omega) (by omega) (by omega), (hRw i (by omega)).2 _ nl hA6 hnl (by omega)]; congr 1; omega) (show j9 + (2 * q) + 1 < 24 from (by omega)) (by first | omega | decide) dX11_load_138 ?_
                      refine h_calli hw (h_runV (n := 2) (As := [.int (A 5 (24 * i + j9 + 2 * q)), .int (A 5 (24 * i + j9 + 2 * q + 1))]) (rest := []) C hw (c_X4_add ((co.a2 hc).trans (by rw [hld.2.2.2.1])) (co.a14 hc) (co.a15 hc) (by decide) (by omega) (hc.ap (by decide) (by decide) (by decide))) gX11_load_X4_add rfl rfl rfl (by decide +kernel) ⟨by decide, by decide⟩ bX4 (co.a2 hc) rfl hl.1 rfl (Nat.le_of_ble_eq_true rfl) dX11_load_139 ⟨by first | decide | omega | (dsimp only; omega), by first | decide | omega | (dsimp only; omega)⟩) (fun r35 f36 H locs hp hw => ?_)
                      obtain ⟨rfl, e37⟩ := hp
                      obtain ⟨f38, f39, e40, e41, e42⟩ : ∃ f38 f39, f38 = va_up f9 (ad 14) (some (eI cA 10 (upd (K9 14) q (A 5 (24 * i + j9 + 2 * q))))) ∧ f39 = va_up f38 (ad 15) (some (eI cA 10 (upd (K9 15) q (A 5 (24 * i + j9 + 2 * q + 1))))) ∧ f36 = va_up f39 (ad 2) (some (eO 4 [.int (nI 10), .ref (ad 14), .ref (ad 15), .int (nI (q + 1))])) := ⟨_, _, rfl, rfl, e37⟩
                      obtain ⟨K43, eK44, hc2⟩ := hc.upK 14 (κ := upd (K9 14) q (A 5 (24 * i + j9 + 2 * q))) (e := eI cA 10 (upd (K9 14) q (A 5 (24 * i + j9 + 2 * q)))) (by omega) rfl
                      have hc3 := hc
                      have hc := hc2.of e40
                      have kpK43 := kp_up hc3 14 (by omega) e40
                      have kfK43 := kp.tr (kp_le (hle.rf _)) kpK43
                      have kn45 : K43 2 0 = nI q := by rw [eK44, va_up_ne _ _ (by first | decide | omega)]; exact hld.2.2.2.1
                      obtain ⟨K46, eK47, hc2⟩ := hc.upK 15 (κ := upd (K9 15) q (A 5 (24 * i + j9 + 2 * q + 1))) (e := eI cA 10 (upd (K9 15) q (A 5 (24 * i + j9 + 2 * q + 1)))) (by omega) rfl
                      have hc3 := hc
                      have hc := hc2.of e41
                      have kpK46 := kp_up hc3 15 (by omega) e41
                      have kfK46 := kp.tr kfK43 kpK46
                      have kn48 : K46 2 0 = nI q := by rw [eK47, va_up_ne _ _ (by first | decide | omega)]; exact kn45
                      obtain ⟨K49, eK50, hc2⟩ := hc.upK 2 (κ := upd (K46 2) 0 (nI (q + 1))) (e := eO 4 [.int (nI 10), .ref (ad 14), .ref (ad 15), .int (nI (q + 1))]) (by omega) rfl
                      have hc3 := hc
                      have hc := hc2.of e42
                      have kpK49 := kp_up hc3 2 (by omega) e42
                      have kfK49 := kp.tr kfK46 kpK49
                      have kn51 : K49 2 0 = nI (q + 1) := by rw [eK50, va_up_self, pk_us]
                      refine lv_pop hx hb dX11_load_142 rfl ?_
                      refine lv_iinc (v := nI (2 * q + 2)) (lv' := [(7, _), (0, _), (1, _), (2, _), (3, _), (4, _), (5, _), (6, _)]) hx hb dX11_load_143 hl (k := 7) rfl (by rw [← nI_add]; rfl) (by decide) rfl (fun ls hl => ?_)
                      refine lv_goto (tgt := 109) hx hb dX11_load_146 (by decide) ?_
                      exact ih109 (q + 1) f36 K49 _ _ _ hw hc (lv_sub hl [1, 2, 3, 4, 5, 6, 7, 0] rfl) (by omega) (hkp.tr kfK49) (ld_si (by decide) hld eK44 eK47 eK50 rfl rfl) (by omega)
                exact lp109 _ 0 f27 K29 _ _ _ hw hc (lv_sub hl [3, 4, 5, 6, 7, 2, 1, 0] rfl) (by omega) kfK29 (ld_0i (by decide) eK24 eK30) (Nat.lt_succ_self _)
              · refine lv_aload_n hx hb dX11_load_86 rfl (lv_at hl 2 rfl) ?_
                refine lv_iconst (v := nI 4) hx hb dX11_load_87 (by decide) ?_
                refine h_calll hw (h_runV (n := 1) (As := [.int (nI 4)]) (rest := []) C hw (c_X11_finding hc (by omega)) gX11_load_X11_finding rfl rfl rfl (by decide +kernel) ⟨by decide, by decide⟩ bX11 (co.a0 hc) rfl hl.1 rfl (Nat.le_of_ble_eq_true rfl) dX11_load_88 ⟨by first | decide | omega | (dsimp only; omega), by first | decide | omega | (dsimp only; omega)⟩) (fun r52 f53 H locs hp hw => ?_)
                obtain ⟨rfl, K54, hc, eK55, kp56⟩ := hp
                exact h_lret C hr hlk hw (cop (by simp only [op_load, if_pos cq3, nI_clamp (show i < 2 ^ 31 by omega), hA6, if_pos (show 0 ≤ nI nl from Int32.not_lt.mp (nI_pos (by omega))), if_neg (show ¬ nI m9 < 0 from nI_pos (by omega)), nI_clamp (show m9 < 2 ^ 31 by omega), if_neg (show ¬ m9 % 2 = 1 by omega), nI_clamp (show nl < 2 ^ 31 by omega), if_neg (show ¬ nI j9 < 0 from nI_pos (by omega)), nI_clamp (show j9 < 2 ^ 31 by omega), if_pos hkl, if_pos hzA, ld2, if_pos hw0, if_neg (show ¬ m9 / 2 ≤ 10 by omega)]) hc (rp_fnd hr9 eK55 (kp.tr (kp_le (hle.rf f)) kp56) (by decide) hN)) dX11_load_91
            · refine h_callq hw (h_runV (n := 1) (As := [.int w]) (rest := []) C hw (c_X11_pointsOf hc) gX11_load_X11_pointsOf rfl rfl rfl (by decide +kernel) ⟨by decide, by decide⟩ bX11 (co.a0 hc) rfl hl.1 rfl (Nat.le_of_ble_eq_true rfl) dX11_load_70 ⟨by first | decide | omega | (dsimp only; omega), by first | decide | omega | (dsimp only; omega)⟩) (fun r57 f58 H locs hp hw => ?_)
              obtain ⟨hy9, hz9, rfl⟩ := hp
              have e59 := hz9 hw0
              subst e59
              refine lv_astore (lv' := [(6, _), (5, _), (0, _), (1, _), (2, _), (3, _), (4, _)]) hx hb dX11_load_73 hl (by decide) rfl (fun ls hl => ?_)
              refine lv_iload_n hx hb dX11_load_75 rfl (lv_at hl 5 rfl) ?_
              refine lv_iconst (v := nI 2) hx hb dX11_load_76 (by decide) ?_
              refine n_idiv C (by omega) (by decide) (by decide) dX11_load_77 ?_
              refine lv_aload hx hb dX11_load_78 (lv_at hl 0 rfl) ?_
              refine h_get C hw bX4 (co.a1 hc) lk3 0 (by decide) lk2 (v := .int (nI 12)) rfl dX11_load_80 ?_
              refine n_cle C (by omega) (by omega) (tgt := 92) dX11_load_83 (by decide) (fun cq60 => ?_) (fun cq60 => ?_)
              · refine lv_aload_n hx hb dX11_load_92 rfl (lv_at hl 2 rfl) ?_
                refine h_get C hw bX11 (co.a0 hc) lk1 2 (by decide) lk4 (v := .ref (ad 3)) rfl dX11_load_93 ?_
                refine lv_iconst (v := nI 0) hx hb dX11_load_96 (by decide) ?_
                refine h_put1 C hw bX1 (co.a3 hc) lk6 8 (by decide) lk5 rfl (by first | rfl | decide) rfl (Nat.le_of_ble_eq_true rfl) dX11_load_97 (fun f61 H locs e62 hw => ?_)
                obtain ⟨K63, eK64, hc2⟩ := hc.upK 3 (κ := upd (K 3) 1 (nI 0)) (e := eO 1 [.ref (ad 2), .ref (ad 1), .ref (ad 16), .ref (ad 17), .ref (ad 18), .ref (ad 19), .ref (ad 20), .int (K 3 0), .int (nI 0), .int (K 3 2)]) (by omega) rfl
                have hc3 := hc
                have hc := hc2.of e62
                have kpK63 := kp_up hc3 3 (by omega) e62
                have kfK63 := kp.tr (kp_le (hle.rf f)) kpK63
                have kn65 : K63 (23 + i) 0 = nI nl := by rw [eK64, va_up_ne _ _ (by first | decide | omega)]; exact (hK6.trans hA6)
                have kn66 : K63 3 1 = nI 0 := by rw [eK64, va_up_self, pk_us]
                refine lv_aload hx hb dX11_load_100 (lv_at hl 0 rfl) ?_
                refine lv_iconst (v := nI 0) hx hb dX11_load_102 (by decide) ?_
                refine h_put1 C hw bX4 (co.a1 hc) lk3 3 (by decide) lk7 rfl rfl rfl (Nat.le_of_ble_eq_true rfl) dX11_load_103 (fun f67 H locs e68 hw => ?_)
                obtain ⟨K69, eK70, hc2⟩ := hc.upK 1 (κ := upd (K63 1) 0 (nI 0)) (e := eO 4 [.int (nI 12), .ref (ad 12), .ref (ad 13), .int (nI 0)]) (by omega) rfl
                have hc3 := hc
                have hc := hc2.of e68
                have kpK69 := kp_up hc3 1 (by omega) e68
                have kfK69 := kp.tr kfK63 kpK69
                have kn71 : K69 (23 + i) 0 = nI nl := by rw [eK70, va_up_ne _ _ (by first | decide | omega)]; exact kn65
                have kn72 : K69 3 1 = nI 0 := by rw [eK70, va_up_ne _ _ (by first | decide | omega)]; exact kn66
                have kn73 : K69 1 0 = nI 0 := by rw [eK70, va_up_self, pk_us]
                refine lv_iconst (v := nI 0) hx hb dX11_load_106 (by decide) ?_
                refine lv_istore (lv' := [(7, _), (6, _), (5, _), (0, _), (1, _), (2, _), (3, _), (4, _)]) hx hb dX11_load_107 hl (by decide) rfl (fun ls hl => ?_)
                have lp109 : ∀ (n : Nat) (q : Nat) (f9 : HF) (K9 : Nat → Nat → Int32) (H1 : Heap) (locs1 : List Loc) (ls1 : Array Slot), hW D (hA f sz) s.heap f9 H1 locs1 → co cA ad K9 G f9 → lv_has ls1 8 [(0, .ref (ad 0)), (1, .int (nI i)), (2, .int (nI j9)), (3, .int (nI m9)), (4, .int w), (5, .ref (ad (23 + i))), (6, .ref (ad 1)), (7, .int (nI (2 * q)))] → (2 * q ≤ m9) → (kp f f9) → (ldI K K9 A 12 13 1 (24 * i + j9) q) → m9 - 2 * q < n → W p l e ({ frames := 2, cells := 0, slots := 0, locals := 43 } : Room) s m ([.ref (ad 0), .int (nI i), .int (nI j9), .int (nI m9), .int w]).toArray below meth c H1 locs1 0 0 (MQ below (va_Ql (fun r f1 => (op_load A B (nI i) (nI j9) (nI m9) w).1 = r ∧ ∃ K1 G1, co cA ad K1 G1 f1 ∧ rp ad K1 G1 (op_load A B (nI i) (nI j9) (nI m9) w).2.1 (op_load A B (nI i) (nI j9) (nI m9) w).2.2 (N + 1) f1) (hE D f sz) (hA f sz)) ([.ref (ad 0), .int (nI i), .int (nI j9), .int (nI m9), .int w]).toArray s 0 0 (hA f sz)) (F0 m 109 ls1 []) := by
                  intro n
                  induction n with
                  | zero => intros; omega
                  | succ n ih109 =>
                    intro q f9 K9 H locs ls hw hc hl hq hkp hld hmu
                    refine lv_iload hx hb dX11_load_109 (lv_at hl 7 rfl) ?_
                    refine lv_iload_n hx hb dX11_load_111 rfl (lv_at hl 3 rfl) ?_
                    refine n_cge C (by omega) (by omega) (tgt := 149) dX11_load_112 (by decide) (fun cq74 => ?_) (fun cq74 => ?_)
                    · have hq9 : m9 / 2 = q := by omega
                      refine lv_aload hx hb dX11_load_149 (lv_at hl 6 rfl) ?_
                      refine h_get C hw bX4 (co.a1 hc) lk3 3 (by decide) lk7 (v := .int (nI q)) (congrArg (fun z => some (Value.int z)) hld.2.2.2.1) dX11_load_151 ?_
                      refine n_i2l C (by omega) dX11_load_154 ?_
                      have hKn : ∀ jj, jj ≠ 3 → jj ≠ 12 → jj ≠ 13 → jj ≠ 1 → K9 jj = K jj := hld.1
                      have hAn : ∀ jj, jj ≠ 2 → jj ≠ 3 → jj ≠ 1 → (stS (ldA A 10 (24 * i + j9) q) 1 (nI q)) jj = A jj := fun jj h2 h3 h4 => by unfold stS; rw [va_up_ne _ _ h4]; exact ldAn _ _ _ _ h2 h3
                      exact h_lret C hr hlk hw (cop (A1 := stS (ldA A 10 (24 * i + j9) q) 1 (nI q)) (by simp only [op_load, if_pos cq3, nI_clamp (show i < 2 ^ 31 by omega), hA6, if_pos (show 0 ≤ nI nl from Int32.not_lt.mp (nI_pos (by omega))), if_neg (show ¬ nI m9 < 0 from nI_pos (by omega)), nI_clamp (show m9 < 2 ^ 31 by omega), if_neg (show ¬ m9 % 2 = 1 by omega), nI_clamp (show nl < 2 ^ 31 by omega), if_neg (show ¬ nI j9 < 0 from nI_pos (by omega)), nI_clamp (show j9 < 2 ^ 31 by omega), if_pos hkl, if_pos hzA, ld2, if_neg hw0, if_pos (show m9 / 2 ≤ 12 by omega)] <;> rw [hq9]) hc ⟨(inA_c hr9.1 (by unfold stS; rw [va_up_ne _ _ (by decide), ldAn _ _ _ _ (by decide) (by decide)]; exact hr9.1.1) ⟨q, by omega, by unfold stS; rw [va_up_self]⟩ (by unfold stS; rw [va_up_ne _ _ (by decide)]; exact ib_ld hpx (fun z9 h9 => (by rw [Nat.add_assoc]; exact hzA z9 h9)) (by omega)) (by unfold stS; rw [va_up_ne _ _ (by decide)]; exact ib_ld3 hpy (fun z9 h9 => (by rw [Nat.add_assoc]; exact hzA z9 h9)) (by omega)) (fun jj hj => (by unfold stS; rw [va_up_ne _ _ (by omega)]; exact ldAn _ _ _ _ (by omega) (by omega)))), (hr9.2.1.cg (hKn 11 (by omega) (by omega) (by omega) (by omega)) rfl), (hr9.2.2.1.cg hkp (fun i9 _ => hKn _ (by omega) (by omega) (by omega) (by omega)) (fun _ _ => rfl) (fun k9 _ _ => hAn k9 (by omega) (by omega) (by omega))), (hr9.2.2.2.1.cg hkp rfl (hAn 7 (by omega) (by omega) (by omega))), (pts_l1 hr9.2.2.2.2.1 hld (by omega)), (hr9.2.2.2.2.2.1.cg (fun k9 _ _ => hKn k9 (by omega) (by omega) (by omega) (by omega)) (hAn 5 (by omega) (by omega) (by omega)) (hAn 6 (by omega) (by omega) (by omega))), (hr9.2.2.2.2.2.2.1.cg (hKn 6 (by omega) (by omega) (by omega) (by omega)) (hKn 27 (by omega) (by omega) (by omega) (by omega)) (hAn 13 (by omega) (by omega) (by omega)) (hAn 14 (by omega) (by omega) (by omega))), (hr9.2.2.2.2.2.2.2.1.cg (hKn 9 (by omega) (by omega) (by omega) (by omega)) (hKn 10 (by omega) (by omega) (by omega) (by omega)) (hAn 12 (by omega) (by omega) (by omega))), (hr9.2.2.2.2.2.2.2.2.1.cg hkp rfl rfl), (mtg_w hld.2.1 (by rw [hAn 4 (by omega) (by omega) (by omega)]; exact hld.2.2.1.trans hMt.1))⟩) dX11_load_155
                    · refine lv_aload hx hb dX11_load_115 (lv_at hl 6 rfl) ?_
                      refine lv_aload hx hb dX11_load_117 (lv_at hl 5 rfl) ?_
                      refine h_get C hw bX5 (co.row hc (show i < 2 by omega)) lk9 0 (by decide) lk8 (v := .ref (ad (25 + i))) rfl dX11_load_119 ?_
                      refine lv_iload_n hx hb dX11_load_122 rfl (lv_at hl 2 rfl) ?_
                      refine lv_iload hx hb dX11_load_123 (lv_at hl 7 rfl) ?_
                      refine n_iadd C dX11_load_125 ?_
                      refine h_sald1 C hw (v := A 5 (24 * i + j9 + 2 * q)) (co.pla hc (show i < 2 by omega)) (by rw [hld.1 (25 + i) (by omega) (by omega) (by omega) (by omega), (hRw i (by omega)).2 _ nl hA6 hnl (by omega)]; congr 1; omega) (show j9 + (2 * q) < 24 from (by omega)) (by first | omega | decide) dX11_load_126 ?_
                      refine lv_aload hx hb dX11_load_127 (lv_at hl 5 rfl) ?_
                      refine h_get C hw bX5 (co.row hc (show i < 2 by omega)) lk9 0 (by decide) lk8 (v := .ref (ad (25 + i))) rfl dX11_load_129 ?_
                      refine lv_iload_n hx hb dX11_load_132 rfl (lv_at hl 2 rfl) ?_
                      refine lv_iload hx hb dX11_load_133 (lv_at hl 7 rfl) ?_
                      refine n_iadd C dX11_load_135 ?_
                      refine lv_iconst (v := nI 1) hx hb dX11_load_136 (by decide) ?_
                      refine n_iadd C dX11_load_137 ?_
                      refine h_sald1 C hw (v := A 5 (24 * i + j9 + 2 * q + 1)) (co.pla hc (show i < 2 by omega)) (by rw [hld.1 (25 + i) (by omega) (by omega) (by omega) (by omega), (hRw i (by omega)).2 _ nl hA6 hnl (by omega)]; congr 1; omega) (show j9 + (2 * q) + 1 < 24 from (by omega)) (by first | omega | decide) dX11_load_138 ?_
                      refine h_calli hw (h_runV (n := 2) (As := [.int (A 5 (24 * i + j9 + 2 * q)), .int (A 5 (24 * i + j9 + 2 * q + 1))]) (rest := []) C hw (c_X4_add ((co.a1 hc).trans (by rw [hld.2.2.2.1])) (co.a12 hc) (co.a13 hc) (by decide) (by omega) (hc.ap (by decide) (by decide) (by decide))) gX11_load_X4_add rfl rfl rfl (by decide +kernel) ⟨by decide, by decide⟩ bX4 (co.a1 hc) rfl hl.1 rfl (Nat.le_of_ble_eq_true rfl) dX11_load_139 ⟨by first | decide | omega | (dsimp only; omega), by first | decide | omega | (dsimp only; omega)⟩) (fun r75 f76 H locs hp hw => ?_)
                      obtain ⟨rfl, e77⟩ := hp
                      obtain ⟨f78, f79, e80, e81, e82⟩ : ∃ f78 f79, f78 = va_up f9 (ad 12) (some (eI cA 12 (upd (K9 12) q (A 5 (24 * i + j9 + 2 * q))))) ∧ f79 = va_up f78 (ad 13) (some (eI cA 12 (upd (K9 13) q (A 5 (24 * i + j9 + 2 * q + 1))))) ∧ f76 = va_up f79 (ad 1) (some (eO 4 [.int (nI 12), .ref (ad 12), .ref (ad 13), .int (nI (q + 1))])) := ⟨_, _, rfl, rfl, e77⟩
                      obtain ⟨K83, eK84, hc2⟩ := hc.upK 12 (κ := upd (K9 12) q (A 5 (24 * i + j9 + 2 * q))) (e := eI cA 12 (upd (K9 12) q (A 5 (24 * i + j9 + 2 * q)))) (by omega) rfl
                      have hc3 := hc
                      have hc := hc2.of e80
                      have kpK83 := kp_up hc3 12 (by omega) e80
                      have kfK83 := kp.tr (kp_le (hle.rf _)) kpK83
                      have kn85 : K83 1 0 = nI q := by rw [eK84, va_up_ne _ _ (by first | decide | omega)]; exact hld.2.2.2.1
                      obtain ⟨K86, eK87, hc2⟩ := hc.upK 13 (κ := upd (K9 13) q (A 5 (24 * i + j9 + 2 * q + 1))) (e := eI cA 12 (upd (K9 13) q (A 5 (24 * i + j9 + 2 * q + 1)))) (by omega) rfl
                      have hc3 := hc
                      have hc := hc2.of e81
                      have kpK86 := kp_up hc3 13 (by omega) e81
                      have kfK86 := kp.tr kfK83 kpK86
                      have kn88 : K86 1 0 = nI q := by rw [eK87, va_up_ne _ _ (by first | decide | omega)]; exact kn85
                      obtain ⟨K89, eK90, hc2⟩ := hc.upK 1 (κ := upd (K86 1) 0 (nI (q + 1))) (e := eO 4 [.int (nI 12), .ref (ad 12), .ref (ad 13), .int (nI (q + 1))]) (by omega) rfl
                      have hc3 := hc
                      have hc := hc2.of e82
                      have kpK89 := kp_up hc3 1 (by omega) e82
                      have kfK89 := kp.tr kfK86 kpK89
                      have kn91 : K89 1 0 = nI (q + 1) := by rw [eK90, va_up_self, pk_us]
                      refine lv_pop hx hb dX11_load_142 rfl ?_
                      refine lv_iinc (v := nI (2 * q + 2)) (lv' := [(7, _), (0, _), (1, _), (2, _), (3, _), (4, _), (5, _), (6, _)]) hx hb dX11_load_143 hl (k := 7) rfl (by rw [← nI_add]; rfl) (by decide) rfl (fun ls hl => ?_)
                      refine lv_goto (tgt := 109) hx hb dX11_load_146 (by decide) ?_
                      exact ih109 (q + 1) f76 K89 _ _ _ hw hc (lv_sub hl [1, 2, 3, 4, 5, 6, 7, 0] rfl) (by omega) (hkp.tr kfK89) (ld_si (by decide) hld eK84 eK87 eK90 rfl rfl) (by omega)
                exact lp109 _ 0 f67 K69 _ _ _ hw hc (lv_sub hl [3, 4, 5, 6, 7, 2, 1, 0] rfl) (by omega) kfK69 (ld_0i (by decide) eK64 eK70) (Nat.lt_succ_self _)
              · refine lv_aload_n hx hb dX11_load_86 rfl (lv_at hl 2 rfl) ?_
                refine lv_iconst (v := nI 4) hx hb dX11_load_87 (by decide) ?_
                refine h_calll hw (h_runV (n := 1) (As := [.int (nI 4)]) (rest := []) C hw (c_X11_finding hc (by omega)) gX11_load_X11_finding rfl rfl rfl (by decide +kernel) ⟨by decide, by decide⟩ bX11 (co.a0 hc) rfl hl.1 rfl (Nat.le_of_ble_eq_true rfl) dX11_load_88 ⟨by first | decide | omega | (dsimp only; omega), by first | decide | omega | (dsimp only; omega)⟩) (fun r92 f93 H locs hp hw => ?_)
                obtain ⟨rfl, K94, hc, eK95, kp96⟩ := hp
                exact h_lret C hr hlk hw (cop (by simp only [op_load, if_pos cq3, nI_clamp (show i < 2 ^ 31 by omega), hA6, if_pos (show 0 ≤ nI nl from Int32.not_lt.mp (nI_pos (by omega))), if_neg (show ¬ nI m9 < 0 from nI_pos (by omega)), nI_clamp (show m9 < 2 ^ 31 by omega), if_neg (show ¬ m9 % 2 = 1 by omega), nI_clamp (show nl < 2 ^ 31 by omega), if_neg (show ¬ nI j9 < 0 from nI_pos (by omega)), nI_clamp (show j9 < 2 ^ 31 by omega), if_pos hkl, if_pos hzA, ld2, if_neg hw0, if_neg (show ¬ m9 / 2 ≤ 12 by omega)]) hc (rp_fnd hr9 eK95 (kp.tr (kp_le (hle.rf f)) kp96) (by decide) hN)) dX11_load_91
          · refine lv_aload_n hx hb dX11_load_61 rfl (lv_at hl 1 rfl) ?_
            refine lv_iconst (v := nI 1) hx hb dX11_load_62 (by decide) ?_
            refine h_calll hw (h_runV (n := 1) (As := [.int (nI 1)]) (rest := []) C hw (c_X11_finding hc (by omega)) gX11_load_X11_finding rfl rfl rfl (by decide +kernel) ⟨by decide, by decide⟩ bX11 (co.a0 hc) rfl hl.1 rfl (Nat.le_of_ble_eq_true rfl) dX11_load_63 ⟨by first | decide | omega | (dsimp only; omega), by first | decide | omega | (dsimp only; omega)⟩) (fun r97 f98 H locs hp hw => ?_)
            obtain ⟨rfl, K99, hc, eK100, kp101⟩ := hp
            exact h_lret C hr hlk hw (cop (by simp only [op_load, if_pos cq3, nI_clamp (show i < 2 ^ 31 by omega), hA6, if_pos (show 0 ≤ nI nl from Int32.not_lt.mp (nI_pos (by omega))), if_neg (show ¬ nI m9 < 0 from nI_pos (by omega)), nI_clamp (show m9 < 2 ^ 31 by omega), if_neg (show ¬ m9 % 2 = 1 by omega), nI_clamp (show nl < 2 ^ 31 by omega)]; exact ld_no (fun z9 h9 => (hRw i (by omega)).2 z9 nl hA6 hnl h9) cq16) hc (rp_fnd hr9 eK100 (kp.tr (kp_le (hle.rf f)) kp101) (by decide) hN)) dX11_load_66
        · refine lv_aload_n hx hb dX11_load_45 rfl (lv_at hl 1 rfl) ?_
          refine lv_iconst (v := nI 5) hx hb dX11_load_46 (by decide) ?_
          refine h_calll hw (h_runV (n := 1) (As := [.int (nI 5)]) (rest := []) C hw (c_X11_finding hc (by omega)) gX11_load_X11_finding rfl rfl rfl (by decide +kernel) ⟨by decide, by decide⟩ bX11 (co.a0 hc) rfl hl.1 rfl (Nat.le_of_ble_eq_true rfl) dX11_load_47 ⟨by first | decide | omega | (dsimp only; omega), by first | decide | omega | (dsimp only; omega)⟩) (fun r102 f103 H locs hp hw => ?_)
          obtain ⟨rfl, K104, hc, eK105, kp106⟩ := hp
          exact h_lret C hr hlk hw (cop (by simp only [op_load, if_pos cq3, nI_clamp (show i < 2 ^ 31 by omega), hA6, if_pos (show 0 ≤ nI nl from Int32.not_lt.mp (nI_pos (by omega))), if_neg (show ¬ nI m9 < 0 from nI_pos (by omega)), nI_clamp (show m9 < 2 ^ 31 by omega), if_pos (show m9 % 2 = 1 by omega)]) hc (rp_fnd hr9 eK105 (kp.tr (kp_le (hle.rf f)) kp106) (by decide) hN)) dX11_load_50
    · refine lv_aload_n hx hb dX11_load_29 rfl (lv_at hl 1 rfl) ?_
      refine lv_iconst (v := nI 2) hx hb dX11_load_30 (by decide) ?_
      refine h_calll hw (h_runV (n := 1) (As := [.int (nI 2)]) (rest := []) C hw (c_X11_finding hc (by omega)) gX11_load_X11_finding rfl rfl rfl (by decide +kernel) ⟨by decide, by decide⟩ bX11 (co.a0 hc) rfl hl.1 rfl (Nat.le_of_ble_eq_true rfl) dX11_load_31 ⟨by first | decide | omega | (dsimp only; omega), by first | decide | omega | (dsimp only; omega)⟩) (fun r107 f108 H locs hp hw => ?_)
      obtain ⟨rfl, K109, hc, eK110, kp111⟩ := hp
      exact h_lret C hr hlk hw (cop (by simp only [op_load, if_pos cq3, nI_clamp (show i < 2 ^ 31 by omega), if_neg (show ¬ 0 ≤ A 6 i from Int32.not_le.mpr (by rw [← hK6]; exact cq6))]) hc (rp_fnd hr9 eK110 (kp.tr (kp_le (hle.rf f)) kp111) (by decide) hN)) dX11_load_34
  · refine lv_aload_n hx hb dX11_load_7 rfl (lv_at hl 0 rfl) ?_
    refine lv_iconst (v := nI 1) hx hb dX11_load_8 (by decide) ?_
    refine h_calll hw (h_runV (n := 1) (As := [.int (nI 1)]) (rest := []) C hw (c_X11_finding hc (by omega)) gX11_load_X11_finding rfl rfl rfl (by decide +kernel) ⟨by decide, by decide⟩ bX11 (co.a0 hc) rfl hl.1 rfl (Nat.le_of_ble_eq_true rfl) dX11_load_9 ⟨by first | decide | omega | (dsimp only; omega), by first | decide | omega | (dsimp only; omega)⟩) (fun r112 f113 H locs hp hw => ?_)
    obtain ⟨rfl, K114, hc, eK115, kp116⟩ := hp
    exact h_lret C hr hlk hw (cop (by simp only [op_load, if_neg cq3]) hc (rp_fnd hr9 eK115 (kp.tr (kp_le (hle.rf f)) kp116) (by decide) hN)) dX11_load_12
