/-! ===== the class: stars and spots (laid by program) ===== -/
theorem mtg_w {K1 : KK} {A1 : MA} (h1 : K1 3 1 = nI 0) (h2 : K1 3 2 = A1 4 0) : mtg K1 A1 := ⟨h2, Or.inl h1⟩
theorem inA_c {A A1 : MA} (h : inA A) (h0 : ∃ n, n ≤ 10 ∧ A1 0 0 = nI n) (h1 : ∃ n, n ≤ 12 ∧ A1 1 0 = nI n) (h2 : ∀ j, j < 22 → ib 199 (A1 2 j)) (h3 : ∀ j, j < 22 → ib 199 (A1 3 j)) (hA : ∀ j, 5 ≤ j → A1 j = A j) : inA A1 := by
  unfold inA
  rw [hA 13 (by omega), hA 6 (by omega), hA 10 (by omega), hA 11 (by omega), hA 7 (by omega), hA 12 (by omega)]
  exact ⟨h0, h1, h.2.2.1, h.2.2.2.1, h.2.2.2.2.1, h.2.2.2.2.2.1, h.2.2.2.2.2.2.1, h.2.2.2.2.2.2.2.1, h2, h3⟩
theorem pts_st {K K1 K2 K3 K4 : KK} {A : MA} {n : Nat} {u v : Int32} (h : pts K A) (hn : n < 12) (e1 : K1 = va_up K 3 (upd (K 3) 1 (nI 0))) (e2 : K2 = va_up K1 12 (upd (K1 12) n u)) (e3 : K3 = va_up K2 13 (upd (K1 13) n v)) (e4 : K4 = va_up K3 1 (upd (K3 1) 0 (nI (n + 1)))) : pts K4 (stS (stP (stP A 2 (10 + n) u) 3 (10 + n) v) 1 (nI (n + 1))) := by
  have k1 : K4 1 0 = nI (n + 1) := by rw [e4, va_up_self, pk_us]
  have k12 : K4 12 = upd (K 12) n u := by rw [e4, va_up_ne _ _ (by decide), e3, va_up_ne _ _ (by decide), e2, va_up_self, e1, va_up_ne _ _ (by decide)]
  have k13 : K4 13 = upd (K 13) n v := by rw [e4, va_up_ne _ _ (by decide), e3, va_up_self, e1, va_up_ne _ _ (by decide)]
  have kk : ∀ j, (j = 2 ∨ j = 14 ∨ j = 15) → K4 j = K j := fun j hj => by rw [e4, va_up_ne _ _ (by omega), e3, va_up_ne _ _ (by omega), e2, va_up_ne _ _ (by omega), e1, va_up_ne _ _ (by omega)]
  unfold pts stS stP
  rw [k1, k12, k13, kk 2 (by omega), kk 14 (by omega), kk 15 (by omega)]
  simp only [va_up_ne, va_up_self, ne_eq, reduceCtorEq, not_false_eq_true, Nat.reduceEqDiff]
  refine ⟨trivial, h.2.1, fun j hj => ?_, fun j hj => ?_⟩
  · by_cases e : j = n
    · subst e; rw [pk_us, pk_us, pk_us, pk_us]; exact ⟨rfl, rfl⟩
    · rw [pk_un e, pk_un e, pk_un (by omega), pk_un (by omega)]; exact h.2.2.1 j hj
  · rw [pk_un (by omega), pk_un (by omega)]; exact h.2.2.2 j hj
theorem pts_sp {K K1 K2 K3 K4 : KK} {A : MA} {n : Nat} {u v : Int32} (h : pts K A) (hn : n < 10) (e1 : K1 = va_up K 3 (upd (K 3) 1 (nI 0))) (e2 : K2 = va_up K1 14 (upd (K1 14) n u)) (e3 : K3 = va_up K2 15 (upd (K1 15) n v)) (e4 : K4 = va_up K3 2 (upd (K3 2) 0 (nI (n + 1)))) : pts K4 (stS (stP (stP A 2 n u) 3 n v) 0 (nI (n + 1))) := by
  have k1 : K4 2 0 = nI (n + 1) := by rw [e4, va_up_self, pk_us]
  have k12 : K4 14 = upd (K 14) n u := by rw [e4, va_up_ne _ _ (by decide), e3, va_up_ne _ _ (by decide), e2, va_up_self, e1, va_up_ne _ _ (by decide)]
  have k13 : K4 15 = upd (K 15) n v := by rw [e4, va_up_ne _ _ (by decide), e3, va_up_self, e1, va_up_ne _ _ (by decide)]
  have kk : ∀ j, (j = 1 ∨ j = 12 ∨ j = 13) → K4 j = K j := fun j hj => by rw [e4, va_up_ne _ _ (by omega), e3, va_up_ne _ _ (by omega), e2, va_up_ne _ _ (by omega), e1, va_up_ne _ _ (by omega)]
  unfold pts stS stP
  rw [k1, k12, k13, kk 1 (by omega), kk 12 (by omega), kk 13 (by omega)]
  simp only [va_up_ne, va_up_self, ne_eq, reduceCtorEq, not_false_eq_true, Nat.reduceEqDiff]
  refine ⟨h.1, trivial, fun j hj => ?_, fun j hj => ?_⟩
  · rw [pk_un (by omega), pk_un (by omega)]; exact h.2.2.1 j hj
  · by_cases e : j = n
    · subst e; rw [pk_us, pk_us, pk_us, pk_us]; exact ⟨rfl, rfl⟩
    · rw [pk_un e, pk_un e, pk_un e, pk_un e]; exact h.2.2.2 j hj
theorem pts_c1 {K K1 K2 : KK} {A : MA} (h : pts K A) (e1 : K1 = va_up K 1 (upd (K 1) 0 (nI 0))) (e2 : K2 = va_up K1 3 (upd (K1 3) 1 (nI 0))) : pts K2 (stS A 1 (nI 0)) := by
  have k1 : K2 1 0 = nI 0 := by rw [e2, va_up_ne _ _ (by decide), e1, va_up_self, pk_us]
  have kk : ∀ j, (j = 2 ∨ j = 12 ∨ j = 13 ∨ j = 14 ∨ j = 15) → K2 j = K j := fun j hj => by rw [e2, va_up_ne _ _ (by omega), e1, va_up_ne _ _ (by omega)]
  unfold pts stS
  rw [k1, kk 2 (by omega), kk 12 (by omega), kk 13 (by omega), kk 14 (by omega), kk 15 (by omega), va_up_self, va_up_ne _ _ (by decide), va_up_ne _ _ (by decide), va_up_ne _ _ (by decide)]
  exact ⟨rfl, h.2⟩
theorem pts_c2 {K K1 K2 : KK} {A : MA} (h : pts K A) (e1 : K1 = va_up K 2 (upd (K 2) 0 (nI 0))) (e2 : K2 = va_up K1 3 (upd (K1 3) 1 (nI 0))) : pts K2 (stS A 0 (nI 0)) := by
  have k1 : K2 2 0 = nI 0 := by rw [e2, va_up_ne _ _ (by decide), e1, va_up_self, pk_us]
  have kk : ∀ j, (j = 1 ∨ j = 12 ∨ j = 13 ∨ j = 14 ∨ j = 15) → K2 j = K j := fun j hj => by rw [e2, va_up_ne _ _ (by omega), e1, va_up_ne _ _ (by omega)]
  unfold pts stS
  rw [k1, kk 1 (by omega), kk 12 (by omega), kk 13 (by omega), kk 14 (by omega), kk 15 (by omega), va_up_self, va_up_ne _ _ (by decide), va_up_ne _ _ (by decide), va_up_ne _ _ (by decide)]
  exact ⟨h.1, rfl, h.2.2⟩
theorem inA_r {A : MA} {r : Nat} {n : Int32} {g : Nat → Int32} (h : inA A) (hn : n = -1 ∨ ∃ m, m ≤ 24 ∧ n = nI m) : inA (va_up (stP A 6 r n) 5 g) := by
  unfold inA stP
  simp only [va_up_ne, va_up_self, ne_eq, reduceCtorEq, not_false_eq_true, Nat.reduceEqDiff]
  refine ⟨h.1, h.2.1, h.2.2.1, fun q hq => ?_, h.2.2.2.2⟩
  by_cases e : q = r
  · subst e; rw [pk_us]; exact hn
  · rw [pk_un e]; exact h.2.2.2.1 q hq
theorem rn_of {n : Int32} (h1 : -1 ≤ n) (h2 : n ≤ nI 24) : n = -1 ∨ ∃ m, m ≤ 24 ∧ n = nI m := by
  by_cases h : n < 0
  · left
    apply (c_int32 _ _).mpr
    rw [Int32.le_iff_toInt_le] at h1
    rw [Int32.lt_iff_toInt_lt] at h
    have e1 : (-1 : Int32).toInt = -1 := rfl
    have e2 : (0 : Int32).toInt = 0 := rfl
    omega
  · right
    obtain ⟨m, hm, rfl⟩ := nI_of h
    exact ⟨m, by have := (nI_leI (by omega) (by decide)).mp h2; omega, rfl⟩
theorem rws_b {K K1 K2 : KK} {A : MA} {r : Nat} {n : Int32} (h : rws K A) (hr : r < 2) (hn : n.toNatClampNeg ≤ 24) (e1 : K1 = va_up K (23 + r) (upd (K (23 + r)) 0 n)) (e2 : K2 = va_up K1 (25 + r) (bgF (K (25 + r)) 24)) : rws K2 (rowA A r n n.toNatClampNeg) := fun q hq => by
  have a6 : rowA A r n n.toNatClampNeg 6 = upd (A 6) r n := by unfold rowA stP; rw [va_up_ne _ _ (by decide), va_up_self]
  have a5 : rowA A r n n.toNatClampNeg 5 = fun j => if 24 * r ≤ j ∧ j < 24 * r + n.toNatClampNeg then -1 else A 5 j := by unfold rowA; rw [va_up_self]
  rw [a6, a5]
  by_cases e : q = r
  · subst e
    refine ⟨by rw [e2, va_up_ne _ _ (by omega), e1, va_up_self, pk_us, pk_us], fun i m hm hm2 hi => ?_⟩
    rw [pk_us] at hm
    have hc : n.toNatClampNeg = m := by rw [hm, nI_clamp (by omega)]
    rw [e2, va_up_self]
    unfold bgF
    rw [if_pos (by omega)]
    exact (if_pos (by omega)).symm
  · obtain ⟨g1, g2⟩ := h q hq
    refine ⟨by rw [e2, va_up_ne _ _ (by omega), e1, va_up_ne _ _ (by omega), pk_un e]; exact g1, fun i m hm hm2 hi => ?_⟩
    rw [pk_un e] at hm
    rw [e2, va_up_ne _ _ (by omega), e1, va_up_ne _ _ (by omega), g2 i m hm hm2 hi]
    by_cases h9 : 24 * r ≤ 24 * q + i ∧ 24 * q + i < 24 * r + n.toNatClampNeg
    · exfalso
      omega
    · exact (if_neg h9).symm
theorem bv16 (x : BitVec 32) : (x <<< 16).sshiftRight 16 = (x.setWidth 16).signExtend 32 := by
  apply BitVec.eq_of_getLsbD_eq
  intro i hi
  simp only [BitVec.getLsbD_sshiftRight, BitVec.getLsbD_signExtend, BitVec.getLsbD_shiftLeft, BitVec.getLsbD_setWidth]
  have h32 : ¬ 32 ≤ i := by omega
  by_cases h : i < 16
  · have h1 : 16 + i < 32 := by omega
    have h2 : ¬ 16 + i < 16 := by omega
    simp [h, hi, h32, h1, h2]
  · have h1 : ¬ 16 + i < 32 := by omega
    have e2 : (x.setWidth 16).msb = x.getMsbD 16 := by
      rw [BitVec.msb_eq_getLsbD_last, BitVec.getLsbD_setWidth, BitVec.getMsbD_eq_getLsbD]
      simp
    simp [h, hi, h32, h1, e2]
theorem sh_t (v : Int32) : v <<< (nI 16 &&& 31) >>> (nI 16 &&& 31) = v.toInt16.toInt32 := by
  apply Int32.toBitVec_inj.mp
  rw [Int32.toBitVec_shiftRight, Int32.toBitVec_shiftLeft]
  have e : (nI 16 &&& 31).toBitVec.smod 32 = 16#32 := by decide
  rw [e]
  show (v.toBitVec <<< 16).sshiftRight 16 = (v.toBitVec.signExtend 16).signExtend 32
  rw [BitVec.signExtend_eq_setWidth_of_le v.toBitVec (by decide)]
  exact bv16 v.toBitVec
theorem sh_nar (v : Int32) : vp_nar .short v.toInt16.toInt32 = shA v := by
  rw [vp_nar_short, fb_short_twice]
  exact (sh_t v).symm
theorem inA_5 {A : MA} {g : Nat → Int32} (h : inA A) : inA (va_up A 5 g) := by
  unfold inA
  simp only [va_up_ne, ne_eq, reduceCtorEq, not_false_eq_true, Nat.reduceEqDiff]
  exact h
theorem rws_p {K K1 : KK} {A : MA} {r i n : Nat} {v w : Int32} (h : rws K A) (hr : r < 2) (h6 : A 6 r = nI n) (hn : n ≤ 24) (hi : i < n) (hv : v = w) (e1 : K1 = va_up K (25 + r) (upd (K (25 + r)) i v)) : rws K1 (stP A 5 (24 * r + i) w) := fun q hq => by
  subst hv
  have a6 : stP A 5 (24 * r + i) v 6 = A 6 := va_up_ne _ _ (by decide)
  have a5 : stP A 5 (24 * r + i) v 5 = upd (A 5) (24 * r + i) v := va_up_self _ _ _
  rw [a6, a5]
  obtain ⟨g1, g2⟩ := h q hq
  refine ⟨by rw [e1, va_up_ne _ _ (by omega)]; exact g1, fun j m hm hm2 hj => ?_⟩
  by_cases e : q = r
  · subst e
    rw [e1, va_up_self]
    by_cases e2 : j = i
    · subst e2; rw [pk_us, pk_us]
    · rw [pk_un e2, pk_un (by omega)]; exact g2 j m hm hm2 hj
  · rw [e1, va_up_ne _ _ (by omega), pk_un (by omega)]; exact g2 j m hm hm2 hj
theorem rs_len {A : MA} {i : Nat} (hrs : ∀ r, r < 2 → A 6 r = -1 ∨ ∃ n, n ≤ 24 ∧ A 6 r = nI n) (hi : i < 2) (h : ¬ A 6 i < 0) : ∃ n, n ≤ 24 ∧ A 6 i = nI n := rs_nn hrs hi (Int32.not_lt.mp h)
theorem hs_eq24 {k : Int32} {n : Nat} (hn : n ≤ 24) : (¬ k < nI 0 ∧ k < nI n) ↔ rg (nI 0) (nI n - nI 1) k := by
  have h1 : (nI n - nI 1).toInt = (n : Int) - 1 := pk_sub_toInt (by omega) (by decide)
  have h2 : (nI n).toInt = (n : Int) := nI_toInt (by omega)
  unfold rg
  rw [Int32.lt_iff_toInt_lt, Int32.lt_iff_toInt_lt, Int32.lt_iff_toInt_lt, h1, h2]
  omega
set_option maxHeartbeats 4000000 in
set_option maxRecDepth 100000 in
theorem c_X11_near {l : Launch} {D : va_G} {cA : Nat → ClassId} {f : HF} {sz : Nat} {ad : Nat → Nat} {K : KK} {G : GG} {A : MA} {B : MB} {N : Nat} {t : Int32}  (hc : co cA ad K G f) (hr9 : rp ad K G A B N f) (hN : N < 2 ^ 20) : Met l yX11_near wsX11_near ({ frames := 1, cells := 0, slots := 0, locals := 21 } : Room) (va_Pc [.ref (ad 0), .int t] (hB D cA f sz)) (va_Ql (fun r f1 => (op_near A B t).1 = r ∧ ∃ K1 G1, co cA ad K1 G1 f1 ∧ rp ad K1 G1 (op_near A B t).2.1 (op_near A B t).2.2 (N + 1) f1) (hE D f sz) (hA f sz)) 0 0 (hA f sz) := by
  refine h_of (cc := cX11_near) (maxL := 3) (ret := (some .long)) (by decide +kernel) rfl (Nat.le_of_ble_eq_true rfl) ?_
  intro p e s m below meth c ls C hr hlk hnm hw hl
  have hx := C.1.1
  have hb := C.1.2.1
  have hl : lv_has ls 3 [(0, .ref (ad 0)), (1, .int t)] := hl
  have lk0 : Cond.fieldLink RX11 26 "FallingLight" "matching" "LFallingLight$Matching;" ∈ wsX11_near := by decide +kernel
  have lk1 : ∀ w ∈ u_ws RX11 TX11 11, w ∈ wsX11_near := by decide +kernel
  have lk2 : Cond.fieldLink RX11 129 "FallingLight$Matching" "nearness" "I" ∈ wsX11_near := by decide +kernel
  have lk3 : ∀ w ∈ u_ws RX1 TX1 10, w ∈ wsX11_near := by decide +kernel
  have lk4 : Cond.fieldLink RX11 96 "FallingLight$Matching" "fresh" "Z" ∈ wsX11_near := by decide +kernel
  obtain ⟨hI, hF, hS, hT, hP, hRw, hTp, hWd, hTr, hMt⟩ := id hr9
  obtain ⟨-, -, -, hrs, hso, hwy, hst, hdr, hpx, hpy⟩ := id hI
  refine lv_iload_n hx hb dX11_near_0 rfl (lv_at hl 1 rfl) ?_
  refine lv_if_lt (tgt := 10) hx hb dX11_near_1 (by decide) (fun cq1 => ?_) (fun cq1 => ?_)
  · refine lv_aload_n hx hb dX11_near_10 rfl (lv_at hl 0 rfl) ?_
    refine lv_iconst (v := nI 1) hx hb dX11_near_11 (by decide) ?_
    refine h_calll hw (h_runV (n := 1) (As := [.int (nI 1)]) (rest := []) C hw (c_X11_finding hc (by omega)) gX11_near_X11_finding rfl rfl rfl (by decide +kernel) ⟨by decide, by decide⟩ bX11 (co.a0 hc) rfl hl.1 rfl (Nat.le_of_ble_eq_true rfl) dX11_near_12 ⟨by first | decide | omega, by first | decide | omega⟩) (fun r2 f3 H locs hp hw => ?_)
    obtain ⟨rfl, K4, hc, eK5, kp6⟩ := hp
    exact h_lret C hr hlk hw (cop (by simp only [op_near, if_neg (rg_lo cq1)]) hc (rp_fnd hr9 eK5 (kp.tr (kp_le (hle.rf f)) kp6) (by decide) hN)) dX11_near_15
  · refine lv_iload_n hx hb dX11_near_4 rfl (lv_at hl 1 rfl) ?_
    refine lv_bipush (v := nI 99) hx hb dX11_near_5 (by decide) ?_
    refine lv_icmp_le (tgt := 16) hx hb dX11_near_7 (by decide) (fun cq7 => ?_) (fun cq7 => ?_)
    · refine lv_aload_n hx hb dX11_near_16 rfl (lv_at hl 0 rfl) ?_
      refine h_get C hw bX11 (co.a0 hc) lk1 2 (by decide) lk0 (v := .ref (ad 3)) rfl dX11_near_17 ?_
      refine h_get C hw bX1 (co.a3 hc) lk3 9 (by decide) lk2 (v := .int (K 3 2)) rfl dX11_near_20 ?_
      refine lv_istore_n (lv' := [(2, _), (0, _), (1, _)]) hx hb dX11_near_23 rfl hl (by decide) rfl (fun ls hl => ?_)
      refine lv_aload_n hx hb dX11_near_24 rfl (lv_at hl 1 rfl) ?_
      refine h_get C hw bX11 (co.a0 hc) lk1 2 (by decide) lk0 (v := .ref (ad 3)) rfl dX11_near_25 ?_
      refine lv_iload_n hx hb dX11_near_28 rfl (lv_at hl 2 rfl) ?_
      refine h_put1 C hw bX1 (co.a3 hc) lk3 9 (by decide) lk2 rfl rfl rfl (Nat.le_of_ble_eq_true rfl) dX11_near_29 (fun f8 H locs e9 hw => ?_)
      obtain ⟨K10, eK11, hc2⟩ := hc.upK 3 (κ := upd (K 3) 2 t) (e := eO 1 [.ref (ad 2), .ref (ad 1), .ref (ad 16), .ref (ad 17), .ref (ad 18), .ref (ad 19), .ref (ad 20), .int (K 3 0), .int (K 3 1), .int t]) (by omega) rfl
      have hc3 := hc
      have hc := hc2.of e9
      have kpK10 := kp_up hc3 3 (by omega) e9
      have kfK10 := kp.tr (kp_le (hle.rf f)) kpK10
      refine lv_aload_n hx hb dX11_near_32 rfl (lv_at hl 1 rfl) ?_
      refine h_get C hw bX11 (co.a0 hc) lk1 2 (by decide) lk0 (v := .ref (ad 3)) rfl dX11_near_33 ?_
      refine lv_iconst (v := nI 0) hx hb dX11_near_36 (by decide) ?_
      refine h_put1 C hw bX1 (co.a3 hc) lk3 8 (by decide) lk4 rfl (by first | rfl | decide) rfl (Nat.le_of_ble_eq_true rfl) dX11_near_37 (fun f12 H locs e13 hw => ?_)
      obtain ⟨K14, eK15, hc2⟩ := hc.upK 3 (κ := upd (K10 3) 1 (nI 0)) (e := eO 1 [.ref (ad 2), .ref (ad 1), .ref (ad 16), .ref (ad 17), .ref (ad 18), .ref (ad 19), .ref (ad 20), .int (K10 3 0), .int (nI 0), .int (K10 3 2)]) (by omega) rfl
      have hc3 := hc
      have hc := hc2.of e13
      have kpK14 := kp_up hc3 3 (by omega) e13
      have kfK14 := kp.tr kfK10 kpK14
      have kn16 : K14 3 1 = nI 0 := by rw [eK15, va_up_self, pk_us]
      refine lv_iload_n hx hb dX11_near_40 rfl (lv_at hl 0 rfl) ?_
      refine lv_i2l hx hb dX11_near_41 rfl ?_
      have hKn : ∀ jj, jj ≠ 3 → K14 jj = K jj := fun jj h0 => by rw [eK15, va_up_ne _ _ h0, eK11, va_up_ne _ _ h0]
      have hAn : ∀ jj, jj ≠ 4 → (stS A 4 t) jj = A jj := fun jj a0 => by simp only [stS, stP, rowA, ldA, wyS, sgS, va_up_ne, ne_eq, not_false_eq_true, a0]
      exact h_lret C hr hlk hw (cop (A1 := stS A 4 t) (by simp only [op_near, if_pos (rg_of cq1 cq7), ← hMt.1] <;> rfl) hc ⟨(inA_c hr9.1 hr9.1.1 hr9.1.2.1 hpx hpy (fun j _ => va_up_ne _ _ (by omega))), (hr9.2.1.cg (hKn 11 (by omega)) rfl), (hr9.2.2.1.cg kfK14 (fun i9 _ => (hKn (28 + i9) (by omega))) (fun i9 _ => rfl) (fun k9 _ _ => (hAn k9 (by omega)))), (hr9.2.2.2.1.cg kfK14 rfl (hAn 7 (by omega))), (hr9.2.2.2.2.1.cg (fun k9 _ => hKn k9 (by omega)) (fun k9 _ => hAn k9 (by omega))), (hr9.2.2.2.2.2.1.cg (fun k9 _ _ => (hKn k9 (by omega))) (hAn 5 (by omega)) (hAn 6 (by omega))), (hr9.2.2.2.2.2.2.1.cg (hKn 6 (by omega)) (hKn 27 (by omega)) (hAn 13 (by omega)) (hAn 14 (by omega))), (hr9.2.2.2.2.2.2.2.1.cg (hKn 9 (by omega)) (hKn 10 (by omega)) (hAn 12 (by omega))), (hr9.2.2.2.2.2.2.2.2.1.cg kfK14 rfl rfl), (mtg_w (by rw [eK15, va_up_self, pk_us]) (by rw [eK15, va_up_self, pk_un (by decide), eK11, va_up_self, pk_us]; unfold stS; rw [va_up_self]))⟩) dX11_near_42
    · refine lv_aload_n hx hb dX11_near_10 rfl (lv_at hl 0 rfl) ?_
      refine lv_iconst (v := nI 1) hx hb dX11_near_11 (by decide) ?_
      refine h_calll hw (h_runV (n := 1) (As := [.int (nI 1)]) (rest := []) C hw (c_X11_finding hc (by omega)) gX11_near_X11_finding rfl rfl rfl (by decide +kernel) ⟨by decide, by decide⟩ bX11 (co.a0 hc) rfl hl.1 rfl (Nat.le_of_ble_eq_true rfl) dX11_near_12 ⟨by first | decide | omega, by first | decide | omega⟩) (fun r17 f18 H locs hp hw => ?_)
      obtain ⟨rfl, K19, hc, eK20, kp21⟩ := hp
      exact h_lret C hr hlk hw (cop (by simp only [op_near, if_neg (rg_hi cq7)]) hc (rp_fnd hr9 eK20 (kp.tr (kp_le (hle.rf f)) kp21) (by decide) hN)) dX11_near_15
set_option maxHeartbeats 4000000 in
set_option maxRecDepth 100000 in
theorem c_X11_addPoint_1 {l : Launch} {D : va_G} {cA : Nat → ClassId} {f : HF} {sz : Nat} {ad : Nat → Nat} {K : KK} {G : GG} {A : MA} {B : MB} {N : Nat} {nt : Nat} {u v : Int32}  (hc : co cA ad K G f) (hr9 : rp ad K G A B N f) (hN : N < 2 ^ 20) (hnt : A 1 0 = nI nt) (hnt2 : nt ≤ 12) : Met l yX11_addPoint wsX11_addPoint ({ frames := 1, cells := 0, slots := 0, locals := 22 } : Room) (va_Pc [.ref (ad 0), .ref (ad 1), .int u, .int v] (hB D cA f sz)) (va_Ql (fun r f1 => (op_star A B nt u v).1 = r ∧ ∃ K1 G1, co cA ad K1 G1 f1 ∧ rp ad K1 G1 (op_star A B nt u v).2.1 (op_star A B nt u v).2.2 (N + 1) f1) (hE D f sz) (hA f sz)) 0 0 (hA f sz) := by
  refine h_of (cc := cX11_addPoint) (maxL := 4) (ret := (some .long)) (by decide +kernel) rfl (Nat.le_of_ble_eq_true rfl) ?_
  intro p e s m below meth c ls C hr hlk hnm hw hl
  have hx := C.1.1
  have hb := C.1.2.1
  have hl : lv_has ls 4 [(0, .ref (ad 0)), (1, .ref (ad 1)), (2, .int u), (3, .int v)] := hl
  have lk0 : Cond.fieldLink RX11 89 "FallingLight$Points" "size" "I" ∈ wsX11_addPoint := by decide +kernel
  have lk1 : ∀ w ∈ u_ws RX4 TX4 4, w ∈ wsX11_addPoint := by decide +kernel
  have lk2 : Cond.fieldLink RX11 93 "FallingLight$Points" "limit" "I" ∈ wsX11_addPoint := by decide +kernel
  have lk3 : Cond.fieldLink RX11 26 "FallingLight" "matching" "LFallingLight$Matching;" ∈ wsX11_addPoint := by decide +kernel
  have lk4 : ∀ w ∈ u_ws RX11 TX11 11, w ∈ wsX11_addPoint := by decide +kernel
  have lk5 : Cond.fieldLink RX11 96 "FallingLight$Matching" "fresh" "Z" ∈ wsX11_addPoint := by decide +kernel
  have lk6 : ∀ w ∈ u_ws RX1 TX1 10, w ∈ wsX11_addPoint := by decide +kernel
  obtain ⟨hI, hF, hS, hT, hP, hRw, hTp, hWd, hTr, hMt⟩ := id hr9
  obtain ⟨-, -, -, hrs, hso, hwy, hst, hdr, hpx, hpy⟩ := id hI
  refine lv_iload_n hx hb dX11_addPoint_0 rfl (lv_at hl 2 rfl) ?_
  refine h_calli hw (h_runS (n := 1) (As := [.int u]) (rest := []) C hw c_X11_isOnPlate gX11_addPoint_X11_isOnPlate rfl rfl rfl (by decide +kernel) ⟨by decide, by decide⟩ rfl hl.1 rfl (Nat.le_of_ble_eq_true rfl) dX11_addPoint_1 ⟨by first | decide | omega, by first | decide | omega⟩) (fun r1 f2 H locs hp hw => ?_)
  obtain ⟨rfl, rfl⟩ := hp
  refine n_ifeqB C (tgt := 14) dX11_addPoint_4 (by decide) (fun cq3 => ?_) (fun cq3 => ?_)
  · refine lv_aload_n hx hb dX11_addPoint_14 rfl (lv_at hl 0 rfl) ?_
    refine lv_iconst (v := nI 1) hx hb dX11_addPoint_15 (by decide) ?_
    refine h_calll hw (h_runV (n := 1) (As := [.int (nI 1)]) (rest := []) C hw (c_X11_finding hc (by omega)) gX11_addPoint_X11_finding rfl rfl rfl (by decide +kernel) ⟨by decide, by decide⟩ bX11 (co.a0 hc) rfl hl.1 rfl (Nat.le_of_ble_eq_true rfl) dX11_addPoint_16 ⟨by first | decide | omega, by first | decide | omega⟩) (fun r4 f5 H locs hp hw => ?_)
    obtain ⟨rfl, K6, hc, eK7, kp8⟩ := hp
    exact h_lret C hr hlk hw (cop (by simp only [op_star, if_neg cq3]) hc (rp_fnd hr9 eK7 (kp.tr (kp_le (hle.rf f)) kp8) (by decide) hN)) dX11_addPoint_19
  · refine lv_iload_n hx hb dX11_addPoint_7 rfl (lv_at hl 3 rfl) ?_
    refine h_calli hw (h_runS (n := 1) (As := [.int v]) (rest := []) C hw c_X11_isOnPlate gX11_addPoint_X11_isOnPlate rfl rfl rfl (by decide +kernel) ⟨by decide, by decide⟩ rfl hl.1 rfl (Nat.le_of_ble_eq_true rfl) dX11_addPoint_8 ⟨by first | decide | omega, by first | decide | omega⟩) (fun r9 f10 H locs hp hw => ?_)
    obtain ⟨rfl, rfl⟩ := hp
    refine n_ifneB C (tgt := 20) dX11_addPoint_11 (by decide) (fun cq11 => ?_) (fun cq11 => ?_)
    · refine lv_aload_n hx hb dX11_addPoint_20 rfl (lv_at hl 1 rfl) ?_
      refine h_get C hw bX4 (co.a1 hc) lk1 3 (by decide) lk0 (v := .int (nI nt)) (congrArg (fun z => some (Value.int z)) (hP.1.trans hnt)) dX11_addPoint_21 ?_
      refine lv_aload_n hx hb dX11_addPoint_24 rfl (lv_at hl 1 rfl) ?_
      refine h_get C hw bX4 (co.a1 hc) lk1 0 (by decide) lk2 (v := .int (nI 12)) rfl dX11_addPoint_25 ?_
      refine n_clt C (by omega) (by omega) (tgt := 37) dX11_addPoint_28 (by decide) (fun cq12 => ?_) (fun cq12 => ?_)
      · refine lv_aload_n hx hb dX11_addPoint_37 rfl (lv_at hl 0 rfl) ?_
        refine h_get C hw bX11 (co.a0 hc) lk4 2 (by decide) lk3 (v := .ref (ad 3)) rfl dX11_addPoint_38 ?_
        refine lv_iconst (v := nI 0) hx hb dX11_addPoint_41 (by decide) ?_
        refine h_put1 C hw bX1 (co.a3 hc) lk6 8 (by decide) lk5 rfl (by first | rfl | decide) rfl (Nat.le_of_ble_eq_true rfl) dX11_addPoint_42 (fun f13 H locs e14 hw => ?_)
        obtain ⟨K15, eK16, hc2⟩ := hc.upK 3 (κ := upd (K 3) 1 (nI 0)) (e := eO 1 [.ref (ad 2), .ref (ad 1), .ref (ad 16), .ref (ad 17), .ref (ad 18), .ref (ad 19), .ref (ad 20), .int (K 3 0), .int (nI 0), .int (K 3 2)]) (by omega) rfl
        have hc3 := hc
        have hc := hc2.of e14
        have kpK15 := kp_up hc3 3 (by omega) e14
        have kfK15 := kp.tr (kp_le (hle.rf f)) kpK15
        have kn17 : K15 1 0 = nI nt := by rw [eK16, va_up_ne _ _ (by first | decide | omega)]; exact (hP.1.trans hnt)
        have kn18 : K15 3 1 = nI 0 := by rw [eK16, va_up_self, pk_us]
        refine lv_aload_n hx hb dX11_addPoint_45 rfl (lv_at hl 1 rfl) ?_
        refine lv_iload_n hx hb dX11_addPoint_46 rfl (lv_at hl 2 rfl) ?_
        refine lv_iload_n hx hb dX11_addPoint_47 rfl (lv_at hl 3 rfl) ?_
        refine h_calli hw (h_runV (n := 2) (As := [.int u, .int v]) (rest := []) C hw (c_X4_add ((co.a1 hc).trans (by rw [kn17])) (co.a12 hc) (co.a13 hc) (by decide) (by omega) (hc.ap (by decide) (by decide) (by decide))) gX11_addPoint_X4_add rfl rfl rfl (by decide +kernel) ⟨by decide, by decide⟩ bX4 (co.a1 hc) rfl hl.1 rfl (Nat.le_of_ble_eq_true rfl) dX11_addPoint_48 ⟨by first | decide | omega, by first | decide | omega⟩) (fun r19 f20 H locs hp hw => ?_)
        obtain ⟨rfl, e21⟩ := hp
        obtain ⟨f22, f23, e24, e25, e26⟩ : ∃ f22 f23, f22 = va_up f13 (ad 12) (some (eI cA 12 (upd (K15 12) nt u))) ∧ f23 = va_up f22 (ad 13) (some (eI cA 12 (upd (K15 13) nt v))) ∧ f20 = va_up f23 (ad 1) (some (eO 4 [.int (nI 12), .ref (ad 12), .ref (ad 13), .int (nI (nt + 1))])) := ⟨_, _, rfl, rfl, e21⟩
        obtain ⟨K27, eK28, hc2⟩ := hc.upK 12 (κ := upd (K15 12) nt u) (e := eI cA 12 (upd (K15 12) nt u)) (by omega) rfl
        have hc3 := hc
        have hc := hc2.of e24
        have kpK27 := kp_up hc3 12 (by omega) e24
        have kfK27 := kp.tr kfK15 kpK27
        have kn29 : K27 1 0 = nI nt := by rw [eK28, va_up_ne _ _ (by first | decide | omega)]; exact kn17
        have kn30 : K27 3 1 = nI 0 := by rw [eK28, va_up_ne _ _ (by first | decide | omega)]; exact kn18
        obtain ⟨K31, eK32, hc2⟩ := hc.upK 13 (κ := upd (K15 13) nt v) (e := eI cA 12 (upd (K15 13) nt v)) (by omega) rfl
        have hc3 := hc
        have hc := hc2.of e25
        have kpK31 := kp_up hc3 13 (by omega) e25
        have kfK31 := kp.tr kfK27 kpK31
        have kn33 : K31 1 0 = nI nt := by rw [eK32, va_up_ne _ _ (by first | decide | omega)]; exact kn29
        have kn34 : K31 3 1 = nI 0 := by rw [eK32, va_up_ne _ _ (by first | decide | omega)]; exact kn30
        obtain ⟨K35, eK36, hc2⟩ := hc.upK 1 (κ := upd (K31 1) 0 (nI (nt + 1))) (e := eO 4 [.int (nI 12), .ref (ad 12), .ref (ad 13), .int (nI (nt + 1))]) (by omega) rfl
        have hc3 := hc
        have hc := hc2.of e26
        have kpK35 := kp_up hc3 1 (by omega) e26
        have kfK35 := kp.tr kfK31 kpK35
        have kn37 : K35 3 1 = nI 0 := by rw [eK36, va_up_ne _ _ (by first | decide | omega)]; exact kn34
        have kn38 : K35 1 0 = nI (nt + 1) := by rw [eK36, va_up_self, pk_us]
        refine n_i2l C (by omega) dX11_addPoint_51 ?_
        have hKn : ∀ jj, jj ≠ 3 → jj ≠ 12 → jj ≠ 13 → jj ≠ 1 → K35 jj = K jj := fun jj h0 h1 h2 h3 => by rw [eK36, va_up_ne _ _ h3, eK32, va_up_ne _ _ h2, eK28, va_up_ne _ _ h1, eK16, va_up_ne _ _ h0]
        have hAn : ∀ jj, jj ≠ 2 → jj ≠ 3 → jj ≠ 1 → (stS (stP (stP A 2 (10 + nt) u) 3 (10 + nt) v) 1 (nI (nt + 1))) jj = A jj := fun jj a0 a1 a2 => by simp only [stS, stP, rowA, ldA, wyS, sgS, va_up_ne, ne_eq, not_false_eq_true, a0, a1, a2]
        exact h_lret C hr hlk hw (cop (A1 := stS (stP (stP A 2 (10 + nt) u) 3 (10 + nt) v) 1 (nI (nt + 1))) (by simp only [op_star, if_pos cq3, if_pos cq11, if_neg (show ¬ nt = 12 by omega)] <;> rfl) hc ⟨(inA_c hr9.1 (by unfold stS stP; rw [va_up_ne _ _ (by decide), va_up_ne _ _ (by decide), va_up_ne _ _ (by decide)]; exact hr9.1.1) ⟨nt + 1, by omega, by unfold stS; rw [va_up_self]⟩ (fun j hj => (by unfold stS stP; rw [va_up_ne _ _ (by decide), va_up_ne _ _ (by decide), va_up_self]; exact ib_upd hpx (ib_rg cq3) j hj)) (fun j hj => (by unfold stS stP; rw [va_up_ne _ _ (by decide), va_up_self, va_up_ne _ _ (by decide)]; exact ib_upd hpy (ib_rg cq11) j hj)) (fun j hj => hAn j (by omega) (by omega) (by omega))), (hr9.2.1.cg (hKn 11 (by omega) (by omega) (by omega) (by omega)) rfl), (hr9.2.2.1.cg kfK35 (fun i9 _ => (hKn (28 + i9) (by omega) (by omega) (by omega) (by omega))) (fun i9 _ => rfl) (fun k9 _ _ => (hAn k9 (by omega) (by omega) (by omega)))), (hr9.2.2.2.1.cg kfK35 rfl (hAn 7 (by omega) (by omega) (by omega))), (pts_st hr9.2.2.2.2.1 (by omega) eK16 eK28 eK32 eK36), (hr9.2.2.2.2.2.1.cg (fun k9 _ _ => (hKn k9 (by omega) (by omega) (by omega) (by omega))) (hAn 5 (by omega) (by omega) (by omega)) (hAn 6 (by omega) (by omega) (by omega))), (hr9.2.2.2.2.2.2.1.cg (hKn 6 (by omega) (by omega) (by omega) (by omega)) (hKn 27 (by omega) (by omega) (by omega) (by omega)) (hAn 13 (by omega) (by omega) (by omega)) (hAn 14 (by omega) (by omega) (by omega))), (hr9.2.2.2.2.2.2.2.1.cg (hKn 9 (by omega) (by omega) (by omega) (by omega)) (hKn 10 (by omega) (by omega) (by omega) (by omega)) (hAn 12 (by omega) (by omega) (by omega))), (hr9.2.2.2.2.2.2.2.2.1.cg kfK35 rfl rfl), (mtg_w (by rw [eK36, va_up_ne _ _ (by decide), eK32, va_up_ne _ _ (by decide), eK28, va_up_ne _ _ (by decide), eK16, va_up_self, pk_us]) (by rw [eK36, va_up_ne _ _ (by decide), eK32, va_up_ne _ _ (by decide), eK28, va_up_ne _ _ (by decide), eK16, va_up_self, pk_un (by decide), hAn 4 (by decide) (by decide) (by decide)]; exact hMt.1))⟩) dX11_addPoint_52
      · refine lv_aload_n hx hb dX11_addPoint_31 rfl (lv_at hl 0 rfl) ?_
        refine lv_iconst (v := nI 4) hx hb dX11_addPoint_32 (by decide) ?_
        refine h_calll hw (h_runV (n := 1) (As := [.int (nI 4)]) (rest := []) C hw (c_X11_finding hc (by omega)) gX11_addPoint_X11_finding rfl rfl rfl (by decide +kernel) ⟨by decide, by decide⟩ bX11 (co.a0 hc) rfl hl.1 rfl (Nat.le_of_ble_eq_true rfl) dX11_addPoint_33 ⟨by first | decide | omega, by first | decide | omega⟩) (fun r39 f40 H locs hp hw => ?_)
        obtain ⟨rfl, K41, hc, eK42, kp43⟩ := hp
        exact h_lret C hr hlk hw (cop (by simp only [op_star, if_pos cq3, if_pos cq11, if_pos (show nt = 12 by omega)]) hc (rp_fnd hr9 eK42 (kp.tr (kp_le (hle.rf f)) kp43) (by decide) hN)) dX11_addPoint_36
    · refine lv_aload_n hx hb dX11_addPoint_14 rfl (lv_at hl 0 rfl) ?_
      refine lv_iconst (v := nI 1) hx hb dX11_addPoint_15 (by decide) ?_
      refine h_calll hw (h_runV (n := 1) (As := [.int (nI 1)]) (rest := []) C hw (c_X11_finding hc (by omega)) gX11_addPoint_X11_finding rfl rfl rfl (by decide +kernel) ⟨by decide, by decide⟩ bX11 (co.a0 hc) rfl hl.1 rfl (Nat.le_of_ble_eq_true rfl) dX11_addPoint_16 ⟨by first | decide | omega, by first | decide | omega⟩) (fun r44 f45 H locs hp hw => ?_)
      obtain ⟨rfl, K46, hc, eK47, kp48⟩ := hp
      exact h_lret C hr hlk hw (cop (by simp only [op_star, if_pos cq3, if_neg cq11]) hc (rp_fnd hr9 eK47 (kp.tr (kp_le (hle.rf f)) kp48) (by decide) hN)) dX11_addPoint_19
set_option maxHeartbeats 4000000 in
set_option maxRecDepth 100000 in
theorem c_X11_addPoint_2 {l : Launch} {D : va_G} {cA : Nat → ClassId} {f : HF} {sz : Nat} {ad : Nat → Nat} {K : KK} {G : GG} {A : MA} {B : MB} {N : Nat} {ns : Nat} {u v : Int32}  (hc : co cA ad K G f) (hr9 : rp ad K G A B N f) (hN : N < 2 ^ 20) (hns : A 0 0 = nI ns) (hns2 : ns ≤ 10) : Met l yX11_addPoint wsX11_addPoint ({ frames := 1, cells := 0, slots := 0, locals := 22 } : Room) (va_Pc [.ref (ad 0), .ref (ad 2), .int u, .int v] (hB D cA f sz)) (va_Ql (fun r f1 => (op_spot A B ns u v).1 = r ∧ ∃ K1 G1, co cA ad K1 G1 f1 ∧ rp ad K1 G1 (op_spot A B ns u v).2.1 (op_spot A B ns u v).2.2 (N + 1) f1) (hE D f sz) (hA f sz)) 0 0 (hA f sz) := by
  refine h_of (cc := cX11_addPoint) (maxL := 4) (ret := (some .long)) (by decide +kernel) rfl (Nat.le_of_ble_eq_true rfl) ?_
  intro p e s m below meth c ls C hr hlk hnm hw hl
  have hx := C.1.1
  have hb := C.1.2.1
  have hl : lv_has ls 4 [(0, .ref (ad 0)), (1, .ref (ad 2)), (2, .int u), (3, .int v)] := hl
  have lk0 : Cond.fieldLink RX11 89 "FallingLight$Points" "size" "I" ∈ wsX11_addPoint := by decide +kernel
  have lk1 : ∀ w ∈ u_ws RX4 TX4 4, w ∈ wsX11_addPoint := by decide +kernel
  have lk2 : Cond.fieldLink RX11 93 "FallingLight$Points" "limit" "I" ∈ wsX11_addPoint := by decide +kernel
  have lk3 : Cond.fieldLink RX11 26 "FallingLight" "matching" "LFallingLight$Matching;" ∈ wsX11_addPoint := by decide +kernel
  have lk4 : ∀ w ∈ u_ws RX11 TX11 11, w ∈ wsX11_addPoint := by decide +kernel
  have lk5 : Cond.fieldLink RX11 96 "FallingLight$Matching" "fresh" "Z" ∈ wsX11_addPoint := by decide +kernel
  have lk6 : ∀ w ∈ u_ws RX1 TX1 10, w ∈ wsX11_addPoint := by decide +kernel
  obtain ⟨hI, hF, hS, hT, hP, hRw, hTp, hWd, hTr, hMt⟩ := id hr9
  obtain ⟨-, -, -, hrs, hso, hwy, hst, hdr, hpx, hpy⟩ := id hI
  refine lv_iload_n hx hb dX11_addPoint_0 rfl (lv_at hl 2 rfl) ?_
  refine h_calli hw (h_runS (n := 1) (As := [.int u]) (rest := []) C hw c_X11_isOnPlate gX11_addPoint_X11_isOnPlate rfl rfl rfl (by decide +kernel) ⟨by decide, by decide⟩ rfl hl.1 rfl (Nat.le_of_ble_eq_true rfl) dX11_addPoint_1 ⟨by first | decide | omega, by first | decide | omega⟩) (fun r1 f2 H locs hp hw => ?_)
  obtain ⟨rfl, rfl⟩ := hp
  refine n_ifeqB C (tgt := 14) dX11_addPoint_4 (by decide) (fun cq3 => ?_) (fun cq3 => ?_)
  · refine lv_aload_n hx hb dX11_addPoint_14 rfl (lv_at hl 0 rfl) ?_
    refine lv_iconst (v := nI 1) hx hb dX11_addPoint_15 (by decide) ?_
    refine h_calll hw (h_runV (n := 1) (As := [.int (nI 1)]) (rest := []) C hw (c_X11_finding hc (by omega)) gX11_addPoint_X11_finding rfl rfl rfl (by decide +kernel) ⟨by decide, by decide⟩ bX11 (co.a0 hc) rfl hl.1 rfl (Nat.le_of_ble_eq_true rfl) dX11_addPoint_16 ⟨by first | decide | omega, by first | decide | omega⟩) (fun r4 f5 H locs hp hw => ?_)
    obtain ⟨rfl, K6, hc, eK7, kp8⟩ := hp
    exact h_lret C hr hlk hw (cop (by simp only [op_spot, if_neg cq3]) hc (rp_fnd hr9 eK7 (kp.tr (kp_le (hle.rf f)) kp8) (by decide) hN)) dX11_addPoint_19
  · refine lv_iload_n hx hb dX11_addPoint_7 rfl (lv_at hl 3 rfl) ?_
    refine h_calli hw (h_runS (n := 1) (As := [.int v]) (rest := []) C hw c_X11_isOnPlate gX11_addPoint_X11_isOnPlate rfl rfl rfl (by decide +kernel) ⟨by decide, by decide⟩ rfl hl.1 rfl (Nat.le_of_ble_eq_true rfl) dX11_addPoint_8 ⟨by first | decide | omega, by first | decide | omega⟩) (fun r9 f10 H locs hp hw => ?_)
    obtain ⟨rfl, rfl⟩ := hp
    refine n_ifneB C (tgt := 20) dX11_addPoint_11 (by decide) (fun cq11 => ?_) (fun cq11 => ?_)
    · refine lv_aload_n hx hb dX11_addPoint_20 rfl (lv_at hl 1 rfl) ?_
      refine h_get C hw bX4 (co.a2 hc) lk1 3 (by decide) lk0 (v := .int (nI ns)) (congrArg (fun z => some (Value.int z)) (hP.2.1.trans hns)) dX11_addPoint_21 ?_
      refine lv_aload_n hx hb dX11_addPoint_24 rfl (lv_at hl 1 rfl) ?_
      refine h_get C hw bX4 (co.a2 hc) lk1 0 (by decide) lk2 (v := .int (nI 10)) rfl dX11_addPoint_25 ?_
      refine n_clt C (by omega) (by omega) (tgt := 37) dX11_addPoint_28 (by decide) (fun cq12 => ?_) (fun cq12 => ?_)
      · refine lv_aload_n hx hb dX11_addPoint_37 rfl (lv_at hl 0 rfl) ?_
        refine h_get C hw bX11 (co.a0 hc) lk4 2 (by decide) lk3 (v := .ref (ad 3)) rfl dX11_addPoint_38 ?_
        refine lv_iconst (v := nI 0) hx hb dX11_addPoint_41 (by decide) ?_
        refine h_put1 C hw bX1 (co.a3 hc) lk6 8 (by decide) lk5 rfl (by first | rfl | decide) rfl (Nat.le_of_ble_eq_true rfl) dX11_addPoint_42 (fun f13 H locs e14 hw => ?_)
        obtain ⟨K15, eK16, hc2⟩ := hc.upK 3 (κ := upd (K 3) 1 (nI 0)) (e := eO 1 [.ref (ad 2), .ref (ad 1), .ref (ad 16), .ref (ad 17), .ref (ad 18), .ref (ad 19), .ref (ad 20), .int (K 3 0), .int (nI 0), .int (K 3 2)]) (by omega) rfl
        have hc3 := hc
        have hc := hc2.of e14
        have kpK15 := kp_up hc3 3 (by omega) e14
        have kfK15 := kp.tr (kp_le (hle.rf f)) kpK15
        have kn17 : K15 2 0 = nI ns := by rw [eK16, va_up_ne _ _ (by first | decide | omega)]; exact (hP.2.1.trans hns)
        have kn18 : K15 3 1 = nI 0 := by rw [eK16, va_up_self, pk_us]
        refine lv_aload_n hx hb dX11_addPoint_45 rfl (lv_at hl 1 rfl) ?_
        refine lv_iload_n hx hb dX11_addPoint_46 rfl (lv_at hl 2 rfl) ?_
        refine lv_iload_n hx hb dX11_addPoint_47 rfl (lv_at hl 3 rfl) ?_
        refine h_calli hw (h_runV (n := 2) (As := [.int u, .int v]) (rest := []) C hw (c_X4_add ((co.a2 hc).trans (by rw [kn17])) (co.a14 hc) (co.a15 hc) (by decide) (by omega) (hc.ap (by decide) (by decide) (by decide))) gX11_addPoint_X4_add rfl rfl rfl (by decide +kernel) ⟨by decide, by decide⟩ bX4 (co.a2 hc) rfl hl.1 rfl (Nat.le_of_ble_eq_true rfl) dX11_addPoint_48 ⟨by first | decide | omega, by first | decide | omega⟩) (fun r19 f20 H locs hp hw => ?_)
        obtain ⟨rfl, e21⟩ := hp
        obtain ⟨f22, f23, e24, e25, e26⟩ : ∃ f22 f23, f22 = va_up f13 (ad 14) (some (eI cA 10 (upd (K15 14) ns u))) ∧ f23 = va_up f22 (ad 15) (some (eI cA 10 (upd (K15 15) ns v))) ∧ f20 = va_up f23 (ad 2) (some (eO 4 [.int (nI 10), .ref (ad 14), .ref (ad 15), .int (nI (ns + 1))])) := ⟨_, _, rfl, rfl, e21⟩
        obtain ⟨K27, eK28, hc2⟩ := hc.upK 14 (κ := upd (K15 14) ns u) (e := eI cA 10 (upd (K15 14) ns u)) (by omega) rfl
        have hc3 := hc
        have hc := hc2.of e24
        have kpK27 := kp_up hc3 14 (by omega) e24
        have kfK27 := kp.tr kfK15 kpK27
        have kn29 : K27 2 0 = nI ns := by rw [eK28, va_up_ne _ _ (by first | decide | omega)]; exact kn17
        have kn30 : K27 3 1 = nI 0 := by rw [eK28, va_up_ne _ _ (by first | decide | omega)]; exact kn18
        obtain ⟨K31, eK32, hc2⟩ := hc.upK 15 (κ := upd (K15 15) ns v) (e := eI cA 10 (upd (K15 15) ns v)) (by omega) rfl
        have hc3 := hc
        have hc := hc2.of e25
        have kpK31 := kp_up hc3 15 (by omega) e25
        have kfK31 := kp.tr kfK27 kpK31
        have kn33 : K31 2 0 = nI ns := by rw [eK32, va_up_ne _ _ (by first | decide | omega)]; exact kn29
        have kn34 : K31 3 1 = nI 0 := by rw [eK32, va_up_ne _ _ (by first | decide | omega)]; exact kn30
        obtain ⟨K35, eK36, hc2⟩ := hc.upK 2 (κ := upd (K31 2) 0 (nI (ns + 1))) (e := eO 4 [.int (nI 10), .ref (ad 14), .ref (ad 15), .int (nI (ns + 1))]) (by omega) rfl
        have hc3 := hc
        have hc := hc2.of e26
        have kpK35 := kp_up hc3 2 (by omega) e26
        have kfK35 := kp.tr kfK31 kpK35
        have kn37 : K35 3 1 = nI 0 := by rw [eK36, va_up_ne _ _ (by first | decide | omega)]; exact kn34
        have kn38 : K35 2 0 = nI (ns + 1) := by rw [eK36, va_up_self, pk_us]
        refine n_i2l C (by omega) dX11_addPoint_51 ?_
        have hKn : ∀ jj, jj ≠ 3 → jj ≠ 14 → jj ≠ 15 → jj ≠ 2 → K35 jj = K jj := fun jj h0 h1 h2 h3 => by rw [eK36, va_up_ne _ _ h3, eK32, va_up_ne _ _ h2, eK28, va_up_ne _ _ h1, eK16, va_up_ne _ _ h0]
        have hAn : ∀ jj, jj ≠ 2 → jj ≠ 3 → jj ≠ 0 → (stS (stP (stP A 2 ns u) 3 ns v) 0 (nI (ns + 1))) jj = A jj := fun jj a0 a1 a2 => by simp only [stS, stP, rowA, ldA, wyS, sgS, va_up_ne, ne_eq, not_false_eq_true, a0, a1, a2]
        exact h_lret C hr hlk hw (cop (A1 := stS (stP (stP A 2 ns u) 3 ns v) 0 (nI (ns + 1))) (by simp only [op_spot, if_pos cq3, if_pos cq11, if_neg (show ¬ ns = 10 by omega)] <;> rfl) hc ⟨(inA_c hr9.1 ⟨ns + 1, by omega, by unfold stS; rw [va_up_self]⟩ (by unfold stS stP; rw [va_up_ne _ _ (by decide), va_up_ne _ _ (by decide), va_up_ne _ _ (by decide)]; exact hr9.1.2.1) (fun j hj => (by unfold stS stP; rw [va_up_ne _ _ (by decide), va_up_ne _ _ (by decide), va_up_self]; exact ib_upd hpx (ib_rg cq3) j hj)) (fun j hj => (by unfold stS stP; rw [va_up_ne _ _ (by decide), va_up_self, va_up_ne _ _ (by decide)]; exact ib_upd hpy (ib_rg cq11) j hj)) (fun j hj => hAn j (by omega) (by omega) (by omega))), (hr9.2.1.cg (hKn 11 (by omega) (by omega) (by omega) (by omega)) rfl), (hr9.2.2.1.cg kfK35 (fun i9 _ => (hKn (28 + i9) (by omega) (by omega) (by omega) (by omega))) (fun i9 _ => rfl) (fun k9 _ _ => (hAn k9 (by omega) (by omega) (by omega)))), (hr9.2.2.2.1.cg kfK35 rfl (hAn 7 (by omega) (by omega) (by omega))), (pts_sp hr9.2.2.2.2.1 (by omega) eK16 eK28 eK32 eK36), (hr9.2.2.2.2.2.1.cg (fun k9 _ _ => (hKn k9 (by omega) (by omega) (by omega) (by omega))) (hAn 5 (by omega) (by omega) (by omega)) (hAn 6 (by omega) (by omega) (by omega))), (hr9.2.2.2.2.2.2.1.cg (hKn 6 (by omega) (by omega) (by omega) (by omega)) (hKn 27 (by omega) (by omega) (by omega) (by omega)) (hAn 13 (by omega) (by omega) (by omega)) (hAn 14 (by omega) (by omega) (by omega))), (hr9.2.2.2.2.2.2.2.1.cg (hKn 9 (by omega) (by omega) (by omega) (by omega)) (hKn 10 (by omega) (by omega) (by omega) (by omega)) (hAn 12 (by omega) (by omega) (by omega))), (hr9.2.2.2.2.2.2.2.2.1.cg kfK35 rfl rfl), (mtg_w (by rw [eK36, va_up_ne _ _ (by decide), eK32, va_up_ne _ _ (by decide), eK28, va_up_ne _ _ (by decide), eK16, va_up_self, pk_us]) (by rw [eK36, va_up_ne _ _ (by decide), eK32, va_up_ne _ _ (by decide), eK28, va_up_ne _ _ (by decide), eK16, va_up_self, pk_un (by decide), hAn 4 (by decide) (by decide) (by decide)]; exact hMt.1))⟩) dX11_addPoint_52
      · refine lv_aload_n hx hb dX11_addPoint_31 rfl (lv_at hl 0 rfl) ?_
        refine lv_iconst (v := nI 4) hx hb dX11_addPoint_32 (by decide) ?_
        refine h_calll hw (h_runV (n := 1) (As := [.int (nI 4)]) (rest := []) C hw (c_X11_finding hc (by omega)) gX11_addPoint_X11_finding rfl rfl rfl (by decide +kernel) ⟨by decide, by decide⟩ bX11 (co.a0 hc) rfl hl.1 rfl (Nat.le_of_ble_eq_true rfl) dX11_addPoint_33 ⟨by first | decide | omega, by first | decide | omega⟩) (fun r39 f40 H locs hp hw => ?_)
        obtain ⟨rfl, K41, hc, eK42, kp43⟩ := hp
        exact h_lret C hr hlk hw (cop (by simp only [op_spot, if_pos cq3, if_pos cq11, if_pos (show ns = 10 by omega)]) hc (rp_fnd hr9 eK42 (kp.tr (kp_le (hle.rf f)) kp43) (by decide) hN)) dX11_addPoint_36
    · refine lv_aload_n hx hb dX11_addPoint_14 rfl (lv_at hl 0 rfl) ?_
      refine lv_iconst (v := nI 1) hx hb dX11_addPoint_15 (by decide) ?_
      refine h_calll hw (h_runV (n := 1) (As := [.int (nI 1)]) (rest := []) C hw (c_X11_finding hc (by omega)) gX11_addPoint_X11_finding rfl rfl rfl (by decide +kernel) ⟨by decide, by decide⟩ bX11 (co.a0 hc) rfl hl.1 rfl (Nat.le_of_ble_eq_true rfl) dX11_addPoint_16 ⟨by first | decide | omega, by first | decide | omega⟩) (fun r44 f45 H locs hp hw => ?_)
      obtain ⟨rfl, K46, hc, eK47, kp48⟩ := hp
      exact h_lret C hr hlk hw (cop (by simp only [op_spot, if_pos cq3, if_neg cq11]) hc (rp_fnd hr9 eK47 (kp.tr (kp_le (hle.rf f)) kp48) (by decide) hN)) dX11_addPoint_19
set_option maxHeartbeats 4000000 in
set_option maxRecDepth 100000 in
theorem c_X11_star {l : Launch} {D : va_G} {cA : Nat → ClassId} {f : HF} {sz : Nat} {ad : Nat → Nat} {K : KK} {G : GG} {A : MA} {B : MB} {N : Nat} {nt : Nat} {u v : Int32}  (hc : co cA ad K G f) (hr9 : rp ad K G A B N f) (hN : N < 2 ^ 20) (hnt : A 1 0 = nI nt) (hnt2 : nt ≤ 12) : Met l yX11_star wsX11_star ({ frames := 2, cells := 0, slots := 0, locals := 45 } : Room) (va_Pc [.ref (ad 0), .int u, .int v] (hB D cA f sz)) (va_Ql (fun r f1 => (op_star A B nt u v).1 = r ∧ ∃ K1 G1, co cA ad K1 G1 f1 ∧ rp ad K1 G1 (op_star A B nt u v).2.1 (op_star A B nt u v).2.2 (N + 1) f1) (hE D f sz) (hA f sz)) 0 0 (hA f sz) := by
  refine h_of (cc := cX11_star) (maxL := 3) (ret := (some .long)) (by decide +kernel) rfl (Nat.le_of_ble_eq_true rfl) ?_
  intro p e s m below meth c ls C hr hlk hnm hw hl
  have hx := C.1.1
  have hb := C.1.2.1
  have hl : lv_has ls 3 [(0, .ref (ad 0)), (1, .int u), (2, .int v)] := hl
  have lk0 : Cond.fieldLink RX11 14 "FallingLight" "starPoints" "LFallingLight$Points;" ∈ wsX11_star := by decide +kernel
  have lk1 : ∀ w ∈ u_ws RX11 TX11 11, w ∈ wsX11_star := by decide +kernel
  obtain ⟨hI, hF, hS, hT, hP, hRw, hTp, hWd, hTr, hMt⟩ := id hr9
  obtain ⟨-, -, -, hrs, hso, hwy, hst, hdr, hpx, hpy⟩ := id hI
  refine lv_aload_n hx hb dX11_star_0 rfl (lv_at hl 0 rfl) ?_
  refine lv_aload_n hx hb dX11_star_1 rfl (lv_at hl 0 rfl) ?_
  refine h_get C hw bX11 (co.a0 hc) lk1 0 (by decide) lk0 (v := .ref (ad 1)) rfl dX11_star_2 ?_
  refine lv_iload_n hx hb dX11_star_5 rfl (lv_at hl 1 rfl) ?_
  refine lv_iload_n hx hb dX11_star_6 rfl (lv_at hl 2 rfl) ?_
  refine h_calll hw (h_runV (n := 3) (As := [.ref (ad 1), .int u, .int v]) (rest := []) C hw (c_X11_addPoint_1 (A := A) (B := B) (N := N) hc hr9 hN hnt hnt2) gX11_star_X11_addPoint rfl rfl rfl (by decide +kernel) ⟨by decide, by decide⟩ bX11 (co.a0 hc) rfl hl.1 rfl (Nat.le_of_ble_eq_true rfl) dX11_star_7 ⟨by first | decide | omega, by first | decide | omega⟩) (fun r1 f2 H locs hp hw => ?_)
  exact h_lret C hr hlk hw (hp) dX11_star_10
set_option maxHeartbeats 4000000 in
set_option maxRecDepth 100000 in
theorem c_X11_spot {l : Launch} {D : va_G} {cA : Nat → ClassId} {f : HF} {sz : Nat} {ad : Nat → Nat} {K : KK} {G : GG} {A : MA} {B : MB} {N : Nat} {ns : Nat} {u v : Int32}  (hc : co cA ad K G f) (hr9 : rp ad K G A B N f) (hN : N < 2 ^ 20) (hns : A 0 0 = nI ns) (hns2 : ns ≤ 10) : Met l yX11_spot wsX11_spot ({ frames := 2, cells := 0, slots := 0, locals := 45 } : Room) (va_Pc [.ref (ad 0), .int u, .int v] (hB D cA f sz)) (va_Ql (fun r f1 => (op_spot A B ns u v).1 = r ∧ ∃ K1 G1, co cA ad K1 G1 f1 ∧ rp ad K1 G1 (op_spot A B ns u v).2.1 (op_spot A B ns u v).2.2 (N + 1) f1) (hE D f sz) (hA f sz)) 0 0 (hA f sz) := by
  refine h_of (cc := cX11_spot) (maxL := 3) (ret := (some .long)) (by decide +kernel) rfl (Nat.le_of_ble_eq_true rfl) ?_
  intro p e s m below meth c ls C hr hlk hnm hw hl
  have hx := C.1.1
  have hb := C.1.2.1
  have hl : lv_has ls 3 [(0, .ref (ad 0)), (1, .int u), (2, .int v)] := hl
  have lk0 : Cond.fieldLink RX11 18 "FallingLight" "spotPoints" "LFallingLight$Points;" ∈ wsX11_spot := by decide +kernel
  have lk1 : ∀ w ∈ u_ws RX11 TX11 11, w ∈ wsX11_spot := by decide +kernel
  obtain ⟨hI, hF, hS, hT, hP, hRw, hTp, hWd, hTr, hMt⟩ := id hr9
  obtain ⟨-, -, -, hrs, hso, hwy, hst, hdr, hpx, hpy⟩ := id hI
  refine lv_aload_n hx hb dX11_spot_0 rfl (lv_at hl 0 rfl) ?_
  refine lv_aload_n hx hb dX11_spot_1 rfl (lv_at hl 0 rfl) ?_
  refine h_get C hw bX11 (co.a0 hc) lk1 1 (by decide) lk0 (v := .ref (ad 2)) rfl dX11_spot_2 ?_
  refine lv_iload_n hx hb dX11_spot_5 rfl (lv_at hl 1 rfl) ?_
  refine lv_iload_n hx hb dX11_spot_6 rfl (lv_at hl 2 rfl) ?_
  refine h_calll hw (h_runV (n := 3) (As := [.ref (ad 2), .int u, .int v]) (rest := []) C hw (c_X11_addPoint_2 (A := A) (B := B) (N := N) hc hr9 hN hns hns2) gX11_spot_X11_addPoint rfl rfl rfl (by decide +kernel) ⟨by decide, by decide⟩ bX11 (co.a0 hc) rfl hl.1 rfl (Nat.le_of_ble_eq_true rfl) dX11_spot_7 ⟨by first | decide | omega, by first | decide | omega⟩) (fun r1 f2 H locs hp hw => ?_)
  exact h_lret C hr hlk hw (hp) dX11_spot_10
set_option maxHeartbeats 4000000 in
set_option maxRecDepth 100000 in
theorem c_X11_clear {l : Launch} {D : va_G} {cA : Nat → ClassId} {f : HF} {sz : Nat} {ad : Nat → Nat} {K : KK} {G : GG} {A : MA} {B : MB} {N : Nat} {ns nt : Nat} {w : Int32}  (hc : co cA ad K G f) (hr9 : rp ad K G A B N f) (hN : N < 2 ^ 20) (hns : A 0 0 = nI ns) (hnt : A 1 0 = nI nt) (hns2 : ns ≤ 10) (hnt2 : nt ≤ 12) : Met l yX11_clear wsX11_clear ({ frames := 1, cells := 0, slots := 0, locals := 21 } : Room) (va_Pc [.ref (ad 0), .int w] (hB D cA f sz)) (va_Ql (fun r f1 => (op_clear A B ns nt w).1 = r ∧ ∃ K1 G1, co cA ad K1 G1 f1 ∧ rp ad K1 G1 (op_clear A B ns nt w).2.1 (op_clear A B ns nt w).2.2 (N + 1) f1) (hE D f sz) (hA f sz)) 0 0 (hA f sz) := by
  refine h_of (cc := cX11_clear) (maxL := 4) (ret := (some .long)) (by decide +kernel) rfl (Nat.le_of_ble_eq_true rfl) ?_
  intro p e s m below meth c ls C hr hlk hnm hw hl
  have hx := C.1.1
  have hb := C.1.2.1
  have hl : lv_has ls 4 [(0, .ref (ad 0)), (1, .int w)] := hl
  have lk0 : Cond.fieldLink RX11 89 "FallingLight$Points" "size" "I" ∈ wsX11_clear := by decide +kernel
  have lk1 : ∀ w ∈ u_ws RX4 TX4 4, w ∈ wsX11_clear := by decide +kernel
  have lk2 : Cond.fieldLink RX11 26 "FallingLight" "matching" "LFallingLight$Matching;" ∈ wsX11_clear := by decide +kernel
  have lk3 : ∀ w ∈ u_ws RX11 TX11 11, w ∈ wsX11_clear := by decide +kernel
  have lk4 : Cond.fieldLink RX11 96 "FallingLight$Matching" "fresh" "Z" ∈ wsX11_clear := by decide +kernel
  have lk5 : ∀ w ∈ u_ws RX1 TX1 10, w ∈ wsX11_clear := by decide +kernel
  obtain ⟨hI, hF, hS, hT, hP, hRw, hTp, hWd, hTr, hMt⟩ := id hr9
  obtain ⟨-, -, -, hrs, hso, hwy, hst, hdr, hpx, hpy⟩ := id hI
  refine lv_aload_n hx hb dX11_clear_0 rfl (lv_at hl 0 rfl) ?_
  refine lv_iload_n hx hb dX11_clear_1 rfl (lv_at hl 1 rfl) ?_
  by_cases hw0 : w = 0
  · refine h_callq hw (h_runV (n := 1) (As := [.int w]) (rest := []) C hw (c_X11_pointsOf hc) gX11_clear_X11_pointsOf rfl rfl rfl (by decide +kernel) ⟨by decide, by decide⟩ bX11 (co.a0 hc) rfl hl.1 rfl (Nat.le_of_ble_eq_true rfl) dX11_clear_2 ⟨by first | decide | omega, by first | decide | omega⟩) (fun r1 f2 H locs hp hw => ?_)
    obtain ⟨hy9, hz9, rfl⟩ := hp
    have e3 := hy9 hw0
    subst e3
    refine lv_astore_n (lv' := [(2, _), (0, _), (1, _)]) hx hb dX11_clear_5 rfl hl (by decide) rfl (fun ls hl => ?_)
    refine lv_aload_n hx hb dX11_clear_6 rfl (lv_at hl 0 rfl) ?_
    refine h_get C hw bX4 (co.a2 hc) lk1 3 (by decide) lk0 (v := .int (nI ns)) (congrArg (fun z => some (Value.int z)) (hP.2.1.trans hns)) dX11_clear_7 ?_
    refine lv_istore_n (lv' := [(3, _), (2, _), (0, _), (1, _)]) hx hb dX11_clear_10 rfl hl (by decide) rfl (fun ls hl => ?_)
    refine lv_aload_n hx hb dX11_clear_11 rfl (lv_at hl 1 rfl) ?_
    refine lv_iconst (v := nI 0) hx hb dX11_clear_12 (by decide) ?_
    refine h_put1 C hw bX4 (co.a2 hc) lk1 3 (by decide) lk0 rfl rfl rfl (Nat.le_of_ble_eq_true rfl) dX11_clear_13 (fun f4 H locs e5 hw => ?_)
    obtain ⟨K6, eK7, hc2⟩ := hc.upK 2 (κ := upd (K 2) 0 (nI 0)) (e := eO 4 [.int (nI 10), .ref (ad 14), .ref (ad 15), .int (nI 0)]) (by omega) rfl
    have hc3 := hc
    have hc := hc2.of e5
    have kpK6 := kp_up hc3 2 (by omega) e5
    have kfK6 := kp.tr (kp_le (hle.rf f)) kpK6
    have kn8 : K6 1 0 = nI nt := by rw [eK7, va_up_ne _ _ (by first | decide | omega)]; exact (hP.1.trans hnt)
    have kn9 : K6 2 0 = nI 0 := by rw [eK7, va_up_self, pk_us]
    refine lv_aload_n hx hb dX11_clear_16 rfl (lv_at hl 2 rfl) ?_
    refine h_get C hw bX11 (co.a0 hc) lk3 2 (by decide) lk2 (v := .ref (ad 3)) rfl dX11_clear_17 ?_
    refine lv_iconst (v := nI 0) hx hb dX11_clear_20 (by decide) ?_
    refine h_put1 C hw bX1 (co.a3 hc) lk5 8 (by decide) lk4 rfl (by first | rfl | decide) rfl (Nat.le_of_ble_eq_true rfl) dX11_clear_21 (fun f10 H locs e11 hw => ?_)
    obtain ⟨K12, eK13, hc2⟩ := hc.upK 3 (κ := upd (K6 3) 1 (nI 0)) (e := eO 1 [.ref (ad 2), .ref (ad 1), .ref (ad 16), .ref (ad 17), .ref (ad 18), .ref (ad 19), .ref (ad 20), .int (K6 3 0), .int (nI 0), .int (K6 3 2)]) (by omega) rfl
    have hc3 := hc
    have hc := hc2.of e11
    have kpK12 := kp_up hc3 3 (by omega) e11
    have kfK12 := kp.tr kfK6 kpK12
    have kn14 : K12 1 0 = nI nt := by rw [eK13, va_up_ne _ _ (by first | decide | omega)]; exact kn8
    have kn15 : K12 2 0 = nI 0 := by rw [eK13, va_up_ne _ _ (by first | decide | omega)]; exact kn9
    have kn16 : K12 3 1 = nI 0 := by rw [eK13, va_up_self, pk_us]
    refine lv_iload_n hx hb dX11_clear_24 rfl (lv_at hl 0 rfl) ?_
    refine n_i2l C (by omega) dX11_clear_25 ?_
    have hKn : ∀ jj, jj ≠ 2 → jj ≠ 3 → K12 jj = K jj := fun jj h0 h1 => by rw [eK13, va_up_ne _ _ h1, eK7, va_up_ne _ _ h0]
    have hAn : ∀ jj, jj ≠ 0 → (stS A 0 (nI 0)) jj = A jj := fun jj a0 => by simp only [stS, stP, rowA, ldA, wyS, sgS, va_up_ne, ne_eq, not_false_eq_true, a0]
    exact h_lret C hr hlk hw (cop (A1 := stS A 0 (nI 0)) (by simp only [op_clear, if_pos hw0] <;> rfl) hc ⟨(inA_c hr9.1 ⟨0, by decide, by unfold stS; rw [va_up_self]⟩ (by unfold stS; rw [va_up_ne _ _ (by decide)]; exact hr9.1.2.1) (by unfold stS; rw [va_up_ne _ _ (by decide)]; exact hpx) (by unfold stS; rw [va_up_ne _ _ (by decide)]; exact hpy) (fun j hj => hAn j (by omega))), (hr9.2.1.cg (hKn 11 (by omega) (by omega)) rfl), (hr9.2.2.1.cg kfK12 (fun i9 _ => (hKn (28 + i9) (by omega) (by omega))) (fun i9 _ => rfl) (fun k9 _ _ => (hAn k9 (by omega)))), (hr9.2.2.2.1.cg kfK12 rfl (hAn 7 (by omega))), (pts_c2 hr9.2.2.2.2.1 eK7 eK13), (hr9.2.2.2.2.2.1.cg (fun k9 _ _ => (hKn k9 (by omega) (by omega))) (hAn 5 (by omega)) (hAn 6 (by omega))), (hr9.2.2.2.2.2.2.1.cg (hKn 6 (by omega) (by omega)) (hKn 27 (by omega) (by omega)) (hAn 13 (by omega)) (hAn 14 (by omega))), (hr9.2.2.2.2.2.2.2.1.cg (hKn 9 (by omega) (by omega)) (hKn 10 (by omega) (by omega)) (hAn 12 (by omega))), (hr9.2.2.2.2.2.2.2.2.1.cg kfK12 rfl rfl), (mtg_w (by rw [eK13, va_up_self, pk_us]) (by rw [eK13, va_up_self, pk_un (by decide), eK7, va_up_ne _ _ (by decide), hAn 4 (by decide)]; exact hMt.1))⟩) dX11_clear_26
  · refine h_callq hw (h_runV (n := 1) (As := [.int w]) (rest := []) C hw (c_X11_pointsOf hc) gX11_clear_X11_pointsOf rfl rfl rfl (by decide +kernel) ⟨by decide, by decide⟩ bX11 (co.a0 hc) rfl hl.1 rfl (Nat.le_of_ble_eq_true rfl) dX11_clear_2 ⟨by first | decide | omega, by first | decide | omega⟩) (fun r17 f18 H locs hp hw => ?_)
    obtain ⟨hy9, hz9, rfl⟩ := hp
    have e19 := hz9 hw0
    subst e19
    refine lv_astore_n (lv' := [(2, _), (0, _), (1, _)]) hx hb dX11_clear_5 rfl hl (by decide) rfl (fun ls hl => ?_)
    refine lv_aload_n hx hb dX11_clear_6 rfl (lv_at hl 0 rfl) ?_
    refine h_get C hw bX4 (co.a1 hc) lk1 3 (by decide) lk0 (v := .int (nI nt)) (congrArg (fun z => some (Value.int z)) (hP.1.trans hnt)) dX11_clear_7 ?_
    refine lv_istore_n (lv' := [(3, _), (2, _), (0, _), (1, _)]) hx hb dX11_clear_10 rfl hl (by decide) rfl (fun ls hl => ?_)
    refine lv_aload_n hx hb dX11_clear_11 rfl (lv_at hl 1 rfl) ?_
    refine lv_iconst (v := nI 0) hx hb dX11_clear_12 (by decide) ?_
    refine h_put1 C hw bX4 (co.a1 hc) lk1 3 (by decide) lk0 rfl rfl rfl (Nat.le_of_ble_eq_true rfl) dX11_clear_13 (fun f20 H locs e21 hw => ?_)
    obtain ⟨K22, eK23, hc2⟩ := hc.upK 1 (κ := upd (K 1) 0 (nI 0)) (e := eO 4 [.int (nI 12), .ref (ad 12), .ref (ad 13), .int (nI 0)]) (by omega) rfl
    have hc3 := hc
    have hc := hc2.of e21
    have kpK22 := kp_up hc3 1 (by omega) e21
    have kfK22 := kp.tr (kp_le (hle.rf f)) kpK22
    have kn24 : K22 2 0 = nI ns := by rw [eK23, va_up_ne _ _ (by first | decide | omega)]; exact (hP.2.1.trans hns)
    have kn25 : K22 1 0 = nI 0 := by rw [eK23, va_up_self, pk_us]
    refine lv_aload_n hx hb dX11_clear_16 rfl (lv_at hl 2 rfl) ?_
    refine h_get C hw bX11 (co.a0 hc) lk3 2 (by decide) lk2 (v := .ref (ad 3)) rfl dX11_clear_17 ?_
    refine lv_iconst (v := nI 0) hx hb dX11_clear_20 (by decide) ?_
    refine h_put1 C hw bX1 (co.a3 hc) lk5 8 (by decide) lk4 rfl (by first | rfl | decide) rfl (Nat.le_of_ble_eq_true rfl) dX11_clear_21 (fun f26 H locs e27 hw => ?_)
    obtain ⟨K28, eK29, hc2⟩ := hc.upK 3 (κ := upd (K22 3) 1 (nI 0)) (e := eO 1 [.ref (ad 2), .ref (ad 1), .ref (ad 16), .ref (ad 17), .ref (ad 18), .ref (ad 19), .ref (ad 20), .int (K22 3 0), .int (nI 0), .int (K22 3 2)]) (by omega) rfl
    have hc3 := hc
    have hc := hc2.of e27
    have kpK28 := kp_up hc3 3 (by omega) e27
    have kfK28 := kp.tr kfK22 kpK28
    have kn30 : K28 2 0 = nI ns := by rw [eK29, va_up_ne _ _ (by first | decide | omega)]; exact kn24
    have kn31 : K28 1 0 = nI 0 := by rw [eK29, va_up_ne _ _ (by first | decide | omega)]; exact kn25
    have kn32 : K28 3 1 = nI 0 := by rw [eK29, va_up_self, pk_us]
    refine lv_iload_n hx hb dX11_clear_24 rfl (lv_at hl 0 rfl) ?_
    refine n_i2l C (by omega) dX11_clear_25 ?_
    have hKn : ∀ jj, jj ≠ 1 → jj ≠ 3 → K28 jj = K jj := fun jj h0 h1 => by rw [eK29, va_up_ne _ _ h1, eK23, va_up_ne _ _ h0]
    have hAn : ∀ jj, jj ≠ 1 → (stS A 1 (nI 0)) jj = A jj := fun jj a0 => by simp only [stS, stP, rowA, ldA, wyS, sgS, va_up_ne, ne_eq, not_false_eq_true, a0]
    exact h_lret C hr hlk hw (cop (A1 := stS A 1 (nI 0)) (by simp only [op_clear, if_neg hw0] <;> rfl) hc ⟨(inA_c hr9.1 (by unfold stS; rw [va_up_ne _ _ (by decide)]; exact hr9.1.1) ⟨0, by decide, by unfold stS; rw [va_up_self]⟩ (by unfold stS; rw [va_up_ne _ _ (by decide)]; exact hpx) (by unfold stS; rw [va_up_ne _ _ (by decide)]; exact hpy) (fun j hj => hAn j (by omega))), (hr9.2.1.cg (hKn 11 (by omega) (by omega)) rfl), (hr9.2.2.1.cg kfK28 (fun i9 _ => (hKn (28 + i9) (by omega) (by omega))) (fun i9 _ => rfl) (fun k9 _ _ => (hAn k9 (by omega)))), (hr9.2.2.2.1.cg kfK28 rfl (hAn 7 (by omega))), (pts_c1 hr9.2.2.2.2.1 eK23 eK29), (hr9.2.2.2.2.2.1.cg (fun k9 _ _ => (hKn k9 (by omega) (by omega))) (hAn 5 (by omega)) (hAn 6 (by omega))), (hr9.2.2.2.2.2.2.1.cg (hKn 6 (by omega) (by omega)) (hKn 27 (by omega) (by omega)) (hAn 13 (by omega)) (hAn 14 (by omega))), (hr9.2.2.2.2.2.2.2.1.cg (hKn 9 (by omega) (by omega)) (hKn 10 (by omega) (by omega)) (hAn 12 (by omega))), (hr9.2.2.2.2.2.2.2.2.1.cg kfK28 rfl rfl), (mtg_w (by rw [eK29, va_up_self, pk_us]) (by rw [eK29, va_up_self, pk_un (by decide), eK23, va_up_ne _ _ (by decide), hAn 4 (by decide)]; exact hMt.1))⟩) dX11_clear_26
set_option maxHeartbeats 4000000 in
set_option maxRecDepth 100000 in
theorem c_X11_row {l : Launch} {D : va_G} {cA : Nat → ClassId} {f : HF} {sz : Nat} {ad : Nat → Nat} {K : KK} {G : GG} {A : MA} {B : MB} {N : Nat} {ra n9 : Int32}  (hc : co cA ad K G f) (hr9 : rp ad K G A B N f) (hN : N < 2 ^ 20) : Met l yX11_row wsX11_row ({ frames := 1, cells := 0, slots := 0, locals := 22 } : Room) (va_Pc [.ref (ad 0), .int ra, .int n9] (hB D cA f sz)) (va_Ql (fun r f1 => (op_row A B ra n9).1 = r ∧ ∃ K1 G1, co cA ad K1 G1 f1 ∧ rp ad K1 G1 (op_row A B ra n9).2.1 (op_row A B ra n9).2.2 (N + 1) f1) (hE D f sz) (hA f sz)) 0 0 (hA f sz) := by
  refine h_of (cc := cX11_row) (maxL := 3) (ret := (some .long)) (by decide +kernel) rfl (Nat.le_of_ble_eq_true rfl) ?_
  intro p e s m below meth c ls C hr hlk hnm hw hl
  have hx := C.1.1
  have hb := C.1.2.1
  have hl : lv_has ls 3 [(0, .ref (ad 0)), (1, .int ra), (2, .int n9)] := hl
  have lk0 : Cond.fieldLink RX11 39 "FallingLight" "rows" "[LFallingLight$Row;" ∈ wsX11_row := by decide +kernel
  have lk1 : ∀ w ∈ u_ws RX11 TX11 11, w ∈ wsX11_row := by decide +kernel
  obtain ⟨hI, hF, hS, hT, hP, hRw, hTp, hWd, hTr, hMt⟩ := id hr9
  obtain ⟨-, -, -, hrs, hso, hwy, hst, hdr, hpx, hpy⟩ := id hI
  refine lv_iload_n hx hb dX11_row_0 rfl (lv_at hl 1 rfl) ?_
  refine h_calli hw (h_runS (n := 1) (As := [.int ra]) (rest := []) C hw c_X11_isRow gX11_row_X11_isRow rfl rfl rfl (by decide +kernel) ⟨by decide, by decide⟩ rfl hl.1 rfl (Nat.le_of_ble_eq_true rfl) dX11_row_1 ⟨by first | decide | omega, by first | decide | omega⟩) (fun r1 f2 H locs hp hw => ?_)
  obtain ⟨rfl, rfl⟩ := hp
  refine n_ifneB C (tgt := 13) dX11_row_4 (by decide) (fun cq3 => ?_) (fun cq3 => ?_)
  · obtain ⟨i, hi, rfl⟩ := inN (by decide) cq3
    refine lv_iload_n hx hb dX11_row_13 rfl (lv_at hl 2 rfl) ?_
    refine lv_iconst (v := (-1)) hx hb dX11_row_14 (by decide) ?_
    refine lv_icmp_ge (tgt := 24) hx hb dX11_row_15 (by decide) (fun cq4 => ?_) (fun cq4 => ?_)
    · refine lv_iload_n hx hb dX11_row_24 rfl (lv_at hl 2 rfl) ?_
      refine lv_bipush (v := nI 24) hx hb dX11_row_25 (by decide) ?_
      refine lv_icmp_le (tgt := 36) hx hb dX11_row_27 (by decide) (fun cq5 => ?_) (fun cq5 => ?_)
      · refine lv_aload_n hx hb dX11_row_36 rfl (lv_at hl 0 rfl) ?_
        refine h_get C hw bX11 (co.a0 hc) lk1 4 (by decide) lk0 (v := .ref (ad 5)) rfl dX11_row_37 ?_
        refine lv_iload_n hx hb dX11_row_40 rfl (lv_at hl 1 rfl) ?_
        refine h_aldS C hw 3 rfl (co.a5 hc) (if_pos (by omega)) (show i < 2 from (by omega)) (by first | omega | decide) dX11_row_41 ?_
        refine lv_iload_n hx hb dX11_row_42 rfl (lv_at hl 2 rfl) ?_
        refine h_callv hw (h_runV (n := 1) (As := [.int n9]) (rest := []) C hw (c_X5_begin (co.row hc (show i < 2 by omega)) (co.pla hc (show i < 2 by omega))) gX11_row_X5_begin rfl rfl rfl (by decide +kernel) ⟨by decide, by decide⟩ bX5 (co.row hc (show i < 2 by omega)) rfl hl.1 rfl (Nat.le_of_ble_eq_true rfl) dX11_row_43 ⟨by first | decide | omega, by first | decide | omega⟩) (fun  f6 H locs hp hw => ?_)
        have e7 := hp
        obtain ⟨f8, e9, e10⟩ : ∃ f8, f8 = va_up f (ad (23 + i)) (some (eO 5 [.ref (ad (25 + i)), .int n9])) ∧ f6 = va_up f8 (ad (25 + i)) (some (eS cA 24 (bgF (K (25 + i)) 24))) := ⟨_, rfl, e7⟩
        obtain ⟨K11, eK12, hc2⟩ := hc.upK (23 + i) (κ := upd (K (23 + i)) 0 n9) (e := eO 5 [.ref (ad (25 + i)), .int n9]) (by omega) ((cell_row (show i < 2 by omega)).trans rfl)
        have hc3 := hc
        have hc := hc2.of e9
        have kpK11 := kp_up hc3 (23 + i) (by omega) e9
        have kfK11 := kp.tr (kp_le (hle.rf f)) kpK11
        obtain ⟨K13, eK14, hc2⟩ := hc.upK (25 + i) (κ := bgF (K (25 + i)) 24) (e := eS cA 24 (bgF (K (25 + i)) 24)) (by omega) ((cell_pla (show i < 2 by omega)).trans rfl)
        have hc3 := hc
        have hc := hc2.of e10
        have kpK13 := kp_up hc3 (25 + i) (by omega) e10
        have kfK13 := kp.tr kfK11 kpK13
        refine lv_iload_n hx hb dX11_row_46 rfl (lv_at hl 2 rfl) ?_
        refine lv_i2l hx hb dX11_row_47 rfl ?_
        have hKn : ∀ jj, jj ≠ (23 + i) → jj ≠ (25 + i) → K13 jj = K jj := fun jj h0 h1 => by rw [eK14, va_up_ne _ _ h1, eK12, va_up_ne _ _ h0]
        have hAn : ∀ jj, jj ≠ 6 → jj ≠ 5 → (rowA A i n9 n9.toNatClampNeg) jj = A jj := fun jj a0 a1 => by simp only [stS, stP, rowA, ldA, wyS, sgS, va_up_ne, ne_eq, not_false_eq_true, a0, a1]
        exact h_lret C hr hlk hw (cop (A1 := rowA A i n9 n9.toNatClampNeg) (by simp only [op_row, if_pos cq3, if_pos cq4, if_pos cq5, nI_clamp (show i < 2 ^ 31 by omega)] <;> rfl) hc ⟨(inA_r hr9.1 (rn_of cq4 cq5)), (hr9.2.1.cg (hKn 11 (by omega) (by omega)) rfl), (hr9.2.2.1.cg kfK13 (fun i9 _ => (hKn (28 + i9) (by omega) (by omega))) (fun i9 _ => rfl) (fun k9 _ _ => (hAn k9 (by omega) (by omega)))), (hr9.2.2.2.1.cg kfK13 rfl (hAn 7 (by omega) (by omega))), (hr9.2.2.2.2.1.cg (fun k9 _ => (hKn k9 (by omega) (by omega))) (fun k9 _ => (hAn k9 (by omega) (by omega)))), (rws_b hr9.2.2.2.2.2.1 (by omega) ((cl_le cq4 (by decide)).mp cq5) eK12 eK14), (hr9.2.2.2.2.2.2.1.cg (hKn 6 (by omega) (by omega)) (hKn 27 (by omega) (by omega)) (hAn 13 (by omega) (by omega)) (hAn 14 (by omega) (by omega))), (hr9.2.2.2.2.2.2.2.1.cg (hKn 9 (by omega) (by omega)) (hKn 10 (by omega) (by omega)) (hAn 12 (by omega) (by omega))), (hr9.2.2.2.2.2.2.2.2.1.cg kfK13 rfl rfl), (hr9.2.2.2.2.2.2.2.2.2.cg (fun k9 _ => (hKn k9 (by omega) (by omega))) (fun k9 _ => (hAn k9 (by omega) (by omega))))⟩) dX11_row_48
      · refine lv_aload_n hx hb dX11_row_30 rfl (lv_at hl 0 rfl) ?_
        refine lv_iconst (v := nI 1) hx hb dX11_row_31 (by decide) ?_
        refine h_calll hw (h_runV (n := 1) (As := [.int (nI 1)]) (rest := []) C hw (c_X11_finding hc (by omega)) gX11_row_X11_finding rfl rfl rfl (by decide +kernel) ⟨by decide, by decide⟩ bX11 (co.a0 hc) rfl hl.1 rfl (Nat.le_of_ble_eq_true rfl) dX11_row_32 ⟨by first | decide | omega, by first | decide | omega⟩) (fun r15 f16 H locs hp hw => ?_)
        obtain ⟨rfl, K17, hc, eK18, kp19⟩ := hp
        exact h_lret C hr hlk hw (cop (by simp only [op_row, if_pos cq3, if_pos cq4, if_neg cq5]) hc (rp_fnd hr9 eK18 (kp.tr (kp_le (hle.rf f)) kp19) (by decide) hN)) dX11_row_35
    · refine lv_aload_n hx hb dX11_row_18 rfl (lv_at hl 0 rfl) ?_
      refine lv_iconst (v := nI 5) hx hb dX11_row_19 (by decide) ?_
      refine h_calll hw (h_runV (n := 1) (As := [.int (nI 5)]) (rest := []) C hw (c_X11_finding hc (by omega)) gX11_row_X11_finding rfl rfl rfl (by decide +kernel) ⟨by decide, by decide⟩ bX11 (co.a0 hc) rfl hl.1 rfl (Nat.le_of_ble_eq_true rfl) dX11_row_20 ⟨by first | decide | omega, by first | decide | omega⟩) (fun r20 f21 H locs hp hw => ?_)
      obtain ⟨rfl, K22, hc, eK23, kp24⟩ := hp
      exact h_lret C hr hlk hw (cop (by simp only [op_row, if_pos cq3, if_neg cq4]) hc (rp_fnd hr9 eK23 (kp.tr (kp_le (hle.rf f)) kp24) (by decide) hN)) dX11_row_23
  · refine lv_aload_n hx hb dX11_row_7 rfl (lv_at hl 0 rfl) ?_
    refine lv_iconst (v := nI 1) hx hb dX11_row_8 (by decide) ?_
    refine h_calll hw (h_runV (n := 1) (As := [.int (nI 1)]) (rest := []) C hw (c_X11_finding hc (by omega)) gX11_row_X11_finding rfl rfl rfl (by decide +kernel) ⟨by decide, by decide⟩ bX11 (co.a0 hc) rfl hl.1 rfl (Nat.le_of_ble_eq_true rfl) dX11_row_9 ⟨by first | decide | omega, by first | decide | omega⟩) (fun r25 f26 H locs hp hw => ?_)
    obtain ⟨rfl, K27, hc, eK28, kp29⟩ := hp
    exact h_lret C hr hlk hw (cop (by simp only [op_row, if_neg cq3]) hc (rp_fnd hr9 eK28 (kp.tr (kp_le (hle.rf f)) kp29) (by decide) hN)) dX11_row_12
set_option maxHeartbeats 4000000 in
set_option maxRecDepth 100000 in
theorem c_X11_put {l : Launch} {D : va_G} {cA : Nat → ClassId} {f : HF} {sz : Nat} {ad : Nat → Nat} {K : KK} {G : GG} {A : MA} {B : MB} {N : Nat} {ra k v : Int32}  (hc : co cA ad K G f) (hr9 : rp ad K G A B N f) (hN : N < 2 ^ 20) : Met l yX11_put wsX11_put ({ frames := 1, cells := 0, slots := 0, locals := 21 } : Room) (va_Pc [.ref (ad 0), .int ra, .int k, .int v] (hB D cA f sz)) (va_Ql (fun r f1 => (op_put A B ra k v).1 = r ∧ ∃ K1 G1, co cA ad K1 G1 f1 ∧ rp ad K1 G1 (op_put A B ra k v).2.1 (op_put A B ra k v).2.2 (N + 1) f1) (hE D f sz) (hA f sz)) 0 0 (hA f sz) := by
  refine h_of (cc := cX11_put) (maxL := 5) (ret := (some .long)) (by decide +kernel) rfl (Nat.le_of_ble_eq_true rfl) ?_
  intro p e s m below meth c ls C hr hlk hnm hw hl
  have hx := C.1.1
  have hb := C.1.2.1
  have hl : lv_has ls 5 [(0, .ref (ad 0)), (1, .int ra), (2, .int k), (3, .int v)] := hl
  have lk0 : Cond.fieldLink RX11 39 "FallingLight" "rows" "[LFallingLight$Row;" ∈ wsX11_put := by decide +kernel
  have lk1 : ∀ w ∈ u_ws RX11 TX11 11, w ∈ wsX11_put := by decide +kernel
  have lk2 : Cond.fieldLink RX11 114 "FallingLight$Row" "length" "I" ∈ wsX11_put := by decide +kernel
  have lk3 : ∀ w ∈ u_ws RX5 TX5 2, w ∈ wsX11_put := by decide +kernel
  have lk4 : Cond.fieldLink RX11 117 "FallingLight$Row" "places" "[S" ∈ wsX11_put := by decide +kernel
  obtain ⟨hI, hF, hS, hT, hP, hRw, hTp, hWd, hTr, hMt⟩ := id hr9
  obtain ⟨-, -, -, hrs, hso, hwy, hst, hdr, hpx, hpy⟩ := id hI
  refine lv_iload_n hx hb dX11_put_0 rfl (lv_at hl 1 rfl) ?_
  refine h_calli hw (h_runS (n := 1) (As := [.int ra]) (rest := []) C hw c_X11_isRow gX11_put_X11_isRow rfl rfl rfl (by decide +kernel) ⟨by decide, by decide⟩ rfl hl.1 rfl (Nat.le_of_ble_eq_true rfl) dX11_put_1 ⟨by first | decide | omega, by first | decide | omega⟩) (fun r1 f2 H locs hp hw => ?_)
  obtain ⟨rfl, rfl⟩ := hp
  refine n_ifneB C (tgt := 13) dX11_put_4 (by decide) (fun cq3 => ?_) (fun cq3 => ?_)
  · obtain ⟨i, hi, rfl⟩ := inN (by decide) cq3
    have hK6 := (hRw i (by omega)).1
    refine lv_aload_n hx hb dX11_put_13 rfl (lv_at hl 0 rfl) ?_
    refine h_get C hw bX11 (co.a0 hc) lk1 4 (by decide) lk0 (v := .ref (ad 5)) rfl dX11_put_14 ?_
    refine lv_iload_n hx hb dX11_put_17 rfl (lv_at hl 1 rfl) ?_
    refine h_aldS C hw 3 rfl (co.a5 hc) (if_pos (by omega)) (show i < 2 from (by omega)) (by first | omega | decide) dX11_put_18 ?_
    refine lv_astore (lv' := [(4, _), (0, _), (1, _), (2, _), (3, _)]) hx hb dX11_put_19 hl (by decide) rfl (fun ls hl => ?_)
    refine lv_aload hx hb dX11_put_21 (lv_at hl 0 rfl) ?_
    refine h_calli hw (h_runV (n := 0) (As := []) (rest := []) C hw (c_X5_isMissing (co.row hc (show i < 2 by omega))) gX11_put_X5_isMissing rfl rfl rfl (by decide +kernel) ⟨by decide, by decide⟩ bX5 (co.row hc (show i < 2 by omega)) rfl hl.1 rfl (Nat.le_of_ble_eq_true rfl) dX11_put_23 ⟨by first | decide | omega, by first | decide | omega⟩) (fun r4 f5 H locs hp hw => ?_)
    obtain ⟨rfl, rfl⟩ := hp
    refine n_ifeqB C (tgt := 35) dX11_put_26 (by decide) (fun cq6 => ?_) (fun cq6 => ?_)
    · have hnn : ¬ A 6 i < 0 := by rw [← hK6]; exact cq6
      obtain ⟨nl, hnl, hA6⟩ := rs_len hrs (show i < 2 by omega) hnn
      refine lv_iload_n hx hb dX11_put_35 rfl (lv_at hl 3 rfl) ?_
      refine lv_if_lt (tgt := 48) hx hb dX11_put_36 (by decide) (fun cq7 => ?_) (fun cq7 => ?_)
      · refine lv_aload_n hx hb dX11_put_48 rfl (lv_at hl 1 rfl) ?_
        refine lv_iconst (v := nI 1) hx hb dX11_put_49 (by decide) ?_
        refine h_calll hw (h_runV (n := 1) (As := [.int (nI 1)]) (rest := []) C hw (c_X11_finding hc (by omega)) gX11_put_X11_finding rfl rfl rfl (by decide +kernel) ⟨by decide, by decide⟩ bX11 (co.a0 hc) rfl hl.1 rfl (Nat.le_of_ble_eq_true rfl) dX11_put_50 ⟨by first | decide | omega, by first | decide | omega⟩) (fun r8 f9 H locs hp hw => ?_)
        obtain ⟨rfl, K10, hc, eK11, kp12⟩ := hp
        exact h_lret C hr hlk hw (cop (by simp only [op_put, if_pos cq3, nI_clamp (show i < 2 ^ 31 by omega), hA6, if_pos (show 0 ≤ nI nl from Int32.not_lt.mp (nI_pos (by omega))), if_neg (fun h9 : rg (nI 0) (nI nl - nI 1) k => h9.1 cq7)]) hc (rp_fnd hr9 eK11 (kp.tr (kp_le (hle.rf f)) kp12) (by decide) hN)) dX11_put_53
      · refine lv_iload_n hx hb dX11_put_39 rfl (lv_at hl 3 rfl) ?_
        refine lv_aload hx hb dX11_put_40 (lv_at hl 0 rfl) ?_
        refine h_get C hw bX5 (co.row hc (show i < 2 by omega)) lk3 1 (by decide) lk2 (v := .int (nI nl)) (congrArg (fun z => some (Value.int z)) (hK6.trans hA6)) dX11_put_42 ?_
        refine lv_icmp_lt (tgt := 54) hx hb dX11_put_45 (by decide) (fun cq13 => ?_) (fun cq13 => ?_)
        · have hrgk := (hs_eq24 hnl).mp ⟨cq7, cq13⟩
          obtain ⟨j, hj, rfl⟩ := in1N (by omega) hrgk
          refine lv_aload hx hb dX11_put_54 (lv_at hl 0 rfl) ?_
          refine h_get C hw bX5 (co.row hc (show i < 2 by omega)) lk3 0 (by decide) lk4 (v := .ref (ad (25 + i))) rfl dX11_put_56 ?_
          refine lv_iload_n hx hb dX11_put_59 rfl (lv_at hl 3 rfl) ?_
          refine lv_iload_n hx hb dX11_put_60 rfl (lv_at hl 4 rfl) ?_
          refine lv_i2s hx hb dX11_put_61 rfl ?_
          refine h_sast1 C hw (co.pla hc (show i < 2 by omega)) (show j < 24 from (by omega)) (by first | omega | decide) dX11_put_62 (fun f14 H locs e15 hw => ?_)
          obtain ⟨K16, eK17, hc2⟩ := hc.upK (25 + i) (κ := upd (K (25 + i)) j (vp_nar .short v.toInt16.toInt32)) (e := eS cA 24 (upd (K (25 + i)) j (vp_nar .short v.toInt16.toInt32))) (by omega) ((cell_pla (show i < 2 by omega)).trans rfl)
          have hc3 := hc
          have hc := hc2.of e15
          have kpK16 := kp_up hc3 (25 + i) (by omega) e15
          have kfK16 := kp.tr (kp_le (hle.rf f)) kpK16
          have kn18 : K16 (23 + i) 0 = nI nl := by rw [eK17, va_up_ne _ _ (by first | decide | omega)]; exact (hK6.trans hA6)
          refine lv_aload hx hb dX11_put_63 (lv_at hl 0 rfl) ?_
          refine h_get C hw bX5 (co.row hc (show i < 2 by omega)) lk3 0 (by decide) lk4 (v := .ref (ad (25 + i))) rfl dX11_put_65 ?_
          refine lv_iload_n hx hb dX11_put_68 rfl (lv_at hl 3 rfl) ?_
          refine h_sald1 C hw (v := shA v) (co.pla hc (show i < 2 by omega)) (by rw [eK17, va_up_self, pk_us, sh_nar]) (show j < 24 from (by omega)) (by first | omega | decide) dX11_put_69 ?_
          refine lv_i2l hx hb dX11_put_70 rfl ?_
          have hKn : ∀ jj, jj ≠ (25 + i) → K16 jj = K jj := fun jj h0 => by rw [eK17, va_up_ne _ _ h0]
          have hAn : ∀ jj, jj ≠ 5 → (stP A 5 (24 * i + j) (shA v)) jj = A jj := fun jj a0 => by simp only [stS, stP, rowA, ldA, wyS, sgS, va_up_ne, ne_eq, not_false_eq_true, a0]
          exact h_lret C hr hlk hw (cop (A1 := stP A 5 (24 * i + j) (shA v)) (by simp only [op_put, if_pos cq3, nI_clamp (show i < 2 ^ 31 by omega), hA6, if_pos (show 0 ≤ nI nl from Int32.not_lt.mp (nI_pos (by omega))), if_pos hrgk, nI_clamp (show j < 2 ^ 31 by omega)] <;> rfl) hc ⟨(inA_5 hr9.1), (hr9.2.1.cg (hKn 11 (by omega)) rfl), (hr9.2.2.1.cg kfK16 (fun i9 _ => (hKn (28 + i9) (by omega))) (fun i9 _ => rfl) (fun k9 _ _ => (hAn k9 (by omega)))), (hr9.2.2.2.1.cg kfK16 rfl (hAn 7 (by omega))), (hr9.2.2.2.2.1.cg (fun k9 _ => (hKn k9 (by omega))) (fun k9 _ => (hAn k9 (by omega)))), (rws_p hr9.2.2.2.2.2.1 (by omega) hA6 hnl hj (sh_nar v) eK17), (hr9.2.2.2.2.2.2.1.cg (hKn 6 (by omega)) (hKn 27 (by omega)) (hAn 13 (by omega)) (hAn 14 (by omega))), (hr9.2.2.2.2.2.2.2.1.cg (hKn 9 (by omega)) (hKn 10 (by omega)) (hAn 12 (by omega))), (hr9.2.2.2.2.2.2.2.2.1.cg kfK16 rfl rfl), (hr9.2.2.2.2.2.2.2.2.2.cg (fun k9 _ => (hKn k9 (by omega))) (fun k9 _ => (hAn k9 (by omega))))⟩) dX11_put_71
        · refine lv_aload_n hx hb dX11_put_48 rfl (lv_at hl 1 rfl) ?_
          refine lv_iconst (v := nI 1) hx hb dX11_put_49 (by decide) ?_
          refine h_calll hw (h_runV (n := 1) (As := [.int (nI 1)]) (rest := []) C hw (c_X11_finding hc (by omega)) gX11_put_X11_finding rfl rfl rfl (by decide +kernel) ⟨by decide, by decide⟩ bX11 (co.a0 hc) rfl hl.1 rfl (Nat.le_of_ble_eq_true rfl) dX11_put_50 ⟨by first | decide | omega, by first | decide | omega⟩) (fun r19 f20 H locs hp hw => ?_)
          obtain ⟨rfl, K21, hc, eK22, kp23⟩ := hp
          exact h_lret C hr hlk hw (cop (by simp only [op_put, if_pos cq3, nI_clamp (show i < 2 ^ 31 by omega), hA6, if_pos (show 0 ≤ nI nl from Int32.not_lt.mp (nI_pos (by omega))), if_neg (fun h9 : rg (nI 0) (nI nl - nI 1) k => cq13 ((hs_eq24 hnl).mpr h9).2)]) hc (rp_fnd hr9 eK22 (kp.tr (kp_le (hle.rf f)) kp23) (by decide) hN)) dX11_put_53
    · refine lv_aload_n hx hb dX11_put_29 rfl (lv_at hl 1 rfl) ?_
      refine lv_iconst (v := nI 2) hx hb dX11_put_30 (by decide) ?_
      refine h_calll hw (h_runV (n := 1) (As := [.int (nI 2)]) (rest := []) C hw (c_X11_finding hc (by omega)) gX11_put_X11_finding rfl rfl rfl (by decide +kernel) ⟨by decide, by decide⟩ bX11 (co.a0 hc) rfl hl.1 rfl (Nat.le_of_ble_eq_true rfl) dX11_put_31 ⟨by first | decide | omega, by first | decide | omega⟩) (fun r24 f25 H locs hp hw => ?_)
      obtain ⟨rfl, K26, hc, eK27, kp28⟩ := hp
      exact h_lret C hr hlk hw (cop (by simp only [op_put, if_pos cq3, nI_clamp (show i < 2 ^ 31 by omega), if_neg (show ¬ 0 ≤ A 6 i from Int32.not_le.mpr (by rw [← hK6]; exact cq6))]) hc (rp_fnd hr9 eK27 (kp.tr (kp_le (hle.rf f)) kp28) (by decide) hN)) dX11_put_34
  · refine lv_aload_n hx hb dX11_put_7 rfl (lv_at hl 0 rfl) ?_
    refine lv_iconst (v := nI 1) hx hb dX11_put_8 (by decide) ?_
    refine h_calll hw (h_runV (n := 1) (As := [.int (nI 1)]) (rest := []) C hw (c_X11_finding hc (by omega)) gX11_put_X11_finding rfl rfl rfl (by decide +kernel) ⟨by decide, by decide⟩ bX11 (co.a0 hc) rfl hl.1 rfl (Nat.le_of_ble_eq_true rfl) dX11_put_9 ⟨by first | decide | omega, by first | decide | omega⟩) (fun r29 f30 H locs hp hw => ?_)
    obtain ⟨rfl, K31, hc, eK32, kp33⟩ := hp
    exact h_lret C hr hlk hw (cop (by simp only [op_put, if_neg cq3]) hc (rp_fnd hr9 eK32 (kp.tr (kp_le (hle.rf f)) kp33) (by decide) hN)) dX11_put_12
