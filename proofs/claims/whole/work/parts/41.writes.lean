/-! ===== the class: acts that write (laid by program) ===== -/
theorem ib_r99 {v : Int32} (h : rg (-99) (nI 99) v) : ib 99 v := by
  have h1 := h.1
  have h2 := h.2
  rw [Int32.lt_iff_toInt_lt] at h1 h2
  rw [nI_toInt (by decide)] at h2
  have h3 : (-99 : Int32).toInt = -99 := rfl
  rw [h3] at h1
  unfold ib
  omega
theorem ib_r9 {v : Int32} (h : rg (-9) (nI 9) v) : ib 9 v := by
  have h1 := h.1
  have h2 := h.2
  rw [Int32.lt_iff_toInt_lt] at h1 h2
  rw [nI_toInt (by decide)] at h2
  have h3 : (-9 : Int32).toInt = -9 := rfl
  rw [h3] at h1
  unfold ib
  omega
theorem ib_09 {v : Int32} (h : rg (nI 0) (nI 9) v) : ib 99 v := by
  obtain ⟨u, hu, rfl⟩ := inN (by decide) h
  unfold ib
  rw [nI_toInt (by omega)]
  omega
theorem ib_upd {k n : Nat} {g : Nat → Int32} {j0 : Nat} {v : Int32} (h : ∀ j, j < n → ib k (g j)) (hv : ib k v) : ∀ j, j < n → ib k (upd g j0 v j) := fun j hj => by
  by_cases e : j = j0
  · subst e; rw [pk_us]; exact hv
  · rw [pk_un e]; exact h j hj
theorem inA_st {A : MA} {g : Nat → Int32} (h : inA A) (h7 : ∀ j, j < 12 → ib 99 (g j)) : inA (va_up A 7 g) := by
  unfold inA
  rw [va_up_ne _ _ (by decide), va_up_ne _ _ (by decide), va_up_ne _ _ (by decide), va_up_ne _ _ (by decide), va_up_ne _ _ (by decide), va_up_ne _ _ (by decide), va_up_self, va_up_ne _ _ (by decide), va_up_ne _ _ (by decide), va_up_ne _ _ (by decide)]
  exact ⟨h.1, h.2.1, h.2.2.1, h.2.2.2.1, h.2.2.2.2.1, h.2.2.2.2.2.1, h7, h.2.2.2.2.2.2.2⟩
theorem stP3 (A : MA) (k j0 j1 j2 : Nat) (u v w : Int32) : stP (stP (stP A k j0 u) k j1 v) k j2 w = va_up A k (upd (upd (upd (A k) j0 u) j1 v) j2 w) := by
  unfold stP
  rw [va_up2, va_up_self, va_up2, va_up_self]
theorem stP2 (A : MA) (k j0 j1 : Nat) (u v : Int32) : stP (stP A k j0 u) k j1 v = va_up A k (upd (upd (A k) j0 u) j1 v) := by
  unfold stP
  rw [va_up2, va_up_self]
theorem sts_w {G G1 : GG} {A : MA} {f f1 : HF} {i q : Nat} {u v w : Int32} (h : sts G A f) (k : kp f f1) (hi : i < 4) (eG : G1 = va_up G 7 (va_up (G 7) i (some q))) (hq : f1 q = some (eO 10 [.long u.toInt64, .long v.toInt64, .long w.toInt64])) : sts G1 (va_up A 7 (upd (upd (upd (A 7) (3 * i) u) (3 * i + 1) v) (3 * i + 2) w)) f1 := fun s hs => by
  rw [eG, va_up_self, va_up_self]
  by_cases e : s = i
  · subst e
    refine ⟨q, va_up_self _ _ _, ?_⟩
    show f1 q = some (eO 10 [.long (upd (upd (upd (A 7) (3 * s) u) (3 * s + 1) v) (3 * s + 2) w (3 * s + 0)).toInt64, .long (upd (upd (upd (A 7) (3 * s) u) (3 * s + 1) v) (3 * s + 2) w (3 * s + 1)).toInt64, .long (upd (upd (upd (A 7) (3 * s) u) (3 * s + 1) v) (3 * s + 2) w (3 * s + 2)).toInt64])
    rw [pk_un (by omega), pk_un (by omega), Nat.add_zero, pk_us, pk_un (by omega), pk_us, pk_us]
    exact hq
  · obtain ⟨w2, h1, h2⟩ := h s hs
    refine ⟨w2, by rw [va_up_ne _ _ e]; exact h1, ?_⟩
    show f1 w2 = some (eO 10 [.long (upd (upd (upd (A 7) (3 * i) u) (3 * i + 1) v) (3 * i + 2) w (3 * s + 0)).toInt64, .long (upd (upd (upd (A 7) (3 * i) u) (3 * i + 1) v) (3 * i + 2) w (3 * s + 1)).toInt64, .long (upd (upd (upd (A 7) (3 * i) u) (3 * i + 1) v) (3 * i + 2) w (3 * s + 2)).toInt64])
    rw [pk_un (by omega), pk_un (by omega), pk_un (by omega), pk_un (by omega), pk_un (by omega), pk_un (by omega), pk_un (by omega), pk_un (by omega), pk_un (by omega)]
    exact k _ _ _ (by omega) h2
theorem inA_tp {A : MA} {g : Nat → Int32} {n : Nat} (h : inA A) (hn : n ≤ 9) : inA (stS (va_up A 14 g) 13 (nI n)) := by
  unfold inA stS
  rw [va_up_ne _ _ (by decide), va_up_ne _ _ (by decide), va_up_self]
  simp only [va_up_ne, ne_eq, reduceCtorEq, not_false_eq_true, Nat.reduceEqDiff]
  exact ⟨h.1, h.2.1, ⟨n, hn, rfl⟩, h.2.2.2⟩
theorem inA_t0 {A : MA} (h : inA A) : inA (stS A 13 (nI 0)) := by
  unfold inA stS
  rw [va_up_ne _ _ (by decide), va_up_ne _ _ (by decide), va_up_self]
  simp only [va_up_ne, ne_eq, reduceCtorEq, not_false_eq_true, Nat.reduceEqDiff]
  exact ⟨h.1, h.2.1, ⟨0, by decide, rfl⟩, h.2.2.2⟩
theorem tpe_w {K K1 K2 : KK} {A : MA} {n : Nat} {v : Int32} (h : tpe K A) (e1 : K1 = va_up K 27 (upd (K 27) n v)) (e2 : K2 = va_up K1 6 (upd (K1 6) 0 (nI (n + 1)))) : tpe K2 (stS (stP A 14 n v) 13 (nI (n + 1))) := by
  have a1 : K2 6 0 = nI (n + 1) := by rw [e2, va_up_self]; exact pk_us
  have a2 : K2 27 = upd (K 27) n v := by rw [e2, va_up_ne _ _ (by decide), e1, va_up_self]
  have a3 : stS (stP A 14 n v) 13 (nI (n + 1)) 14 = upd (A 14) n v := by unfold stS stP; rw [va_up_ne _ _ (by decide), va_up_self]
  have a4 : stS (stP A 14 n v) 13 (nI (n + 1)) 13 0 = nI (n + 1) := by unfold stS; rw [va_up_self]
  unfold tpe
  rw [a1, a2, a3, a4]
  refine ⟨rfl, fun j hj => ?_⟩
  by_cases e : j = n
  · subst e; rw [pk_us, pk_us]
  · rw [pk_un e, pk_un e]; exact h.2 j hj
theorem inA_8 {A : MA} {g : Nat → Int32} (h : inA A) : inA (va_up A 8 g) := by
  unfold inA
  simp only [va_up_ne, ne_eq, reduceCtorEq, not_false_eq_true, Nat.reduceEqDiff]
  exact h
theorem sgs_d {K K1 : KK} {G : GG} {A : MA} {f f1 : HF} {i n : Nat} (h : sgs K G A f) (k : kp f f1) (h8 : A 8 i = nI n) (hn : n ≤ 4) (h0 : ¬ n = 0) (e1 : K1 = va_up K (28 + i) (upd (K (28 + i)) 0 (nI (n - 1)))) : sgs K1 G (stP A 8 i (nI (n - 1))) f1 := fun j hj => by
  obtain ⟨m, h1, h2, h3, h4⟩ := h j hj
  have hA : ∀ k, 9 ≤ k → stP A 8 i (nI (n - 1)) k = A k := fun k hk => va_up_ne _ _ (by omega)
  by_cases e : j = i
  · subst e
    have e2 : m = n := (nI_eq (by omega) (by omega)).mp (h2.symm.trans h8)
    subst e2
    refine ⟨m - 1, by omega, ?_, ?_, fun k2 hk2 => ?_⟩
    · unfold stP; rw [va_up_self, pk_us]
    · rw [e1, va_up_self, pk_us]
    · obtain ⟨b, h5, h6⟩ := h4 k2 (by omega)
      exact ⟨b, h5, (h6.up k).cg (by rw [hA 9 (by omega)]) (by rw [hA 10 (by omega)]) (fun _ _ _ => by rw [hA 11 (by omega)])⟩
  · refine ⟨m, h1, ?_, ?_, fun k2 hk2 => ?_⟩
    · unfold stP; rw [va_up_self, pk_un e]; exact h2
    · rw [e1, va_up_ne _ _ (by omega)]; exact h3
    · obtain ⟨b, h5, h6⟩ := h4 k2 hk2
      exact ⟨b, h5, (h6.up k).cg (by rw [hA 9 (by omega)]) (by rw [hA 10 (by omega)]) (fun _ _ _ => by rw [hA 11 (by omega)])⟩
theorem inA_w {A : MA} {g : Nat → Int32} (h : inA A) (h12 : ∀ j, j < 20 → ib 9 (g j)) : inA (va_up A 12 g) := by
  unfold inA
  rw [va_up_ne _ _ (by decide), va_up_ne _ _ (by decide), va_up_ne _ _ (by decide), va_up_ne _ _ (by decide), va_up_ne _ _ (by decide), va_up_ne _ _ (by decide), va_up_ne _ _ (by decide), va_up_self, va_up_ne _ _ (by decide), va_up_ne _ _ (by decide)]
  exact ⟨h.1, h.2.1, h.2.2.1, h.2.2.2.1, h.2.2.2.2.1, h.2.2.2.2.2.1, h.2.2.2.2.2.2.1, h12, h.2.2.2.2.2.2.2.2⟩
theorem wnd_w {K K1 K2 : KK} {A : MA} {i : Nat} {u v : Int32} (h : wnd K A) (e1 : K1 = va_up K 9 (upd (K 9) i u)) (e2 : K2 = va_up K1 10 (upd (K1 10) i v)) : wnd K2 (va_up A 12 (upd (upd (A 12) (2 * i) u) (2 * i + 1) v)) := fun j hj => by
  rw [e2, va_up_self, va_up_ne _ _ (by decide), e1, va_up_self, va_up_self, va_up_ne _ _ (by decide)]
  by_cases e : j = i
  · subst e
    rw [pk_us, pk_us, pk_un (by omega), pk_us, pk_us]
    exact ⟨rfl, rfl⟩
  · rw [pk_un e, pk_un e, pk_un (by omega), pk_un (by omega), pk_un (by omega), pk_un (by omega)]
    exact h j hj
set_option maxHeartbeats 4000000 in
set_option maxRecDepth 100000 in
theorem c_X11_station {l : Launch} {D : va_G} {cA : Nat → ClassId} {f : HF} {sz : Nat} {ad : Nat → Nat} {K : KK} {G : GG} {A : MA} {B : MB} {N : Nat} {k u v w : Int32}  (hc : co cA ad K G f) (hr9 : rp ad K G A B N f) (hN : N < 2 ^ 20) : Met l yX11_station wsX11_station ({ frames := 2, cells := 1, slots := 3, locals := 46 } : Room) (va_Pc [.ref (ad 0), .int k, .int u, .int v, .int w] (hB D cA f sz)) (va_Ql (fun r f1 => (op_station A B k u v w).1 = r ∧ ∃ K1 G1, co cA ad K1 G1 f1 ∧ rp ad K1 G1 (op_station A B k u v w).2.1 (op_station A B k u v w).2.2 (N + 1) f1) (hE D f sz) (hA f sz)) 1 3 (hA f sz) := by
  refine h_of (cc := cX11_station) (maxL := 5) (ret := (some .long)) (by decide +kernel) rfl (Nat.le_of_ble_eq_true rfl) ?_
  intro p e s m below meth c ls C hr hlk hnm hw hl
  have hx := C.1.1
  have hb := C.1.2.1
  have hl : lv_has ls 5 [(0, .ref (ad 0)), (1, .int k), (2, .int u), (3, .int v), (4, .int w)] := hl
  have lk0 : Cond.fieldLink RX11 53 "FallingLight" "stationPlaces" "[LFallingLight$Way;" ∈ wsX11_station := by decide +kernel
  have lk1 : ∀ w ∈ u_ws RX11 TX11 11, w ∈ wsX11_station := by decide +kernel
  have lk2 : ∀ w ∈ u_ws RX10 TX10 3, w ∈ wsX11_station := by decide +kernel
  have lk3 : Cond.classLink RX11 51 RX10 ∈ wsX11_station := by decide +kernel
  have lk4 : Cond.instantiable RX10 3 ∈ wsX11_station := by decide +kernel
  have lk5 : Cond.initialized RX10 ∈ wsX11_station := by decide +kernel
  have lk6 : Cond.methodLink RX11 57 yX10_init ∈ wsX11_station := by decide +kernel
  have lk7 : Cond.instanceMethod yX10_init ∈ wsX11_station := by decide +kernel
  obtain ⟨hI, hF, hS, hT, hP, hRw, hTp, hWd, hTr, hMt⟩ := id hr9
  obtain ⟨-, -, -, hrs, hso, hwy, hst, hdr, hpx, hpy⟩ := id hI
  refine lv_iload_n hx hb dX11_station_0 rfl (lv_at hl 1 rfl) ?_
  refine h_calli hw (h_runS (n := 1) (As := [.int k]) (rest := []) C hw c_X11_isStation gX11_station_X11_isStation rfl rfl rfl (by decide +kernel) ⟨by decide, by decide⟩ rfl hl.1 rfl (Nat.le_of_ble_eq_true rfl) dX11_station_1 ⟨by first | decide | omega, by first | decide | omega⟩) (fun r1 f2 H locs hp hw => ?_)
  obtain ⟨rfl, rfl⟩ := hp
  refine n_ifeqB C (tgt := 25) dX11_station_4 (by decide) (fun cq3 => ?_) (fun cq3 => ?_)
  · refine lv_aload_n hx hb dX11_station_25 rfl (lv_at hl 0 rfl) ?_
    refine lv_iconst (v := nI 1) hx hb dX11_station_26 (by decide) ?_
    refine h_calll hw (h_runV (n := 1) (As := [.int (nI 1)]) (rest := []) C hw (c_X11_finding hc (by omega)) gX11_station_X11_finding rfl rfl rfl (by decide +kernel) ⟨by decide, by decide⟩ bX11 (co.a0 hc) rfl hl.1 rfl (Nat.le_of_ble_eq_true rfl) dX11_station_27 ⟨by first | decide | omega, by first | decide | omega⟩) (fun r4 f5 H locs hp hw => ?_)
    obtain ⟨rfl, K6, hc, eK7, kp8⟩ := hp
    refine W.widen (k := 1) (n := 3) (by first | decide | omega | (dsimp only; omega)) (by first | decide | omega | (dsimp only; omega)) ?_
    exact h_lret C hr hlk hw (cop (by simp only [op_station, if_neg cq3]) hc (rp_fnd hr9 eK7 (kp.tr (kp_le (hle.rf f)) kp8) (by decide) hN)) dX11_station_30
  · obtain ⟨i, hi, rfl⟩ := inN (by decide) cq3
    refine lv_iload_n hx hb dX11_station_7 rfl (lv_at hl 2 rfl) ?_
    refine lv_bipush (v := nI 99) hx hb dX11_station_8 (by decide) ?_
    refine h_calli hw (h_runS (n := 2) (As := [.int u, .int (nI 99)]) (rest := []) C hw (c_X11_within (show -(nI 99) = (-99 : Int32) from by decide)) gX11_station_X11_within rfl rfl rfl (by decide +kernel) ⟨by decide, by decide⟩ rfl hl.1 rfl (Nat.le_of_ble_eq_true rfl) dX11_station_10 ⟨by first | decide | omega, by first | decide | omega⟩) (fun r9 f10 H locs hp hw => ?_)
    obtain ⟨rfl, rfl⟩ := hp
    refine n_ifeqB C (tgt := 25) dX11_station_13 (by decide) (fun cq11 => ?_) (fun cq11 => ?_)
    · refine lv_aload_n hx hb dX11_station_25 rfl (lv_at hl 0 rfl) ?_
      refine lv_iconst (v := nI 1) hx hb dX11_station_26 (by decide) ?_
      refine h_calll hw (h_runV (n := 1) (As := [.int (nI 1)]) (rest := []) C hw (c_X11_finding hc (by omega)) gX11_station_X11_finding rfl rfl rfl (by decide +kernel) ⟨by decide, by decide⟩ bX11 (co.a0 hc) rfl hl.1 rfl (Nat.le_of_ble_eq_true rfl) dX11_station_27 ⟨by first | decide | omega, by first | decide | omega⟩) (fun r12 f13 H locs hp hw => ?_)
      obtain ⟨rfl, K14, hc, eK15, kp16⟩ := hp
      refine W.widen (k := 1) (n := 3) (by first | decide | omega | (dsimp only; omega)) (by first | decide | omega | (dsimp only; omega)) ?_
      exact h_lret C hr hlk hw (cop (by simp only [op_station, if_pos cq3, if_neg cq11]) hc (rp_fnd hr9 eK15 (kp.tr (kp_le (hle.rf f)) kp16) (by decide) hN)) dX11_station_30
    · refine lv_iload_n hx hb dX11_station_16 rfl (lv_at hl 3 rfl) ?_
      refine lv_bipush (v := nI 99) hx hb dX11_station_17 (by decide) ?_
      refine h_calli hw (h_runS (n := 2) (As := [.int v, .int (nI 99)]) (rest := []) C hw (c_X11_within (show -(nI 99) = (-99 : Int32) from by decide)) gX11_station_X11_within rfl rfl rfl (by decide +kernel) ⟨by decide, by decide⟩ rfl hl.1 rfl (Nat.le_of_ble_eq_true rfl) dX11_station_19 ⟨by first | decide | omega, by first | decide | omega⟩) (fun r17 f18 H locs hp hw => ?_)
      obtain ⟨rfl, rfl⟩ := hp
      refine n_ifneB C (tgt := 31) dX11_station_22 (by decide) (fun cq19 => ?_) (fun cq19 => ?_)
      · refine lv_iload hx hb dX11_station_31 (lv_at hl 4 rfl) ?_
        refine lv_if_lt (tgt := 43) hx hb dX11_station_33 (by decide) (fun cq20 => ?_) (fun cq20 => ?_)
        · refine lv_aload_n hx hb dX11_station_43 rfl (lv_at hl 0 rfl) ?_
          refine lv_iconst (v := nI 1) hx hb dX11_station_44 (by decide) ?_
          refine h_calll hw (h_runV (n := 1) (As := [.int (nI 1)]) (rest := []) C hw (c_X11_finding hc (by omega)) gX11_station_X11_finding rfl rfl rfl (by decide +kernel) ⟨by decide, by decide⟩ bX11 (co.a0 hc) rfl hl.1 rfl (Nat.le_of_ble_eq_true rfl) dX11_station_45 ⟨by first | decide | omega, by first | decide | omega⟩) (fun r21 f22 H locs hp hw => ?_)
          obtain ⟨rfl, K23, hc, eK24, kp25⟩ := hp
          refine W.widen (k := 1) (n := 3) (by first | decide | omega | (dsimp only; omega)) (by first | decide | omega | (dsimp only; omega)) ?_
          exact h_lret C hr hlk hw (cop (by simp only [op_station, if_pos cq3, if_pos cq11, if_pos cq19, if_neg (rg_lo cq20)]) hc (rp_fnd hr9 eK24 (kp.tr (kp_le (hle.rf f)) kp25) (by decide) hN)) dX11_station_48
        · refine lv_iload hx hb dX11_station_36 (lv_at hl 4 rfl) ?_
          refine lv_bipush (v := nI 9) hx hb dX11_station_38 (by decide) ?_
          refine lv_icmp_le (tgt := 49) hx hb dX11_station_40 (by decide) (fun cq26 => ?_) (fun cq26 => ?_)
          · refine lv_aload_n hx hb dX11_station_49 rfl (lv_at hl 0 rfl) ?_
            refine h_get C hw bX11 (co.a0 hc) lk1 6 (by decide) lk0 (v := .ref (ad 7)) rfl dX11_station_50 ?_
            refine lv_iload_n hx hb dX11_station_53 rfl (lv_at hl 1 rfl) ?_
            refine h_new1 C hw bX10 lk2 lk3 lk4 lk5 dfX10 (by first | decide | omega | (dsimp only; omega)) (by first | decide | omega | (dsimp only; omega)) dX11_station_54 (fun q27 f28 H hq30 e29 hw => ?_)
            have k31 : f28 q27 = some (eO 10 [.long 0, .long 0, .long 0]) := up_s e29
            have hc := hc.mono (hle_new (hle.rf _) hq30 e29)
            have hS := hS.up (kp_le (hle_new (hle.rf _) hq30 e29)) (fun _ _ => rfl) (fun _ _ => rfl)
            have hT := hT.up (kp_le (hle_new (hle.rf _) hq30 e29)) rfl
            have fr32 := hle_no (hle.rf f) hq30
            have le33 := hle_new (hle.rf f) hq30 e29
            refine lv_dup hx hb dX11_station_57 rfl ?_
            refine lv_iload_n hx hb dX11_station_58 rfl (lv_at hl 2 rfl) ?_
            refine lv_i2l hx hb dX11_station_59 rfl ?_
            refine lv_iload_n hx hb dX11_station_60 rfl (lv_at hl 3 rfl) ?_
            refine lv_i2l hx hb dX11_station_61 rfl ?_
            refine lv_iload hx hb dX11_station_62 (lv_at hl 4 rfl) ?_
            refine lv_i2l hx hb dX11_station_64 rfl ?_
            refine h_callv hw (h_runI (n := 3) (As := [.long u.toInt64, .long v.toInt64, .long w.toInt64]) (rest := [.ref q27, .int (nI i), .ref (ad 7)]) C hw (c_X10_init k31) gX11_station_X10_init rfl rfl rfl lk5 lk6 lk7 rfl (by decide +kernel) ⟨by decide, by decide⟩ rfl hl.1 rfl (Nat.le_of_ble_eq_true rfl) dX11_station_65 ⟨by first | decide | omega, by first | decide | omega⟩) (fun  f34 H locs hp hw => ?_)
            have e35 := hp
            have k36 : f34 q27 = some (eO 10 [.long u.toInt64, .long v.toInt64, .long w.toInt64]) := up_s e35
            have le37 := hle_up le33 fr32 e35
            have hc := hc.wr8 (by omega) k31 e35
            have hS := hr9.2.2.1.up (kp_le le37) (fun _ _ => rfl) (fun _ _ => rfl)
            have hT := hr9.2.2.2.1.up (kp_le le37) rfl
            refine h_astq1 C hw 4 bX10 rfl (co.a7 hc) k36 (show i < 4 from (by omega)) (by first | omega | decide) dX11_station_68 (fun f38 H locs e39 hw => ?_)
            obtain ⟨G40, eK41, hc2⟩ := hc.upG 7 (γ := va_up (G 7) i (some q27)) (e := eQ cA 4 4 (va_up (G 7) i (some q27))) (by omega) rfl
            have hc3 := hc
            have k42 := up_o e39 (ne_kd k36 (co.a7 hc) (Nat.ne_of_beq_eq_false rfl)) k36
            have hc := hc2.of e39
            have kpG40 := kp_up hc3 7 (by omega) e39
            have kfG40 := kp.tr (kp_le le37) kpG40
            refine lv_lconst (v := 1) hx hb dX11_station_69 (by decide) ?_
            refine W.widen (k := 1) (n := 3) (by first | decide | omega | (dsimp only; omega)) (by first | decide | omega | (dsimp only; omega)) ?_
            have hGn : ∀ jj, jj ≠ 7 → G40 jj = G jj := fun jj h0 => by rw [eK41, va_up_ne _ _ h0]
            have hAn : ∀ jj, jj ≠ 7 → (va_up A 7 (upd (upd (upd (A 7) (3 * i) u) (3 * i + 1) v) (3 * i + 2) w)) jj = A jj := fun jj a0 => by simp only [stS, stP, rowA, ldA, wyS, sgS, va_up_ne, ne_eq, not_false_eq_true, a0]
            exact h_lret C hr hlk hw (cop (A1 := va_up A 7 (upd (upd (upd (A 7) (3 * i) u) (3 * i + 1) v) (3 * i + 2) w)) (by simp only [op_station, if_pos cq3, if_pos cq11, if_pos cq19, if_pos (rg_of cq20 cq26), nI_clamp (show i < 2 ^ 31 by omega), stP3] <;> rfl) hc ⟨(inA_st hr9.1 (ib_upd (ib_upd (ib_upd hst (ib_r99 cq11)) (ib_r99 cq19)) (ib_09 (rg_of cq20 cq26)))), (hr9.2.1.cg rfl rfl), (hr9.2.2.1.cg kfG40 (fun i9 _ => rfl) (fun i9 _ => (hGn (34 + i9) (by omega))) (fun k9 _ _ => (hAn k9 (by omega)))), (sts_w hr9.2.2.2.1 kfG40 (by omega) eK41 k42), (hr9.2.2.2.2.1.cg (fun k9 _ => rfl) (fun k9 _ => (hAn k9 (by omega)))), (hr9.2.2.2.2.2.1.cg (fun k9 _ _ => rfl) (hAn 5 (by omega)) (hAn 6 (by omega))), (hr9.2.2.2.2.2.2.1.cg rfl rfl (hAn 13 (by omega)) (hAn 14 (by omega))), (hr9.2.2.2.2.2.2.2.1.cg rfl rfl (hAn 12 (by omega))), (hr9.2.2.2.2.2.2.2.2.1.cg kfG40 (hGn 21 (by omega)) (hGn 22 (by omega))), (hr9.2.2.2.2.2.2.2.2.2.cg (fun k9 _ => rfl) (fun k9 _ => (hAn k9 (by omega))))⟩) dX11_station_70
          · refine lv_aload_n hx hb dX11_station_43 rfl (lv_at hl 0 rfl) ?_
            refine lv_iconst (v := nI 1) hx hb dX11_station_44 (by decide) ?_
            refine h_calll hw (h_runV (n := 1) (As := [.int (nI 1)]) (rest := []) C hw (c_X11_finding hc (by omega)) gX11_station_X11_finding rfl rfl rfl (by decide +kernel) ⟨by decide, by decide⟩ bX11 (co.a0 hc) rfl hl.1 rfl (Nat.le_of_ble_eq_true rfl) dX11_station_45 ⟨by first | decide | omega, by first | decide | omega⟩) (fun r43 f44 H locs hp hw => ?_)
            obtain ⟨rfl, K45, hc, eK46, kp47⟩ := hp
            refine W.widen (k := 1) (n := 3) (by first | decide | omega | (dsimp only; omega)) (by first | decide | omega | (dsimp only; omega)) ?_
            exact h_lret C hr hlk hw (cop (by simp only [op_station, if_pos cq3, if_pos cq11, if_pos cq19, if_neg (rg_hi cq26)]) hc (rp_fnd hr9 eK46 (kp.tr (kp_le (hle.rf f)) kp47) (by decide) hN)) dX11_station_48
      · refine lv_aload_n hx hb dX11_station_25 rfl (lv_at hl 0 rfl) ?_
        refine lv_iconst (v := nI 1) hx hb dX11_station_26 (by decide) ?_
        refine h_calll hw (h_runV (n := 1) (As := [.int (nI 1)]) (rest := []) C hw (c_X11_finding hc (by omega)) gX11_station_X11_finding rfl rfl rfl (by decide +kernel) ⟨by decide, by decide⟩ bX11 (co.a0 hc) rfl hl.1 rfl (Nat.le_of_ble_eq_true rfl) dX11_station_27 ⟨by first | decide | omega, by first | decide | omega⟩) (fun r48 f49 H locs hp hw => ?_)
        obtain ⟨rfl, K50, hc, eK51, kp52⟩ := hp
        refine W.widen (k := 1) (n := 3) (by first | decide | omega | (dsimp only; omega)) (by first | decide | omega | (dsimp only; omega)) ?_
        exact h_lret C hr hlk hw (cop (by simp only [op_station, if_pos cq3, if_pos cq11, if_neg cq19]) hc (rp_fnd hr9 eK51 (kp.tr (kp_le (hle.rf f)) kp52) (by decide) hN)) dX11_station_30
set_option maxHeartbeats 4000000 in
set_option maxRecDepth 100000 in
theorem c_X11_tell {l : Launch} {D : va_G} {cA : Nat → ClassId} {f : HF} {sz : Nat} {ad : Nat → Nat} {K : KK} {G : GG} {A : MA} {B : MB} {N : Nat} {tn : Nat} {v : Int32}  (hc : co cA ad K G f) (hr9 : rp ad K G A B N f) (hN : N < 2 ^ 20) (htn : A 13 0 = nI tn) (htn2 : tn ≤ 9) : Met l yX11_tell wsX11_tell ({ frames := 1, cells := 0, slots := 0, locals := 21 } : Room) (va_Pc [.ref (ad 0), .int v] (hB D cA f sz)) (va_Ql (fun r f1 => (op_tell A B tn v).1 = r ∧ ∃ K1 G1, co cA ad K1 G1 f1 ∧ rp ad K1 G1 (op_tell A B tn v).2.1 (op_tell A B tn v).2.2 (N + 1) f1) (hE D f sz) (hA f sz)) 0 0 (hA f sz) := by
  refine h_of (cc := cX11_tell) (maxL := 2) (ret := (some .long)) (by decide +kernel) rfl (Nat.le_of_ble_eq_true rfl) ?_
  intro p e s m below meth c ls C hr hlk hnm hw hl
  have hx := C.1.1
  have hb := C.1.2.1
  have hl : lv_has ls 2 [(0, .ref (ad 0)), (1, .int v)] := hl
  have lk0 : Cond.fieldLink RX11 47 "FallingLight" "tape" "LFallingLight$Tape;" ∈ wsX11_tell := by decide +kernel
  have lk1 : ∀ w ∈ u_ws RX11 TX11 11, w ∈ wsX11_tell := by decide +kernel
  have lk2 : Cond.fieldLink RX11 182 "FallingLight$Tape" "size" "I" ∈ wsX11_tell := by decide +kernel
  have lk3 : ∀ w ∈ u_ws RX7 TX7 2, w ∈ wsX11_tell := by decide +kernel
  have lk4 : Cond.fieldLink RX11 183 "FallingLight$Tape" "numbers" "[I" ∈ wsX11_tell := by decide +kernel
  obtain ⟨hI, hF, hS, hT, hP, hRw, hTp, hWd, hTr, hMt⟩ := id hr9
  obtain ⟨-, -, -, hrs, hso, hwy, hst, hdr, hpx, hpy⟩ := id hI
  refine lv_aload_n hx hb dX11_tell_0 rfl (lv_at hl 0 rfl) ?_
  refine h_get C hw bX11 (co.a0 hc) lk1 5 (by decide) lk0 (v := .ref (ad 6)) rfl dX11_tell_1 ?_
  refine h_get C hw bX7 (co.a6 hc) lk3 1 (by decide) lk2 (v := .int (nI tn)) (congrArg (fun z => some (Value.int z)) (hTp.1.trans htn)) dX11_tell_4 ?_
  refine lv_bipush (v := nI 9) hx hb dX11_tell_7 (by decide) ?_
  refine n_clt C (by omega) (by omega) (tgt := 18) dX11_tell_9 (by decide) (fun cq1 => ?_) (fun cq1 => ?_)
  · refine lv_aload_n hx hb dX11_tell_18 rfl (lv_at hl 0 rfl) ?_
    refine h_get C hw bX11 (co.a0 hc) lk1 5 (by decide) lk0 (v := .ref (ad 6)) rfl dX11_tell_19 ?_
    refine h_get C hw bX7 (co.a6 hc) lk3 0 (by decide) lk4 (v := .ref (ad 27)) rfl dX11_tell_22 ?_
    refine lv_aload_n hx hb dX11_tell_25 rfl (lv_at hl 0 rfl) ?_
    refine h_get C hw bX11 (co.a0 hc) lk1 5 (by decide) lk0 (v := .ref (ad 6)) rfl dX11_tell_26 ?_
    refine h_get C hw bX7 (co.a6 hc) lk3 1 (by decide) lk2 (v := .int (nI tn)) (congrArg (fun z => some (Value.int z)) (hTp.1.trans htn)) dX11_tell_29 ?_
    refine lv_iload_n hx hb dX11_tell_32 rfl (lv_at hl 1 rfl) ?_
    refine h_iast1 C hw (co.a27 hc) (show tn < 9 from (by omega)) (by first | omega | decide) dX11_tell_33 (fun f2 H locs e3 hw => ?_)
    obtain ⟨K4, eK5, hc2⟩ := hc.upK 27 (κ := upd (K 27) tn v) (e := eI cA 9 (upd (K 27) tn v)) (by omega) rfl
    have hc3 := hc
    have hc := hc2.of e3
    have kpK4 := kp_up hc3 27 (by omega) e3
    have kfK4 := kp.tr (kp_le (hle.rf f)) kpK4
    have kn6 : K4 6 0 = nI tn := by rw [eK5, va_up_ne _ _ (by first | decide | omega)]; exact (hTp.1.trans htn)
    refine lv_aload_n hx hb dX11_tell_34 rfl (lv_at hl 0 rfl) ?_
    refine h_get C hw bX11 (co.a0 hc) lk1 5 (by decide) lk0 (v := .ref (ad 6)) rfl dX11_tell_35 ?_
    refine lv_dup hx hb dX11_tell_38 rfl ?_
    refine h_get C hw bX7 (co.a6 hc) lk3 1 (by decide) lk2 (v := .int (nI tn)) (congrArg (fun z => some (Value.int z)) kn6) dX11_tell_39 ?_
    refine lv_iconst (v := nI 1) hx hb dX11_tell_42 (by decide) ?_
    refine n_iadd C dX11_tell_43 ?_
    refine h_put1 C hw bX7 (co.a6 hc) lk3 1 (by decide) lk2 rfl rfl rfl (Nat.le_of_ble_eq_true rfl) dX11_tell_44 (fun f7 H locs e8 hw => ?_)
    obtain ⟨K9, eK10, hc2⟩ := hc.upK 6 (κ := upd (K4 6) 0 (nI (tn + 1))) (e := eO 7 [.ref (ad 27), .int (nI (tn + 1))]) (by omega) rfl
    have hc3 := hc
    have hc := hc2.of e8
    have kpK9 := kp_up hc3 6 (by omega) e8
    have kfK9 := kp.tr kfK4 kpK9
    have kn11 : K9 6 0 = nI (tn + 1) := by rw [eK10, va_up_self, pk_us]
    refine lv_aload_n hx hb dX11_tell_47 rfl (lv_at hl 0 rfl) ?_
    refine h_get C hw bX11 (co.a0 hc) lk1 5 (by decide) lk0 (v := .ref (ad 6)) rfl dX11_tell_48 ?_
    refine h_get C hw bX7 (co.a6 hc) lk3 1 (by decide) lk2 (v := .int (nI (tn + 1))) (congrArg (fun z => some (Value.int z)) kn11) dX11_tell_51 ?_
    refine n_i2l C (by omega) dX11_tell_54 ?_
    have hKn : ∀ jj, jj ≠ 27 → jj ≠ 6 → K9 jj = K jj := fun jj h0 h1 => by rw [eK10, va_up_ne _ _ h1, eK5, va_up_ne _ _ h0]
    have hAn : ∀ jj, jj ≠ 14 → jj ≠ 13 → (stS (stP A 14 tn v) 13 (nI (tn + 1))) jj = A jj := fun jj a0 a1 => by simp only [stS, stP, rowA, ldA, wyS, sgS, va_up_ne, ne_eq, not_false_eq_true, a0, a1]
    exact h_lret C hr hlk hw (cop (A1 := stS (stP A 14 tn v) 13 (nI (tn + 1))) (by simp only [op_tell, if_neg (show ¬ tn = 9 by omega)] <;> rfl) hc ⟨(inA_tp hr9.1 (by omega)), (hr9.2.1.cg (hKn 11 (by omega) (by omega)) rfl), (hr9.2.2.1.cg kfK9 (fun i9 _ => (hKn (28 + i9) (by omega) (by omega))) (fun i9 _ => rfl) (fun k9 _ _ => (hAn k9 (by omega) (by omega)))), (hr9.2.2.2.1.cg kfK9 rfl (hAn 7 (by omega) (by omega))), (hr9.2.2.2.2.1.cg (fun k9 _ => (hKn k9 (by omega) (by omega))) (fun k9 _ => (hAn k9 (by omega) (by omega)))), (hr9.2.2.2.2.2.1.cg (fun k9 _ _ => (hKn k9 (by omega) (by omega))) (hAn 5 (by omega) (by omega)) (hAn 6 (by omega) (by omega))), (tpe_w hr9.2.2.2.2.2.2.1 eK5 eK10), (hr9.2.2.2.2.2.2.2.1.cg (hKn 9 (by omega) (by omega)) (hKn 10 (by omega) (by omega)) (hAn 12 (by omega) (by omega))), (hr9.2.2.2.2.2.2.2.2.1.cg kfK9 rfl rfl), (hr9.2.2.2.2.2.2.2.2.2.cg (fun k9 _ => (hKn k9 (by omega) (by omega))) (fun k9 _ => (hAn k9 (by omega) (by omega))))⟩) dX11_tell_55
  · refine lv_aload_n hx hb dX11_tell_12 rfl (lv_at hl 0 rfl) ?_
    refine lv_iconst (v := nI 4) hx hb dX11_tell_13 (by decide) ?_
    refine h_calll hw (h_runV (n := 1) (As := [.int (nI 4)]) (rest := []) C hw (c_X11_finding hc (by omega)) gX11_tell_X11_finding rfl rfl rfl (by decide +kernel) ⟨by decide, by decide⟩ bX11 (co.a0 hc) rfl hl.1 rfl (Nat.le_of_ble_eq_true rfl) dX11_tell_14 ⟨by first | decide | omega, by first | decide | omega⟩) (fun r12 f13 H locs hp hw => ?_)
    obtain ⟨rfl, K14, hc, eK15, kp16⟩ := hp
    exact h_lret C hr hlk hw (cop (by simp only [op_tell, if_pos (show tn = 9 by omega)]) hc (rp_fnd hr9 eK15 (kp.tr (kp_le (hle.rf f)) kp16) (by decide) hN)) dX11_tell_17
set_option maxHeartbeats 4000000 in
set_option maxRecDepth 100000 in
theorem c_X11_drop {l : Launch} {D : va_G} {cA : Nat → ClassId} {f : HF} {sz : Nat} {ad : Nat → Nat} {K : KK} {G : GG} {A : MA} {B : MB} {N : Nat} {t : Int32}  (hc : co cA ad K G f) (hr9 : rp ad K G A B N f) (hN : N < 2 ^ 20) : Met l yX11_drop wsX11_drop ({ frames := 1, cells := 0, slots := 0, locals := 21 } : Room) (va_Pc [.ref (ad 0), .int t] (hB D cA f sz)) (va_Ql (fun r f1 => (op_drop A B t).1 = r ∧ ∃ K1 G1, co cA ad K1 G1 f1 ∧ rp ad K1 G1 (op_drop A B t).2.1 (op_drop A B t).2.2 (N + 1) f1) (hE D f sz) (hA f sz)) 0 0 (hA f sz) := by
  refine h_of (cc := cX11_drop) (maxL := 3) (ret := (some .long)) (by decide +kernel) rfl (Nat.le_of_ble_eq_true rfl) ?_
  intro p e s m below meth c ls C hr hlk hnm hw hl
  have hx := C.1.1
  have hb := C.1.2.1
  have hl : lv_has ls 3 [(0, .ref (ad 0)), (1, .int t)] := hl
  have lk0 : Cond.fieldLink RX11 62 "FallingLight" "meteors" "[LFallingLight$Meteor;" ∈ wsX11_drop := by decide +kernel
  have lk1 : ∀ w ∈ u_ws RX11 TX11 11, w ∈ wsX11_drop := by decide +kernel
  have lk2 : Cond.fieldLink RX11 199 "FallingLight$Meteor" "size" "I" ∈ wsX11_drop := by decide +kernel
  have lk3 : ∀ w ∈ u_ws RX3 TX3 2, w ∈ wsX11_drop := by decide +kernel
  obtain ⟨hI, hF, hS, hT, hP, hRw, hTp, hWd, hTr, hMt⟩ := id hr9
  obtain ⟨-, -, -, hrs, hso, hwy, hst, hdr, hpx, hpy⟩ := id hI
  refine lv_iload_n hx hb dX11_drop_0 rfl (lv_at hl 1 rfl) ?_
  refine h_calli hw (h_runS (n := 1) (As := [.int t]) (rest := []) C hw c_X11_isMeteor gX11_drop_X11_isMeteor rfl rfl rfl (by decide +kernel) ⟨by decide, by decide⟩ rfl hl.1 rfl (Nat.le_of_ble_eq_true rfl) dX11_drop_1 ⟨by first | decide | omega, by first | decide | omega⟩) (fun r1 f2 H locs hp hw => ?_)
  obtain ⟨rfl, rfl⟩ := hp
  refine n_ifneB C (tgt := 13) dX11_drop_4 (by decide) (fun cq3 => ?_) (fun cq3 => ?_)
  · obtain ⟨i, hi, rfl⟩ := inN (by decide) cq3
    obtain ⟨nk, hn, h8, hKn9, hsn⟩ := hS i (by omega)
    refine lv_aload_n hx hb dX11_drop_13 rfl (lv_at hl 0 rfl) ?_
    refine h_get C hw bX11 (co.a0 hc) lk1 7 (by decide) lk0 (v := .ref (ad 8)) rfl dX11_drop_14 ?_
    refine lv_iload_n hx hb dX11_drop_17 rfl (lv_at hl 1 rfl) ?_
    refine h_aldS C hw 5 rfl (co.a8 hc) (if_pos (by omega)) (show i < 6 from (by omega)) (by first | omega | decide) dX11_drop_18 ?_
    refine lv_astore_n (lv' := [(2, _), (0, _), (1, _)]) hx hb dX11_drop_19 rfl hl (by decide) rfl (fun ls hl => ?_)
    refine lv_aload_n hx hb dX11_drop_20 rfl (lv_at hl 0 rfl) ?_
    refine h_get C hw bX3 (co.met hc (show i < 6 by omega)) lk3 1 (by decide) lk2 (v := .int (nI nk)) (congrArg (fun z => some (Value.int z)) hKn9) dX11_drop_21 ?_
    refine n_zne C (by omega) (tgt := 33) dX11_drop_24 (by decide) (fun cq4 => ?_) (fun cq4 => ?_)
    · refine lv_aload_n hx hb dX11_drop_33 rfl (lv_at hl 0 rfl) ?_
      refine lv_dup hx hb dX11_drop_34 rfl ?_
      refine h_get C hw bX3 (co.met hc (show i < 6 by omega)) lk3 1 (by decide) lk2 (v := .int (nI nk)) (congrArg (fun z => some (Value.int z)) hKn9) dX11_drop_35 ?_
      refine lv_iconst (v := nI 1) hx hb dX11_drop_38 (by decide) ?_
      refine n_isub C (by omega) dX11_drop_39 ?_
      refine h_put1 C hw bX3 (co.met hc (show i < 6 by omega)) lk3 1 (by decide) lk2 rfl rfl rfl (Nat.le_of_ble_eq_true rfl) dX11_drop_40 (fun f5 H locs e6 hw => ?_)
      obtain ⟨K7, eK8, hc2⟩ := hc.upK (28 + i) (κ := upd (K (28 + i)) 0 (nI (nk - 1))) (e := eO 3 [.ref (ad (34 + i)), .int (nI (nk - 1))]) (by omega) ((cell_met (show i < 6 by omega)).trans rfl)
      have hc3 := hc
      have hc := hc2.of e6
      have kpK7 := kp_up hc3 (28 + i) (by omega) e6
      have kfK7 := kp.tr (kp_le (hle.rf f)) kpK7
      have kn9 : K7 (28 + i) 0 = nI (nk - 1) := by rw [eK8, va_up_self, pk_us]
      refine lv_aload_n hx hb dX11_drop_43 rfl (lv_at hl 0 rfl) ?_
      refine h_get C hw bX3 (co.met hc (show i < 6 by omega)) lk3 1 (by decide) lk2 (v := .int (nI (nk - 1))) (congrArg (fun z => some (Value.int z)) kn9) dX11_drop_44 ?_
      refine n_i2l C (by omega) dX11_drop_47 ?_
      have hKn : ∀ jj, jj ≠ (28 + i) → K7 jj = K jj := fun jj h0 => by rw [eK8, va_up_ne _ _ h0]
      have hAn : ∀ jj, jj ≠ 8 → (stP A 8 i (nI (nk - 1))) jj = A jj := fun jj a0 => by simp only [stS, stP, rowA, ldA, wyS, sgS, va_up_ne, ne_eq, not_false_eq_true, a0]
      exact h_lret C hr hlk hw (cop (A1 := stP A 8 i (nI (nk - 1))) (by simp only [op_drop, if_pos cq3, nI_clamp (show i < 2 ^ 31 by omega), h8, if_neg (fun h9 : nI nk = 0 => cq4 ((nI_eq (b := 0) (by omega) (by decide)).mp h9)), pk_sub (show 1 ≤ nk by omega), nI_l (show nk - 1 < 2 ^ 31 by omega)] <;> rfl) hc ⟨(inA_8 hr9.1), (hr9.2.1.cg (hKn 11 (by omega)) rfl), (sgs_d hr9.2.2.1 kfK7 h8 hn cq4 eK8), (hr9.2.2.2.1.cg kfK7 rfl (hAn 7 (by omega))), (hr9.2.2.2.2.1.cg (fun k9 _ => (hKn k9 (by omega))) (fun k9 _ => (hAn k9 (by omega)))), (hr9.2.2.2.2.2.1.cg (fun k9 _ _ => (hKn k9 (by omega))) (hAn 5 (by omega)) (hAn 6 (by omega))), (hr9.2.2.2.2.2.2.1.cg (hKn 6 (by omega)) (hKn 27 (by omega)) (hAn 13 (by omega)) (hAn 14 (by omega))), (hr9.2.2.2.2.2.2.2.1.cg (hKn 9 (by omega)) (hKn 10 (by omega)) (hAn 12 (by omega))), (hr9.2.2.2.2.2.2.2.2.1.cg kfK7 rfl rfl), (hr9.2.2.2.2.2.2.2.2.2.cg (fun k9 _ => (hKn k9 (by omega))) (fun k9 _ => (hAn k9 (by omega))))⟩) dX11_drop_48
    · refine lv_aload_n hx hb dX11_drop_27 rfl (lv_at hl 1 rfl) ?_
      refine lv_iconst (v := nI 2) hx hb dX11_drop_28 (by decide) ?_
      refine h_calll hw (h_runV (n := 1) (As := [.int (nI 2)]) (rest := []) C hw (c_X11_finding hc (by omega)) gX11_drop_X11_finding rfl rfl rfl (by decide +kernel) ⟨by decide, by decide⟩ bX11 (co.a0 hc) rfl hl.1 rfl (Nat.le_of_ble_eq_true rfl) dX11_drop_29 ⟨by first | decide | omega, by first | decide | omega⟩) (fun r10 f11 H locs hp hw => ?_)
      obtain ⟨rfl, K12, hc, eK13, kp14⟩ := hp
      exact h_lret C hr hlk hw (cop (by simp only [op_drop, if_pos cq3, nI_clamp (show i < 2 ^ 31 by omega), h8, if_pos (show nI nk = 0 by rw [cq4]; rfl)]) hc (rp_fnd hr9 eK13 (kp.tr (kp_le (hle.rf f)) kp14) (by decide) hN)) dX11_drop_32
  · refine lv_aload_n hx hb dX11_drop_7 rfl (lv_at hl 0 rfl) ?_
    refine lv_iconst (v := nI 1) hx hb dX11_drop_8 (by decide) ?_
    refine h_calll hw (h_runV (n := 1) (As := [.int (nI 1)]) (rest := []) C hw (c_X11_finding hc (by omega)) gX11_drop_X11_finding rfl rfl rfl (by decide +kernel) ⟨by decide, by decide⟩ bX11 (co.a0 hc) rfl hl.1 rfl (Nat.le_of_ble_eq_true rfl) dX11_drop_9 ⟨by first | decide | omega, by first | decide | omega⟩) (fun r15 f16 H locs hp hw => ?_)
    obtain ⟨rfl, K17, hc, eK18, kp19⟩ := hp
    exact h_lret C hr hlk hw (cop (by simp only [op_drop, if_neg cq3]) hc (rp_fnd hr9 eK18 (kp.tr (kp_le (hle.rf f)) kp19) (by decide) hN)) dX11_drop_12
set_option maxHeartbeats 4000000 in
set_option maxRecDepth 100000 in
theorem c_X11_wind {l : Launch} {D : va_G} {cA : Nat → ClassId} {f : HF} {sz : Nat} {ad : Nat → Nat} {K : KK} {G : GG} {A : MA} {B : MB} {N : Nat} {k u v : Int32}  (hc : co cA ad K G f) (hr9 : rp ad K G A B N f) (hN : N < 2 ^ 20) : Met l yX11_wind wsX11_wind ({ frames := 1, cells := 0, slots := 0, locals := 21 } : Room) (va_Pc [.ref (ad 0), .int k, .int u, .int v] (hB D cA f sz)) (va_Ql (fun r f1 => (op_wind A B k u v).1 = r ∧ ∃ K1 G1, co cA ad K1 G1 f1 ∧ rp ad K1 G1 (op_wind A B k u v).2.1 (op_wind A B k u v).2.2 (N + 1) f1) (hE D f sz) (hA f sz)) 0 0 (hA f sz) := by
  refine h_of (cc := cX11_wind) (maxL := 4) (ret := (some .long)) (by decide +kernel) rfl (Nat.le_of_ble_eq_true rfl) ?_
  intro p e s m below meth c ls C hr hlk hnm hw hl
  have hx := C.1.1
  have hb := C.1.2.1
  have hl : lv_has ls 4 [(0, .ref (ad 0)), (1, .int k), (2, .int u), (3, .int v)] := hl
  have lk0 : Cond.fieldLink RX11 67 "FallingLight" "windX" "[I" ∈ wsX11_wind := by decide +kernel
  have lk1 : ∀ w ∈ u_ws RX11 TX11 11, w ∈ wsX11_wind := by decide +kernel
  have lk2 : Cond.fieldLink RX11 71 "FallingLight" "windY" "[I" ∈ wsX11_wind := by decide +kernel
  obtain ⟨hI, hF, hS, hT, hP, hRw, hTp, hWd, hTr, hMt⟩ := id hr9
  obtain ⟨-, -, -, hrs, hso, hwy, hst, hdr, hpx, hpy⟩ := id hI
  refine lv_iload_n hx hb dX11_wind_0 rfl (lv_at hl 1 rfl) ?_
  refine lv_if_lt (tgt := 28) hx hb dX11_wind_1 (by decide) (fun cq1 => ?_) (fun cq1 => ?_)
  · refine lv_aload_n hx hb dX11_wind_28 rfl (lv_at hl 0 rfl) ?_
    refine lv_iconst (v := nI 1) hx hb dX11_wind_29 (by decide) ?_
    refine h_calll hw (h_runV (n := 1) (As := [.int (nI 1)]) (rest := []) C hw (c_X11_finding hc (by omega)) gX11_wind_X11_finding rfl rfl rfl (by decide +kernel) ⟨by decide, by decide⟩ bX11 (co.a0 hc) rfl hl.1 rfl (Nat.le_of_ble_eq_true rfl) dX11_wind_30 ⟨by first | decide | omega, by first | decide | omega⟩) (fun r2 f3 H locs hp hw => ?_)
    obtain ⟨rfl, K4, hc, eK5, kp6⟩ := hp
    exact h_lret C hr hlk hw (cop (by simp only [op_wind, if_neg (rg_lo cq1)]) hc (rp_fnd hr9 eK5 (kp.tr (kp_le (hle.rf f)) kp6) (by decide) hN)) dX11_wind_33
  · refine lv_iload_n hx hb dX11_wind_4 rfl (lv_at hl 1 rfl) ?_
    refine lv_bipush (v := nI 10) hx hb dX11_wind_5 (by decide) ?_
    refine lv_icmp_ge (tgt := 28) hx hb dX11_wind_7 (by decide) (fun cq7 => ?_) (fun cq7 => ?_)
    · refine lv_aload_n hx hb dX11_wind_28 rfl (lv_at hl 0 rfl) ?_
      refine lv_iconst (v := nI 1) hx hb dX11_wind_29 (by decide) ?_
      refine h_calll hw (h_runV (n := 1) (As := [.int (nI 1)]) (rest := []) C hw (c_X11_finding hc (by omega)) gX11_wind_X11_finding rfl rfl rfl (by decide +kernel) ⟨by decide, by decide⟩ bX11 (co.a0 hc) rfl hl.1 rfl (Nat.le_of_ble_eq_true rfl) dX11_wind_30 ⟨by first | decide | omega, by first | decide | omega⟩) (fun r8 f9 H locs hp hw => ?_)
      obtain ⟨rfl, K10, hc, eK11, kp12⟩ := hp
      exact h_lret C hr hlk hw (cop (by simp only [op_wind, if_neg (rg_hi2 (k := 9) (by decide) cq7)]) hc (rp_fnd hr9 eK11 (kp.tr (kp_le (hle.rf f)) kp12) (by decide) hN)) dX11_wind_33
    · have hrgw := rg_of2 (k := 9) (by decide) cq1 (Int32.not_le.mp cq7)
      obtain ⟨i, hi, rfl⟩ := inN (by decide) hrgw
      refine lv_iload_n hx hb dX11_wind_10 rfl (lv_at hl 2 rfl) ?_
      refine lv_bipush (v := nI 9) hx hb dX11_wind_11 (by decide) ?_
      refine h_calli hw (h_runS (n := 2) (As := [.int u, .int (nI 9)]) (rest := []) C hw (c_X11_within (show -(nI 9) = (-9 : Int32) from by decide)) gX11_wind_X11_within rfl rfl rfl (by decide +kernel) ⟨by decide, by decide⟩ rfl hl.1 rfl (Nat.le_of_ble_eq_true rfl) dX11_wind_13 ⟨by first | decide | omega, by first | decide | omega⟩) (fun r13 f14 H locs hp hw => ?_)
      obtain ⟨rfl, rfl⟩ := hp
      refine n_ifeqB C (tgt := 28) dX11_wind_16 (by decide) (fun cq15 => ?_) (fun cq15 => ?_)
      · refine lv_aload_n hx hb dX11_wind_28 rfl (lv_at hl 0 rfl) ?_
        refine lv_iconst (v := nI 1) hx hb dX11_wind_29 (by decide) ?_
        refine h_calll hw (h_runV (n := 1) (As := [.int (nI 1)]) (rest := []) C hw (c_X11_finding hc (by omega)) gX11_wind_X11_finding rfl rfl rfl (by decide +kernel) ⟨by decide, by decide⟩ bX11 (co.a0 hc) rfl hl.1 rfl (Nat.le_of_ble_eq_true rfl) dX11_wind_30 ⟨by first | decide | omega, by first | decide | omega⟩) (fun r16 f17 H locs hp hw => ?_)
        obtain ⟨rfl, K18, hc, eK19, kp20⟩ := hp
        exact h_lret C hr hlk hw (cop (by simp only [op_wind, if_pos hrgw, if_neg cq15]) hc (rp_fnd hr9 eK19 (kp.tr (kp_le (hle.rf f)) kp20) (by decide) hN)) dX11_wind_33
      · refine lv_iload_n hx hb dX11_wind_19 rfl (lv_at hl 3 rfl) ?_
        refine lv_bipush (v := nI 9) hx hb dX11_wind_20 (by decide) ?_
        refine h_calli hw (h_runS (n := 2) (As := [.int v, .int (nI 9)]) (rest := []) C hw (c_X11_within (show -(nI 9) = (-9 : Int32) from by decide)) gX11_wind_X11_within rfl rfl rfl (by decide +kernel) ⟨by decide, by decide⟩ rfl hl.1 rfl (Nat.le_of_ble_eq_true rfl) dX11_wind_22 ⟨by first | decide | omega, by first | decide | omega⟩) (fun r21 f22 H locs hp hw => ?_)
        obtain ⟨rfl, rfl⟩ := hp
        refine n_ifneB C (tgt := 34) dX11_wind_25 (by decide) (fun cq23 => ?_) (fun cq23 => ?_)
        · refine lv_aload_n hx hb dX11_wind_34 rfl (lv_at hl 0 rfl) ?_
          refine h_get C hw bX11 (co.a0 hc) lk1 8 (by decide) lk0 (v := .ref (ad 9)) rfl dX11_wind_35 ?_
          refine lv_iload_n hx hb dX11_wind_38 rfl (lv_at hl 1 rfl) ?_
          refine lv_iload_n hx hb dX11_wind_39 rfl (lv_at hl 2 rfl) ?_
          refine h_iast1 C hw (co.a9 hc) (show i < 10 from (by omega)) (by first | omega | decide) dX11_wind_40 (fun f24 H locs e25 hw => ?_)
          obtain ⟨K26, eK27, hc2⟩ := hc.upK 9 (κ := upd (K 9) i u) (e := eI cA 10 (upd (K 9) i u)) (by omega) rfl
          have hc3 := hc
          have hc := hc2.of e25
          have kpK26 := kp_up hc3 9 (by omega) e25
          have kfK26 := kp.tr (kp_le (hle.rf f)) kpK26
          refine lv_aload_n hx hb dX11_wind_41 rfl (lv_at hl 0 rfl) ?_
          refine h_get C hw bX11 (co.a0 hc) lk1 9 (by decide) lk2 (v := .ref (ad 10)) rfl dX11_wind_42 ?_
          refine lv_iload_n hx hb dX11_wind_45 rfl (lv_at hl 1 rfl) ?_
          refine lv_iload_n hx hb dX11_wind_46 rfl (lv_at hl 3 rfl) ?_
          refine h_iast1 C hw (co.a10 hc) (show i < 10 from (by omega)) (by first | omega | decide) dX11_wind_47 (fun f28 H locs e29 hw => ?_)
          obtain ⟨K30, eK31, hc2⟩ := hc.upK 10 (κ := upd (K26 10) i v) (e := eI cA 10 (upd (K26 10) i v)) (by omega) rfl
          have hc3 := hc
          have hc := hc2.of e29
          have kpK30 := kp_up hc3 10 (by omega) e29
          have kfK30 := kp.tr kfK26 kpK30
          refine lv_lconst (v := 1) hx hb dX11_wind_48 (by decide) ?_
          have hKn : ∀ jj, jj ≠ 9 → jj ≠ 10 → K30 jj = K jj := fun jj h0 h1 => by rw [eK31, va_up_ne _ _ h1, eK27, va_up_ne _ _ h0]
          have hAn : ∀ jj, jj ≠ 12 → (va_up A 12 (upd (upd (A 12) (2 * i) u) (2 * i + 1) v)) jj = A jj := fun jj a0 => by simp only [stS, stP, rowA, ldA, wyS, sgS, va_up_ne, ne_eq, not_false_eq_true, a0]
          exact h_lret C hr hlk hw (cop (A1 := va_up A 12 (upd (upd (A 12) (2 * i) u) (2 * i + 1) v)) (by simp only [op_wind, if_pos hrgw, if_pos cq15, if_pos cq23, nI_clamp (show i < 2 ^ 31 by omega), stP2] <;> rfl) hc ⟨(inA_w hr9.1 (ib_upd (ib_upd hdr (ib_r9 cq15)) (ib_r9 cq23))), (hr9.2.1.cg (hKn 11 (by omega) (by omega)) rfl), (hr9.2.2.1.cg kfK30 (fun i9 _ => (hKn (28 + i9) (by omega) (by omega))) (fun i9 _ => rfl) (fun k9 _ _ => (hAn k9 (by omega)))), (hr9.2.2.2.1.cg kfK30 rfl (hAn 7 (by omega))), (hr9.2.2.2.2.1.cg (fun k9 _ => (hKn k9 (by omega) (by omega))) (fun k9 _ => (hAn k9 (by omega)))), (hr9.2.2.2.2.2.1.cg (fun k9 _ _ => (hKn k9 (by omega) (by omega))) (hAn 5 (by omega)) (hAn 6 (by omega))), (hr9.2.2.2.2.2.2.1.cg (hKn 6 (by omega) (by omega)) (hKn 27 (by omega) (by omega)) (hAn 13 (by omega)) (hAn 14 (by omega))), (wnd_w hr9.2.2.2.2.2.2.2.1 eK27 eK31), (hr9.2.2.2.2.2.2.2.2.1.cg kfK30 rfl rfl), (hr9.2.2.2.2.2.2.2.2.2.cg (fun k9 _ => (hKn k9 (by omega) (by omega))) (fun k9 _ => (hAn k9 (by omega))))⟩) dX11_wind_49
        · refine lv_aload_n hx hb dX11_wind_28 rfl (lv_at hl 0 rfl) ?_
          refine lv_iconst (v := nI 1) hx hb dX11_wind_29 (by decide) ?_
          refine h_calll hw (h_runV (n := 1) (As := [.int (nI 1)]) (rest := []) C hw (c_X11_finding hc (by omega)) gX11_wind_X11_finding rfl rfl rfl (by decide +kernel) ⟨by decide, by decide⟩ bX11 (co.a0 hc) rfl hl.1 rfl (Nat.le_of_ble_eq_true rfl) dX11_wind_30 ⟨by first | decide | omega, by first | decide | omega⟩) (fun r32 f33 H locs hp hw => ?_)
          obtain ⟨rfl, K34, hc, eK35, kp36⟩ := hp
          exact h_lret C hr hlk hw (cop (by simp only [op_wind, if_pos hrgw, if_pos cq15, if_neg cq23]) hc (rp_fnd hr9 eK35 (kp.tr (kp_le (hle.rf f)) kp36) (by decide) hN)) dX11_wind_33
