/-! ===== the class: acts over the matching (laid by program) ===== -/
theorem rp.md {ad : Nat → Nat} {K : KK} {G : GG} {A : MA} {B : MB} {N : Nat} {f : HF} (h : rp ad K G A B N f) (h31 : K 3 1 = nI 1) : mtd K A := h.2.2.2.2.2.2.2.2.2.2.elim (fun h9 => absurd (h9.symm.trans h31) (by decide)) (fun h9 => h9.2)
theorem pk3_g {g : Nat → Int32} {t : N3} {u : Nat} (hu : u < 3) (h0 : g 0 = nI t.1) (h1 : g 1 = nI t.2.1) (h2 : g 2 = nI t.2.2) : g u = nI (pk3 t u) := by
  have h : u = 0 ∨ u = 1 ∨ u = 2 := by omega
  unfold pk3
  rcases h with rfl | rfl | rfl
  · rw [if_pos rfl]; exact h0
  · rw [if_neg (by decide), if_pos rfl]; exact h1
  · rw [if_neg (by decide), if_neg (by decide)]; exact h2
theorem ck_r {A : MA} {ns nt tn : Nat} : (∀ k, ckA A ns nt tn = some k → ckR (ckA A ns nt tn) tn ns = lN (1 + k)) ∧ (ckA A ns nt tn = none → ckR (ckA A ns nt tn) tn ns = if tn ≤ ns then 0 else 99) := ⟨fun k h => by rw [h]; rfl, fun h => by rw [h]; rfl⟩
theorem pl_y (A : MA) (B : MB) (ns nt : Nat) (o : Option N3) (u v e z : Int32) : (if e = 0 then plR A B ns nt 2 o u v z else plR A B ns nt 3 o u v z) = plR A B ns nt (yK e) o u v z := by
  unfold yK
  by_cases h : e = 0
  · rw [if_pos h, if_pos h]
  · rw [if_neg h, if_neg h]
set_option maxHeartbeats 4000000 in
set_option maxRecDepth 100000 in
theorem c_X11_votes {l : Launch} {D : va_G} {cA : Nat → ClassId} {f : HF} {sz : Nat} {ad : Nat → Nat} {K : KK} {G : GG} {A : MA} {B : MB} {N : Nat} {ns nt : Nat} {a b : Int32}  (hc : co cA ad K G f) (hr9 : rp ad K G A B N f) (hN : N < 2 ^ 20) (hns : A 0 0 = nI ns) (hnt : A 1 0 = nI nt) (hns2 : ns ≤ 10) (hnt2 : nt ≤ 12) : Met l yX11_votes wsX11_votes ({ frames := 6, cells := 440, slots := 3520, locals := 147 } : Room) (va_Pc [.ref (ad 0), .int a, .int b] (hB D cA f sz)) (va_Ql (fun r f1 => (op_votes A B ns nt a b).1 = r ∧ ∃ K1 G1, co cA ad K1 G1 f1 ∧ rp ad K1 G1 (op_votes A B ns nt a b).2.1 (op_votes A B ns nt a b).2.2 (N + 1) f1) (hE D f sz) (hA f sz)) 440 3520 (hA f sz) := by
  refine h_of (cc := cX11_votes) (maxL := 3) (ret := (some .long)) (by decide +kernel) rfl (Nat.le_of_ble_eq_true rfl) ?_
  intro p e s m below meth c ls C hr hlk hnm hw hl
  have hx := C.1.1
  have hb := C.1.2.1
  have hl : lv_has ls 3 [(0, .ref (ad 0)), (1, .int a), (2, .int b)] := hl
  have lk0 : Cond.fieldLink RX11 18 "FallingLight" "spotPoints" "LFallingLight$Points;" ∈ wsX11_votes := by decide +kernel
  have lk1 : ∀ w ∈ u_ws RX11 TX11 11, w ∈ wsX11_votes := by decide +kernel
  have lk2 : Cond.fieldLink RX11 14 "FallingLight" "starPoints" "LFallingLight$Points;" ∈ wsX11_votes := by decide +kernel
  have lk3 : Cond.fieldLink RX11 26 "FallingLight" "matching" "LFallingLight$Matching;" ∈ wsX11_votes := by decide +kernel
  have lk4 : Cond.fieldLink RX11 149 "FallingLight$Matching" "ballots" "[[I" ∈ wsX11_votes := by decide +kernel
  have lk5 : ∀ w ∈ u_ws RX1 TX1 10, w ∈ wsX11_votes := by decide +kernel
  obtain ⟨hI, hF, hS, hT, hP, hRw, hTp, hWd, hTr, hMt⟩ := id hr9
  obtain ⟨-, -, -, hrs, hso, hwy, hst, hdr, hpx, hpy⟩ := id hI
  refine lv_aload_n hx hb dX11_votes_0 rfl (lv_at hl 0 rfl) ?_
  refine h_get C hw bX11 (co.a0 hc) lk1 1 (by decide) lk0 (v := .ref (ad 2)) rfl dX11_votes_1 ?_
  refine lv_iload_n hx hb dX11_votes_4 rfl (lv_at hl 1 rfl) ?_
  refine h_calli hw (h_runV (n := 1) (As := [.int a]) (rest := []) C hw (c_X4_has ((co.a2 hc).trans (by rw [(hP.2.1.trans hns)])) (by omega)) gX11_votes_X4_has rfl rfl rfl (by decide +kernel) ⟨by decide, by decide⟩ bX4 (co.a2 hc) rfl hl.1 rfl (Nat.le_of_ble_eq_true rfl) dX11_votes_5 ⟨by first | decide | omega | (dsimp only; omega), by first | decide | omega | (dsimp only; omega)⟩) (fun r1 f2 H locs hp hw => ?_)
  obtain ⟨rfl, rfl⟩ := hp
  refine n_ifeqB C (tgt := 22) dX11_votes_8 (by decide) (fun cq3 => ?_) (fun cq3 => ?_)
  · refine lv_aload_n hx hb dX11_votes_22 rfl (lv_at hl 0 rfl) ?_
    refine lv_iconst (v := nI 1) hx hb dX11_votes_23 (by decide) ?_
    refine h_calll hw (h_runV (n := 1) (As := [.int (nI 1)]) (rest := []) C hw (c_X11_finding hc (by omega)) gX11_votes_X11_finding rfl rfl rfl (by decide +kernel) ⟨by decide, by decide⟩ bX11 (co.a0 hc) rfl hl.1 rfl (Nat.le_of_ble_eq_true rfl) dX11_votes_24 ⟨by first | decide | omega | (dsimp only; omega), by first | decide | omega | (dsimp only; omega)⟩) (fun r4 f5 H locs hp hw => ?_)
    obtain ⟨rfl, K6, hc, eK7, kp8⟩ := hp
    refine W.widen (k := 440) (n := 3520) (by first | decide | omega | (dsimp only; omega)) (by first | decide | omega | (dsimp only; omega)) ?_
    exact h_lret C hr hlk hw (cop (by simp only [op_votes, if_neg cq3]) hc (rp_fnd hr9 eK7 (kp.tr (kp_le (hle.rf f)) kp8) (by decide) hN)) dX11_votes_27
  · obtain ⟨i, hi, rfl⟩ := in1N (by omega) cq3
    refine lv_aload_n hx hb dX11_votes_11 rfl (lv_at hl 0 rfl) ?_
    refine h_get C hw bX11 (co.a0 hc) lk1 0 (by decide) lk2 (v := .ref (ad 1)) rfl dX11_votes_12 ?_
    refine lv_iload_n hx hb dX11_votes_15 rfl (lv_at hl 2 rfl) ?_
    refine h_calli hw (h_runV (n := 1) (As := [.int b]) (rest := []) C hw (c_X4_has ((co.a1 hc).trans (by rw [(hP.1.trans hnt)])) (by omega)) gX11_votes_X4_has rfl rfl rfl (by decide +kernel) ⟨by decide, by decide⟩ bX4 (co.a1 hc) rfl hl.1 rfl (Nat.le_of_ble_eq_true rfl) dX11_votes_16 ⟨by first | decide | omega | (dsimp only; omega), by first | decide | omega | (dsimp only; omega)⟩) (fun r9 f10 H locs hp hw => ?_)
    obtain ⟨rfl, rfl⟩ := hp
    refine n_ifneB C (tgt := 28) dX11_votes_19 (by decide) (fun cq11 => ?_) (fun cq11 => ?_)
    · obtain ⟨j, hj, rfl⟩ := in1N (by omega) cq11
      refine lv_aload_n hx hb dX11_votes_28 rfl (lv_at hl 0 rfl) ?_
      refine h_get C hw bX11 (co.a0 hc) lk1 2 (by decide) lk3 (v := .ref (ad 3)) rfl dX11_votes_29 ?_
      refine h_callv hw (h_runV (n := 0) (As := []) (rest := []) C hw (c_X1_renew (A := A) (B := B) (N := N) (ns := ns) (nt := nt) hc hr9 hns hnt hns2 hnt2) gX11_votes_X1_renew rfl rfl rfl (by decide +kernel) ⟨by decide, by decide⟩ bX1 (co.a3 hc) rfl hl.1 rfl (Nat.le_of_ble_eq_true rfl) dX11_votes_32 ⟨by first | decide | omega | (dsimp only; omega), by first | decide | omega | (dsimp only; omega)⟩) (fun  f12 H locs hp hw => ?_)
      obtain ⟨K13, G14, hc, hr9, h31⟩ := hp
      obtain ⟨hvt, hMM, hht, hbt⟩ := rp.md hr9 h31 ns nt hns hnt hns2 hnt2
      have hP := hr9.2.2.2.2.1
      have hTp := hr9.2.2.2.2.2.2.1
      refine lv_aload_n hx hb dX11_votes_35 rfl (lv_at hl 0 rfl) ?_
      refine h_get C hw bX11 (co.a0 hc) lk1 2 (by decide) lk3 (v := .ref (ad 3)) rfl dX11_votes_36 ?_
      refine h_get C hw bX1 (co.a3 hc) lk5 4 (by decide) lk4 (v := .ref (ad 18)) rfl dX11_votes_39 ?_
      refine lv_iload_n hx hb dX11_votes_42 rfl (lv_at hl 1 rfl) ?_
      refine h_aldM C hw (co.a18 hc) (if_pos (by omega)) (show i < 10 from (by omega)) (by first | omega | decide) dX11_votes_43 ?_
      refine lv_iload_n hx hb dX11_votes_44 rfl (lv_at hl 2 rfl) ?_
      refine h_iald1 C hw (v := vtA A ns nt (12 * i + j)) (co.bal hc (show i < 10 by omega)) (hvt i j (by omega) (by omega)) (show j < 12 from (by omega)) (by first | omega | decide) dX11_votes_45 ?_
      refine lv_i2l hx hb dX11_votes_46 rfl ?_
      refine W.widen (k := 440) (n := 3520) (by first | decide | omega | (dsimp only; omega)) (by first | decide | omega | (dsimp only; omega)) ?_
      exact h_lret C hr hlk hw (cop (by simp only [op_votes, if_pos cq3, if_pos cq11, nI_clamp (show i < 2 ^ 31 by omega), nI_clamp (show j < 2 ^ 31 by omega)]) hc (rp_le hr9 (kp_le (hle.rf _)))) dX11_votes_47
    · refine lv_aload_n hx hb dX11_votes_22 rfl (lv_at hl 0 rfl) ?_
      refine lv_iconst (v := nI 1) hx hb dX11_votes_23 (by decide) ?_
      refine h_calll hw (h_runV (n := 1) (As := [.int (nI 1)]) (rest := []) C hw (c_X11_finding hc (by omega)) gX11_votes_X11_finding rfl rfl rfl (by decide +kernel) ⟨by decide, by decide⟩ bX11 (co.a0 hc) rfl hl.1 rfl (Nat.le_of_ble_eq_true rfl) dX11_votes_24 ⟨by first | decide | omega | (dsimp only; omega), by first | decide | omega | (dsimp only; omega)⟩) (fun r15 f16 H locs hp hw => ?_)
      obtain ⟨rfl, K17, hc, eK18, kp19⟩ := hp
      refine W.widen (k := 440) (n := 3520) (by first | decide | omega | (dsimp only; omega)) (by first | decide | omega | (dsimp only; omega)) ?_
      exact h_lret C hr hlk hw (cop (by simp only [op_votes, if_pos cq3, if_neg cq11]) hc (rp_fnd hr9 eK18 (kp.tr (kp_le (hle.rf f)) kp19) (by decide) hN)) dX11_votes_27
set_option maxHeartbeats 4000000 in
set_option maxRecDepth 100000 in
theorem c_X11_match {l : Launch} {D : va_G} {cA : Nat → ClassId} {f : HF} {sz : Nat} {ad : Nat → Nat} {K : KK} {G : GG} {A : MA} {B : MB} {N : Nat} {ns nt : Nat} {a : Int32}  (hc : co cA ad K G f) (hr9 : rp ad K G A B N f) (hN : N < 2 ^ 20) (hns : A 0 0 = nI ns) (hnt : A 1 0 = nI nt) (hns2 : ns ≤ 10) (hnt2 : nt ≤ 12) : Met l yX11_match wsX11_match ({ frames := 6, cells := 440, slots := 3520, locals := 147 } : Room) (va_Pc [.ref (ad 0), .int a] (hB D cA f sz)) (va_Ql (fun r f1 => (op_match A B ns nt a).1 = r ∧ ∃ K1 G1, co cA ad K1 G1 f1 ∧ rp ad K1 G1 (op_match A B ns nt a).2.1 (op_match A B ns nt a).2.2 (N + 1) f1) (hE D f sz) (hA f sz)) 440 3520 (hA f sz) := by
  refine h_of (cc := cX11_match) (maxL := 3) (ret := (some .long)) (by decide +kernel) rfl (Nat.le_of_ble_eq_true rfl) ?_
  intro p e s m below meth c ls C hr hlk hnm hw hl
  have hx := C.1.1
  have hb := C.1.2.1
  have hl : lv_has ls 3 [(0, .ref (ad 0)), (1, .int a)] := hl
  have lk0 : Cond.fieldLink RX11 18 "FallingLight" "spotPoints" "LFallingLight$Points;" ∈ wsX11_match := by decide +kernel
  have lk1 : ∀ w ∈ u_ws RX11 TX11 11, w ∈ wsX11_match := by decide +kernel
  have lk2 : Cond.fieldLink RX11 26 "FallingLight" "matching" "LFallingLight$Matching;" ∈ wsX11_match := by decide +kernel
  have lk3 : Cond.fieldLink RX11 153 "FallingLight$Matching" "partners" "[I" ∈ wsX11_match := by decide +kernel
  have lk4 : ∀ w ∈ u_ws RX1 TX1 10, w ∈ wsX11_match := by decide +kernel
  obtain ⟨hI, hF, hS, hT, hP, hRw, hTp, hWd, hTr, hMt⟩ := id hr9
  obtain ⟨-, -, -, hrs, hso, hwy, hst, hdr, hpx, hpy⟩ := id hI
  refine lv_aload_n hx hb dX11_match_0 rfl (lv_at hl 0 rfl) ?_
  refine h_get C hw bX11 (co.a0 hc) lk1 1 (by decide) lk0 (v := .ref (ad 2)) rfl dX11_match_1 ?_
  refine lv_iload_n hx hb dX11_match_4 rfl (lv_at hl 1 rfl) ?_
  refine h_calli hw (h_runV (n := 1) (As := [.int a]) (rest := []) C hw (c_X4_has ((co.a2 hc).trans (by rw [(hP.2.1.trans hns)])) (by omega)) gX11_match_X4_has rfl rfl rfl (by decide +kernel) ⟨by decide, by decide⟩ bX4 (co.a2 hc) rfl hl.1 rfl (Nat.le_of_ble_eq_true rfl) dX11_match_5 ⟨by first | decide | omega | (dsimp only; omega), by first | decide | omega | (dsimp only; omega)⟩) (fun r1 f2 H locs hp hw => ?_)
  obtain ⟨rfl, rfl⟩ := hp
  refine n_ifneB C (tgt := 17) dX11_match_8 (by decide) (fun cq3 => ?_) (fun cq3 => ?_)
  · obtain ⟨i, hi, rfl⟩ := in1N (by omega) cq3
    refine lv_aload_n hx hb dX11_match_17 rfl (lv_at hl 0 rfl) ?_
    refine h_get C hw bX11 (co.a0 hc) lk1 2 (by decide) lk2 (v := .ref (ad 3)) rfl dX11_match_18 ?_
    refine h_callv hw (h_runV (n := 0) (As := []) (rest := []) C hw (c_X1_renew (A := A) (B := B) (N := N) (ns := ns) (nt := nt) hc hr9 hns hnt hns2 hnt2) gX11_match_X1_renew rfl rfl rfl (by decide +kernel) ⟨by decide, by decide⟩ bX1 (co.a3 hc) rfl hl.1 rfl (Nat.le_of_ble_eq_true rfl) dX11_match_21 ⟨by first | decide | omega | (dsimp only; omega), by first | decide | omega | (dsimp only; omega)⟩) (fun  f4 H locs hp hw => ?_)
    obtain ⟨K5, G6, hc, hr9, h31⟩ := hp
    obtain ⟨hvt, hMM, hht, hbt⟩ := rp.md hr9 h31 ns nt hns hnt hns2 hnt2
    have hP := hr9.2.2.2.2.1
    have hTp := hr9.2.2.2.2.2.2.1
    refine lv_aload_n hx hb dX11_match_24 rfl (lv_at hl 0 rfl) ?_
    refine h_get C hw bX11 (co.a0 hc) lk1 2 (by decide) lk2 (v := .ref (ad 3)) rfl dX11_match_25 ?_
    refine h_get C hw bX1 (co.a3 hc) lk4 5 (by decide) lk3 (v := .ref (ad 19)) rfl dX11_match_28 ?_
    refine lv_iload_n hx hb dX11_match_31 rfl (lv_at hl 1 rfl) ?_
    refine h_iald1 C hw (v := oI (mA A ns nt i)) (co.a19 hc) (hMM i hi) (show i < 10 from (by omega)) (by first | omega | decide) dX11_match_32 ?_
    refine lv_istore_n (lv' := [(2, _), (0, _), (1, _)]) hx hb dX11_match_33 rfl hl (by decide) rfl (fun ls hl => ?_)
    refine lv_iload_n hx hb dX11_match_34 rfl (lv_at hl 0 rfl) ?_
    refine lv_if_ge (tgt := 46) hx hb dX11_match_35 (by decide) (fun cq7 => ?_) (fun cq7 => ?_)
    · obtain ⟨b, hbb, hbI⟩ := oI_ge cq7
      have hbt9 := mt_lt hbb
      rw [hbI] at hl
      refine lv_iload_n hx hb dX11_match_46 rfl (lv_at hl 0 rfl) ?_
      refine n_i2l C (by omega) dX11_match_47 ?_
      refine W.widen (k := 440) (n := 3520) (by first | decide | omega | (dsimp only; omega)) (by first | decide | omega | (dsimp only; omega)) ?_
      exact h_lret C hr hlk hw (cop (by simp only [op_match, if_pos cq3, nI_clamp (show i < 2 ^ 31 by omega), mtR, hbb]) hc (rp_le hr9 (kp_le (hle.rf _)))) dX11_match_48
    · have hbb := oI_ng (fun b h9 => by have := mt_lt h9; omega) cq7
      refine lv_aload_n hx hb dX11_match_38 rfl (lv_at hl 1 rfl) ?_
      refine lv_iconst (v := nI 2) hx hb dX11_match_39 (by decide) ?_
      refine h_calll hw (h_runV (n := 1) (As := [.int (nI 2)]) (rest := []) C hw (c_X11_finding hc (by omega)) gX11_match_X11_finding rfl rfl rfl (by decide +kernel) ⟨by decide, by decide⟩ bX11 (co.a0 hc) rfl hl.1 rfl (Nat.le_of_ble_eq_true rfl) dX11_match_40 ⟨by first | decide | omega | (dsimp only; omega), by first | decide | omega | (dsimp only; omega)⟩) (fun r8 f9 H locs hp hw => ?_)
      obtain ⟨rfl, K10, hc, eK11, kp12⟩ := hp
      refine lv_goto (tgt := 48) hx hb dX11_match_43 (by decide) ?_
      refine W.widen (k := 440) (n := 3520) (by first | decide | omega | (dsimp only; omega)) (by first | decide | omega | (dsimp only; omega)) ?_
      exact h_lret C hr hlk hw (cop (by simp only [op_match, if_pos cq3, nI_clamp (show i < 2 ^ 31 by omega), mtR, hbb]) hc (rp_fnd hr9 eK11 (kp.tr (kp_le (hle.rf _)) kp12) (by decide) hN)) dX11_match_48
  · refine lv_aload_n hx hb dX11_match_11 rfl (lv_at hl 0 rfl) ?_
    refine lv_iconst (v := nI 1) hx hb dX11_match_12 (by decide) ?_
    refine h_calll hw (h_runV (n := 1) (As := [.int (nI 1)]) (rest := []) C hw (c_X11_finding hc (by omega)) gX11_match_X11_finding rfl rfl rfl (by decide +kernel) ⟨by decide, by decide⟩ bX11 (co.a0 hc) rfl hl.1 rfl (Nat.le_of_ble_eq_true rfl) dX11_match_13 ⟨by first | decide | omega | (dsimp only; omega), by first | decide | omega | (dsimp only; omega)⟩) (fun r13 f14 H locs hp hw => ?_)
    obtain ⟨rfl, K15, hc, eK16, kp17⟩ := hp
    refine W.widen (k := 440) (n := 3520) (by first | decide | omega | (dsimp only; omega)) (by first | decide | omega | (dsimp only; omega)) ?_
    exact h_lret C hr hlk hw (cop (by simp only [op_match, if_neg cq3]) hc (rp_fnd hr9 eK16 (kp.tr (kp_le (hle.rf f)) kp17) (by decide) hN)) dX11_match_16
set_option maxHeartbeats 4000000 in
set_option maxRecDepth 100000 in
theorem c_X11_matched {l : Launch} {D : va_G} {cA : Nat → ClassId} {f : HF} {sz : Nat} {ad : Nat → Nat} {K : KK} {G : GG} {A : MA} {B : MB} {N : Nat} {ns nt : Nat}  (hc : co cA ad K G f) (hr9 : rp ad K G A B N f) (hN : N < 2 ^ 20) (hns : A 0 0 = nI ns) (hnt : A 1 0 = nI nt) (hns2 : ns ≤ 10) (hnt2 : nt ≤ 12) : Met l yX11_matched wsX11_matched ({ frames := 6, cells := 440, slots := 3520, locals := 147 } : Room) (va_Pc [.ref (ad 0)] (hB D cA f sz)) (va_Ql (fun r f1 => (op_matched A B ns nt).1 = r ∧ ∃ K1 G1, co cA ad K1 G1 f1 ∧ rp ad K1 G1 (op_matched A B ns nt).2.1 (op_matched A B ns nt).2.2 (N + 1) f1) (hE D f sz) (hA f sz)) 440 3520 (hA f sz) := by
  refine h_of (cc := cX11_matched) (maxL := 1) (ret := (some .long)) (by decide +kernel) rfl (Nat.le_of_ble_eq_true rfl) ?_
  intro p e s m below meth c ls C hr hlk hnm hw hl
  have hx := C.1.1
  have hb := C.1.2.1
  have hl : lv_has ls 1 [(0, .ref (ad 0))] := hl
  have lk0 : Cond.fieldLink RX11 26 "FallingLight" "matching" "LFallingLight$Matching;" ∈ wsX11_matched := by decide +kernel
  have lk1 : ∀ w ∈ u_ws RX11 TX11 11, w ∈ wsX11_matched := by decide +kernel
  obtain ⟨hI, hF, hS, hT, hP, hRw, hTp, hWd, hTr, hMt⟩ := id hr9
  obtain ⟨-, -, -, hrs, hso, hwy, hst, hdr, hpx, hpy⟩ := id hI
  refine lv_aload_n hx hb dX11_matched_0 rfl (lv_at hl 0 rfl) ?_
  refine h_get C hw bX11 (co.a0 hc) lk1 2 (by decide) lk0 (v := .ref (ad 3)) rfl dX11_matched_1 ?_
  refine h_callv hw (h_runV (n := 0) (As := []) (rest := []) C hw (c_X1_renew (A := A) (B := B) (N := N) (ns := ns) (nt := nt) hc hr9 hns hnt hns2 hnt2) gX11_matched_X1_renew rfl rfl rfl (by decide +kernel) ⟨by decide, by decide⟩ bX1 (co.a3 hc) rfl hl.1 rfl (Nat.le_of_ble_eq_true rfl) dX11_matched_4 ⟨by first | decide | omega | (dsimp only; omega), by first | decide | omega | (dsimp only; omega)⟩) (fun  f1 H locs hp hw => ?_)
  obtain ⟨K2, G3, hc, hr9, h31⟩ := hp
  obtain ⟨hvt, hMM, hht, hbt⟩ := rp.md hr9 h31 ns nt hns hnt hns2 hnt2
  have hP := hr9.2.2.2.2.1
  have hTp := hr9.2.2.2.2.2.2.1
  refine lv_aload_n hx hb dX11_matched_7 rfl (lv_at hl 0 rfl) ?_
  refine h_get C hw bX11 (co.a0 hc) lk1 2 (by decide) lk0 (v := .ref (ad 3)) rfl dX11_matched_8 ?_
  refine h_calli hw (h_runV (n := 0) (As := []) (rest := []) C hw (c_X1_partnered hc (hP.2.1.trans hns) (hP.1.trans hnt) hMM hns2 hnt2) gX11_matched_X1_partnered rfl rfl rfl (by decide +kernel) ⟨by decide, by decide⟩ bX1 (co.a3 hc) rfl hl.1 rfl (Nat.le_of_ble_eq_true rfl) dX11_matched_11 ⟨by first | decide | omega | (dsimp only; omega), by first | decide | omega | (dsimp only; omega)⟩) (fun r4 f5 H locs hp hw => ?_)
  obtain ⟨rfl, rfl⟩ := hp
  have hcm9 := cM_le A ns nt ns
  refine n_i2l C (by omega) dX11_matched_14 ?_
  refine W.widen (k := 440) (n := 3520) (by first | decide | omega | (dsimp only; omega)) (by first | decide | omega | (dsimp only; omega)) ?_
  exact h_lret C hr hlk hw (cop (by simp only [op_matched]) hc (rp_le hr9 (kp_le (hle.rf _)))) dX11_matched_15
set_option maxHeartbeats 4000000 in
set_option maxRecDepth 100000 in
theorem c_X11_table {l : Launch} {D : va_G} {cA : Nat → ClassId} {f : HF} {sz : Nat} {ad : Nat → Nat} {K : KK} {G : GG} {A : MA} {B : MB} {N : Nat} {ns nt : Nat} {k : Int32}  (hc : co cA ad K G f) (hr9 : rp ad K G A B N f) (hN : N < 2 ^ 20) (hns : A 0 0 = nI ns) (hnt : A 1 0 = nI nt) (hns2 : ns ≤ 10) (hnt2 : nt ≤ 12) : Met l yX11_table wsX11_table ({ frames := 6, cells := 440, slots := 3520, locals := 147 } : Room) (va_Pc [.ref (ad 0), .int k] (hB D cA f sz)) (va_Ql (fun r f1 => (op_table A B ns nt k).1 = r ∧ ∃ K1 G1, co cA ad K1 G1 f1 ∧ rp ad K1 G1 (op_table A B ns nt k).2.1 (op_table A B ns nt k).2.2 (N + 1) f1) (hE D f sz) (hA f sz)) 440 3520 (hA f sz) := by
  refine h_of (cc := cX11_table) (maxL := 2) (ret := (some .long)) (by decide +kernel) rfl (Nat.le_of_ble_eq_true rfl) ?_
  intro p e s m below meth c ls C hr hlk hnm hw hl
  have hx := C.1.1
  have hb := C.1.2.1
  have hl : lv_has ls 2 [(0, .ref (ad 0)), (1, .int k)] := hl
  have lk0 : Cond.fieldLink RX11 26 "FallingLight" "matching" "LFallingLight$Matching;" ∈ wsX11_table := by decide +kernel
  have lk1 : ∀ w ∈ u_ws RX11 TX11 11, w ∈ wsX11_table := by decide +kernel
  have lk2 : Cond.fieldLink RX11 160 "FallingLight$Matching" "hasTable" "Z" ∈ wsX11_table := by decide +kernel
  have lk3 : ∀ w ∈ u_ws RX1 TX1 10, w ∈ wsX11_table := by decide +kernel
  have lk4 : Cond.fieldLink RX11 163 "FallingLight$Matching" "base" "[I" ∈ wsX11_table := by decide +kernel
  obtain ⟨hI, hF, hS, hT, hP, hRw, hTp, hWd, hTr, hMt⟩ := id hr9
  obtain ⟨-, -, -, hrs, hso, hwy, hst, hdr, hpx, hpy⟩ := id hI
  refine lv_iload_n hx hb dX11_table_0 rfl (lv_at hl 1 rfl) ?_
  refine lv_if_lt (tgt := 9) hx hb dX11_table_1 (by decide) (fun cq1 => ?_) (fun cq1 => ?_)
  · refine lv_aload_n hx hb dX11_table_9 rfl (lv_at hl 0 rfl) ?_
    refine lv_iconst (v := nI 1) hx hb dX11_table_10 (by decide) ?_
    refine h_calll hw (h_runV (n := 1) (As := [.int (nI 1)]) (rest := []) C hw (c_X11_finding hc (by omega)) gX11_table_X11_finding rfl rfl rfl (by decide +kernel) ⟨by decide, by decide⟩ bX11 (co.a0 hc) rfl hl.1 rfl (Nat.le_of_ble_eq_true rfl) dX11_table_11 ⟨by first | decide | omega | (dsimp only; omega), by first | decide | omega | (dsimp only; omega)⟩) (fun r2 f3 H locs hp hw => ?_)
    obtain ⟨rfl, K4, hc, eK5, kp6⟩ := hp
    refine W.widen (k := 440) (n := 3520) (by first | decide | omega | (dsimp only; omega)) (by first | decide | omega | (dsimp only; omega)) ?_
    exact h_lret C hr hlk hw (cop (by simp only [op_table, if_neg (rg_lo cq1)]) hc (rp_fnd hr9 eK5 (kp.tr (kp_le (hle.rf f)) kp6) (by decide) hN)) dX11_table_14
  · refine lv_iload_n hx hb dX11_table_4 rfl (lv_at hl 1 rfl) ?_
    refine lv_iconst (v := nI 3) hx hb dX11_table_5 (by decide) ?_
    refine lv_icmp_lt (tgt := 15) hx hb dX11_table_6 (by decide) (fun cq7 => ?_) (fun cq7 => ?_)
    · have hrgk := rg_of2 (k := 2) (by decide) cq1 cq7
      obtain ⟨u, hu, rfl⟩ := inN (by decide) hrgk
      refine lv_aload_n hx hb dX11_table_15 rfl (lv_at hl 0 rfl) ?_
      refine h_get C hw bX11 (co.a0 hc) lk1 2 (by decide) lk0 (v := .ref (ad 3)) rfl dX11_table_16 ?_
      refine h_callv hw (h_runV (n := 0) (As := []) (rest := []) C hw (c_X1_renew (A := A) (B := B) (N := N) (ns := ns) (nt := nt) hc hr9 hns hnt hns2 hnt2) gX11_table_X1_renew rfl rfl rfl (by decide +kernel) ⟨by decide, by decide⟩ bX1 (co.a3 hc) rfl hl.1 rfl (Nat.le_of_ble_eq_true rfl) dX11_table_19 ⟨by first | decide | omega | (dsimp only; omega), by first | decide | omega | (dsimp only; omega)⟩) (fun  f8 H locs hp hw => ?_)
      obtain ⟨K9, G10, hc, hr9, h31⟩ := hp
      obtain ⟨hvt, hMM, hht, hbt⟩ := rp.md hr9 h31 ns nt hns hnt hns2 hnt2
      have hP := hr9.2.2.2.2.1
      have hTp := hr9.2.2.2.2.2.2.1
      refine lv_aload_n hx hb dX11_table_22 rfl (lv_at hl 0 rfl) ?_
      refine h_get C hw bX11 (co.a0 hc) lk1 2 (by decide) lk0 (v := .ref (ad 3)) rfl dX11_table_23 ?_
      refine h_get C hw bX1 (co.a3 hc) lk3 7 (by decide) lk2 (v := .int (bI ((tbA A ns nt).isSome = true))) (congrArg (fun z => some (Value.int z)) hht) dX11_table_26 ?_
      refine n_ifeqB C (tgt := 45) dX11_table_29 (by decide) (fun cq11 => ?_) (fun cq11 => ?_)
      · have ho := Option.not_isSome_iff_eq_none.mp cq11
        refine lv_aload_n hx hb dX11_table_45 rfl (lv_at hl 0 rfl) ?_
        refine lv_iconst (v := nI 2) hx hb dX11_table_46 (by decide) ?_
        refine h_calll hw (h_runV (n := 1) (As := [.int (nI 2)]) (rest := []) C hw (c_X11_finding hc (by omega)) gX11_table_X11_finding rfl rfl rfl (by decide +kernel) ⟨by decide, by decide⟩ bX11 (co.a0 hc) rfl hl.1 rfl (Nat.le_of_ble_eq_true rfl) dX11_table_47 ⟨by first | decide | omega | (dsimp only; omega), by first | decide | omega | (dsimp only; omega)⟩) (fun r12 f13 H locs hp hw => ?_)
        obtain ⟨rfl, K14, hc, eK15, kp16⟩ := hp
        refine W.widen (k := 440) (n := 3520) (by first | decide | omega | (dsimp only; omega)) (by first | decide | omega | (dsimp only; omega)) ?_
        exact h_lret C hr hlk hw (cop (by simp only [op_table, if_pos hrgk, nI_clamp (show u < 2 ^ 31 by omega), tbR, ho]) hc (rp_fnd hr9 eK15 (kp.tr (kp_le (hle.rf _)) kp16) (by decide) hN)) dX11_table_50
      · obtain ⟨t, ho⟩ := Option.isSome_iff_exists.mp cq11
        obtain ⟨h30, h31, h32⟩ := hbt t ho
        have hok := tb_ok ho
        have hpk : pk3 t u < ns := pk3_lt hok.1 hok.2.1 hok.2.2.1
        refine lv_aload_n hx hb dX11_table_32 rfl (lv_at hl 0 rfl) ?_
        refine h_get C hw bX11 (co.a0 hc) lk1 2 (by decide) lk0 (v := .ref (ad 3)) rfl dX11_table_33 ?_
        refine h_get C hw bX1 (co.a3 hc) lk3 6 (by decide) lk4 (v := .ref (ad 20)) rfl dX11_table_36 ?_
        refine lv_iload_n hx hb dX11_table_39 rfl (lv_at hl 1 rfl) ?_
        refine h_iald1 C hw (v := nI (pk3 t u)) (co.a20 hc) (pk3_g (show u < 3 by omega) h30 h31 h32) (show u < 3 from (by omega)) (by first | omega | decide) dX11_table_40 ?_
        refine n_i2l C (by omega) dX11_table_41 ?_
        refine lv_goto (tgt := 50) hx hb dX11_table_42 (by decide) ?_
        refine W.widen (k := 440) (n := 3520) (by first | decide | omega | (dsimp only; omega)) (by first | decide | omega | (dsimp only; omega)) ?_
        exact h_lret C hr hlk hw (cop (by simp only [op_table, if_pos hrgk, nI_clamp (show u < 2 ^ 31 by omega), tbR, ho]) hc (rp_le hr9 (kp_le (hle.rf _)))) dX11_table_50
    · refine lv_aload_n hx hb dX11_table_9 rfl (lv_at hl 0 rfl) ?_
      refine lv_iconst (v := nI 1) hx hb dX11_table_10 (by decide) ?_
      refine h_calll hw (h_runV (n := 1) (As := [.int (nI 1)]) (rest := []) C hw (c_X11_finding hc (by omega)) gX11_table_X11_finding rfl rfl rfl (by decide +kernel) ⟨by decide, by decide⟩ bX11 (co.a0 hc) rfl hl.1 rfl (Nat.le_of_ble_eq_true rfl) dX11_table_11 ⟨by first | decide | omega | (dsimp only; omega), by first | decide | omega | (dsimp only; omega)⟩) (fun r17 f18 H locs hp hw => ?_)
      obtain ⟨rfl, K19, hc, eK20, kp21⟩ := hp
      refine W.widen (k := 440) (n := 3520) (by first | decide | omega | (dsimp only; omega)) (by first | decide | omega | (dsimp only; omega)) ?_
      exact h_lret C hr hlk hw (cop (by simp only [op_table, if_neg (rg_hi2 (k := 2) (by decide) (Int32.not_lt.mp cq7))]) hc (rp_fnd hr9 eK20 (kp.tr (kp_le (hle.rf f)) kp21) (by decide) hN)) dX11_table_14
set_option maxHeartbeats 4000000 in
set_option maxRecDepth 100000 in
theorem c_X11_place {l : Launch} {D : va_G} {cA : Nat → ClassId} {f : HF} {sz : Nat} {ad : Nat → Nat} {K : KK} {G : GG} {A : MA} {B : MB} {N : Nat} {ns nt : Nat} {u v e1 z : Int32}  (hc : co cA ad K G f) (hr9 : rp ad K G A B N f) (hN : N < 2 ^ 20) (hns : A 0 0 = nI ns) (hnt : A 1 0 = nI nt) (hns2 : ns ≤ 10) (hnt2 : nt ≤ 12) : Met l yX11_place wsX11_place ({ frames := 6, cells := 441, slots := 3522, locals := 147 } : Room) (va_Pc [.ref (ad 0), .int u, .int v, .int e1, .int z] (hB D cA f sz)) (va_Ql (fun r f1 => (op_place A B ns nt u v e1 z).1 = r ∧ ∃ K1 G1, co cA ad K1 G1 f1 ∧ rp ad K1 G1 (op_place A B ns nt u v e1 z).2.1 (op_place A B ns nt u v e1 z).2.2 (N + 1) f1) (hE D f sz) (hA f sz)) 441 3522 (hA f sz) := by
  refine h_of (cc := cX11_place) (maxL := 5) (ret := (some .long)) (by decide +kernel) rfl (Nat.le_of_ble_eq_true rfl) ?_
  intro p e s m below meth c ls C hr hlk hnm hw hl
  have hx := C.1.1
  have hb := C.1.2.1
  have hl : lv_has ls 5 [(0, .ref (ad 0)), (1, .int u), (2, .int v), (3, .int e1), (4, .int z)] := hl
  have lk0 : Cond.fieldLink RX11 26 "FallingLight" "matching" "LFallingLight$Matching;" ∈ wsX11_place := by decide +kernel
  have lk1 : ∀ w ∈ u_ws RX11 TX11 11, w ∈ wsX11_place := by decide +kernel
  have lk2 : Cond.fieldLink RX11 160 "FallingLight$Matching" "hasTable" "Z" ∈ wsX11_place := by decide +kernel
  have lk3 : ∀ w ∈ u_ws RX1 TX1 10, w ∈ wsX11_place := by decide +kernel
  obtain ⟨hI, hF, hS, hT, hP, hRw, hTp, hWd, hTr, hMt⟩ := id hr9
  obtain ⟨-, -, -, hrs, hso, hwy, hst, hdr, hpx, hpy⟩ := id hI
  refine lv_iload_n hx hb dX11_place_0 rfl (lv_at hl 1 rfl) ?_
  refine h_calli hw (h_runS (n := 1) (As := [.int u]) (rest := []) C hw c_X11_isOnPlate gX11_place_X11_isOnPlate rfl rfl rfl (by decide +kernel) ⟨by decide, by decide⟩ rfl hl.1 rfl (Nat.le_of_ble_eq_true rfl) dX11_place_1 ⟨by first | decide | omega | (dsimp only; omega), by first | decide | omega | (dsimp only; omega)⟩) (fun r1 f2 H locs hp hw => ?_)
  obtain ⟨rfl, rfl⟩ := hp
  refine n_ifeqB C (tgt := 14) dX11_place_4 (by decide) (fun cq3 => ?_) (fun cq3 => ?_)
  · refine lv_aload_n hx hb dX11_place_14 rfl (lv_at hl 0 rfl) ?_
    refine lv_iconst (v := nI 1) hx hb dX11_place_15 (by decide) ?_
    refine h_calll hw (h_runV (n := 1) (As := [.int (nI 1)]) (rest := []) C hw (c_X11_finding hc (by omega)) gX11_place_X11_finding rfl rfl rfl (by decide +kernel) ⟨by decide, by decide⟩ bX11 (co.a0 hc) rfl hl.1 rfl (Nat.le_of_ble_eq_true rfl) dX11_place_16 ⟨by first | decide | omega | (dsimp only; omega), by first | decide | omega | (dsimp only; omega)⟩) (fun r4 f5 H locs hp hw => ?_)
    obtain ⟨rfl, K6, hc, eK7, kp8⟩ := hp
    refine W.widen (k := 441) (n := 3522) (by first | decide | omega | (dsimp only; omega)) (by first | decide | omega | (dsimp only; omega)) ?_
    exact h_lret C hr hlk hw (cop (by simp only [op_place, if_neg cq3]) hc (rp_fnd hr9 eK7 (kp.tr (kp_le (hle.rf f)) kp8) (by decide) hN)) dX11_place_19
  · refine lv_iload_n hx hb dX11_place_7 rfl (lv_at hl 2 rfl) ?_
    refine h_calli hw (h_runS (n := 1) (As := [.int v]) (rest := []) C hw c_X11_isOnPlate gX11_place_X11_isOnPlate rfl rfl rfl (by decide +kernel) ⟨by decide, by decide⟩ rfl hl.1 rfl (Nat.le_of_ble_eq_true rfl) dX11_place_8 ⟨by first | decide | omega | (dsimp only; omega), by first | decide | omega | (dsimp only; omega)⟩) (fun r9 f10 H locs hp hw => ?_)
    obtain ⟨rfl, rfl⟩ := hp
    refine n_ifneB C (tgt := 20) dX11_place_11 (by decide) (fun cq11 => ?_) (fun cq11 => ?_)
    · refine lv_aload_n hx hb dX11_place_20 rfl (lv_at hl 0 rfl) ?_
      refine h_get C hw bX11 (co.a0 hc) lk1 2 (by decide) lk0 (v := .ref (ad 3)) rfl dX11_place_21 ?_
      refine h_callv hw (h_runV (n := 0) (As := []) (rest := []) C hw (c_X1_renew (A := A) (B := B) (N := N) (ns := ns) (nt := nt) hc hr9 hns hnt hns2 hnt2) gX11_place_X1_renew rfl rfl rfl (by decide +kernel) ⟨by decide, by decide⟩ bX1 (co.a3 hc) rfl hl.1 rfl (Nat.le_of_ble_eq_true rfl) dX11_place_24 ⟨by first | decide | omega | (dsimp only; omega), by first | decide | omega | (dsimp only; omega)⟩) (fun  f12 H locs hp hw => ?_)
      obtain ⟨K13, G14, hc, hr9, h31⟩ := hp
      obtain ⟨hvt, hMM, hht, hbt⟩ := rp.md hr9 h31 ns nt hns hnt hns2 hnt2
      have hP := hr9.2.2.2.2.1
      have hTp := hr9.2.2.2.2.2.2.1
      refine lv_aload_n hx hb dX11_place_27 rfl (lv_at hl 0 rfl) ?_
      refine h_get C hw bX11 (co.a0 hc) lk1 2 (by decide) lk0 (v := .ref (ad 3)) rfl dX11_place_28 ?_
      refine h_get C hw bX1 (co.a3 hc) lk3 7 (by decide) lk2 (v := .int (bI ((tbA A ns nt).isSome = true))) (congrArg (fun z => some (Value.int z)) hht) dX11_place_31 ?_
      refine n_ifneB C (tgt := 43) dX11_place_34 (by decide) (fun cq15 => ?_) (fun cq15 => ?_)
      · obtain ⟨t, ho⟩ := Option.isSome_iff_exists.mp cq15
        obtain ⟨h30, h31, h32⟩ := hbt t ho
        refine lv_aload_n hx hb dX11_place_43 rfl (lv_at hl 0 rfl) ?_
        refine h_get C hw bX11 (co.a0 hc) lk1 2 (by decide) lk0 (v := .ref (ad 3)) rfl dX11_place_44 ?_
        refine lv_iload_n hx hb dX11_place_47 rfl (lv_at hl 1 rfl) ?_
        refine lv_iload_n hx hb dX11_place_48 rfl (lv_at hl 2 rfl) ?_
        refine lv_iload_n hx hb dX11_place_49 rfl (lv_at hl 3 rfl) ?_
        refine h_callq hw (h_runV (n := 3) (As := [.int u, .int v, .int e1]) (rest := []) C hw (c_X1_skyOf hc (hP.2.1.trans hns) (hP.1.trans hnt) hMM hns2 hnt2 hP hpx hpy ho h30 h31 h32 (ib_rg cq3) (ib_rg cq11)) gX11_place_X1_skyOf rfl rfl rfl (by decide +kernel) ⟨by decide, by decide⟩ bX1 (co.a3 hc) rfl hl.1 rfl (Nat.le_of_ble_eq_true rfl) dX11_place_50 ⟨by first | decide | omega | (dsimp only; omega), by first | decide | omega | (dsimp only; omega)⟩) (fun r16 f17 H locs hp hw => ?_)
        obtain ⟨le18, q19, rfl, k20, hq21⟩ := hp
        have fr22 := hle_no (hle.rf _) hq21
        have le23 := hle.tr (hle.rf _) le18
        have hc := hc.mono le18
        refine lv_iload hx hb dX11_place_53 (lv_at hl 4 rfl) ?_
        refine h_calll hw (h_runV (n := 1) (As := [.int z]) (rest := []) C hw (c_X0_side k20) gX11_place_X0_side rfl rfl rfl (by decide +kernel) ⟨by decide, by decide⟩ bX0 k20 rfl hl.1 rfl (Nat.le_of_ble_eq_true rfl) dX11_place_55 ⟨by first | decide | omega | (dsimp only; omega), by first | decide | omega | (dsimp only; omega)⟩) (fun r24 f25 H locs hp hw => ?_)
        obtain ⟨rfl, rfl⟩ := hp
        refine W.widen (k := 441) (n := 3522) (by first | decide | omega | (dsimp only; omega)) (by first | decide | omega | (dsimp only; omega)) ?_
        exact h_lret C hr hlk hw (cop (by simp only [op_place, if_pos cq3, if_pos cq11]; rw [pl_y, ho, plR, sd_pr]) hc (rp_le hr9 (kp_le le23))) dX11_place_58
      · have ho := Option.not_isSome_iff_eq_none.mp cq15
        refine lv_aload_n hx hb dX11_place_37 rfl (lv_at hl 0 rfl) ?_
        refine lv_iconst (v := nI 2) hx hb dX11_place_38 (by decide) ?_
        refine h_calll hw (h_runV (n := 1) (As := [.int (nI 2)]) (rest := []) C hw (c_X11_finding hc (by omega)) gX11_place_X11_finding rfl rfl rfl (by decide +kernel) ⟨by decide, by decide⟩ bX11 (co.a0 hc) rfl hl.1 rfl (Nat.le_of_ble_eq_true rfl) dX11_place_39 ⟨by first | decide | omega | (dsimp only; omega), by first | decide | omega | (dsimp only; omega)⟩) (fun r26 f27 H locs hp hw => ?_)
        obtain ⟨rfl, K28, hc, eK29, kp30⟩ := hp
        refine W.widen (k := 441) (n := 3522) (by first | decide | omega | (dsimp only; omega)) (by first | decide | omega | (dsimp only; omega)) ?_
        exact h_lret C hr hlk hw (cop (by simp only [op_place, if_pos cq3, if_pos cq11]; rw [pl_y, ho]; rfl) hc (rp_fnd hr9 eK29 (kp.tr (kp_le (hle.rf _)) kp30) (by decide) hN)) dX11_place_42
    · refine lv_aload_n hx hb dX11_place_14 rfl (lv_at hl 0 rfl) ?_
      refine lv_iconst (v := nI 1) hx hb dX11_place_15 (by decide) ?_
      refine h_calll hw (h_runV (n := 1) (As := [.int (nI 1)]) (rest := []) C hw (c_X11_finding hc (by omega)) gX11_place_X11_finding rfl rfl rfl (by decide +kernel) ⟨by decide, by decide⟩ bX11 (co.a0 hc) rfl hl.1 rfl (Nat.le_of_ble_eq_true rfl) dX11_place_16 ⟨by first | decide | omega | (dsimp only; omega), by first | decide | omega | (dsimp only; omega)⟩) (fun r31 f32 H locs hp hw => ?_)
      obtain ⟨rfl, K33, hc, eK34, kp35⟩ := hp
      refine W.widen (k := 441) (n := 3522) (by first | decide | omega | (dsimp only; omega)) (by first | decide | omega | (dsimp only; omega)) ?_
      exact h_lret C hr hlk hw (cop (by simp only [op_place, if_pos cq3, if_neg cq11]) hc (rp_fnd hr9 eK34 (kp.tr (kp_le (hle.rf f)) kp35) (by decide) hN)) dX11_place_19
set_option maxHeartbeats 4000000 in
set_option maxRecDepth 100000 in
theorem c_X11_check {l : Launch} {D : va_G} {cA : Nat → ClassId} {f : HF} {sz : Nat} {ad : Nat → Nat} {K : KK} {G : GG} {A : MA} {B : MB} {N : Nat} {ns nt tn : Nat}  (hc : co cA ad K G f) (hr9 : rp ad K G A B N f) (hN : N < 2 ^ 20) (hns : A 0 0 = nI ns) (hnt : A 1 0 = nI nt) (hns2 : ns ≤ 10) (hnt2 : nt ≤ 12) (htn : A 13 0 = nI tn) (htn2 : tn ≤ 9) : Met l yX11_check wsX11_check ({ frames := 6, cells := 440, slots := 3520, locals := 147 } : Room) (va_Pc [.ref (ad 0)] (hB D cA f sz)) (va_Ql (fun r f1 => (op_check A B ns nt tn).1 = r ∧ ∃ K1 G1, co cA ad K1 G1 f1 ∧ rp ad K1 G1 (op_check A B ns nt tn).2.1 (op_check A B ns nt tn).2.2 (N + 1) f1) (hE D f sz) (hA f sz)) 440 3520 (hA f sz) := by
  refine h_of (cc := cX11_check) (maxL := 3) (ret := (some .long)) (by decide +kernel) rfl (Nat.le_of_ble_eq_true rfl) ?_
  intro p e s m below meth c ls C hr hlk hnm hw hl
  have hx := C.1.1
  have hb := C.1.2.1
  have hl : lv_has ls 3 [(0, .ref (ad 0))] := hl
  have lk0 : Cond.fieldLink RX11 47 "FallingLight" "tape" "LFallingLight$Tape;" ∈ wsX11_check := by decide +kernel
  have lk1 : ∀ w ∈ u_ws RX11 TX11 11, w ∈ wsX11_check := by decide +kernel
  have lk2 : Cond.fieldLink RX11 182 "FallingLight$Tape" "size" "I" ∈ wsX11_check := by decide +kernel
  have lk3 : ∀ w ∈ u_ws RX7 TX7 2, w ∈ wsX11_check := by decide +kernel
  have lk4 : Cond.fieldLink RX11 26 "FallingLight" "matching" "LFallingLight$Matching;" ∈ wsX11_check := by decide +kernel
  have lk5 : Cond.fieldLink RX11 18 "FallingLight" "spotPoints" "LFallingLight$Points;" ∈ wsX11_check := by decide +kernel
  have lk6 : Cond.fieldLink RX11 89 "FallingLight$Points" "size" "I" ∈ wsX11_check := by decide +kernel
  have lk7 : ∀ w ∈ u_ws RX4 TX4 4, w ∈ wsX11_check := by decide +kernel
  have lk8 : Cond.constantLong RX11 320 (99) ∈ wsX11_check := by decide +kernel
  have lk9 : Cond.fieldLink RX11 183 "FallingLight$Tape" "numbers" "[I" ∈ wsX11_check := by decide +kernel
  have lk10 : Cond.fieldLink RX11 153 "FallingLight$Matching" "partners" "[I" ∈ wsX11_check := by decide +kernel
  have lk11 : ∀ w ∈ u_ws RX1 TX1 10, w ∈ wsX11_check := by decide +kernel
  obtain ⟨hI, hF, hS, hT, hP, hRw, hTp, hWd, hTr, hMt⟩ := id hr9
  obtain ⟨-, -, -, hrs, hso, hwy, hst, hdr, hpx, hpy⟩ := id hI
  refine lv_aload_n hx hb dX11_check_0 rfl (lv_at hl 0 rfl) ?_
  refine h_get C hw bX11 (co.a0 hc) lk1 5 (by decide) lk0 (v := .ref (ad 6)) rfl dX11_check_1 ?_
  refine h_get C hw bX7 (co.a6 hc) lk3 1 (by decide) lk2 (v := .int (nI tn)) (congrArg (fun z => some (Value.int z)) (hTp.1.trans htn)) dX11_check_4 ?_
  refine lv_istore_n (lv' := [(1, _), (0, _)]) hx hb dX11_check_7 rfl hl (by decide) rfl (fun ls hl => ?_)
  refine lv_aload_n hx hb dX11_check_8 rfl (lv_at hl 1 rfl) ?_
  refine h_get C hw bX11 (co.a0 hc) lk1 5 (by decide) lk0 (v := .ref (ad 6)) rfl dX11_check_9 ?_
  refine lv_iconst (v := nI 0) hx hb dX11_check_12 (by decide) ?_
  refine h_put1 C hw bX7 (co.a6 hc) lk3 1 (by decide) lk2 rfl rfl rfl (Nat.le_of_ble_eq_true rfl) dX11_check_13 (fun f1 H locs e2 hw => ?_)
  obtain ⟨K3, eK4, hc2⟩ := hc.upK 6 (κ := upd (K 6) 0 (nI 0)) (e := eO 7 [.ref (ad 27), .int (nI 0)]) (by omega) rfl
  have hc3 := hc
  have hc := hc2.of e2
  have kpK3 := kp_up hc3 6 (by omega) e2
  have kfK3 := kp.tr (kp_le (hle.rf f)) kpK3
  have kn5 : K3 1 0 = nI nt := by rw [eK4, va_up_ne _ _ (by first | decide | omega)]; exact (hP.1.trans hnt)
  have kn6 : K3 2 0 = nI ns := by rw [eK4, va_up_ne _ _ (by first | decide | omega)]; exact (hP.2.1.trans hns)
  have kn7 : K3 6 0 = nI 0 := by rw [eK4, va_up_self, pk_us]
  refine lv_aload_n hx hb dX11_check_16 rfl (lv_at hl 1 rfl) ?_
  refine h_get C hw bX11 (co.a0 hc) lk1 2 (by decide) lk4 (v := .ref (ad 3)) rfl dX11_check_17 ?_
  have hr9 := rp_t0 hr9 kpK3 eK4
  obtain ⟨A2, hA2⟩ : ∃ A2, A2 = stS A 13 (nI 0) := ⟨_, rfl⟩
  rw [← hA2] at hr9
  have hns : A2 0 0 = nI ns := by rw [hA2, stS, va_up_ne _ _ (by decide)]; exact hns
  have hnt : A2 1 0 = nI nt := by rw [hA2, stS, va_up_ne _ _ (by decide)]; exact hnt
  refine h_callv hw (h_runV (n := 0) (As := []) (rest := []) C hw (c_X1_renew (A := A2) (B := B) (N := N) (ns := ns) (nt := nt) hc hr9 hns hnt hns2 hnt2) gX11_check_X1_renew rfl rfl rfl (by decide +kernel) ⟨by decide, by decide⟩ bX1 (co.a3 hc) rfl hl.1 rfl (Nat.le_of_ble_eq_true rfl) dX11_check_20 ⟨by first | decide | omega | (dsimp only; omega), by first | decide | omega | (dsimp only; omega)⟩) (fun  f8 H locs hp hw => ?_)
  obtain ⟨K9, G10, hc, hr9, h31⟩ := hp
  obtain ⟨hvt, hMM, hht, hbt⟩ := rp.md hr9 h31 ns nt hns hnt hns2 hnt2
  have hP := hr9.2.2.2.2.1
  have hTp := hr9.2.2.2.2.2.2.1
  refine lv_iconst (v := nI 0) hx hb dX11_check_23 (by decide) ?_
  refine lv_istore_n (lv' := [(2, _), (1, _), (0, _)]) hx hb dX11_check_24 rfl hl (by decide) rfl (fun ls hl => ?_)
  have lp25 : ∀ (n : Nat) (k : Nat) (H1 : Heap) (locs1 : List Loc) (ls1 : Array Slot), hW D (hA f sz) s.heap f8 H1 locs1 → lv_has ls1 3 [(0, .ref (ad 0)), (1, .int (nI tn)), (2, .int (nI k))] → (k ≤ tn) → (k ≤ ns) → (∀ j, j < k → A2 14 j = oI (mA A2 ns nt j)) → tn - k < n → W p l e ({ frames := 6, cells := 440, slots := 3520, locals := 147 } : Room) s m ([.ref (ad 0)]).toArray below meth c H1 locs1 440 3520 (MQ below (va_Ql (fun r f1 => (op_check A B ns nt tn).1 = r ∧ ∃ K1 G1, co cA ad K1 G1 f1 ∧ rp ad K1 G1 (op_check A B ns nt tn).2.1 (op_check A B ns nt tn).2.2 (N + 1) f1) (hE D f sz) (hA f sz)) ([.ref (ad 0)]).toArray s 440 3520 (hA f sz)) (F0 m 25 ls1 []) := by
    intro n
    induction n with
    | zero => intros; omega
    | succ n ih25 =>
      intro k H locs ls hw hl hk hkn hall hmu
      refine lv_iload_n hx hb dX11_check_25 rfl (lv_at hl 2 rfl) ?_
      refine lv_iload_n hx hb dX11_check_26 rfl (lv_at hl 1 rfl) ?_
      refine n_cge C (by omega) (by omega) (tgt := 73) dX11_check_27 (by decide) (fun cq11 => ?_) (fun cq11 => ?_)
      · refine lv_iload_n hx hb dX11_check_73 rfl (lv_at hl 1 rfl) ?_
        refine lv_aload_n hx hb dX11_check_74 rfl (lv_at hl 0 rfl) ?_
        refine h_get C hw bX11 (co.a0 hc) lk1 1 (by decide) lk5 (v := .ref (ad 2)) rfl dX11_check_75 ?_
        refine h_get C hw bX4 (co.a2 hc) lk7 3 (by decide) lk6 (v := .int (nI ns)) (congrArg (fun z => some (Value.int z)) (hP.2.1.trans hns)) dX11_check_78 ?_
        refine n_cle C (by omega) (by omega) (tgt := 90) dX11_check_81 (by decide) (fun cq12 => ?_) (fun cq12 => ?_)
        · refine lv_lconst (v := 0) hx hb dX11_check_90 (by decide) ?_
          refine W.widen (k := 440) (n := 3520) (by first | decide | omega | (dsimp only; omega)) (by first | decide | omega | (dsimp only; omega)) ?_
          exact h_lret C hr hlk hw (cop (A1 := A2) (by simp only [op_check, ← hA2]; rw [ck_r.2 (ck_n (Or.inl cq11) hall), if_pos cq12]) hc (rp_le hr9 (kp.rf _))) dX11_check_91
        · refine lv_ldc2 hx hb C.1.2.2.2.1 (C.1.2.2.2.2 _ lk8) dX11_check_84 ?_
          refine lv_goto (tgt := 91) hx hb dX11_check_87 (by decide) ?_
          refine W.widen (k := 440) (n := 3520) (by first | decide | omega | (dsimp only; omega)) (by first | decide | omega | (dsimp only; omega)) ?_
          exact h_lret C hr hlk hw (cop (A1 := A2) (by simp only [op_check, ← hA2]; rw [ck_r.2 (ck_n (Or.inl cq11) hall), if_neg (by omega)]) hc (rp_le hr9 (kp.rf _))) dX11_check_91
      · refine lv_iload_n hx hb dX11_check_30 rfl (lv_at hl 2 rfl) ?_
        refine lv_aload_n hx hb dX11_check_31 rfl (lv_at hl 0 rfl) ?_
        refine h_get C hw bX11 (co.a0 hc) lk1 1 (by decide) lk5 (v := .ref (ad 2)) rfl dX11_check_32 ?_
        refine h_get C hw bX4 (co.a2 hc) lk7 3 (by decide) lk6 (v := .int (nI ns)) (congrArg (fun z => some (Value.int z)) (hP.2.1.trans hns)) dX11_check_35 ?_
        refine n_cge C (by omega) (by omega) (tgt := 73) dX11_check_38 (by decide) (fun cq13 => ?_) (fun cq13 => ?_)
        · refine lv_iload_n hx hb dX11_check_73 rfl (lv_at hl 1 rfl) ?_
          refine lv_aload_n hx hb dX11_check_74 rfl (lv_at hl 0 rfl) ?_
          refine h_get C hw bX11 (co.a0 hc) lk1 1 (by decide) lk5 (v := .ref (ad 2)) rfl dX11_check_75 ?_
          refine h_get C hw bX4 (co.a2 hc) lk7 3 (by decide) lk6 (v := .int (nI ns)) (congrArg (fun z => some (Value.int z)) (hP.2.1.trans hns)) dX11_check_78 ?_
          refine n_cle C (by omega) (by omega) (tgt := 90) dX11_check_81 (by decide) (fun cq14 => ?_) (fun cq14 => ?_)
          · refine lv_lconst (v := 0) hx hb dX11_check_90 (by decide) ?_
            refine W.widen (k := 440) (n := 3520) (by first | decide | omega | (dsimp only; omega)) (by first | decide | omega | (dsimp only; omega)) ?_
            exact h_lret C hr hlk hw (cop (A1 := A2) (by simp only [op_check, ← hA2]; rw [ck_r.2 (ck_n (Or.inr cq13) hall), if_pos cq14]) hc (rp_le hr9 (kp.rf _))) dX11_check_91
          · refine lv_ldc2 hx hb C.1.2.2.2.1 (C.1.2.2.2.2 _ lk8) dX11_check_84 ?_
            refine lv_goto (tgt := 91) hx hb dX11_check_87 (by decide) ?_
            refine W.widen (k := 440) (n := 3520) (by first | decide | omega | (dsimp only; omega)) (by first | decide | omega | (dsimp only; omega)) ?_
            exact h_lret C hr hlk hw (cop (A1 := A2) (by simp only [op_check, ← hA2]; rw [ck_r.2 (ck_n (Or.inr cq13) hall), if_neg (by omega)]) hc (rp_le hr9 (kp.rf _))) dX11_check_91
        · refine lv_aload_n hx hb dX11_check_41 rfl (lv_at hl 0 rfl) ?_
          refine h_get C hw bX11 (co.a0 hc) lk1 5 (by decide) lk0 (v := .ref (ad 6)) rfl dX11_check_42 ?_
          refine h_get C hw bX7 (co.a6 hc) lk3 0 (by decide) lk9 (v := .ref (ad 27)) rfl dX11_check_45 ?_
          refine lv_iload_n hx hb dX11_check_48 rfl (lv_at hl 2 rfl) ?_
          refine h_iald1 C hw (v := A2 14 k) (co.a27 hc) (hTp.2 k (by omega)) (show k < 9 from (by omega)) (by first | omega | decide) dX11_check_49 ?_
          refine lv_aload_n hx hb dX11_check_50 rfl (lv_at hl 0 rfl) ?_
          refine h_get C hw bX11 (co.a0 hc) lk1 2 (by decide) lk4 (v := .ref (ad 3)) rfl dX11_check_51 ?_
          refine h_get C hw bX1 (co.a3 hc) lk11 5 (by decide) lk10 (v := .ref (ad 19)) rfl dX11_check_54 ?_
          refine lv_iload_n hx hb dX11_check_57 rfl (lv_at hl 2 rfl) ?_
          refine h_iald1 C hw (v := oI (mA A2 ns nt k)) (co.a19 hc) (hMM k (by omega)) (show k < 10 from (by omega)) (by first | omega | decide) dX11_check_58 ?_
          refine lv_icmp_eq (tgt := 67) hx hb dX11_check_59 (by decide) (fun cq15 => ?_) (fun cq15 => ?_)
          · refine n_iinc C (lv' := [(2, _), (0, _), (1, _)]) dX11_check_67 hl (k := 2) rfl (by decide) rfl (fun ls hl => ?_)
            refine lv_goto (tgt := 25) hx hb dX11_check_70 (by decide) ?_
            exact ih25 (k + 1) _ _ _ hw (lv_sub hl [1, 2, 0] rfl) (by omega) (by omega) (fun j hj => (Nat.lt_succ_iff_lt_or_eq.mp hj).elim (hall j) (fun e9 => by rw [e9]; exact cq15)) (by omega)
          · refine lv_lconst (v := 1) hx hb dX11_check_62 (by decide) ?_
            refine lv_iload_n hx hb dX11_check_63 rfl (lv_at hl 2 rfl) ?_
            refine n_i2l C (by omega) dX11_check_64 ?_
            refine lv_ladd hx hb dX11_check_65 ?_
            refine W.widen (k := 440) (n := 3520) (by first | decide | omega | (dsimp only; omega)) (by first | decide | omega | (dsimp only; omega)) ?_
            exact h_lret C hr hlk hw (cop (A1 := A2) (by simp only [op_check, ← hA2]; rw [ck_r.1 k (ck_s cq11 cq13 cq15 hall)]; exact congrArg (fun z => (z, A2, B)) (lN_add 1 k).symm) hc (rp_le hr9 (kp.rf _))) dX11_check_66
  exact lp25 _ 0 _ _ _ hw (lv_sub hl [2, 1, 0] rfl) (by omega) (by omega) (fun j hj => absurd hj (by omega)) (Nat.lt_succ_self _)
