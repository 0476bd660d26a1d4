/-! ===== the class: acts that read sights (laid by program) ===== -/
theorem yA_lt (e : Int32) : yA e < 3 := by unfold yA; split <;> decide
theorem pt_y (A : MA) (B : MB) (u t a : Nat) (e z : Int32) : (if e = 0 then pt3 A B u t 0 a z else pt3 A B u t 1 a z) = pt3 A B u t (yA e) a z := by
  unfold yA
  by_cases h : e = 0
  · rw [if_pos h, if_pos h]
  · rw [if_neg h, if_neg h]
theorem la_a48 {A : MA} (hwy : ∀ j, j < 216 → ib 9 (A 11 j)) (hst : ∀ j, j < 12 → ib 99 (A 7 j)) (hso : ∀ j, j < 24 → ∃ c, c < 4 ∧ A 10 j = nI c) {u t a : Nat} (hu : u < 24) (ht : t < 24) (ha : a < 3) : lA (ptA A u t 0 a * faA A u t 2 - ptA A u t 0 2 * faA A u t a) < 2 ^ 48 :=
  Nat.lt_of_le_of_lt (bd_sub (bd_mul (pt_bd hwy hst hso hu ht (by decide) ha) (fa_bd hwy hu ht) (by decide)).2 (bd_mul (pt_bd hwy hst hso hu ht (by decide) (by decide)) (fa_bd hwy hu ht) (by decide)).2 (by decide)).2 (by decide)
theorem la_b48 {A : MA} (hwy : ∀ j, j < 216 → ib 9 (A 11 j)) {u t : Nat} (hu : u < 24) (ht : t < 24) : lA (lnA A u t 0 * faA A u t 2) < 2 ^ 48 := Nat.lt_of_le_of_lt (bd_mul (ln_bd hwy hu ht (by decide)) (fa_bd hwy hu ht) (by decide)).2 (by decide)
theorem fp_hr {A : MA} {i i2 n n2 : Nat} (h8 : A 8 i = nI n) (hn : n ≤ 4) (h82 : A 8 i2 = nI n2) (hn2 : n2 ≤ 4) : (hrB A i (ct A i) i2 (ct A i2) = true ↔ nz (crs (fpW A i n) (fpW A i2 n2))) ∧ (hrB A i (ct A i) i2 (ct A i2) = true → crs (fpW A i n) (fpW A i2 n2) = faA A (fq A i) (fq A i2)) := by
  have c1 : ct A i = n := by unfold ct; rw [h8, nI_clamp (by omega)]
  have c2 : ct A i2 = n2 := by unfold ct; rw [h82, nI_clamp (by omega)]
  unfold fq fpW
  rw [c1, c2]
  cases h1 : fpA A i n with
  | none => exact ⟨⟨fun h => absurd h (hr_1 h1), fun h => absurd h (crs_z (Or.inl (nz_i ⟨rfl, rfl, rfl⟩)))⟩, fun h => absurd h (hr_1 h1)⟩
  | some k =>
    cases h2 : fpA A i2 n2 with
    | none =>
      have h3 : ¬ hrB A i n i2 n2 = true := by unfold hrB; rw [h1, h2]; simp
      exact ⟨⟨fun h => absurd h h3, fun h => absurd h (crs_z (Or.inr (nz_i ⟨rfl, rfl, rfl⟩)))⟩, fun h => absurd h h3⟩
    | some j => exact ⟨hr_s h1 h2, fun _ => rfl⟩
theorem fq_lt {A : MA} {i n : Nat} (hi : i < 6) (h8 : A 8 i = nI n) (hn : n ≤ 4) : fq A i < 24 := by
  have c1 : ct A i = n := by unfold ct; rw [h8, nI_clamp (by omega)]
  unfold fq
  rw [c1]
  cases h1 : fpA A i n with
  | none => show 4 * i + 0 < 24; omega
  | some k =>
    have := (fp_so h1).1
    show 4 * i + k < 24
    omega
theorem an_n {A : MA} {B : MB} {u t : Nat} {z : Int32} (h : ¬ (hpA A u ∧ hpA A t)) : (if hpA A u then (if hpA A t then (prL (scA A u t * scA A u t) (scA A u u * scA A t t) z, A, B) else (lF 2, A, fnd B 2)) else (lF 2, A, fnd B 2)) = (lF 2, A, fnd B 2) := by
  by_cases h1 : hpA A u
  · rw [if_pos h1, if_neg (fun h2 => h ⟨h1, h2⟩)]
  · rw [if_neg h1]
theorem sh_s {A : MA} {u v k n : Nat} (h8 : A 8 k = nI n) (hn : n ≤ 4) : (ofB A k n u v = true → shK A u v k ||| ((1 : Int64) <<< ((nI k).toInt64 &&& 63)) = shK A u v (k + 1)) ∧ (¬ ofB A k n u v = true → shK A u v k = shK A u v (k + 1)) := by
  have c1 : ct A k = n := by unfold ct; rw [h8, nI_clamp (by omega)]
  constructor
  · intro h
    rw [shK, c1, if_pos h]
  · intro h
    rw [shK, c1, if_neg h, Int64.or_zero]
set_option maxHeartbeats 4000000 in
set_option maxRecDepth 100000 in
theorem c_X11_point {l : Launch} {D : va_G} {cA : Nat → ClassId} {f : HF} {sz : Nat} {ad : Nat → Nat} {K : KK} {G : GG} {A : MA} {B : MB} {N : Nat} {t k k2 e1 w z : Int32}  (hc : co cA ad K G f) (hr9 : rp ad K G A B N f) (hN : N < 2 ^ 20) : Met l yX11_point wsX11_point ({ frames := 4, cells := 6, slots := 16, locals := 97 } : Room) (va_Pc [.ref (ad 0), .int t, .int k, .int k2, .int e1, .int w, .int z] (hB D cA f sz)) (va_Ql (fun r f1 => (op_point A B t k k2 e1 w z).1 = r ∧ ∃ K1 G1, co cA ad K1 G1 f1 ∧ rp ad K1 G1 (op_point A B t k k2 e1 w z).2.1 (op_point A B t k k2 e1 w z).2.2 (N + 1) f1) (hE D f sz) (hA f sz)) 6 16 (hA f sz) := by
  refine h_of (cc := cX11_point) (maxL := 9) (ret := (some .long)) (by decide +kernel) rfl (Nat.le_of_ble_eq_true rfl) ?_
  intro p e s m below meth c ls C hr hlk hnm hw hl
  have hx := C.1.1
  have hb := C.1.2.1
  have hl : lv_has ls 9 [(0, .ref (ad 0)), (1, .int t), (2, .int k), (3, .int k2), (4, .int e1), (5, .int w), (6, .int z)] := hl
  obtain ⟨hI, hF, hS, hT, hP, hRw, hTp, hWd, hTr, hMt⟩ := id hr9
  obtain ⟨-, -, -, hrs, hso, hwy, hst, hdr, hpx, hpy⟩ := id hI
  refine lv_aload_n hx hb dX11_point_0 rfl (lv_at hl 0 rfl) ?_
  refine lv_iload_n hx hb dX11_point_1 rfl (lv_at hl 1 rfl) ?_
  refine lv_iload_n hx hb dX11_point_2 rfl (lv_at hl 2 rfl) ?_
  refine lv_iload_n hx hb dX11_point_3 rfl (lv_at hl 3 rfl) ?_
  refine h_calli hw (h_runV (n := 3) (As := [.int t, .int k, .int k2]) (rest := []) C hw (c_X11_isPair (A := A) hc hS) gX11_point_X11_isPair rfl rfl rfl (by decide +kernel) ⟨by decide, by decide⟩ bX11 (co.a0 hc) rfl hl.1 rfl (Nat.le_of_ble_eq_true rfl) dX11_point_4 ⟨by first | decide | omega, by first | decide | omega⟩) (fun r1 f2 H locs hp hw => ?_)
  obtain ⟨rfl, rfl⟩ := hp
  refine n_ifeqB C (tgt := 18) dX11_point_7 (by decide) (fun cq3 => ?_) (fun cq3 => ?_)
  · refine lv_aload_n hx hb dX11_point_18 rfl (lv_at hl 0 rfl) ?_
    refine lv_iconst (v := nI 1) hx hb dX11_point_19 (by decide) ?_
    refine h_calll hw (h_runV (n := 1) (As := [.int (nI 1)]) (rest := []) C hw (c_X11_finding hc (by omega)) gX11_point_X11_finding rfl rfl rfl (by decide +kernel) ⟨by decide, by decide⟩ bX11 (co.a0 hc) rfl hl.1 rfl (Nat.le_of_ble_eq_true rfl) dX11_point_20 ⟨by first | decide | omega, by first | decide | omega⟩) (fun r4 f5 H locs hp hw => ?_)
    obtain ⟨rfl, K6, hc, eK7, kp8⟩ := hp
    refine W.widen (k := 6) (n := 16) (by first | decide | omega | (dsimp only; omega)) (by first | decide | omega | (dsimp only; omega)) ?_
    exact h_lret C hr hlk hw (cop (by simp only [op_point, if_neg cq3]) hc (rp_fnd hr9 eK7 (kp.tr (kp_le (hle.rf f)) kp8) (by decide) hN)) dX11_point_23
  · obtain ⟨i, j, nk, hi, hj, hn, h8, rfl, rfl⟩ := sgN hS.hsg cq3.1
    obtain ⟨j2, hj2, rfl⟩ : ∃ j2, j2 < nk ∧ k2 = nI j2 := by obtain ⟨i9, j9, n9, q1, q2, q3, q4, q5, q6⟩ := sgN hS.hsg cq3.2.1; have e1 := (nI_eq (by omega) (by omega)).mp q5; subst e1; have e2 := (nI_eq (by omega) (by omega)).mp (h8.symm.trans q4); exact ⟨j9, by omega, q6⟩
    have hat := atN hi (show j < 4 by omega)
    have hat2 := atN hi (show j2 < 4 by omega)
    refine lv_iload hx hb dX11_point_10 (lv_at hl 5 rfl) ?_
    refine h_calli hw (h_runS (n := 1) (As := [.int w]) (rest := []) C hw c_X11_isAxis gX11_point_X11_isAxis rfl rfl rfl (by decide +kernel) ⟨by decide, by decide⟩ rfl hl.1 rfl (Nat.le_of_ble_eq_true rfl) dX11_point_12 ⟨by first | decide | omega, by first | decide | omega⟩) (fun r9 f10 H locs hp hw => ?_)
    obtain ⟨rfl, rfl⟩ := hp
    refine n_ifneB C (tgt := 24) dX11_point_15 (by decide) (fun cq11 => ?_) (fun cq11 => ?_)
    · obtain ⟨u, hu, rfl⟩ := inN (by decide) cq11
      refine lv_aload_n hx hb dX11_point_24 rfl (lv_at hl 0 rfl) ?_
      refine lv_iload_n hx hb dX11_point_25 rfl (lv_at hl 1 rfl) ?_
      refine lv_iload_n hx hb dX11_point_26 rfl (lv_at hl 2 rfl) ?_
      refine h_callq hw (h_runV (n := 2) (As := [.int (nI i), .int (nI j)]) (rest := []) C hw (c_X11_sightOf (A := A) hc hS) gX11_point_X11_sightOf rfl rfl rfl (by decide +kernel) ⟨by decide, by decide⟩ bX11 (co.a0 hc) rfl hl.1 rfl (Nat.le_of_ble_eq_true rfl) dX11_point_27 ⟨by first | decide | omega, by first | decide | omega⟩) (fun r12 f13 H locs hp hw => ?_)
      obtain ⟨hso14, rfl⟩ := hp
      obtain ⟨s1, hb0, hss1⟩ := hso14.1 i j nk hi (by omega) hn h8 rfl rfl
      subst hb0
      refine lv_astore (lv' := [(7, _), (0, _), (1, _), (2, _), (3, _), (4, _), (5, _), (6, _)]) hx hb dX11_point_30 hl (by decide) rfl (fun ls hl => ?_)
      refine lv_aload hx hb dX11_point_32 (lv_at hl 0 rfl) ?_
      obtain ⟨bg1, en1, md1, pl1, ho1, -⟩ := id hss1
      refine h_calli hw (h_runS (n := 1) (As := [.ref s1]) (rest := []) C hw (c_X11_isBlurred ho1) gX11_point_X11_isBlurred rfl rfl rfl (by decide +kernel) ⟨by decide, by decide⟩ rfl hl.1 rfl (Nat.le_of_ble_eq_true rfl) dX11_point_34 ⟨by first | decide | omega, by first | decide | omega⟩) (fun r15 f16 H locs hp hw => ?_)
      obtain ⟨rfl, rfl⟩ := hp
      refine n_ifeqB C (tgt := 46) dX11_point_37 (by decide) (fun cq17 => ?_) (fun cq17 => ?_)
      · refine lv_aload_n hx hb dX11_point_46 rfl (lv_at hl 1 rfl) ?_
        refine lv_aload hx hb dX11_point_47 (lv_at hl 0 rfl) ?_
        refine lv_aload_n hx hb dX11_point_49 rfl (lv_at hl 1 rfl) ?_
        refine lv_iload_n hx hb dX11_point_50 rfl (lv_at hl 2 rfl) ?_
        refine lv_iload_n hx hb dX11_point_51 rfl (lv_at hl 4 rfl) ?_
        refine h_callq hw (h_runV (n := 2) (As := [.int (nI i), .int (nI j2)]) (rest := [.ref s1, .ref (ad 0)]) C hw (c_X11_sightOf (A := A) hc hS) gX11_point_X11_sightOf rfl rfl rfl (by decide +kernel) ⟨by decide, by decide⟩ bX11 (co.a0 hc) rfl hl.1 rfl (Nat.le_of_ble_eq_true rfl) dX11_point_52 ⟨by first | decide | omega, by first | decide | omega⟩) (fun r18 f19 H locs hp hw => ?_)
        obtain ⟨hso20, rfl⟩ := hp
        obtain ⟨s2, hb0, hss2⟩ := hso20.1 i j2 nk hi (by omega) hn h8 rfl rfl
        subst hb0
        refine lv_iload hx hb dX11_point_55 (lv_at hl 5 rfl) ?_
        refine h_callq hw (h_runV (n := 3) (As := [.ref s1, .ref s2, .int e1]) (rest := []) C hw (c_X11_meetingOf (A := A) (u := (4 * i + j)) (t := (4 * i + j2)) hc hT hss1 hss2 (by omega) (by omega) hso hst) gX11_point_X11_meetingOf rfl rfl rfl (by decide +kernel) ⟨by decide, by decide⟩ bX11 (co.a0 hc) rfl hl.1 rfl (Nat.le_of_ble_eq_true rfl) dX11_point_57 ⟨by first | decide | omega, by first | decide | omega⟩) (fun r21 f22 H locs hp hw => ?_)
        obtain ⟨le23, hme24⟩ := hp
        have k25 := le23 _ _ ho1
        have le26 := hle.tr (hle.rf f) le23
        have hc := hc.mono le23
        have hS := hS.up (kp_le le23) (fun _ _ => rfl) (fun _ _ => rfl)
        have hT := hT.up (kp_le le23) rfl
        have hss1 := hss1.up (kp_le le23)
        have hss2 := hss2.up (kp_le le23)
        refine lv_astoreQ (lv' := [(8, _), (7, _), (0, _), (1, _), (2, _), (3, _), (4, _), (5, _), (6, _)]) hx hb dX11_point_60 hl (by decide) rfl (fun ls hl => ?_)
        refine lv_aloadQ hx hb dX11_point_62 (lv_at hl 0 rfl) ?_
        refine n_ifnonnull C (tgt := 73) dX11_point_64 (by decide) (fun x27 cq28 => ?_) (fun cq28 => ?_)
        · subst cq28
          have hmt : mtA A (4 * i + j) (4 * i + j2) (yA e1) := Decidable.not_not.mp (fun h9 => by have := (show meO A _ (some x27) _ _ _ from hme24).1 h9; cases this)
          obtain ⟨x8, y9, hx8, hmx, hmy9⟩ := hme24.2 hmt
          cases hx8
          refine lv_aload hx hb dX11_point_73 (lv_at hl 0 rfl) ?_
          refine lv_iload hx hb dX11_point_75 (lv_at hl 7 rfl) ?_
          refine h_callq hw (h_runV (n := 1) (As := [.int (nI u)]) (rest := []) C hw (c_X2_coordinate hmx hmy9 (by rw [al_i (w := ptA A (4 * i + j) (4 * i + j2) (yA e1)) hu]; exact Nat.lt_of_le_of_lt (pt_bd hwy hst hso (by omega) (by omega) (yA_lt e1) (by omega)) (by decide)) (Nat.lt_of_le_of_lt (ln_bd hwy (by omega) (by omega) (yA_lt e1)) (by decide)) hmt.2) gX11_point_X2_coordinate rfl rfl rfl (by decide +kernel) ⟨by decide, by decide⟩ bX2 hmx rfl hl.1 rfl (Nat.le_of_ble_eq_true rfl) dX11_point_77 ⟨by first | decide | omega, by first | decide | omega⟩) (fun r29 f30 H locs hp hw => ?_)
          obtain ⟨le31, q32, rfl, k33, hq34⟩ := hp
          have fr35 := hle_no le26 hq34
          have k36 := le31 _ _ k25
          have k37 := le31 _ _ hmx
          have k38 := le31 _ _ hmy9
          have le39 := hle.tr le26 le31
          have hc := hc.mono le31
          have hS := hS.up (kp_le le31) (fun _ _ => rfl) (fun _ _ => rfl)
          have hT := hT.up (kp_le le31) rfl
          have hss1 := hss1.up (kp_le le31)
          have hss2 := hss2.up (kp_le le31)
          have hme24 := hme24.up (kp_le le31)
          refine lv_iload hx hb dX11_point_80 (lv_at hl 8 rfl) ?_
          refine h_calll hw (h_runV (n := 1) (As := [.int z]) (rest := []) C hw (c_X0_side k33) gX11_point_X0_side rfl rfl rfl (by decide +kernel) ⟨by decide, by decide⟩ bX0 k33 rfl hl.1 rfl (Nat.le_of_ble_eq_true rfl) dX11_point_82 ⟨by first | decide | omega, by first | decide | omega⟩) (fun r40 f41 H locs hp hw => ?_)
          obtain ⟨rfl, rfl⟩ := hp
          refine W.widen (k := 6) (n := 16) (by first | decide | omega | (dsimp only; omega)) (by first | decide | omega | (dsimp only; omega)) ?_
          exact h_lret C hr hlk hw (cop (by simp only [op_point, if_pos cq3, if_pos cq11, hat, hat2, if_neg cq17, nI_clamp (show u < 2 ^ 31 by omega)]; rw [pt_y, pt3, if_pos hmt, sd_pr, al_i (w := ptA A (4 * i + j) (4 * i + j2) (yA e1)) hu]) hc (rp_le hr9 (kp_le le39))) dX11_point_85
        · subst cq28
          have hmt : ¬ mtA A (4 * i + j) (4 * i + j2) (yA e1) := fun h9 => by obtain ⟨x8, y8, h7, -⟩ := (show meO A _ none _ _ _ from hme24).2 h9; cases h7
          refine lv_aload_n hx hb dX11_point_67 rfl (lv_at hl 2 rfl) ?_
          refine lv_iconst (v := nI 2) hx hb dX11_point_68 (by decide) ?_
          refine h_calll hw (h_runV (n := 1) (As := [.int (nI 2)]) (rest := []) C hw (c_X11_finding hc (by omega)) gX11_point_X11_finding rfl rfl rfl (by decide +kernel) ⟨by decide, by decide⟩ bX11 (co.a0 hc) rfl hl.1 rfl (Nat.le_of_ble_eq_true rfl) dX11_point_69 ⟨by first | decide | omega, by first | decide | omega⟩) (fun r42 f43 H locs hp hw => ?_)
          obtain ⟨rfl, K44, hc, eK45, kp46⟩ := hp
          refine W.widen (k := 6) (n := 16) (by first | decide | omega | (dsimp only; omega)) (by first | decide | omega | (dsimp only; omega)) ?_
          exact h_lret C hr hlk hw (cop (by simp only [op_point, if_pos cq3, if_pos cq11, hat, hat2, if_neg cq17, nI_clamp (show u < 2 ^ 31 by omega)]; rw [pt_y, pt3, if_neg hmt]) hc (rp_fnd hr9 eK45 (kp.tr (kp_le le26) kp46) (by decide) hN)) dX11_point_72
      · refine lv_aload_n hx hb dX11_point_40 rfl (lv_at hl 1 rfl) ?_
        refine lv_iconst (v := nI 3) hx hb dX11_point_41 (by decide) ?_
        refine h_calll hw (h_runV (n := 1) (As := [.int (nI 3)]) (rest := []) C hw (c_X11_finding hc (by omega)) gX11_point_X11_finding rfl rfl rfl (by decide +kernel) ⟨by decide, by decide⟩ bX11 (co.a0 hc) rfl hl.1 rfl (Nat.le_of_ble_eq_true rfl) dX11_point_42 ⟨by first | decide | omega, by first | decide | omega⟩) (fun r47 f48 H locs hp hw => ?_)
        obtain ⟨rfl, K49, hc, eK50, kp51⟩ := hp
        refine W.widen (k := 6) (n := 16) (by first | decide | omega | (dsimp only; omega)) (by first | decide | omega | (dsimp only; omega)) ?_
        exact h_lret C hr hlk hw (cop (by simp only [op_point, if_pos cq3, if_pos cq11, hat, hat2, if_pos cq17]) hc (rp_fnd hr9 eK50 (kp.tr (kp_le (hle.rf f)) kp51) (by decide) hN)) dX11_point_45
    · refine lv_aload_n hx hb dX11_point_18 rfl (lv_at hl 0 rfl) ?_
      refine lv_iconst (v := nI 1) hx hb dX11_point_19 (by decide) ?_
      refine h_calll hw (h_runV (n := 1) (As := [.int (nI 1)]) (rest := []) C hw (c_X11_finding hc (by omega)) gX11_point_X11_finding rfl rfl rfl (by decide +kernel) ⟨by decide, by decide⟩ bX11 (co.a0 hc) rfl hl.1 rfl (Nat.le_of_ble_eq_true rfl) dX11_point_20 ⟨by first | decide | omega, by first | decide | omega⟩) (fun r52 f53 H locs hp hw => ?_)
      obtain ⟨rfl, K54, hc, eK55, kp56⟩ := hp
      refine W.widen (k := 6) (n := 16) (by first | decide | omega | (dsimp only; omega)) (by first | decide | omega | (dsimp only; omega)) ?_
      exact h_lret C hr hlk hw (cop (by simp only [op_point, if_pos cq3, if_neg cq11]) hc (rp_fnd hr9 eK55 (kp.tr (kp_le (hle.rf f)) kp56) (by decide) hN)) dX11_point_23
set_option maxHeartbeats 4000000 in
set_option maxRecDepth 100000 in
theorem c_X11_angle {l : Launch} {D : va_G} {cA : Nat → ClassId} {f : HF} {sz : Nat} {ad : Nat → Nat} {K : KK} {G : GG} {A : MA} {B : MB} {N : Nat} {t k k2 z : Int32}  (hc : co cA ad K G f) (hr9 : rp ad K G A B N f) (hN : N < 2 ^ 20) : Met l yX11_angle wsX11_angle ({ frames := 3, cells := 1, slots := 2, locals := 81 } : Room) (va_Pc [.ref (ad 0), .int t, .int k, .int k2, .int z] (hB D cA f sz)) (va_Ql (fun r f1 => (op_angle A B t k k2 z).1 = r ∧ ∃ K1 G1, co cA ad K1 G1 f1 ∧ rp ad K1 G1 (op_angle A B t k k2 z).2.1 (op_angle A B t k k2 z).2.2 (N + 1) f1) (hE D f sz) (hA f sz)) 1 2 (hA f sz) := by
  refine h_of (cc := cX11_angle) (maxL := 6) (ret := (some .long)) (by decide +kernel) rfl (Nat.le_of_ble_eq_true rfl) ?_
  intro p e s m below meth c ls C hr hlk hnm hw hl
  have hx := C.1.1
  have hb := C.1.2.1
  have hl : lv_has ls 6 [(0, .ref (ad 0)), (1, .int t), (2, .int k), (3, .int k2), (4, .int z)] := hl
  obtain ⟨hI, hF, hS, hT, hP, hRw, hTp, hWd, hTr, hMt⟩ := id hr9
  obtain ⟨-, -, -, hrs, hso, hwy, hst, hdr, hpx, hpy⟩ := id hI
  refine lv_aload_n hx hb dX11_angle_0 rfl (lv_at hl 0 rfl) ?_
  refine lv_iload_n hx hb dX11_angle_1 rfl (lv_at hl 1 rfl) ?_
  refine lv_iload_n hx hb dX11_angle_2 rfl (lv_at hl 2 rfl) ?_
  refine lv_iload_n hx hb dX11_angle_3 rfl (lv_at hl 3 rfl) ?_
  refine h_calli hw (h_runV (n := 3) (As := [.int t, .int k, .int k2]) (rest := []) C hw (c_X11_isPair (A := A) hc hS) gX11_angle_X11_isPair rfl rfl rfl (by decide +kernel) ⟨by decide, by decide⟩ bX11 (co.a0 hc) rfl hl.1 rfl (Nat.le_of_ble_eq_true rfl) dX11_angle_4 ⟨by first | decide | omega, by first | decide | omega⟩) (fun r1 f2 H locs hp hw => ?_)
  obtain ⟨rfl, rfl⟩ := hp
  refine n_ifneB C (tgt := 16) dX11_angle_7 (by decide) (fun cq3 => ?_) (fun cq3 => ?_)
  · obtain ⟨i, j, nk, hi, hj, hn, h8, rfl, rfl⟩ := sgN hS.hsg cq3.1
    obtain ⟨j2, hj2, rfl⟩ : ∃ j2, j2 < nk ∧ k2 = nI j2 := by obtain ⟨i9, j9, n9, q1, q2, q3, q4, q5, q6⟩ := sgN hS.hsg cq3.2.1; have e1 := (nI_eq (by omega) (by omega)).mp q5; subst e1; have e2 := (nI_eq (by omega) (by omega)).mp (h8.symm.trans q4); exact ⟨j9, by omega, q6⟩
    have hat := atN hi (show j < 4 by omega)
    have hat2 := atN hi (show j2 < 4 by omega)
    refine lv_aload_n hx hb dX11_angle_16 rfl (lv_at hl 0 rfl) ?_
    refine lv_iload_n hx hb dX11_angle_17 rfl (lv_at hl 1 rfl) ?_
    refine lv_iload_n hx hb dX11_angle_18 rfl (lv_at hl 2 rfl) ?_
    refine h_callq hw (h_runV (n := 2) (As := [.int (nI i), .int (nI j)]) (rest := []) C hw (c_X11_planeOf (A := A) hc hS hi hj hn h8) gX11_angle_X11_planeOf rfl rfl rfl (by decide +kernel) ⟨by decide, by decide⟩ bX11 (co.a0 hc) rfl hl.1 rfl (Nat.le_of_ble_eq_true rfl) dX11_angle_19 ⟨by first | decide | omega, by first | decide | omega⟩) (fun r4 f5 H locs hp hw => ?_)
    obtain ⟨hcr6, rfl⟩ := hp
    refine lv_aload_n hx hb dX11_angle_22 rfl (lv_at hl 0 rfl) ?_
    refine lv_iload_n hx hb dX11_angle_23 rfl (lv_at hl 1 rfl) ?_
    refine lv_iload_n hx hb dX11_angle_24 rfl (lv_at hl 3 rfl) ?_
    refine h_callq hw (h_runV (n := 2) (As := [.int (nI i), .int (nI j2)]) (rest := [va_rf r4]) C hw (c_X11_planeOf (A := A) hc hS hi hj2 hn h8) gX11_angle_X11_planeOf rfl rfl rfl (by decide +kernel) ⟨by decide, by decide⟩ bX11 (co.a0 hc) rfl hl.1 rfl (by cases r4 <;> exact Nat.le_of_ble_eq_true rfl) dX11_angle_25 ⟨by first | decide | omega, by first | decide | omega⟩) (fun r7 f8 H locs hp hw => ?_)
    obtain ⟨hcr9, rfl⟩ := hp
    refine h_callq hw (h_runS (n := 2) (As := [va_rf r4, va_rf r7]) (rest := []) C hw (c_X11_angleOf (u := plA A (4 * i + j)) (v := plA A (4 * i + j2)) hcr6 hcr9 (an_a hwy (by omega) (by omega)) (an_b hwy (by omega) (by omega)) (fun h6 h7 => sc_ne hwy (by omega) (by omega) h6 h7)) gX11_angle_X11_angleOf rfl rfl rfl (by decide +kernel) ⟨by decide, by decide⟩ rfl hl.1 rfl (Nat.le_of_ble_eq_true rfl) dX11_angle_28 ⟨by first | decide | omega, by first | decide | omega⟩) (fun r10 f11 H locs hp hw => ?_)
    obtain ⟨le12, hag13⟩ := hp
    have le14 := hle.tr (hle.rf f) le12
    have hc := hc.mono le12
    have hS := hS.up (kp_le le12) (fun _ _ => rfl) (fun _ _ => rfl)
    have hT := hT.up (kp_le le12) rfl
    have hcr6 := hcr6.up (kp_le le12)
    have hcr9 := hcr9.up (kp_le le12)
    refine lv_astoreQ (lv' := [(5, _), (0, _), (1, _), (2, _), (3, _), (4, _)]) hx hb dX11_angle_31 hl (by decide) rfl (fun ls hl => ?_)
    refine lv_aloadQ hx hb dX11_angle_33 (lv_at hl 0 rfl) ?_
    refine n_ifnonnull C (tgt := 46) dX11_angle_35 (by decide) (fun x15 cq16 => ?_) (fun cq16 => ?_)
    · subst cq16
      have hp12 : hpA A (4 * i + j) ∧ hpA A (4 * i + j2) := Decidable.not_not.mp (fun h9 => by have := (show agO _ (some x15) _ _ from hag13).1 ((Decidable.not_and_iff_or_not.mp h9).imp id id); cases this)
      obtain ⟨hp1, hp2⟩ := hp12
      obtain ⟨x8, hx8, hag9⟩ := hag13.2 hp1 hp2
      cases hx8
      refine lv_aload hx hb dX11_angle_46 (lv_at hl 0 rfl) ?_
      refine lv_iload hx hb dX11_angle_48 (lv_at hl 5 rfl) ?_
      refine h_calll hw (h_runV (n := 1) (As := [.int z]) (rest := []) C hw (c_X0_side hag9) gX11_angle_X0_side rfl rfl rfl (by decide +kernel) ⟨by decide, by decide⟩ bX0 hag9 rfl hl.1 rfl (Nat.le_of_ble_eq_true rfl) dX11_angle_50 ⟨by first | decide | omega, by first | decide | omega⟩) (fun r17 f18 H locs hp hw => ?_)
      obtain ⟨rfl, rfl⟩ := hp
      refine W.widen (k := 1) (n := 2) (by first | decide | omega | (dsimp only; omega)) (by first | decide | omega | (dsimp only; omega)) ?_
      exact h_lret C hr hlk hw (cop (by simp only [op_angle, if_pos cq3, hat, hat2, if_pos hp1, if_pos hp2, sd_pr, sc_dt]) hc (rp_le hr9 (kp_le le14))) dX11_angle_53
    · subst cq16
      have hnn : ¬ (hpA A (4 * i + j) ∧ hpA A (4 * i + j2)) := fun h9 => by obtain ⟨x8, h7, -⟩ := (show agO _ none _ _ from hag13).2 h9.1 h9.2; cases h7
      refine lv_aload_n hx hb dX11_angle_38 rfl (lv_at hl 1 rfl) ?_
      refine lv_iconst (v := nI 2) hx hb dX11_angle_39 (by decide) ?_
      refine h_calll hw (h_runV (n := 1) (As := [.int (nI 2)]) (rest := []) C hw (c_X11_finding hc (by omega)) gX11_angle_X11_finding rfl rfl rfl (by decide +kernel) ⟨by decide, by decide⟩ bX11 (co.a0 hc) rfl hl.1 rfl (Nat.le_of_ble_eq_true rfl) dX11_angle_40 ⟨by first | decide | omega, by first | decide | omega⟩) (fun r19 f20 H locs hp hw => ?_)
      obtain ⟨rfl, K21, hc, eK22, kp23⟩ := hp
      refine lv_goto (tgt := 53) hx hb dX11_angle_43 (by decide) ?_
      refine W.widen (k := 1) (n := 2) (by first | decide | omega | (dsimp only; omega)) (by first | decide | omega | (dsimp only; omega)) ?_
      have hno1 := an_n (A := A) (B := B) (z := z) hnn
      exact h_lret C hr hlk hw (cop (by simp only [op_angle, if_pos cq3, hat, hat2, hno1]) hc (rp_fnd hr9 eK22 (kp.tr (kp_le le14) kp23) (by decide) hN)) dX11_angle_53
  · refine lv_aload_n hx hb dX11_angle_10 rfl (lv_at hl 0 rfl) ?_
    refine lv_iconst (v := nI 1) hx hb dX11_angle_11 (by decide) ?_
    refine h_calll hw (h_runV (n := 1) (As := [.int (nI 1)]) (rest := []) C hw (c_X11_finding hc (by omega)) gX11_angle_X11_finding rfl rfl rfl (by decide +kernel) ⟨by decide, by decide⟩ bX11 (co.a0 hc) rfl hl.1 rfl (Nat.le_of_ble_eq_true rfl) dX11_angle_12 ⟨by first | decide | omega, by first | decide | omega⟩) (fun r24 f25 H locs hp hw => ?_)
    obtain ⟨rfl, K26, hc, eK27, kp28⟩ := hp
    refine W.widen (k := 1) (n := 2) (by first | decide | omega | (dsimp only; omega)) (by first | decide | omega | (dsimp only; omega)) ?_
    exact h_lret C hr hlk hw (cop (by simp only [op_angle, if_neg cq3]) hc (rp_fnd hr9 eK27 (kp.tr (kp_le (hle.rf f)) kp28) (by decide) hN)) dX11_angle_15
set_option maxHeartbeats 4000000 in
set_option maxRecDepth 100000 in
theorem c_X11_land {l : Launch} {D : va_G} {cA : Nat → ClassId} {f : HF} {sz : Nat} {ad : Nat → Nat} {K : KK} {G : GG} {A : MA} {B : MB} {N : Nat} {t k k2 e1 z : Int32}  (hc : co cA ad K G f) (hr9 : rp ad K G A B N f) (hN : N < 2 ^ 20) : Met l yX11_land wsX11_land ({ frames := 4, cells := 7, slots := 19, locals := 97 } : Room) (va_Pc [.ref (ad 0), .int t, .int k, .int k2, .int e1, .int z] (hB D cA f sz)) (va_Ql (fun r f1 => (op_land A B t k k2 e1 z).1 = r ∧ ∃ K1 G1, co cA ad K1 G1 f1 ∧ rp ad K1 G1 (op_land A B t k k2 e1 z).2.1 (op_land A B t k k2 e1 z).2.2 (N + 1) f1) (hE D f sz) (hA f sz)) 7 19 (hA f sz) := by
  refine h_of (cc := cX11_land) (maxL := 9) (ret := (some .long)) (by decide +kernel) rfl (Nat.le_of_ble_eq_true rfl) ?_
  intro p e s m below meth c ls C hr hlk hnm hw hl
  have hx := C.1.1
  have hb := C.1.2.1
  have hl : lv_has ls 9 [(0, .ref (ad 0)), (1, .int t), (2, .int k), (3, .int k2), (4, .int e1), (5, .int z)] := hl
  have lk0 : Cond.fieldLink RX11 279 "FallingLight$Way" "z" "J" ∈ wsX11_land := by decide +kernel
  have lk1 : ∀ w ∈ u_ws RX10 TX10 3, w ∈ wsX11_land := by decide +kernel
  obtain ⟨hI, hF, hS, hT, hP, hRw, hTp, hWd, hTr, hMt⟩ := id hr9
  obtain ⟨-, -, -, hrs, hso, hwy, hst, hdr, hpx, hpy⟩ := id hI
  refine lv_aload_n hx hb dX11_land_0 rfl (lv_at hl 0 rfl) ?_
  refine lv_iload_n hx hb dX11_land_1 rfl (lv_at hl 1 rfl) ?_
  refine lv_iload_n hx hb dX11_land_2 rfl (lv_at hl 2 rfl) ?_
  refine lv_iload_n hx hb dX11_land_3 rfl (lv_at hl 3 rfl) ?_
  refine h_calli hw (h_runV (n := 3) (As := [.int t, .int k, .int k2]) (rest := []) C hw (c_X11_isPair (A := A) hc hS) gX11_land_X11_isPair rfl rfl rfl (by decide +kernel) ⟨by decide, by decide⟩ bX11 (co.a0 hc) rfl hl.1 rfl (Nat.le_of_ble_eq_true rfl) dX11_land_4 ⟨by first | decide | omega, by first | decide | omega⟩) (fun r1 f2 H locs hp hw => ?_)
  obtain ⟨rfl, rfl⟩ := hp
  refine n_ifneB C (tgt := 16) dX11_land_7 (by decide) (fun cq3 => ?_) (fun cq3 => ?_)
  · obtain ⟨i, j, nk, hi, hj, hn, h8, rfl, rfl⟩ := sgN hS.hsg cq3.1
    obtain ⟨j2, hj2, rfl⟩ : ∃ j2, j2 < nk ∧ k2 = nI j2 := by obtain ⟨i9, j9, n9, q1, q2, q3, q4, q5, q6⟩ := sgN hS.hsg cq3.2.1; have e1 := (nI_eq (by omega) (by omega)).mp q5; subst e1; have e2 := (nI_eq (by omega) (by omega)).mp (h8.symm.trans q4); exact ⟨j9, by omega, q6⟩
    have hat := atN hi (show j < 4 by omega)
    have hat2 := atN hi (show j2 < 4 by omega)
    refine lv_aload_n hx hb dX11_land_16 rfl (lv_at hl 0 rfl) ?_
    refine lv_iload_n hx hb dX11_land_17 rfl (lv_at hl 1 rfl) ?_
    refine lv_iload_n hx hb dX11_land_18 rfl (lv_at hl 2 rfl) ?_
    refine h_callq hw (h_runV (n := 2) (As := [.int (nI i), .int (nI j)]) (rest := []) C hw (c_X11_sightOf (A := A) hc hS) gX11_land_X11_sightOf rfl rfl rfl (by decide +kernel) ⟨by decide, by decide⟩ bX11 (co.a0 hc) rfl hl.1 rfl (Nat.le_of_ble_eq_true rfl) dX11_land_19 ⟨by first | decide | omega, by first | decide | omega⟩) (fun r4 f5 H locs hp hw => ?_)
    obtain ⟨hso6, rfl⟩ := hp
    obtain ⟨s1, hb0, hss1⟩ := hso6.1 i j nk hi (by omega) hn h8 rfl rfl
    subst hb0
    refine lv_astore (lv' := [(6, _), (0, _), (1, _), (2, _), (3, _), (4, _), (5, _)]) hx hb dX11_land_22 hl (by decide) rfl (fun ls hl => ?_)
    refine lv_aload hx hb dX11_land_24 (lv_at hl 0 rfl) ?_
    obtain ⟨bg1, en1, md1, pl1, ho1, -⟩ := id hss1
    refine h_calli hw (h_runS (n := 1) (As := [.ref s1]) (rest := []) C hw (c_X11_isBlurred ho1) gX11_land_X11_isBlurred rfl rfl rfl (by decide +kernel) ⟨by decide, by decide⟩ rfl hl.1 rfl (Nat.le_of_ble_eq_true rfl) dX11_land_26 ⟨by first | decide | omega, by first | decide | omega⟩) (fun r7 f8 H locs hp hw => ?_)
    obtain ⟨rfl, rfl⟩ := hp
    refine n_ifeqB C (tgt := 38) dX11_land_29 (by decide) (fun cq9 => ?_) (fun cq9 => ?_)
    · refine lv_aload_n hx hb dX11_land_38 rfl (lv_at hl 1 rfl) ?_
      refine lv_aload hx hb dX11_land_39 (lv_at hl 0 rfl) ?_
      refine lv_aload_n hx hb dX11_land_41 rfl (lv_at hl 1 rfl) ?_
      refine lv_iload_n hx hb dX11_land_42 rfl (lv_at hl 2 rfl) ?_
      refine lv_iload_n hx hb dX11_land_43 rfl (lv_at hl 4 rfl) ?_
      refine h_callq hw (h_runV (n := 2) (As := [.int (nI i), .int (nI j2)]) (rest := [.ref s1, .ref (ad 0)]) C hw (c_X11_sightOf (A := A) hc hS) gX11_land_X11_sightOf rfl rfl rfl (by decide +kernel) ⟨by decide, by decide⟩ bX11 (co.a0 hc) rfl hl.1 rfl (Nat.le_of_ble_eq_true rfl) dX11_land_44 ⟨by first | decide | omega, by first | decide | omega⟩) (fun r10 f11 H locs hp hw => ?_)
      obtain ⟨hso12, rfl⟩ := hp
      obtain ⟨s2, hb0, hss2⟩ := hso12.1 i j2 nk hi (by omega) hn h8 rfl rfl
      subst hb0
      refine lv_iconst (v := nI 0) hx hb dX11_land_47 (by decide) ?_
      refine h_callq hw (h_runV (n := 3) (As := [.ref s1, .ref s2, .int (nI 0)]) (rest := []) C hw (c_X11_meetingOf (A := A) (u := (4 * i + j)) (t := (4 * i + j2)) hc hT hss1 hss2 (by omega) (by omega) hso hst) gX11_land_X11_meetingOf rfl rfl rfl (by decide +kernel) ⟨by decide, by decide⟩ bX11 (co.a0 hc) rfl hl.1 rfl (Nat.le_of_ble_eq_true rfl) dX11_land_48 ⟨by first | decide | omega, by first | decide | omega⟩) (fun r13 f14 H locs hp hw => ?_)
      obtain ⟨le15, hme16⟩ := hp
      have k17 := le15 _ _ ho1
      have le18 := hle.tr (hle.rf f) le15
      have hc := hc.mono le15
      have hS := hS.up (kp_le le15) (fun _ _ => rfl) (fun _ _ => rfl)
      have hT := hT.up (kp_le le15) rfl
      have hss1 := hss1.up (kp_le le15)
      have hss2 := hss2.up (kp_le le15)
      have hme16 : meO A _ _ _ _ 0 := hme16
      refine lv_astoreQ (lv' := [(7, _), (6, _), (0, _), (1, _), (2, _), (3, _), (4, _), (5, _)]) hx hb dX11_land_51 hl (by decide) rfl (fun ls hl => ?_)
      refine lv_aload_n hx hb dX11_land_53 rfl (lv_at hl 2 rfl) ?_
      refine lv_iload_n hx hb dX11_land_54 rfl (lv_at hl 3 rfl) ?_
      refine lv_iload_n hx hb dX11_land_55 rfl (lv_at hl 4 rfl) ?_
      refine h_callq hw (h_runV (n := 2) (As := [.int (nI i), .int (nI j)]) (rest := []) C hw (c_X11_planeOf (A := A) hc hS hi hj hn h8) gX11_land_X11_planeOf rfl rfl rfl (by decide +kernel) ⟨by decide, by decide⟩ bX11 (co.a0 hc) rfl hl.1 rfl (Nat.le_of_ble_eq_true rfl) dX11_land_56 ⟨by first | decide | omega, by first | decide | omega⟩) (fun r19 f20 H locs hp hw => ?_)
      obtain ⟨hcr21, rfl⟩ := hp
      refine lv_aload_n hx hb dX11_land_59 rfl (lv_at hl 2 rfl) ?_
      refine lv_iload_n hx hb dX11_land_60 rfl (lv_at hl 3 rfl) ?_
      refine lv_iload_n hx hb dX11_land_61 rfl (lv_at hl 5 rfl) ?_
      refine h_callq hw (h_runV (n := 2) (As := [.int (nI i), .int (nI j2)]) (rest := [va_rf r19]) C hw (c_X11_planeOf (A := A) hc hS hi hj2 hn h8) gX11_land_X11_planeOf rfl rfl rfl (by decide +kernel) ⟨by decide, by decide⟩ bX11 (co.a0 hc) rfl hl.1 rfl (by cases r19 <;> exact Nat.le_of_ble_eq_true rfl) dX11_land_62 ⟨by first | decide | omega, by first | decide | omega⟩) (fun r22 f23 H locs hp hw => ?_)
      obtain ⟨hcr24, rfl⟩ := hp
      refine h_callq hw (h_runS (n := 2) (As := [va_rf r19, va_rf r22]) (rest := []) C hw (c_X11_crossing (u := plA A (4 * i + j)) (v := plA A (4 * i + j2)) hcr21 hcr24) gX11_land_X11_crossing rfl rfl rfl (by decide +kernel) ⟨by decide, by decide⟩ rfl hl.1 rfl (Nat.le_of_ble_eq_true rfl) dX11_land_65 ⟨by first | decide | omega, by first | decide | omega⟩) (fun r25 f26 H locs hp hw => ?_)
      obtain ⟨le27, hcr28⟩ := hp
      have k29 := le27 _ _ k17
      have le30 := hle.tr le18 le27
      have hc := hc.mono le27
      have hS := hS.up (kp_le le27) (fun _ _ => rfl) (fun _ _ => rfl)
      have hT := hT.up (kp_le le27) rfl
      have hss1 := hss1.up (kp_le le27)
      have hss2 := hss2.up (kp_le le27)
      have hme16 := hme16.up (kp_le le27)
      have hcr21 := hcr21.up (kp_le le27)
      have hcr24 := hcr24.up (kp_le le27)
      refine lv_astoreQ (lv' := [(8, va_rf r25), (7, va_rf r13), (6, .ref s1), (0, .ref (ad 0)), (1, .int (nI i)), (2, .int (nI j)), (3, .int (nI j2)), (4, .int e1), (5, .int z)]) hx hb dX11_land_68 hl (by decide) (by cases r13 <;> rfl) (fun ls hl => ?_)
      refine lv_aloadQ hx hb dX11_land_70 (lv_at hl 1 rfl) ?_
      refine n_ifnull C (tgt := 90) dX11_land_72 (by decide) (fun cq32 => ?_) (fun x31 cq32 => ?_)
      · subst cq32
        have hmt : ¬ mtA A (4 * i + j) (4 * i + j2) 0 := fun h9 => by obtain ⟨x8, y8, h7, -⟩ := (show meO A _ none _ _ _ from hme16).2 h9; cases h7
        refine lv_aload_n hx hb dX11_land_90 rfl (lv_at hl 3 rfl) ?_
        refine lv_iconst (v := nI 2) hx hb dX11_land_91 (by decide) ?_
        refine h_calll hw (h_runV (n := 1) (As := [.int (nI 2)]) (rest := []) C hw (c_X11_finding hc (by omega)) gX11_land_X11_finding rfl rfl rfl (by decide +kernel) ⟨by decide, by decide⟩ bX11 (co.a0 hc) rfl hl.1 rfl (Nat.le_of_ble_eq_true rfl) dX11_land_92 ⟨by first | decide | omega, by first | decide | omega⟩) (fun r33 f34 H locs hp hw => ?_)
        obtain ⟨rfl, K35, hc, eK36, kp37⟩ := hp
        refine W.widen (k := 7) (n := 19) (by first | decide | omega | (dsimp only; omega)) (by first | decide | omega | (dsimp only; omega)) ?_
        exact h_lret C hr hlk hw (cop (by simp only [op_land, if_pos cq3, hat, hat2, if_neg cq9, if_neg hmt]) hc (rp_fnd hr9 eK36 (kp.tr (kp_le le30) kp37) (by decide) hN)) dX11_land_95
      · subst cq32
        have hmt : mtA A (4 * i + j) (4 * i + j2) 0 := Decidable.not_not.mp (fun h9 => by have := (show meO A _ (some x31) _ _ _ from hme16).1 h9; cases this)
        obtain ⟨x8, y9, hx8, hmx, hmy9⟩ := hme16.2 hmt
        cases hx8
        refine lv_aloadQ hx hb dX11_land_75 (lv_at hl 0 rfl) ?_
        refine n_ifnull C (tgt := 90) dX11_land_77 (by decide) (fun cq39 => ?_) (fun x38 cq39 => ?_)
        · subst cq39
          have hf2 : faA A (4 * i + j) (4 * i + j2) 2 = 0 := (nz_f hcr28.no).2.2
          refine lv_aload_n hx hb dX11_land_90 rfl (lv_at hl 3 rfl) ?_
          refine lv_iconst (v := nI 2) hx hb dX11_land_91 (by decide) ?_
          refine h_calll hw (h_runV (n := 1) (As := [.int (nI 2)]) (rest := []) C hw (c_X11_finding hc (by omega)) gX11_land_X11_finding rfl rfl rfl (by decide +kernel) ⟨by decide, by decide⟩ bX11 (co.a0 hc) rfl hl.1 rfl (Nat.le_of_ble_eq_true rfl) dX11_land_92 ⟨by first | decide | omega, by first | decide | omega⟩) (fun r40 f41 H locs hp hw => ?_)
          obtain ⟨rfl, K42, hc, eK43, kp44⟩ := hp
          refine W.widen (k := 7) (n := 19) (by first | decide | omega | (dsimp only; omega)) (by first | decide | omega | (dsimp only; omega)) ?_
          exact h_lret C hr hlk hw (cop (by simp only [op_land, if_pos cq3, hat, hat2, if_neg cq9, if_pos hmt, if_pos hf2]) hc (rp_fnd hr9 eK43 (kp.tr (kp_le le30) kp44) (by decide) hN)) dX11_land_95
        · subst cq39
          obtain ⟨hnf, hwf⟩ := hcr28.so
          have hwf : wyO _ x38 (faA A (4 * i + j) (4 * i + j2)) := hwf
          refine lv_aload hx hb dX11_land_80 (lv_at hl 0 rfl) ?_
          refine h_get C hw bX10 hwf lk1 2 (by decide) lk0 (v := .long (faA A (4 * i + j) (4 * i + j2) 2)) rfl dX11_land_82 ?_
          refine lv_lconst (v := 0) hx hb dX11_land_85 (by decide) ?_
          refine W.lcmp hx hb dX11_land_86 ?_
          refine l_ifne C (tgt := 96) dX11_land_87 (by decide) (fun cq45 => ?_) (fun cq45 => ?_)
          · refine lv_aload hx hb dX11_land_96 (lv_at hl 1 rfl) ?_
            refine lv_aload hx hb dX11_land_98 (lv_at hl 0 rfl) ?_
            refine lv_iload hx hb dX11_land_100 (lv_at hl 7 rfl) ?_
            refine lv_if_eq (tgt := 109) hx hb dX11_land_102 (by decide) (fun cq46 => ?_) (fun cq46 => ?_)
            · refine lv_iconst (v := nI 0) hx hb dX11_land_109 (by decide) ?_
              refine h_callq hw (h_runS (n := 3) (As := [.ref x31, .ref x38, .int (nI 0)]) (rest := []) C hw (c_X11_landing hmx hmy9 hwf (by rw [al_i (w := ptA A (4 * i + j) (4 * i + j2) 0) (show 0 ≤ 2 by decide), al_i (w := faA A (4 * i + j) (4 * i + j2)) (show 0 ≤ 2 by decide)]; exact la_a48 hwy hst hso (by omega) (by omega) (by decide)) (la_b48 hwy (by omega) (by omega)) (la_n hwy (by omega) (by omega) hmt.2 cq45)) gX11_land_X11_landing rfl rfl rfl (by decide +kernel) ⟨by decide, by decide⟩ rfl hl.1 rfl (Nat.le_of_ble_eq_true rfl) dX11_land_110 ⟨by first | decide | omega, by first | decide | omega⟩) (fun r47 f48 H locs hp hw => ?_)
              obtain ⟨le49, q50, rfl, k51, hq52⟩ := hp
              have fr53 := hle_no le30 hq52
              have k54 := le49 _ _ k29
              have k55 := le49 _ _ hmx
              have k56 := le49 _ _ hmy9
              have k57 := le49 _ _ hwf
              have le58 := hle.tr le30 le49
              have hc := hc.mono le49
              have hS := hS.up (kp_le le49) (fun _ _ => rfl) (fun _ _ => rfl)
              have hT := hT.up (kp_le le49) rfl
              have hss1 := hss1.up (kp_le le49)
              have hss2 := hss2.up (kp_le le49)
              have hme16 := hme16.up (kp_le le49)
              have hcr21 := hcr21.up (kp_le le49)
              have hcr24 := hcr24.up (kp_le le49)
              have hcr28 := hcr28.up (kp_le le49)
              refine lv_iload hx hb dX11_land_113 (lv_at hl 8 rfl) ?_
              refine h_calll hw (h_runV (n := 1) (As := [.int z]) (rest := []) C hw (c_X0_side k51) gX11_land_X0_side rfl rfl rfl (by decide +kernel) ⟨by decide, by decide⟩ bX0 k51 rfl hl.1 rfl (Nat.le_of_ble_eq_true rfl) dX11_land_115 ⟨by first | decide | omega, by first | decide | omega⟩) (fun r59 f60 H locs hp hw => ?_)
              obtain ⟨rfl, rfl⟩ := hp
              refine W.widen (k := 7) (n := 19) (by first | decide | omega | (dsimp only; omega)) (by first | decide | omega | (dsimp only; omega)) ?_
              exact h_lret C hr hlk hw (cop (by simp only [op_land, if_pos cq3, hat, hat2, if_neg cq9, if_pos hmt, if_neg cq45, if_pos cq46, la3, sd_pr, al_i (w := ptA A (4 * i + j) (4 * i + j2) 0) (show 0 ≤ 2 by decide), al_i (w := faA A (4 * i + j) (4 * i + j2)) (show 0 ≤ 2 by decide)]) hc (rp_le hr9 (kp_le le58))) dX11_land_118
            · refine lv_iconst (v := nI 1) hx hb dX11_land_105 (by decide) ?_
              refine lv_goto (tgt := 110) hx hb dX11_land_106 (by decide) ?_
              refine h_callq hw (h_runS (n := 3) (As := [.ref x31, .ref x38, .int (nI 1)]) (rest := []) C hw (c_X11_landing hmx hmy9 hwf (by rw [al_i (w := ptA A (4 * i + j) (4 * i + j2) 0) (show 1 ≤ 2 by decide), al_i (w := faA A (4 * i + j) (4 * i + j2)) (show 1 ≤ 2 by decide)]; exact la_a48 hwy hst hso (by omega) (by omega) (by decide)) (la_b48 hwy (by omega) (by omega)) (la_n hwy (by omega) (by omega) hmt.2 cq45)) gX11_land_X11_landing rfl rfl rfl (by decide +kernel) ⟨by decide, by decide⟩ rfl hl.1 rfl (Nat.le_of_ble_eq_true rfl) dX11_land_110 ⟨by first | decide | omega, by first | decide | omega⟩) (fun r61 f62 H locs hp hw => ?_)
              obtain ⟨le63, q64, rfl, k65, hq66⟩ := hp
              have fr67 := hle_no le30 hq66
              have k68 := le63 _ _ k29
              have k69 := le63 _ _ hmx
              have k70 := le63 _ _ hmy9
              have k71 := le63 _ _ hwf
              have le72 := hle.tr le30 le63
              have hc := hc.mono le63
              have hS := hS.up (kp_le le63) (fun _ _ => rfl) (fun _ _ => rfl)
              have hT := hT.up (kp_le le63) rfl
              have hss1 := hss1.up (kp_le le63)
              have hss2 := hss2.up (kp_le le63)
              have hme16 := hme16.up (kp_le le63)
              have hcr21 := hcr21.up (kp_le le63)
              have hcr24 := hcr24.up (kp_le le63)
              have hcr28 := hcr28.up (kp_le le63)
              refine lv_iload hx hb dX11_land_113 (lv_at hl 8 rfl) ?_
              refine h_calll hw (h_runV (n := 1) (As := [.int z]) (rest := []) C hw (c_X0_side k65) gX11_land_X0_side rfl rfl rfl (by decide +kernel) ⟨by decide, by decide⟩ bX0 k65 rfl hl.1 rfl (Nat.le_of_ble_eq_true rfl) dX11_land_115 ⟨by first | decide | omega, by first | decide | omega⟩) (fun r73 f74 H locs hp hw => ?_)
              obtain ⟨rfl, rfl⟩ := hp
              refine W.widen (k := 7) (n := 19) (by first | decide | omega | (dsimp only; omega)) (by first | decide | omega | (dsimp only; omega)) ?_
              exact h_lret C hr hlk hw (cop (by simp only [op_land, if_pos cq3, hat, hat2, if_neg cq9, if_pos hmt, if_neg cq45, if_neg cq46, la3, sd_pr, al_i (w := ptA A (4 * i + j) (4 * i + j2) 0) (show 1 ≤ 2 by decide), al_i (w := faA A (4 * i + j) (4 * i + j2)) (show 1 ≤ 2 by decide)]) hc (rp_le hr9 (kp_le le72))) dX11_land_118
          · refine lv_aload_n hx hb dX11_land_90 rfl (lv_at hl 3 rfl) ?_
            refine lv_iconst (v := nI 2) hx hb dX11_land_91 (by decide) ?_
            refine h_calll hw (h_runV (n := 1) (As := [.int (nI 2)]) (rest := []) C hw (c_X11_finding hc (by omega)) gX11_land_X11_finding rfl rfl rfl (by decide +kernel) ⟨by decide, by decide⟩ bX11 (co.a0 hc) rfl hl.1 rfl (Nat.le_of_ble_eq_true rfl) dX11_land_92 ⟨by first | decide | omega, by first | decide | omega⟩) (fun r75 f76 H locs hp hw => ?_)
            obtain ⟨rfl, K77, hc, eK78, kp79⟩ := hp
            refine W.widen (k := 7) (n := 19) (by first | decide | omega | (dsimp only; omega)) (by first | decide | omega | (dsimp only; omega)) ?_
            exact h_lret C hr hlk hw (cop (by simp only [op_land, if_pos cq3, hat, hat2, if_neg cq9, if_pos hmt, if_pos cq45]) hc (rp_fnd hr9 eK78 (kp.tr (kp_le le30) kp79) (by decide) hN)) dX11_land_95
    · refine lv_aload_n hx hb dX11_land_32 rfl (lv_at hl 1 rfl) ?_
      refine lv_iconst (v := nI 3) hx hb dX11_land_33 (by decide) ?_
      refine h_calll hw (h_runV (n := 1) (As := [.int (nI 3)]) (rest := []) C hw (c_X11_finding hc (by omega)) gX11_land_X11_finding rfl rfl rfl (by decide +kernel) ⟨by decide, by decide⟩ bX11 (co.a0 hc) rfl hl.1 rfl (Nat.le_of_ble_eq_true rfl) dX11_land_34 ⟨by first | decide | omega, by first | decide | omega⟩) (fun r80 f81 H locs hp hw => ?_)
      obtain ⟨rfl, K82, hc, eK83, kp84⟩ := hp
      refine W.widen (k := 7) (n := 19) (by first | decide | omega | (dsimp only; omega)) (by first | decide | omega | (dsimp only; omega)) ?_
      exact h_lret C hr hlk hw (cop (by simp only [op_land, if_pos cq3, hat, hat2, if_pos cq9]) hc (rp_fnd hr9 eK83 (kp.tr (kp_le (hle.rf f)) kp84) (by decide) hN)) dX11_land_37
  · refine lv_aload_n hx hb dX11_land_10 rfl (lv_at hl 0 rfl) ?_
    refine lv_iconst (v := nI 1) hx hb dX11_land_11 (by decide) ?_
    refine h_calll hw (h_runV (n := 1) (As := [.int (nI 1)]) (rest := []) C hw (c_X11_finding hc (by omega)) gX11_land_X11_finding rfl rfl rfl (by decide +kernel) ⟨by decide, by decide⟩ bX11 (co.a0 hc) rfl hl.1 rfl (Nat.le_of_ble_eq_true rfl) dX11_land_12 ⟨by first | decide | omega, by first | decide | omega⟩) (fun r85 f86 H locs hp hw => ?_)
    obtain ⟨rfl, K87, hc, eK88, kp89⟩ := hp
    refine W.widen (k := 7) (n := 19) (by first | decide | omega | (dsimp only; omega)) (by first | decide | omega | (dsimp only; omega)) ?_
    exact h_lret C hr hlk hw (cop (by simp only [op_land, if_neg cq3]) hc (rp_fnd hr9 eK88 (kp.tr (kp_le (hle.rf f)) kp89) (by decide) hN)) dX11_land_15
set_option maxHeartbeats 4000000 in
set_option maxRecDepth 100000 in
theorem c_X11_radiant {l : Launch} {D : va_G} {cA : Nat → ClassId} {f : HF} {sz : Nat} {ad : Nat → Nat} {K : KK} {G : GG} {A : MA} {B : MB} {N : Nat} {a b w : Int32}  (hc : co cA ad K G f) (hr9 : rp ad K G A B N f) (hN : N < 2 ^ 20) : Met l yX11_radiant wsX11_radiant ({ frames := 4, cells := 1, slots := 3, locals := 89 } : Room) (va_Pc [.ref (ad 0), .int a, .int b, .int w] (hB D cA f sz)) (va_Ql (fun r f1 => (op_radiant A B a b w).1 = r ∧ ∃ K1 G1, co cA ad K1 G1 f1 ∧ rp ad K1 G1 (op_radiant A B a b w).2.1 (op_radiant A B a b w).2.2 (N + 1) f1) (hE D f sz) (hA f sz)) 1 3 (hA f sz) := by
  refine h_of (cc := cX11_radiant) (maxL := 5) (ret := (some .long)) (by decide +kernel) rfl (Nat.le_of_ble_eq_true rfl) ?_
  intro p e s m below meth c ls C hr hlk hnm hw hl
  have hx := C.1.1
  have hb := C.1.2.1
  have hl : lv_has ls 5 [(0, .ref (ad 0)), (1, .int a), (2, .int b), (3, .int w)] := hl
  have lk0 : Cond.fieldLink RX11 62 "FallingLight" "meteors" "[LFallingLight$Meteor;" ∈ wsX11_radiant := by decide +kernel
  have lk1 : ∀ w ∈ u_ws RX11 TX11 11, w ∈ wsX11_radiant := by decide +kernel
  obtain ⟨hI, hF, hS, hT, hP, hRw, hTp, hWd, hTr, hMt⟩ := id hr9
  obtain ⟨-, -, -, hrs, hso, hwy, hst, hdr, hpx, hpy⟩ := id hI
  refine lv_iload_n hx hb dX11_radiant_0 rfl (lv_at hl 1 rfl) ?_
  refine h_calli hw (h_runS (n := 1) (As := [.int a]) (rest := []) C hw c_X11_isMeteor gX11_radiant_X11_isMeteor rfl rfl rfl (by decide +kernel) ⟨by decide, by decide⟩ rfl hl.1 rfl (Nat.le_of_ble_eq_true rfl) dX11_radiant_1 ⟨by first | decide | omega, by first | decide | omega⟩) (fun r1 f2 H locs hp hw => ?_)
  obtain ⟨rfl, rfl⟩ := hp
  refine n_ifeqB C (tgt := 26) dX11_radiant_4 (by decide) (fun cq3 => ?_) (fun cq3 => ?_)
  · refine lv_aload_n hx hb dX11_radiant_26 rfl (lv_at hl 0 rfl) ?_
    refine lv_iconst (v := nI 1) hx hb dX11_radiant_27 (by decide) ?_
    refine h_calll hw (h_runV (n := 1) (As := [.int (nI 1)]) (rest := []) C hw (c_X11_finding hc (by omega)) gX11_radiant_X11_finding rfl rfl rfl (by decide +kernel) ⟨by decide, by decide⟩ bX11 (co.a0 hc) rfl hl.1 rfl (Nat.le_of_ble_eq_true rfl) dX11_radiant_28 ⟨by first | decide | omega, by first | decide | omega⟩) (fun r4 f5 H locs hp hw => ?_)
    obtain ⟨rfl, K6, hc, eK7, kp8⟩ := hp
    refine W.widen (k := 1) (n := 3) (by first | decide | omega | (dsimp only; omega)) (by first | decide | omega | (dsimp only; omega)) ?_
    exact h_lret C hr hlk hw (cop (by simp only [op_radiant, if_neg cq3]) hc (rp_fnd hr9 eK7 (kp.tr (kp_le (hle.rf f)) kp8) (by decide) hN)) dX11_radiant_31
  · obtain ⟨i, hi0, rfl⟩ := inN (by decide) cq3
    obtain ⟨nk, hni, h8i, hKni, hsni⟩ := hS i (by omega)
    refine lv_iload_n hx hb dX11_radiant_7 rfl (lv_at hl 2 rfl) ?_
    refine h_calli hw (h_runS (n := 1) (As := [.int b]) (rest := []) C hw c_X11_isMeteor gX11_radiant_X11_isMeteor rfl rfl rfl (by decide +kernel) ⟨by decide, by decide⟩ rfl hl.1 rfl (Nat.le_of_ble_eq_true rfl) dX11_radiant_8 ⟨by first | decide | omega, by first | decide | omega⟩) (fun r9 f10 H locs hp hw => ?_)
    obtain ⟨rfl, rfl⟩ := hp
    refine n_ifeqB C (tgt := 26) dX11_radiant_11 (by decide) (fun cq11 => ?_) (fun cq11 => ?_)
    · refine lv_aload_n hx hb dX11_radiant_26 rfl (lv_at hl 0 rfl) ?_
      refine lv_iconst (v := nI 1) hx hb dX11_radiant_27 (by decide) ?_
      refine h_calll hw (h_runV (n := 1) (As := [.int (nI 1)]) (rest := []) C hw (c_X11_finding hc (by omega)) gX11_radiant_X11_finding rfl rfl rfl (by decide +kernel) ⟨by decide, by decide⟩ bX11 (co.a0 hc) rfl hl.1 rfl (Nat.le_of_ble_eq_true rfl) dX11_radiant_28 ⟨by first | decide | omega, by first | decide | omega⟩) (fun r12 f13 H locs hp hw => ?_)
      obtain ⟨rfl, K14, hc, eK15, kp16⟩ := hp
      refine W.widen (k := 1) (n := 3) (by first | decide | omega | (dsimp only; omega)) (by first | decide | omega | (dsimp only; omega)) ?_
      exact h_lret C hr hlk hw (cop (by simp only [op_radiant, if_pos cq3, if_neg cq11]) hc (rp_fnd hr9 eK15 (kp.tr (kp_le (hle.rf f)) kp16) (by decide) hN)) dX11_radiant_31
    · obtain ⟨i2, hi20, rfl⟩ := inN (by decide) cq11
      obtain ⟨nk2, hni2, h8i2, hKni2, hsni2⟩ := hS i2 (by omega)
      refine lv_iload_n hx hb dX11_radiant_14 rfl (lv_at hl 1 rfl) ?_
      refine lv_iload_n hx hb dX11_radiant_15 rfl (lv_at hl 2 rfl) ?_
      refine n_ceq C (by omega) (by omega) (tgt := 26) dX11_radiant_16 (by decide) (fun cq17 => ?_) (fun cq17 => ?_)
      · refine lv_aload_n hx hb dX11_radiant_26 rfl (lv_at hl 0 rfl) ?_
        refine lv_iconst (v := nI 1) hx hb dX11_radiant_27 (by decide) ?_
        refine h_calll hw (h_runV (n := 1) (As := [.int (nI 1)]) (rest := []) C hw (c_X11_finding hc (by omega)) gX11_radiant_X11_finding rfl rfl rfl (by decide +kernel) ⟨by decide, by decide⟩ bX11 (co.a0 hc) rfl hl.1 rfl (Nat.le_of_ble_eq_true rfl) dX11_radiant_28 ⟨by first | decide | omega, by first | decide | omega⟩) (fun r18 f19 H locs hp hw => ?_)
        obtain ⟨rfl, K20, hc, eK21, kp22⟩ := hp
        refine W.widen (k := 1) (n := 3) (by first | decide | omega | (dsimp only; omega)) (by first | decide | omega | (dsimp only; omega)) ?_
        exact h_lret C hr hlk hw (cop (by simp only [op_radiant, if_pos cq3, if_pos cq11, nI_clamp (show i < 2 ^ 31 by omega), nI_clamp (show i2 < 2 ^ 31 by omega), if_pos cq17]) hc (rp_fnd hr9 eK21 (kp.tr (kp_le (hle.rf f)) kp22) (by decide) hN)) dX11_radiant_31
      · refine lv_iload_n hx hb dX11_radiant_19 rfl (lv_at hl 3 rfl) ?_
        refine h_calli hw (h_runS (n := 1) (As := [.int w]) (rest := []) C hw c_X11_isAxis gX11_radiant_X11_isAxis rfl rfl rfl (by decide +kernel) ⟨by decide, by decide⟩ rfl hl.1 rfl (Nat.le_of_ble_eq_true rfl) dX11_radiant_20 ⟨by first | decide | omega, by first | decide | omega⟩) (fun r23 f24 H locs hp hw => ?_)
        obtain ⟨rfl, rfl⟩ := hp
        refine n_ifneB C (tgt := 32) dX11_radiant_23 (by decide) (fun cq25 => ?_) (fun cq25 => ?_)
        · obtain ⟨u, hu, rfl⟩ := inN (by decide) cq25
          refine lv_aload_n hx hb dX11_radiant_32 rfl (lv_at hl 0 rfl) ?_
          refine h_get C hw bX11 (co.a0 hc) lk1 7 (by decide) lk0 (v := .ref (ad 8)) rfl dX11_radiant_33 ?_
          refine lv_iload_n hx hb dX11_radiant_36 rfl (lv_at hl 1 rfl) ?_
          refine h_aldS C hw 5 rfl (co.a8 hc) (if_pos (by omega)) (show i < 6 from (by omega)) (by first | omega | decide) dX11_radiant_37 ?_
          refine h_callq hw (h_runV (n := 0) (As := []) (rest := []) C hw (c_X3_firstPlane (A := A) (i := i) ((co.met hc (show i < 6 by omega)).trans (by rw [hKni])) (co.sgt hc (show i < 6 by omega)) hni hsni) gX11_radiant_X3_firstPlane rfl rfl rfl (by decide +kernel) ⟨by decide, by decide⟩ bX3 (co.met hc (show i < 6 by omega)) rfl hl.1 rfl (Nat.le_of_ble_eq_true rfl) dX11_radiant_38 ⟨by first | decide | omega, by first | decide | omega⟩) (fun r26 f27 H locs hp hw => ?_)
          obtain ⟨hfp28, rfl⟩ := hp
          refine lv_aload_n hx hb dX11_radiant_41 rfl (lv_at hl 0 rfl) ?_
          refine h_get C hw bX11 (co.a0 hc) lk1 7 (by decide) lk0 (v := .ref (ad 8)) rfl dX11_radiant_42 ?_
          refine lv_iload_n hx hb dX11_radiant_45 rfl (lv_at hl 2 rfl) ?_
          refine h_aldS C hw 5 rfl (co.a8 hc) (if_pos (by omega)) (show i2 < 6 from (by omega)) (by first | omega | decide) dX11_radiant_46 ?_
          refine h_callq hw (h_runV (n := 0) (As := []) (rest := [va_rf r26]) C hw (c_X3_firstPlane (A := A) (i := i2) ((co.met hc (show i2 < 6 by omega)).trans (by rw [hKni2])) (co.sgt hc (show i2 < 6 by omega)) hni2 hsni2) gX11_radiant_X3_firstPlane rfl rfl rfl (by decide +kernel) ⟨by decide, by decide⟩ bX3 (co.met hc (show i2 < 6 by omega)) rfl hl.1 rfl (by cases r26 <;> exact Nat.le_of_ble_eq_true rfl) dX11_radiant_47 ⟨by first | decide | omega, by first | decide | omega⟩) (fun r29 f30 H locs hp hw => ?_)
          obtain ⟨hfp31, rfl⟩ := hp
          refine h_callq hw (h_runS (n := 2) (As := [va_rf r26, va_rf r29]) (rest := []) C hw (c_X11_crossing (u := fpW A i nk) (v := fpW A i2 nk2) (fpO.cr hfp28) (fpO.cr hfp31)) gX11_radiant_X11_crossing rfl rfl rfl (by decide +kernel) ⟨by decide, by decide⟩ rfl hl.1 rfl (Nat.le_of_ble_eq_true rfl) dX11_radiant_50 ⟨by first | decide | omega, by first | decide | omega⟩) (fun r32 f33 H locs hp hw => ?_)
          obtain ⟨le34, hcr35⟩ := hp
          have le36 := hle.tr (hle.rf f) le34
          have hc := hc.mono le34
          have hS := hS.up (kp_le le34) (fun _ _ => rfl) (fun _ _ => rfl)
          have hT := hT.up (kp_le le34) rfl
          refine lv_astoreQ (lv' := [(4, _), (0, _), (1, _), (2, _), (3, _)]) hx hb dX11_radiant_53 hl (by decide) rfl (fun ls hl => ?_)
          refine lv_aloadQ hx hb dX11_radiant_55 (lv_at hl 0 rfl) ?_
          refine n_ifnonnull C (tgt := 68) dX11_radiant_57 (by decide) (fun x37 cq38 => ?_) (fun cq38 => ?_)
          · subst cq38
            obtain ⟨hhr1, hwf⟩ := hcr35.so
            have hhr := (fp_hr h8i hni h8i2 hni2).1.mpr hhr1
            rw [(fp_hr h8i hni h8i2 hni2).2 hhr] at hwf
            refine lv_aload hx hb dX11_radiant_68 (lv_at hl 0 rfl) ?_
            refine lv_iload_n hx hb dX11_radiant_70 rfl (lv_at hl 4 rfl) ?_
            refine h_calll hw (h_runV (n := 1) (As := [.int (nI u)]) (rest := []) C hw (c_X10_along hwf) gX11_radiant_X10_along rfl rfl rfl (by decide +kernel) ⟨by decide, by decide⟩ bX10 hwf rfl hl.1 rfl (Nat.le_of_ble_eq_true rfl) dX11_radiant_71 ⟨by first | decide | omega, by first | decide | omega⟩) (fun r39 f40 H locs hp hw => ?_)
            obtain ⟨rfl, rfl⟩ := hp
            refine W.widen (k := 1) (n := 3) (by first | decide | omega | (dsimp only; omega)) (by first | decide | omega | (dsimp only; omega)) ?_
            exact h_lret C hr hlk hw (cop (by simp only [op_radiant, if_pos cq3, if_pos cq11, nI_clamp (show i < 2 ^ 31 by omega), nI_clamp (show i2 < 2 ^ 31 by omega), if_neg cq17, if_pos cq25, if_pos hhr, nI_clamp (show u < 2 ^ 31 by omega), ← al_i (w := faA A (fq A i) (fq A i2)) hu]) hc (rp_le hr9 (kp_le le36))) dX11_radiant_74
          · subst cq38
            have hhr : ¬ hrB A i (ct A i) i2 (ct A i2) = true := fun h9 => hcr35.no ((fp_hr h8i hni h8i2 hni2).1.mp h9)
            refine lv_aload_n hx hb dX11_radiant_60 rfl (lv_at hl 1 rfl) ?_
            refine lv_iconst (v := nI 2) hx hb dX11_radiant_61 (by decide) ?_
            refine h_calll hw (h_runV (n := 1) (As := [.int (nI 2)]) (rest := []) C hw (c_X11_finding hc (by omega)) gX11_radiant_X11_finding rfl rfl rfl (by decide +kernel) ⟨by decide, by decide⟩ bX11 (co.a0 hc) rfl hl.1 rfl (Nat.le_of_ble_eq_true rfl) dX11_radiant_62 ⟨by first | decide | omega, by first | decide | omega⟩) (fun r41 f42 H locs hp hw => ?_)
            obtain ⟨rfl, K43, hc, eK44, kp45⟩ := hp
            refine lv_goto (tgt := 74) hx hb dX11_radiant_65 (by decide) ?_
            refine W.widen (k := 1) (n := 3) (by first | decide | omega | (dsimp only; omega)) (by first | decide | omega | (dsimp only; omega)) ?_
            exact h_lret C hr hlk hw (cop (by simp only [op_radiant, if_pos cq3, if_pos cq11, nI_clamp (show i < 2 ^ 31 by omega), nI_clamp (show i2 < 2 ^ 31 by omega), if_neg cq17, if_pos cq25, if_neg hhr]) hc (rp_fnd hr9 eK44 (kp.tr (kp_le le36) kp45) (by decide) hN)) dX11_radiant_74
        · refine lv_aload_n hx hb dX11_radiant_26 rfl (lv_at hl 0 rfl) ?_
          refine lv_iconst (v := nI 1) hx hb dX11_radiant_27 (by decide) ?_
          refine h_calll hw (h_runV (n := 1) (As := [.int (nI 1)]) (rest := []) C hw (c_X11_finding hc (by omega)) gX11_radiant_X11_finding rfl rfl rfl (by decide +kernel) ⟨by decide, by decide⟩ bX11 (co.a0 hc) rfl hl.1 rfl (Nat.le_of_ble_eq_true rfl) dX11_radiant_28 ⟨by first | decide | omega, by first | decide | omega⟩) (fun r46 f47 H locs hp hw => ?_)
          obtain ⟨rfl, K48, hc, eK49, kp50⟩ := hp
          refine W.widen (k := 1) (n := 3) (by first | decide | omega | (dsimp only; omega)) (by first | decide | omega | (dsimp only; omega)) ?_
          exact h_lret C hr hlk hw (cop (by simp only [op_radiant, if_pos cq3, if_pos cq11, nI_clamp (show i < 2 ^ 31 by omega), nI_clamp (show i2 < 2 ^ 31 by omega), if_neg cq17, if_neg cq25]) hc (rp_fnd hr9 eK49 (kp.tr (kp_le (hle.rf f)) kp50) (by decide) hN)) dX11_radiant_31
set_option maxHeartbeats 4000000 in
set_option maxRecDepth 100000 in
theorem c_X11_shower {l : Launch} {D : va_G} {cA : Nat → ClassId} {f : HF} {sz : Nat} {ad : Nat → Nat} {K : KK} {G : GG} {A : MA} {B : MB} {N : Nat} {a b : Int32}  (hc : co cA ad K G f) (hr9 : rp ad K G A B N f) (hN : N < 2 ^ 20) : Met l yX11_shower wsX11_shower ({ frames := 4, cells := 1, slots := 3, locals := 89 } : Room) (va_Pc [.ref (ad 0), .int a, .int b] (hB D cA f sz)) (va_Ql (fun r f1 => (op_shower A B a b).1 = r ∧ ∃ K1 G1, co cA ad K1 G1 f1 ∧ rp ad K1 G1 (op_shower A B a b).2.1 (op_shower A B a b).2.2 (N + 1) f1) (hE D f sz) (hA f sz)) 1 3 (hA f sz) := by
  refine h_of (cc := cX11_shower) (maxL := 7) (ret := (some .long)) (by decide +kernel) rfl (Nat.le_of_ble_eq_true rfl) ?_
  intro p e s m below meth c ls C hr hlk hnm hw hl
  have hx := C.1.1
  have hb := C.1.2.1
  have hl : lv_has ls 7 [(0, .ref (ad 0)), (1, .int a), (2, .int b)] := hl
  have lk0 : Cond.fieldLink RX11 62 "FallingLight" "meteors" "[LFallingLight$Meteor;" ∈ wsX11_shower := by decide +kernel
  have lk1 : ∀ w ∈ u_ws RX11 TX11 11, w ∈ wsX11_shower := by decide +kernel
  obtain ⟨hI, hF, hS, hT, hP, hRw, hTp, hWd, hTr, hMt⟩ := id hr9
  obtain ⟨-, -, -, hrs, hso, hwy, hst, hdr, hpx, hpy⟩ := id hI
  refine lv_iload_n hx hb dX11_shower_0 rfl (lv_at hl 1 rfl) ?_
  refine h_calli hw (h_runS (n := 1) (As := [.int a]) (rest := []) C hw c_X11_isMeteor gX11_shower_X11_isMeteor rfl rfl rfl (by decide +kernel) ⟨by decide, by decide⟩ rfl hl.1 rfl (Nat.le_of_ble_eq_true rfl) dX11_shower_1 ⟨by first | decide | omega, by first | decide | omega⟩) (fun r1 f2 H locs hp hw => ?_)
  obtain ⟨rfl, rfl⟩ := hp
  refine n_ifeqB C (tgt := 19) dX11_shower_4 (by decide) (fun cq3 => ?_) (fun cq3 => ?_)
  · refine lv_aload_n hx hb dX11_shower_19 rfl (lv_at hl 0 rfl) ?_
    refine lv_iconst (v := nI 1) hx hb dX11_shower_20 (by decide) ?_
    refine h_calll hw (h_runV (n := 1) (As := [.int (nI 1)]) (rest := []) C hw (c_X11_finding hc (by omega)) gX11_shower_X11_finding rfl rfl rfl (by decide +kernel) ⟨by decide, by decide⟩ bX11 (co.a0 hc) rfl hl.1 rfl (Nat.le_of_ble_eq_true rfl) dX11_shower_21 ⟨by first | decide | omega, by first | decide | omega⟩) (fun r4 f5 H locs hp hw => ?_)
    obtain ⟨rfl, K6, hc, eK7, kp8⟩ := hp
    refine W.widen (k := 1) (n := 3) (by first | decide | omega | (dsimp only; omega)) (by first | decide | omega | (dsimp only; omega)) ?_
    exact h_lret C hr hlk hw (cop (by simp only [op_shower, if_neg cq3]) hc (rp_fnd hr9 eK7 (kp.tr (kp_le (hle.rf f)) kp8) (by decide) hN)) dX11_shower_24
  · obtain ⟨i, hi0, rfl⟩ := inN (by decide) cq3
    obtain ⟨nk, hni, h8i, hKni, hsni⟩ := hS i (by omega)
    refine lv_iload_n hx hb dX11_shower_7 rfl (lv_at hl 2 rfl) ?_
    refine h_calli hw (h_runS (n := 1) (As := [.int b]) (rest := []) C hw c_X11_isMeteor gX11_shower_X11_isMeteor rfl rfl rfl (by decide +kernel) ⟨by decide, by decide⟩ rfl hl.1 rfl (Nat.le_of_ble_eq_true rfl) dX11_shower_8 ⟨by first | decide | omega, by first | decide | omega⟩) (fun r9 f10 H locs hp hw => ?_)
    obtain ⟨rfl, rfl⟩ := hp
    refine n_ifeqB C (tgt := 19) dX11_shower_11 (by decide) (fun cq11 => ?_) (fun cq11 => ?_)
    · refine lv_aload_n hx hb dX11_shower_19 rfl (lv_at hl 0 rfl) ?_
      refine lv_iconst (v := nI 1) hx hb dX11_shower_20 (by decide) ?_
      refine h_calll hw (h_runV (n := 1) (As := [.int (nI 1)]) (rest := []) C hw (c_X11_finding hc (by omega)) gX11_shower_X11_finding rfl rfl rfl (by decide +kernel) ⟨by decide, by decide⟩ bX11 (co.a0 hc) rfl hl.1 rfl (Nat.le_of_ble_eq_true rfl) dX11_shower_21 ⟨by first | decide | omega, by first | decide | omega⟩) (fun r12 f13 H locs hp hw => ?_)
      obtain ⟨rfl, K14, hc, eK15, kp16⟩ := hp
      refine W.widen (k := 1) (n := 3) (by first | decide | omega | (dsimp only; omega)) (by first | decide | omega | (dsimp only; omega)) ?_
      exact h_lret C hr hlk hw (cop (by simp only [op_shower, if_pos cq3, if_neg cq11]) hc (rp_fnd hr9 eK15 (kp.tr (kp_le (hle.rf f)) kp16) (by decide) hN)) dX11_shower_24
    · obtain ⟨i2, hi20, rfl⟩ := inN (by decide) cq11
      obtain ⟨nk2, hni2, h8i2, hKni2, hsni2⟩ := hS i2 (by omega)
      refine lv_iload_n hx hb dX11_shower_14 rfl (lv_at hl 1 rfl) ?_
      refine lv_iload_n hx hb dX11_shower_15 rfl (lv_at hl 2 rfl) ?_
      refine n_cne C (by omega) (by omega) (tgt := 25) dX11_shower_16 (by decide) (fun cq17 => ?_) (fun cq17 => ?_)
      · refine lv_aload_n hx hb dX11_shower_25 rfl (lv_at hl 0 rfl) ?_
        refine h_get C hw bX11 (co.a0 hc) lk1 7 (by decide) lk0 (v := .ref (ad 8)) rfl dX11_shower_26 ?_
        refine lv_iload_n hx hb dX11_shower_29 rfl (lv_at hl 1 rfl) ?_
        refine h_aldS C hw 5 rfl (co.a8 hc) (if_pos (by omega)) (show i < 6 from (by omega)) (by first | omega | decide) dX11_shower_30 ?_
        refine h_callq hw (h_runV (n := 0) (As := []) (rest := []) C hw (c_X3_firstPlane (A := A) (i := i) ((co.met hc (show i < 6 by omega)).trans (by rw [hKni])) (co.sgt hc (show i < 6 by omega)) hni hsni) gX11_shower_X3_firstPlane rfl rfl rfl (by decide +kernel) ⟨by decide, by decide⟩ bX3 (co.met hc (show i < 6 by omega)) rfl hl.1 rfl (Nat.le_of_ble_eq_true rfl) dX11_shower_31 ⟨by first | decide | omega, by first | decide | omega⟩) (fun r18 f19 H locs hp hw => ?_)
        obtain ⟨hfp20, rfl⟩ := hp
        refine lv_aload_n hx hb dX11_shower_34 rfl (lv_at hl 0 rfl) ?_
        refine h_get C hw bX11 (co.a0 hc) lk1 7 (by decide) lk0 (v := .ref (ad 8)) rfl dX11_shower_35 ?_
        refine lv_iload_n hx hb dX11_shower_38 rfl (lv_at hl 2 rfl) ?_
        refine h_aldS C hw 5 rfl (co.a8 hc) (if_pos (by omega)) (show i2 < 6 from (by omega)) (by first | omega | decide) dX11_shower_39 ?_
        refine h_callq hw (h_runV (n := 0) (As := []) (rest := [va_rf r18]) C hw (c_X3_firstPlane (A := A) (i := i2) ((co.met hc (show i2 < 6 by omega)).trans (by rw [hKni2])) (co.sgt hc (show i2 < 6 by omega)) hni2 hsni2) gX11_shower_X3_firstPlane rfl rfl rfl (by decide +kernel) ⟨by decide, by decide⟩ bX3 (co.met hc (show i2 < 6 by omega)) rfl hl.1 rfl (by cases r18 <;> exact Nat.le_of_ble_eq_true rfl) dX11_shower_40 ⟨by first | decide | omega, by first | decide | omega⟩) (fun r21 f22 H locs hp hw => ?_)
        obtain ⟨hfp23, rfl⟩ := hp
        refine h_callq hw (h_runS (n := 2) (As := [va_rf r18, va_rf r21]) (rest := []) C hw (c_X11_crossing (u := fpW A i nk) (v := fpW A i2 nk2) (fpO.cr hfp20) (fpO.cr hfp23)) gX11_shower_X11_crossing rfl rfl rfl (by decide +kernel) ⟨by decide, by decide⟩ rfl hl.1 rfl (Nat.le_of_ble_eq_true rfl) dX11_shower_43 ⟨by first | decide | omega, by first | decide | omega⟩) (fun r24 f25 H locs hp hw => ?_)
        obtain ⟨le26, hcr27⟩ := hp
        have le28 := hle.tr (hle.rf f) le26
        have hc := hc.mono le26
        have hS := hS.up (kp_le le26) (fun _ _ => rfl) (fun _ _ => rfl)
        have hT := hT.up (kp_le le26) rfl
        refine lv_astore_nQ (lv' := [(3, _), (0, _), (1, _), (2, _)]) hx hb dX11_shower_46 rfl hl (by decide) rfl (fun ls hl => ?_)
        refine lv_aload_nQ hx hb dX11_shower_47 rfl (lv_at hl 0 rfl) ?_
        refine n_ifnonnull C (tgt := 57) dX11_shower_48 (by decide) (fun x29 cq30 => ?_) (fun cq30 => ?_)
        · subst cq30
          obtain ⟨hhr1, hwf⟩ := hcr27.so
          have hhr := (fp_hr h8i hni h8i2 hni2).1.mpr hhr1
          rw [(fp_hr h8i hni h8i2 hni2).2 hhr] at hwf
          refine lv_lconst (v := 0) hx hb dX11_shower_57 (by decide) ?_
          refine lv_lstore (lv' := [(4, _), (3, _), (0, _), (1, _), (2, _)]) hx hb dX11_shower_58 hl (by decide) rfl (fun ls hl => ?_)
          refine lv_iconst (v := nI 0) hx hb dX11_shower_60 (by decide) ?_
          refine lv_istore (lv' := [(6, _), (4, _), (3, _), (0, _), (1, _), (2, _)]) hx hb dX11_shower_61 hl (by decide) rfl (fun ls hl => ?_)
          have lp63 : ∀ (n : Nat) (k : Nat) (H1 : Heap) (locs1 : List Loc) (ls1 : Array Slot), hW D (hA f sz) s.heap f25 H1 locs1 → lv_has ls1 7 [(0, .ref (ad 0)), (1, .int (nI i)), (2, .int (nI i2)), (3, .ref x29), (4, .long (shK A (fq A i) (fq A i2) k)), (6, .int (nI k))] → (k ≤ 6) → 6 - k < n → W p l e ({ frames := 4, cells := 1, slots := 3, locals := 89 } : Room) s m ([.ref (ad 0), .int (nI i), .int (nI i2)]).toArray below meth c H1 locs1 1 3 (MQ below (va_Ql (fun r f1 => (op_shower A B (nI i) (nI i2)).1 = r ∧ ∃ K1 G1, co cA ad K1 G1 f1 ∧ rp ad K1 G1 (op_shower A B (nI i) (nI i2)).2.1 (op_shower A B (nI i) (nI i2)).2.2 (N + 1) f1) (hE D f sz) (hA f sz)) ([.ref (ad 0), .int (nI i), .int (nI i2)]).toArray s 1 3 (hA f sz)) (F0 m 63 ls1 []) := by
            intro n
            induction n with
            | zero => intros; omega
            | succ n ih63 =>
              intro k H locs ls hw hl hk hmu
              refine lv_iload hx hb dX11_shower_63 (lv_at hl 5 rfl) ?_
              refine lv_bipush (v := nI 6) hx hb dX11_shower_65 (by decide) ?_
              refine n_cge C (by omega) (by omega) (tgt := 99) dX11_shower_67 (by decide) (fun cq31 => ?_) (fun cq31 => ?_)
              · obtain rfl : k = 6 := by omega
                refine lv_lload hx hb dX11_shower_99 (lv_at hl 4 rfl) ?_
                refine W.widen (k := 1) (n := 3) (by first | decide | omega | (dsimp only; omega)) (by first | decide | omega | (dsimp only; omega)) ?_
                exact h_lret C hr hlk hw (cop (by simp only [op_shower, if_pos cq3, if_pos cq11, nI_clamp (show i < 2 ^ 31 by omega), nI_clamp (show i2 < 2 ^ 31 by omega), if_neg cq17, if_pos hhr]) hc (rp_le hr9 (kp_le le28))) dX11_shower_101
              · obtain ⟨nq, hnk, h8k, hKnk, hsnk⟩ := hS k (by omega)
                refine lv_aload_n hx hb dX11_shower_70 rfl (lv_at hl 0 rfl) ?_
                refine h_get C hw bX11 (co.a0 hc) lk1 7 (by decide) lk0 (v := .ref (ad 8)) rfl dX11_shower_71 ?_
                refine lv_iload hx hb dX11_shower_74 (lv_at hl 5 rfl) ?_
                refine h_aldS C hw 5 rfl (co.a8 hc) (if_pos (by omega)) (show k < 6 from (by omega)) (by first | omega | decide) dX11_shower_76 ?_
                refine lv_aload_n hx hb dX11_shower_77 rfl (lv_at hl 3 rfl) ?_
                refine h_calli hw (h_runV (n := 1) (As := [.ref x29]) (rest := []) C hw (c_X3_comesFrom (A := A) (i := k) (u := fq A i) (v := fq A i2) ((co.met hc (show k < 6 by omega)).trans (by rw [hKnk])) (co.sgt hc (show k < 6 by omega)) hnk hsnk hwf) gX11_shower_X3_comesFrom rfl rfl rfl (by decide +kernel) ⟨by decide, by decide⟩ bX3 (co.met hc (show k < 6 by omega)) rfl hl.1 rfl (Nat.le_of_ble_eq_true rfl) dX11_shower_78 ⟨by first | decide | omega, by first | decide | omega⟩) (fun r32 f33 H locs hp hw => ?_)
                obtain ⟨rfl, rfl⟩ := hp
                refine n_ifeqB C (tgt := 93) dX11_shower_81 (by decide) (fun cq34 => ?_) (fun cq34 => ?_)
                · rw [(sh_s h8k hnk).2 cq34] at hl
                  refine n_iinc C (lv' := [(6, _), (0, _), (1, _), (2, _), (3, _), (4, _)]) dX11_shower_93 hl (k := 5) rfl (by decide) rfl (fun ls hl => ?_)
                  refine lv_goto (tgt := 63) hx hb dX11_shower_96 (by decide) ?_
                  exact ih63 (k + 1) _ _ _ hw (lv_sub hl [1, 2, 3, 4, 5, 0] rfl) (by omega) (by omega)
                · refine lv_lload hx hb dX11_shower_84 (lv_at hl 4 rfl) ?_
                  refine lv_lconst (v := 1) hx hb dX11_shower_86 (by decide) ?_
                  refine lv_iload hx hb dX11_shower_87 (lv_at hl 5 rfl) ?_
                  refine lv_lshl hx hb dX11_shower_89 rfl ?_
                  refine lv_lor hx hb dX11_shower_90 ?_
                  refine W.eq (g2 := F0 m 91 ls [.long (shK A (fq A i) (fq A i2) (k + 1))]) (by rw [(sh_s h8k hnk).1 cq34]) ?_
                  refine lv_lstore (lv' := [(4, _), (0, _), (1, _), (2, _), (3, _), (6, _)]) hx hb dX11_shower_91 hl (by decide) rfl (fun ls hl => ?_)
                  refine n_iinc C (lv' := [(6, _), (4, _), (0, _), (1, _), (2, _), (3, _)]) dX11_shower_93 hl (k := 5) rfl (by decide) rfl (fun ls hl => ?_)
                  refine lv_goto (tgt := 63) hx hb dX11_shower_96 (by decide) ?_
                  exact ih63 (k + 1) _ _ _ hw (lv_sub hl [2, 3, 4, 5, 1, 0] rfl) (by omega) (by omega)
          exact lp63 _ 0 _ _ _ hw (lv_sub hl [3, 4, 5, 2, 1, 0] rfl) (by omega) (Nat.lt_succ_self _)
        · subst cq30
          have hhr : ¬ hrB A i (ct A i) i2 (ct A i2) = true := fun h9 => hcr27.no ((fp_hr h8i hni h8i2 hni2).1.mp h9)
          refine lv_aload_n hx hb dX11_shower_51 rfl (lv_at hl 1 rfl) ?_
          refine lv_iconst (v := nI 2) hx hb dX11_shower_52 (by decide) ?_
          refine h_calll hw (h_runV (n := 1) (As := [.int (nI 2)]) (rest := []) C hw (c_X11_finding hc (by omega)) gX11_shower_X11_finding rfl rfl rfl (by decide +kernel) ⟨by decide, by decide⟩ bX11 (co.a0 hc) rfl hl.1 rfl (Nat.le_of_ble_eq_true rfl) dX11_shower_53 ⟨by first | decide | omega, by first | decide | omega⟩) (fun r35 f36 H locs hp hw => ?_)
          obtain ⟨rfl, K37, hc, eK38, kp39⟩ := hp
          refine W.widen (k := 1) (n := 3) (by first | decide | omega | (dsimp only; omega)) (by first | decide | omega | (dsimp only; omega)) ?_
          exact h_lret C hr hlk hw (cop (by simp only [op_shower, if_pos cq3, if_pos cq11, nI_clamp (show i < 2 ^ 31 by omega), nI_clamp (show i2 < 2 ^ 31 by omega), if_neg cq17, if_neg hhr]) hc (rp_fnd hr9 eK38 (kp.tr (kp_le le28) kp39) (by decide) hN)) dX11_shower_56
      · refine lv_aload_n hx hb dX11_shower_19 rfl (lv_at hl 0 rfl) ?_
        refine lv_iconst (v := nI 1) hx hb dX11_shower_20 (by decide) ?_
        refine h_calll hw (h_runV (n := 1) (As := [.int (nI 1)]) (rest := []) C hw (c_X11_finding hc (by omega)) gX11_shower_X11_finding rfl rfl rfl (by decide +kernel) ⟨by decide, by decide⟩ bX11 (co.a0 hc) rfl hl.1 rfl (Nat.le_of_ble_eq_true rfl) dX11_shower_21 ⟨by first | decide | omega, by first | decide | omega⟩) (fun r40 f41 H locs hp hw => ?_)
        obtain ⟨rfl, K42, hc, eK43, kp44⟩ := hp
        refine W.widen (k := 1) (n := 3) (by first | decide | omega | (dsimp only; omega)) (by first | decide | omega | (dsimp only; omega)) ?_
        exact h_lret C hr hlk hw (cop (by simp only [op_shower, if_pos cq3, if_pos cq11, nI_clamp (show i < 2 ^ 31 by omega), nI_clamp (show i2 < 2 ^ 31 by omega), if_pos cq17]) hc (rp_fnd hr9 eK43 (kp.tr (kp_le (hle.rf f)) kp44) (by decide) hN)) dX11_shower_24
set_option maxHeartbeats 4000000 in
set_option maxRecDepth 100000 in
theorem c_X11_count {l : Launch} {D : va_G} {cA : Nat → ClassId} {f : HF} {sz : Nat} {ad : Nat → Nat} {K : KK} {G : GG} {A : MA} {B : MB} {N : Nat} {ns nt tn : Nat} {w : Int32}  (hc : co cA ad K G f) (hr9 : rp ad K G A B N f) (hN : N < 2 ^ 20) (hns : A 0 0 = nI ns) (hnt : A 1 0 = nI nt) (htn : A 13 0 = nI tn) (hns2 : ns ≤ 10) (hnt2 : nt ≤ 12) (htn2 : tn ≤ 9) : Met l yX11_count wsX11_count ({ frames := 1, cells := 0, slots := 0, locals := 21 } : Room) (va_Pc [.ref (ad 0), .int w] (hB D cA f sz)) (va_Ql (fun r f1 => (op_count A B ns nt tn w).1 = r ∧ ∃ K1 G1, co cA ad K1 G1 f1 ∧ rp ad K1 G1 (op_count A B ns nt tn w).2.1 (op_count A B ns nt tn w).2.2 (N + 1) f1) (hE D f sz) (hA f sz)) 0 0 (hA f sz) := by
  refine h_of (cc := cX11_count) (maxL := 2) (ret := (some .long)) (by decide +kernel) rfl (Nat.le_of_ble_eq_true rfl) ?_
  intro p e s m below meth c ls C hr hlk hnm hw hl
  have hx := C.1.1
  have hb := C.1.2.1
  have hl : lv_has ls 2 [(0, .ref (ad 0)), (1, .int w)] := hl
  have lk0 : Cond.fieldLink RX11 62 "FallingLight" "meteors" "[LFallingLight$Meteor;" ∈ wsX11_count := by decide +kernel
  have lk1 : ∀ w ∈ u_ws RX11 TX11 11, w ∈ wsX11_count := by decide +kernel
  have lk2 : Cond.fieldLink RX11 199 "FallingLight$Meteor" "size" "I" ∈ wsX11_count := by decide +kernel
  have lk3 : ∀ w ∈ u_ws RX3 TX3 2, w ∈ wsX11_count := by decide +kernel
  have lk4 : Cond.fieldLink RX11 47 "FallingLight" "tape" "LFallingLight$Tape;" ∈ wsX11_count := by decide +kernel
  have lk5 : Cond.fieldLink RX11 182 "FallingLight$Tape" "size" "I" ∈ wsX11_count := by decide +kernel
  have lk6 : ∀ w ∈ u_ws RX7 TX7 2, w ∈ wsX11_count := by decide +kernel
  have lk7 : Cond.fieldLink RX11 18 "FallingLight" "spotPoints" "LFallingLight$Points;" ∈ wsX11_count := by decide +kernel
  have lk8 : Cond.fieldLink RX11 89 "FallingLight$Points" "size" "I" ∈ wsX11_count := by decide +kernel
  have lk9 : ∀ w ∈ u_ws RX4 TX4 4, w ∈ wsX11_count := by decide +kernel
  have lk10 : Cond.fieldLink RX11 14 "FallingLight" "starPoints" "LFallingLight$Points;" ∈ wsX11_count := by decide +kernel
  obtain ⟨hI, hF, hS, hT, hP, hRw, hTp, hWd, hTr, hMt⟩ := id hr9
  obtain ⟨-, -, -, hrs, hso, hwy, hst, hdr, hpx, hpy⟩ := id hI
  refine lv_iload_n hx hb dX11_count_0 rfl (lv_at hl 1 rfl) ?_
  refine lv_if_lt (tgt := 10) hx hb dX11_count_1 (by decide) (fun cq1 => ?_) (fun cq1 => ?_)
  · refine lv_aload_n hx hb dX11_count_10 rfl (lv_at hl 0 rfl) ?_
    refine lv_iconst (v := nI 1) hx hb dX11_count_11 (by decide) ?_
    refine h_calll hw (h_runV (n := 1) (As := [.int (nI 1)]) (rest := []) C hw (c_X11_finding hc (by omega)) gX11_count_X11_finding rfl rfl rfl (by decide +kernel) ⟨by decide, by decide⟩ bX11 (co.a0 hc) rfl hl.1 rfl (Nat.le_of_ble_eq_true rfl) dX11_count_12 ⟨by first | decide | omega, by first | decide | omega⟩) (fun r2 f3 H locs hp hw => ?_)
    obtain ⟨rfl, K4, hc, eK5, kp6⟩ := hp
    exact h_lret C hr hlk hw (cop (by simp only [op_count, if_neg (rg_lo cq1)]) hc (rp_fnd hr9 eK5 (kp.tr (kp_le (hle.rf f)) kp6) (by decide) hN)) dX11_count_15
  · refine lv_iload_n hx hb dX11_count_4 rfl (lv_at hl 1 rfl) ?_
    refine lv_bipush (v := nI 9) hx hb dX11_count_5 (by decide) ?_
    refine lv_icmp_lt (tgt := 16) hx hb dX11_count_7 (by decide) (fun cq7 => ?_) (fun cq7 => ?_)
    · have hrgw := rg_of2 (k := 8) (by decide) cq1 cq7
      obtain ⟨u, hu, rfl⟩ := inN (by decide) hrgw
      refine lv_iload_n hx hb dX11_count_16 rfl (lv_at hl 1 rfl) ?_
      refine n_zne C (by omega) (tgt := 29) dX11_count_17 (by decide) (fun cq8 => ?_) (fun cq8 => ?_)
      · refine lv_iload_n hx hb dX11_count_29 rfl (lv_at hl 1 rfl) ?_
        refine lv_iconst (v := nI 1) hx hb dX11_count_30 (by decide) ?_
        refine n_cne C (by omega) (by omega) (tgt := 43) dX11_count_31 (by decide) (fun cq9 => ?_) (fun cq9 => ?_)
        · refine lv_iload_n hx hb dX11_count_43 rfl (lv_at hl 1 rfl) ?_
          refine lv_iconst (v := nI 2) hx hb dX11_count_44 (by decide) ?_
          refine n_cne C (by omega) (by omega) (tgt := 59) dX11_count_45 (by decide) (fun cq10 => ?_) (fun cq10 => ?_)
          · have hK8 : A 8 (u - 3) = K (28 + (u - 3)) 0 := by obtain ⟨n9, q1, q2, q3, -⟩ := hS (u - 3) (by omega); rw [q2, q3]
            refine lv_aload_n hx hb dX11_count_59 rfl (lv_at hl 0 rfl) ?_
            refine h_get C hw bX11 (co.a0 hc) lk1 7 (by decide) lk0 (v := .ref (ad 8)) rfl dX11_count_60 ?_
            refine lv_iload_n hx hb dX11_count_63 rfl (lv_at hl 1 rfl) ?_
            refine lv_iconst (v := nI 3) hx hb dX11_count_64 (by decide) ?_
            refine n_isub C (by omega) dX11_count_65 ?_
            refine h_aldS C hw 5 rfl (co.a8 hc) (if_pos (by omega)) (show u - 3 < 6 from (by omega)) (by first | omega | decide) dX11_count_66 ?_
            refine h_get C hw bX3 (co.met hc (show (u - 3) < 6 by omega)) lk3 1 (by decide) lk2 (v := .int (K (28 + (u - 3)) 0)) rfl dX11_count_67 ?_
            refine lv_i2l hx hb dX11_count_70 rfl ?_
            exact h_lret C hr hlk hw (cop (by simp only [op_count, if_pos hrgw, nI_clamp (show u < 2 ^ 31 by omega), if_neg cq8, if_neg cq9, if_neg cq10, hK8]) hc (rp_le hr9 (kp_le (hle.rf f)))) dX11_count_71
          · refine lv_aload_n hx hb dX11_count_48 rfl (lv_at hl 0 rfl) ?_
            refine h_get C hw bX11 (co.a0 hc) lk1 5 (by decide) lk4 (v := .ref (ad 6)) rfl dX11_count_49 ?_
            refine h_get C hw bX7 (co.a6 hc) lk6 1 (by decide) lk5 (v := .int (nI tn)) (congrArg (fun z => some (Value.int z)) (hTp.1.trans htn)) dX11_count_52 ?_
            refine n_i2l C (by omega) dX11_count_55 ?_
            refine lv_goto (tgt := 71) hx hb dX11_count_56 (by decide) ?_
            exact h_lret C hr hlk hw (cop (by simp only [op_count, if_pos hrgw, nI_clamp (show u < 2 ^ 31 by omega), if_neg cq8, if_neg cq9, if_pos cq10]) hc (rp_le hr9 (kp_le (hle.rf f)))) dX11_count_71
        · refine lv_aload_n hx hb dX11_count_34 rfl (lv_at hl 0 rfl) ?_
          refine h_get C hw bX11 (co.a0 hc) lk1 1 (by decide) lk7 (v := .ref (ad 2)) rfl dX11_count_35 ?_
          refine h_get C hw bX4 (co.a2 hc) lk9 3 (by decide) lk8 (v := .int (nI ns)) (congrArg (fun z => some (Value.int z)) (hP.2.1.trans hns)) dX11_count_38 ?_
          refine n_i2l C (by omega) dX11_count_41 ?_
          exact h_lret C hr hlk hw (cop (by simp only [op_count, if_pos hrgw, nI_clamp (show u < 2 ^ 31 by omega), if_neg cq8, if_pos cq9]) hc (rp_le hr9 (kp_le (hle.rf f)))) dX11_count_42
      · refine lv_aload_n hx hb dX11_count_20 rfl (lv_at hl 0 rfl) ?_
        refine h_get C hw bX11 (co.a0 hc) lk1 0 (by decide) lk10 (v := .ref (ad 1)) rfl dX11_count_21 ?_
        refine h_get C hw bX4 (co.a1 hc) lk9 3 (by decide) lk8 (v := .int (nI nt)) (congrArg (fun z => some (Value.int z)) (hP.1.trans hnt)) dX11_count_24 ?_
        refine n_i2l C (by omega) dX11_count_27 ?_
        exact h_lret C hr hlk hw (cop (by simp only [op_count, if_pos hrgw, nI_clamp (show u < 2 ^ 31 by omega), if_pos cq8]) hc (rp_le hr9 (kp_le (hle.rf f)))) dX11_count_28
    · refine lv_aload_n hx hb dX11_count_10 rfl (lv_at hl 0 rfl) ?_
      refine lv_iconst (v := nI 1) hx hb dX11_count_11 (by decide) ?_
      refine h_calll hw (h_runV (n := 1) (As := [.int (nI 1)]) (rest := []) C hw (c_X11_finding hc (by omega)) gX11_count_X11_finding rfl rfl rfl (by decide +kernel) ⟨by decide, by decide⟩ bX11 (co.a0 hc) rfl hl.1 rfl (Nat.le_of_ble_eq_true rfl) dX11_count_12 ⟨by first | decide | omega, by first | decide | omega⟩) (fun r11 f12 H locs hp hw => ?_)
      obtain ⟨rfl, K13, hc, eK14, kp15⟩ := hp
      exact h_lret C hr hlk hw (cop (by simp only [op_count, if_neg (rg_hi2 (k := 8) (by decide) (Int32.not_lt.mp cq7))]) hc (rp_fnd hr9 eK14 (kp.tr (kp_le (hle.rf f)) kp15) (by decide) hN)) dX11_count_15
set_option maxHeartbeats 4000000 in
set_option maxRecDepth 100000 in
theorem c_X11_found {l : Launch} {D : va_G} {cA : Nat → ClassId} {f : HF} {sz : Nat} {ad : Nat → Nat} {K : KK} {G : GG} {A : MA} {B : MB} {N : Nat} {w : Int32}  (hc : co cA ad K G f) (hr9 : rp ad K G A B N f) (hN : N < 2 ^ 20) : Met l yX11_found wsX11_found ({ frames := 1, cells := 0, slots := 0, locals := 21 } : Room) (va_Pc [.ref (ad 0), .int w] (hB D cA f sz)) (va_Ql (fun r f1 => (op_found A B w).1 = r ∧ ∃ K1 G1, co cA ad K1 G1 f1 ∧ rp ad K1 G1 (op_found A B w).2.1 (op_found A B w).2.2 (N + 1) f1) (hE D f sz) (hA f sz)) 0 0 (hA f sz) := by
  refine h_of (cc := cX11_found) (maxL := 2) (ret := (some .long)) (by decide +kernel) rfl (Nat.le_of_ble_eq_true rfl) ?_
  intro p e s m below meth c ls C hr hlk hnm hw hl
  have hx := C.1.1
  have hb := C.1.2.1
  have hl : lv_has ls 2 [(0, .ref (ad 0)), (1, .int w)] := hl
  have lk0 : Cond.fieldLink RX11 74 "FallingLight" "findings" "[I" ∈ wsX11_found := by decide +kernel
  have lk1 : ∀ w ∈ u_ws RX11 TX11 11, w ∈ wsX11_found := by decide +kernel
  obtain ⟨hI, hF, hS, hT, hP, hRw, hTp, hWd, hTr, hMt⟩ := id hr9
  obtain ⟨-, -, -, hrs, hso, hwy, hst, hdr, hpx, hpy⟩ := id hI
  refine lv_iload_n hx hb dX11_found_0 rfl (lv_at hl 1 rfl) ?_
  refine lv_iconst (v := nI 1) hx hb dX11_found_1 (by decide) ?_
  refine lv_icmp_lt (tgt := 10) hx hb dX11_found_2 (by decide) (fun cq1 => ?_) (fun cq1 => ?_)
  · refine lv_aload_n hx hb dX11_found_10 rfl (lv_at hl 0 rfl) ?_
    refine lv_iconst (v := nI 1) hx hb dX11_found_11 (by decide) ?_
    refine h_calll hw (h_runV (n := 1) (As := [.int (nI 1)]) (rest := []) C hw (c_X11_finding hc (by omega)) gX11_found_X11_finding rfl rfl rfl (by decide +kernel) ⟨by decide, by decide⟩ bX11 (co.a0 hc) rfl hl.1 rfl (Nat.le_of_ble_eq_true rfl) dX11_found_12 ⟨by first | decide | omega, by first | decide | omega⟩) (fun r2 f3 H locs hp hw => ?_)
    obtain ⟨rfl, K4, hc, eK5, kp6⟩ := hp
    exact h_lret C hr hlk hw (cop (by simp only [op_found, if_neg (fun h9 : rg (nI 1) (nI 5) w => h9.1 cq1)]) hc (rp_fnd hr9 eK5 (kp.tr (kp_le (hle.rf f)) kp6) (by decide) hN)) dX11_found_15
  · refine lv_iload_n hx hb dX11_found_5 rfl (lv_at hl 1 rfl) ?_
    refine lv_iconst (v := nI 5) hx hb dX11_found_6 (by decide) ?_
    refine lv_icmp_le (tgt := 16) hx hb dX11_found_7 (by decide) (fun cq7 => ?_) (fun cq7 => ?_)
    · have hrgw : rg (nI 1) (nI 5) w := ⟨cq1, Int32.not_lt.mpr cq7⟩
      obtain ⟨u, hu, rfl⟩ := inN (v := w) (k := 5) (by decide) ⟨fun h => hrgw.1 (Int32.lt_trans h (by decide)), hrgw.2⟩
      obtain ⟨nf, hq1, hq2, hq3⟩ := hF u (by omega)
      refine lv_aload_n hx hb dX11_found_16 rfl (lv_at hl 0 rfl) ?_
      refine h_get C hw bX11 (co.a0 hc) lk1 10 (by decide) lk0 (v := .ref (ad 11)) rfl dX11_found_17 ?_
      refine lv_iload_n hx hb dX11_found_20 rfl (lv_at hl 1 rfl) ?_
      refine h_iald1 C hw (v := nI nf) (co.a11 hc) hq2 (show u < 6 from (by omega)) (by first | omega | decide) dX11_found_21 ?_
      refine n_i2l C (by omega) dX11_found_22 ?_
      exact h_lret C hr hlk hw (cop (by simp only [op_found, if_pos hrgw, nI_clamp (show u < 2 ^ 31 by omega), hq3]) hc (rp_le hr9 (kp_le (hle.rf f)))) dX11_found_23
    · refine lv_aload_n hx hb dX11_found_10 rfl (lv_at hl 0 rfl) ?_
      refine lv_iconst (v := nI 1) hx hb dX11_found_11 (by decide) ?_
      refine h_calll hw (h_runV (n := 1) (As := [.int (nI 1)]) (rest := []) C hw (c_X11_finding hc (by omega)) gX11_found_X11_finding rfl rfl rfl (by decide +kernel) ⟨by decide, by decide⟩ bX11 (co.a0 hc) rfl hl.1 rfl (Nat.le_of_ble_eq_true rfl) dX11_found_12 ⟨by first | decide | omega, by first | decide | omega⟩) (fun r8 f9 H locs hp hw => ?_)
      obtain ⟨rfl, K10, hc, eK11, kp12⟩ := hp
      exact h_lret C hr hlk hw (cop (by simp only [op_found, if_neg (fun h9 : rg (nI 1) (nI 5) w => cq7 (Int32.not_lt.mp h9.2))]) hc (rp_fnd hr9 eK11 (kp.tr (kp_le (hle.rf f)) kp12) (by decide) hN)) dX11_found_15
