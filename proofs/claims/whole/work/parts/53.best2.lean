/-! ===== the class: best (laid by program) ===== -/
theorem pl_I {A : MA} (hwy : ∀ j, j < 216 → ib 9 (A 11 j)) {t : Nat} (ht : t < 24) (a : Nat) : (plA A t a).toInt = (wyA A t 0 ((a + 1) % 3)).toInt * (wyA A t 1 ((a + 2) % 3)).toInt - (wyA A t 0 ((a + 2) % 3)).toInt * (wyA A t 1 ((a + 1) % 3)).toInt := by
  have m1 := Nat.mod_lt (a + 1) (show 0 < 3 by decide)
  have m2 := Nat.mod_lt (a + 2) (show 0 < 3 by decide)
  have p := bd_mul (wy_bd hwy ht (show 0 < 3 by decide) m1) (wy_bd hwy ht (show 1 < 3 by decide) m2) (by decide)
  have q := bd_mul (wy_bd hwy ht (show 0 < 3 by decide) m2) (wy_bd hwy ht (show 1 < 3 by decide) m1) (by decide)
  unfold plA
  rw [(bd_sub p.2 q.2 (by decide)).1, p.1, q.1]
theorem sc_I {A : MA} (hwy : ∀ j, j < 216 → ib 9 (A 11 j)) {u t : Nat} (hu : u < 24) (ht : t < 24) : (scA A u t).toInt = (plA A u 0).toInt * (plA A t 0).toInt + (plA A u 1).toInt * (plA A t 1).toInt + (plA A u 2).toInt * (plA A t 2).toInt := by
  have b : ∀ a, _ := fun a => bd_mul (pl_bd hwy (a := a) hu) (pl_bd hwy (a := a) ht) (by decide)
  have s := bd_add (b 0).2 (b 1).2 (by decide)
  unfold scA
  rw [(bd_add s.2 (b 2).2 (by decide)).1, s.1, (b 0).1, (b 1).1, (b 2).1]
theorem wy_9 {A : MA} (hwy : ∀ j, j < 216 → ib 9 (A 11 j)) {t w a : Nat} (ht : t < 24) (hw : w < 3) (ha : a < 3) : -9 ≤ (wyA A t w a).toInt ∧ (wyA A t w a).toInt ≤ 9 := by
  have := wy_bd hwy ht hw ha
  unfold lA at this
  omega
theorem sc_52 {A : MA} (hwy : ∀ j, j < 216 → ib 9 (A 11 j)) {u : Nat} (hu : u < 24) : (scA A u u).toInt ≤ 52488 := by
  have h := q_all (wy_9 hwy (w := 0) (a := 0) hu (by decide) (by decide)) (wy_9 hwy (w := 0) (a := 1) hu (by decide) (by decide)) (wy_9 hwy (w := 0) (a := 2) hu (by decide) (by decide)) (wy_9 hwy (w := 1) (a := 0) hu (by decide) (by decide)) (wy_9 hwy (w := 1) (a := 1) hu (by decide) (by decide)) (wy_9 hwy (w := 1) (a := 2) hu (by decide) (by decide))
  rw [sc_I hwy hu hu, pl_I hwy hu 0, pl_I hwy hu 1, pl_I hwy hu 2]
  exact h
theorem nu_M {A : MA} (hwy : ∀ j, j < 216 → ib 9 (A 11 j)) {u t : Nat} (hu : u < 24) (ht : t < 24) (h1 : hpA A u) (h2 : hpA A t) : nuA A u t ≤ 2754990144 ∧ deA A u t ≤ 2754990144 := by
  have b1 := sc_52 hwy hu
  have b2 := sc_52 hwy ht
  have z1 := pl_0 hwy hu h1
  have z2 := pl_0 hwy ht h2
  have hm : (scA A u u).toInt * (scA A t t).toInt ≤ 52488 * 52488 := Int.mul_le_mul b1 b2 (Int.le_of_lt z2) (by decide)
  have n1 := (bd_mul (sc_bd hwy hu ht) (sc_bd hwy hu ht) (by decide)).1
  have n2 := (bd_mul (sc_bd hwy hu hu) (sc_bd hwy ht ht) (by decide)).1
  have cs : (scA A u t).toInt * (scA A u t).toInt ≤ (scA A u u).toInt * (scA A t t).toInt := by
    rw [sc_I hwy hu ht, sc_I hwy hu hu, sc_I hwy ht ht]
    generalize (plA A u 0).toInt = a
    generalize (plA A u 1).toInt = b
    generalize (plA A u 2).toInt = c
    generalize (plA A t 0).toInt = d
    generalize (plA A t 1).toInt = e
    generalize (plA A t 2).toInt = f
    have l : (a * a + b * b + c * c) * (d * d + e * e + f * f) - (a * d + b * e + c * f) * (a * d + b * e + c * f) = (b * f - c * e) * (b * f - c * e) + (c * d - a * f) * (c * d - a * f) + (a * e - b * d) * (a * e - b * d) := by grind
    have s1 := sq_n (b * f - c * e)
    have s2 := sq_n (c * d - a * f)
    have s3 := sq_n (a * e - b * d)
    omega
  have p1 := i_sq (scA A u t).toInt
  have p2 := Int.mul_pos z1 z2
  unfold nuA deA lA
  rw [n1, n2]
  omega
theorem cm_lt (a b c d : Nat) : cmpN a b c d < 0 ↔ a * d < c * b := by
  unfold cmpN
  by_cases h : a * d < c * b
  · rw [if_pos h]; exact ⟨fun _ => h, fun _ => by decide⟩
  · rw [if_neg h]
    by_cases h2 : a * d = c * b
    · rw [if_pos h2]; exact ⟨fun h3 => absurd h3 (by decide), fun h3 => absurd h3 h⟩
    · rw [if_neg h2]; exact ⟨fun h3 => absurd h3 (by decide), fun h3 => absurd h3 h⟩
theorem ls_eq {a b c d : Nat} (hb : 0 < b) (hd : 0 < d) (ha1 : a ≤ 2754990144) (hb1 : b ≤ 2754990144) (hc1 : c ≤ 2754990144) (hd1 : d ≤ 2754990144) : (prL (lN a) (lN b) 0 * prL (lN c) (lN d) 1 < prL (lN c) (lN d) 0 * prL (lN a) (lN b) 1) ↔ cmpN a b c d < 0 := by
  have ia : ∀ n : Nat, n ≤ 2754990144 → (lN n).toInt = (n : Int) ∧ lA (lN n) = n := fun n hn => by
    have := pk_lT (n := n) (by omega)
    exact ⟨this, by unfold lA; rw [this]; exact Int.natAbs_natCast n⟩
  have nz : ∀ n : Nat, 0 < n → n ≤ 2754990144 → ¬ lN n = 0 ∧ ¬ lN n < 0 := fun n h0 hn => by
    have := (ia n hn).1
    have z0 : (0 : Int64).toInt = 0 := rfl
    refine ⟨fun e => ?_, fun e => ?_⟩
    · rw [e, z0] at this; omega
    · rw [Int64.lt_iff_toInt_lt, z0] at e; omega
  obtain ⟨g1, y1, x1, q1, k0, k1⟩ := pr_I (x := lN a) (nz b hb hb1).1 (by rw [(ia a ha1).2]; omega) (by rw [(ia b hb1).2]; omega)
  obtain ⟨g2, y2, x2, q2, l0, l1⟩ := pr_I (x := lN c) (nz d hd hd1).1 (by rw [(ia c hc1).2]; omega) (by rw [(ia d hd1).2]; omega)
  rw [if_neg (nz b hb hb1).2, (ia b hb1).1] at y1
  rw [if_neg (nz b hb hb1).2, (ia a ha1).1] at x1
  rw [if_neg (nz d hd hd1).2, (ia d hd1).1] at y2
  rw [if_neg (nz d hd hd1).2, (ia c hc1).1] at x2
  rw [(ia a ha1).2] at k0
  rw [(ia b hb1).2] at k1
  rw [(ia c hc1).2] at l0
  rw [(ia d hd1).2] at l1
  have m1 := (bd_mul (Nat.le_trans k0 ha1) (Nat.le_trans l1 hd1) (by decide)).1
  have m2 := (bd_mul (Nat.le_trans l0 hc1) (Nat.le_trans k1 hb1) (by decide)).1
  rw [Int64.lt_iff_toInt_lt, m1, m2, cm_lt]
  generalize (prL (lN a) (lN b) 0).toInt = X1 at *
  generalize (prL (lN a) (lN b) 1).toInt = Y1 at *
  generalize (prL (lN c) (lN d) 0).toInt = X2 at *
  generalize (prL (lN c) (lN d) 1).toInt = Y2 at *
  generalize (Nat.gcd (lA (lN a)) (lA (lN b)) : Int) = G1 at *
  generalize (Nat.gcd (lA (lN c)) (lA (lN d)) : Int) = G2 at *
  have hg : 0 < G1 * G2 := Int.mul_pos g1 g2
  have e1 : (a : Int) * d = G1 * G2 * (X1 * Y2) := by rw [x1, y2]; grind
  have e2 : (c : Int) * b = G1 * G2 * (X2 * Y1) := by rw [x2, y1]; grind
  rw [← sc_lt hg, ← e1, ← e2, ← Int.natCast_mul, ← Int.natCast_mul]
  exact Int.ofNat_lt
def bO (A : MA) (f : HF) (i : Nat) (lo : Option Nat) (o : Option (Nat × Nat)) : Prop := (o = none → lo = none) ∧ ∀ z, o = some z → ∃ x, lo = some x ∧ f x = some (eO 0 [.long (prL (lN (nuA A (4 * i + z.1) (4 * i + z.2))) (lN (deA A (4 * i + z.1) (4 * i + z.2))) 0), .long (prL (lN (nuA A (4 * i + z.1) (4 * i + z.2))) (lN (deA A (4 * i + z.1) (4 * i + z.2))) 1)])
theorem bO.up {A : MA} {f f1 : HF} {i : Nat} {lo : Option Nat} {o : Option (Nat × Nat)} (h : bO A f i lo o) (k : kp f f1) : bO A f1 i lo o := ⟨h.1, fun z hz => by
  obtain ⟨x, h3, h4⟩ := h.2 z hz
  exact ⟨x, h3, k _ _ _ (by omega) h4⟩⟩
theorem bO.no {A : MA} {f : HF} {i : Nat} {o : Option (Nat × Nat)} (h : bO A f i none o) : o = none := by
  cases o with
  | none => rfl
  | some z => obtain ⟨x, h3, -⟩ := h.2 z rfl; cases h3
theorem bO.so {A : MA} {f : HF} {i x : Nat} {o : Option (Nat × Nat)} (h : bO A f i (some x) o) : ∃ z, o = some z := by
  cases o with
  | none => have := h.1 rfl; cases this
  | some z => exact ⟨z, rfl⟩
def bsL (o : Option (Nat × Nat)) : Int64 := match o with
  | none => 0
  | some z => lN (10 * z.1 + z.2)
theorem bs_1 {A : MA} {i u t : Nat} {o : Option (Nat × Nat)} (h : ¬ cdA A i u t) : bsP A i u o t = o := if_neg h
theorem bs_2 {A : MA} {i u t : Nat} (h : cdA A i u t) : bsP A i u none t = some (u, t) := if_pos h
theorem bs_3 {A : MA} {i u t : Nat} {z : Nat × Nat} (h : cdA A i u t) (h2 : cmpN (nuA A (4 * i + u) (4 * i + t)) (deA A (4 * i + u) (4 * i + t)) (nuA A (4 * i + z.1) (4 * i + z.2)) (deA A (4 * i + z.1) (4 * i + z.2)) < 0) : bsP A i u (some z) t = some (u, t) := by unfold bsP; rw [if_pos h]; exact if_pos h2
theorem bs_4 {A : MA} {i u t : Nat} {z : Nat × Nat} (h : cdA A i u t) (h2 : ¬ cmpN (nuA A (4 * i + u) (4 * i + t)) (deA A (4 * i + u) (4 * i + t)) (nuA A (4 * i + z.1) (4 * i + z.2)) (deA A (4 * i + z.1) (4 * i + z.2)) < 0) : bsP A i u (some z) t = some z := by unfold bsP; rw [if_pos h]; exact if_neg h2
def boz (A : MA) (i nk : Nat) (o : Option (Nat × Nat)) : Prop := ∀ z, o = some z → z.1 < nk ∧ z.2 < nk ∧ hfA A (4 * i + z.1) (4 * i + z.2)
theorem ls_z {A : MA} (hwy : ∀ j, j < 216 → ib 9 (A 11 j)) {i nk u t : Nat} {z : Nat × Nat} (hi : i < 6) (hn : nk ≤ 4) (hu : u < nk) (ht : t < nk) (hc : cdA A i u t) (hz : z.1 < nk ∧ z.2 < nk ∧ hfA A (4 * i + z.1) (4 * i + z.2)) : (prL (lN (nuA A (4 * i + u) (4 * i + t))) (lN (deA A (4 * i + u) (4 * i + t))) 0 * prL (lN (nuA A (4 * i + z.1) (4 * i + z.2))) (lN (deA A (4 * i + z.1) (4 * i + z.2))) 1 < prL (lN (nuA A (4 * i + z.1) (4 * i + z.2))) (lN (deA A (4 * i + z.1) (4 * i + z.2))) 0 * prL (lN (nuA A (4 * i + u) (4 * i + t))) (lN (deA A (4 * i + u) (4 * i + t))) 1) ↔ cmpN (nuA A (4 * i + u) (4 * i + t)) (deA A (4 * i + u) (4 * i + t)) (nuA A (4 * i + z.1) (4 * i + z.2)) (deA A (4 * i + z.1) (4 * i + z.2)) < 0 := by
  obtain ⟨p1, p2⟩ := hf_hp hc.2.2.1
  obtain ⟨p3, p4⟩ := hf_hp hz.2.2
  have m1 := nu_M hwy (by omega) (by omega) p1 p2
  have m2 := nu_M hwy (by omega) (by omega) p3 p4
  exact ls_eq (de_pos hwy (by omega) (by omega) p1 p2) (de_pos hwy (by omega) (by omega) p3 p4) m1.1 m1.2 m2.1 m2.2
set_option maxHeartbeats 4000000 in
set_option maxRecDepth 100000 in
theorem c_X11_best {l : Launch} {D : va_G} {cA : Nat → ClassId} {f : HF} {sz : Nat} {ad : Nat → Nat} {K : KK} {G : GG} {A : MA} {B : MB} {N : Nat} {t9 : Int32}  (hc : co cA ad K G f) (hr9 : rp ad K G A B N f) (hN : N < 2 ^ 20) : Met l yX11_best wsX11_best ({ frames := 5, cells := 112, slots := 304, locals := 124 } : Room) (va_Pc [.ref (ad 0), .int t9] (hB D cA f sz)) (va_Ql (fun r f1 => (op_best A B t9).1 = r ∧ ∃ K1 G1, co cA ad K1 G1 f1 ∧ rp ad K1 G1 (op_best A B t9).2.1 (op_best A B t9).2.2 (N + 1) f1) (hE D f sz) (hA f sz)) 112 304 (hA f sz) := by
  refine h_of (cc := cX11_best) (maxL := 9) (ret := (some .long)) (by decide +kernel) rfl (Nat.le_of_ble_eq_true rfl) ?_
  intro p e s m below meth c ls C hr hlk hnm hw hl
  have hx := C.1.1
  have hb := C.1.2.1
  have hl : lv_has ls 9 [(0, .ref (ad 0)), (1, .int t9)] := hl
  have lk0 : Cond.fieldLink RX11 62 "FallingLight" "meteors" "[LFallingLight$Meteor;" ∈ wsX11_best := by decide +kernel
  have lk1 : ∀ w ∈ u_ws RX11 TX11 11, w ∈ wsX11_best := by decide +kernel
  have lk2 : Cond.fieldLink RX11 199 "FallingLight$Meteor" "size" "I" ∈ wsX11_best := by decide +kernel
  have lk3 : ∀ w ∈ u_ws RX3 TX3 2, w ∈ wsX11_best := by decide +kernel
  have lk4 : Cond.constantLong RX11 277 (10) ∈ wsX11_best := by decide +kernel
  obtain ⟨hI, hF, hS, hT, hP, hRw, hTp, hWd, hTr, hMt⟩ := id hr9
  obtain ⟨-, -, -, hrs, hso, hwy, hst, hdr, hpx, hpy⟩ := id hI
  refine lv_iload_n hx hb dX11_best_0 rfl (lv_at hl 1 rfl) ?_
  refine h_calli hw (h_runS (n := 1) (As := [.int t9]) (rest := []) C hw c_X11_isMeteor gX11_best_X11_isMeteor rfl rfl rfl (by decide +kernel) ⟨by decide, by decide⟩ rfl hl.1 rfl (Nat.le_of_ble_eq_true rfl) dX11_best_1 ⟨by first | decide | omega | (dsimp only; omega), by first | decide | omega | (dsimp only; omega)⟩) (fun r1 f2 H locs hp hw => ?_)
  obtain ⟨rfl, rfl⟩ := hp
  refine n_ifneB C (tgt := 13) dX11_best_4 (by decide) (fun cq3 => ?_) (fun cq3 => ?_)
  · obtain ⟨i, hi0, rfl⟩ := inN (by decide) cq3
    obtain ⟨nk, hn, h8, hKn9, hsn⟩ := hS i (by omega)
    have hi : i < 6 := by omega
    have hct : ct A i = nk := by unfold ct; rw [h8, nI_clamp (by omega)]
    refine lv_aload_n hx hb dX11_best_13 rfl (lv_at hl 0 rfl) ?_
    refine h_get C hw bX11 (co.a0 hc) lk1 7 (by decide) lk0 (v := .ref (ad 8)) rfl dX11_best_14 ?_
    refine lv_iload_n hx hb dX11_best_17 rfl (lv_at hl 1 rfl) ?_
    refine h_aldS C hw 5 rfl (co.a8 hc) (if_pos (by omega)) (show i < 6 from (by omega)) (by first | omega | decide) dX11_best_18 ?_
    refine h_get C hw bX3 (co.met hc (show i < 6 by omega)) lk3 1 (by decide) lk2 (v := .int (nI nk)) (congrArg (fun z => some (Value.int z)) hKn9) dX11_best_19 ?_
    refine lv_istore_n (lv' := [(2, _), (0, _), (1, _)]) hx hb dX11_best_22 rfl hl (by decide) rfl (fun ls hl => ?_)
    refine lv_null hx hb dX11_best_23 ?_
    refine lv_astore_nN (lv' := [(3, _), (2, _), (0, _), (1, _)]) hx hb dX11_best_24 rfl hl (by decide) rfl (fun ls hl => ?_)
    refine lv_lconst (v := 0) hx hb dX11_best_25 (by decide) ?_
    refine lv_lstore (lv' := [(4, _), (3, _), (2, _), (0, _), (1, _)]) hx hb dX11_best_26 hl (by decide) rfl (fun ls hl => ?_)
    refine lv_iconst (v := nI 0) hx hb dX11_best_28 (by decide) ?_
    refine lv_istore (lv' := [(6, _), (4, _), (3, _), (2, _), (0, _), (1, _)]) hx hb dX11_best_29 hl (by decide) rfl (fun ls hl => ?_)
    have lp31 : ∀ (n : Nat) (u : Nat) (o9 : Option (Nat × Nat)) (lo9 : Option Nat) (v9 : Nat) (f9 : HF) (H1 : Heap) (locs1 : List Loc) (ls1 : Array Slot), hW D (hA f sz) s.heap f9 H1 locs1 → co cA ad K G f9 → lv_has ls1 9 [(0, .ref (ad 0)), (1, .int (nI i)), (2, .int (nI nk)), (3, va_rf lo9), (4, .long (bsL o9)), (6, .int (nI u))] → (u ≤ nk) → (hle f f9) → (bO A f9 i lo9 o9) → (boz A i nk o9) → (v9 ≤ 4 * u) → ((List.range' u (nk - u)).foldl (fun o u => bsR A i nk u o) o9 = bstA A i nk) → nk - u < n → W p l e ({ frames := 5, cells := 112, slots := 304, locals := 124 } : Room) s m ([.ref (ad 0), .int (nI i)]).toArray below meth c H1 locs1 (7 * v9) (19 * v9) (MQ below (va_Ql (fun r f1 => (op_best A B (nI i)).1 = r ∧ ∃ K1 G1, co cA ad K1 G1 f1 ∧ rp ad K1 G1 (op_best A B (nI i)).2.1 (op_best A B (nI i)).2.2 (N + 1) f1) (hE D f sz) (hA f sz)) ([.ref (ad 0), .int (nI i)]).toArray s 112 304 (hA f sz)) (F0 m 31 ls1 []) := by
      intro n
      induction n with
      | zero => intros; omega
      | succ n ih31 =>
        intro u o9 lo9 v9 f9 H locs ls hw hc hl hu9 hle9 hbO hbz hv9 htot hmu
        have hS := hr9.2.2.1.up (kp_le hle9) (fun _ _ => rfl) (fun _ _ => rfl)
        have hT := hr9.2.2.2.1.up (kp_le hle9) rfl
        refine lv_iload hx hb dX11_best_31 (lv_at hl 5 rfl) ?_
        refine lv_iload_n hx hb dX11_best_33 rfl (lv_at hl 2 rfl) ?_
        refine n_cge C (by omega) (by omega) (tgt := 103) dX11_best_34 (by decide) (fun cq4 => ?_) (fun cq4 => ?_)
        · rw [r_n (show nk ≤ u by omega), List.foldl_nil] at htot
          refine lv_aload_nQ hx hb dX11_best_103 rfl (lv_at hl 3 rfl) ?_
          refine n_ifnonnull C (tgt := 115) dX11_best_104 (by decide) (fun x5 cq6 => ?_) (fun cq6 => ?_)
          · subst cq6
            refine lv_lload hx hb dX11_best_115 (lv_at hl 4 rfl) ?_
            refine W.widen (k := 112) (n := 304) (by first | decide | omega | (dsimp only; omega)) (by first | decide | omega | (dsimp only; omega)) ?_
            exact h_lret C hr hlk hw (cop (by simp only [op_best, if_pos cq3, nI_clamp (show i < 2 ^ 31 by omega), hct]; obtain ⟨z, hz⟩ := hbO.so; rw [← htot, hz]; rfl) hc (rp_le hr9 (kp_le hle9))) dX11_best_117
          · subst cq6
            refine lv_aload_n hx hb dX11_best_107 rfl (lv_at hl 0 rfl) ?_
            refine lv_iconst (v := nI 2) hx hb dX11_best_108 (by decide) ?_
            refine h_calll hw (h_runV (n := 1) (As := [.int (nI 2)]) (rest := []) C hw (c_X11_finding hc (by omega)) gX11_best_X11_finding rfl rfl rfl (by decide +kernel) ⟨by decide, by decide⟩ bX11 (co.a0 hc) rfl hl.1 rfl (Nat.le_of_ble_eq_true rfl) dX11_best_109 ⟨by first | decide | omega | (dsimp only; omega), by first | decide | omega | (dsimp only; omega)⟩) (fun r7 f8 H locs hp hw => ?_)
            obtain ⟨rfl, K9, hc, eK10, kp11⟩ := hp
            refine lv_goto (tgt := 117) hx hb dX11_best_112 (by decide) ?_
            refine W.widen (k := 112) (n := 304) (by first | decide | omega | (dsimp only; omega)) (by first | decide | omega | (dsimp only; omega)) ?_
            exact h_lret C hr hlk hw (cop (by simp only [op_best, if_pos cq3, nI_clamp (show i < 2 ^ 31 by omega), hct]; rw [← htot, hbO.no]; rfl) hc (rp_fnd hr9 eK10 (kp.tr (kp_le hle9) kp11) (by decide) hN)) dX11_best_117
        · refine lv_iconst (v := nI 0) hx hb dX11_best_37 (by decide) ?_
          refine lv_istore (lv' := [(7, _), (0, _), (1, _), (2, _), (3, _), (4, _), (6, _)]) hx hb dX11_best_38 hl (by decide) rfl (fun ls hl => ?_)
          have lp40 : ∀ (n : Nat) (t : Nat) (o9 : Option (Nat × Nat)) (lo9 : Option Nat) (v9 : Nat) (f9 : HF) (H1 : Heap) (locs1 : List Loc) (ls1 : Array Slot), hW D (hA f sz) s.heap f9 H1 locs1 → co cA ad K G f9 → lv_has ls1 9 [(0, .ref (ad 0)), (1, .int (nI i)), (2, .int (nI nk)), (3, va_rf lo9), (4, .long (bsL o9)), (6, .int (nI u)), (7, .int (nI t))] → (t ≤ nk) → (u < nk) → (hle f f9) → (bO A f9 i lo9 o9) → (boz A i nk o9) → (v9 ≤ 4 * u + t) → ((List.range' (u + 1) (nk - (u + 1))).foldl (fun o u => bsR A i nk u o) ((List.range' t (nk - t)).foldl (bsP A i u) o9) = bstA A i nk) → nk - t < n → W p l e ({ frames := 5, cells := 112, slots := 304, locals := 124 } : Room) s m ([.ref (ad 0), .int (nI i)]).toArray below meth c H1 locs1 (7 * v9) (19 * v9) (MQ below (va_Ql (fun r f1 => (op_best A B (nI i)).1 = r ∧ ∃ K1 G1, co cA ad K1 G1 f1 ∧ rp ad K1 G1 (op_best A B (nI i)).2.1 (op_best A B (nI i)).2.2 (N + 1) f1) (hE D f sz) (hA f sz)) ([.ref (ad 0), .int (nI i)]).toArray s 112 304 (hA f sz)) (F0 m 40 ls1 []) := by
            intro n
            induction n with
            | zero => intros; omega
            | succ n ih40 =>
              intro t o9 lo9 v9 f9 H locs ls hw hc hl ht9 hun hle9 hbO hbz hv9 htot hmu
              have hS := hr9.2.2.1.up (kp_le hle9) (fun _ _ => rfl) (fun _ _ => rfl)
              have hT := hr9.2.2.2.1.up (kp_le hle9) rfl
              refine lv_iload hx hb dX11_best_40 (lv_at hl 6 rfl) ?_
              refine lv_iload_n hx hb dX11_best_42 rfl (lv_at hl 2 rfl) ?_
              refine n_cge C (by omega) (by omega) (tgt := 97) dX11_best_43 (by decide) (fun cq12 => ?_) (fun cq12 => ?_)
              · refine n_iinc C (lv' := [(6, _), (0, _), (1, _), (2, _), (3, _), (4, _), (7, _)]) dX11_best_97 hl (k := 5) rfl (by decide) rfl (fun ls hl => ?_)
                refine lv_goto (tgt := 31) hx hb dX11_best_100 (by decide) ?_
                exact ih31 (u + 1) o9 lo9 v9 f9 _ _ _ hw hc (lv_sub hl [1, 2, 3, 4, 5, 0] rfl) (by omega) hle9 hbO hbz (by omega) (by rw [r_n (show nk ≤ t by omega), List.foldl_nil] at htot; exact htot) (by omega)
              · refine lv_aload_n hx hb dX11_best_46 rfl (lv_at hl 0 rfl) ?_
                refine lv_iload_n hx hb dX11_best_47 rfl (lv_at hl 1 rfl) ?_
                refine lv_iload hx hb dX11_best_48 (lv_at hl 5 rfl) ?_
                refine lv_iload hx hb dX11_best_50 (lv_at hl 6 rfl) ?_
                refine h_callq hw (h_runV (n := 3) (As := [.int (nI i), .int (nI u), .int (nI t)]) (rest := []) C hw (c_X11_rank (A := A) hc hS hT hi (by omega) (by omega) hn h8 hso hst hwy) gX11_best_X11_rank rfl rfl rfl (by decide +kernel) ⟨by decide, by decide⟩ bX11 (co.a0 hc) rfl hl.1 rfl (Nat.le_of_ble_eq_true rfl) dX11_best_52 ⟨by first | decide | omega | (dsimp only; omega), by first | decide | omega | (dsimp only; omega)⟩) (fun r13 f14 H locs hp hw => ?_)
                obtain ⟨le15, hrk16⟩ := hp
                have le17 := hle.tr hle9 le15
                have hc := hc.mono le15
                have hS := hS.up (kp_le le15) (fun _ _ => rfl) (fun _ _ => rfl)
                have hT := hT.up (kp_le le15) rfl
                have hbO := hbO.up (kp_le le15)
                refine lv_astoreQ (lv' := [(8, _), (0, _), (1, _), (2, _), (3, _), (4, _), (6, _), (7, _)]) hx hb dX11_best_55 hl (by decide) rfl (fun ls hl => ?_)
                refine lv_aloadQ hx hb dX11_best_57 (lv_at hl 0 rfl) ?_
                refine n_ifnull C (tgt := 91) dX11_best_59 (by decide) (fun cq19 => ?_) (fun x18 cq19 => ?_)
                · subst cq19
                  have hcd : ¬ cdA A i u t := fun h9 => by obtain ⟨x8, h7, -⟩ := (show rkO A _ none i u t from hrk16).2 h9; cases h7
                  refine n_iinc C (lv' := [(7, _), (8, _), (0, _), (1, _), (2, _), (3, _), (4, _), (6, _)]) dX11_best_91 hl (k := 7) rfl (by decide) rfl (fun ls hl => ?_)
                  refine lv_goto (tgt := 40) hx hb dX11_best_94 (by decide) ?_
                  exact ih40 (t + 1) o9 lo9 (v9 + 1) f14 _ _ _ hw hc (lv_sub hl [2, 3, 4, 5, 6, 7, 0] rfl) (by omega) hun le17 hbO hbz (by omega) (by rw [r_c (show t < nk by omega), List.foldl_cons, bs_1 hcd] at htot; exact htot) (by omega)
                · subst cq19
                  have hcd : cdA A i u t := Decidable.not_not.mp (fun h9 => by have := (show rkO A _ (some x18) i u t from hrk16).1 h9; cases this)
                  obtain ⟨x8, hx8, hrx⟩ := hrk16.2 hcd
                  cases hx8
                  refine lv_aload_nQ hx hb dX11_best_62 rfl (lv_at hl 4 rfl) ?_
                  refine n_ifnull C (tgt := 75) dX11_best_63 (by decide) (fun cq21 => ?_) (fun x20 cq21 => ?_)
                  · subst cq21
                    refine lv_aload hx hb dX11_best_75 (lv_at hl 0 rfl) ?_
                    refine lv_astore_n (lv' := [(3, _), (8, _), (0, _), (1, _), (2, _), (4, _), (6, _), (7, _)]) hx hb dX11_best_77 rfl hl (by decide) rfl (fun ls hl => ?_)
                    refine lv_ldc2 hx hb C.1.2.2.2.1 (C.1.2.2.2.2 _ lk4) dX11_best_78 ?_
                    refine lv_iload hx hb dX11_best_81 (lv_at hl 6 rfl) ?_
                    refine n_i2l C (by omega) dX11_best_83 ?_
                    refine lv_lmul hx hb dX11_best_84 ?_
                    refine lv_iload hx hb dX11_best_85 (lv_at hl 7 rfl) ?_
                    refine n_i2l C (by omega) dX11_best_87 ?_
                    refine lv_ladd hx hb dX11_best_88 ?_
                    refine W.eq (g2 := F0 m 89 ls [.long (bsL (some (u, t)))]) (by rw [show (10 : Int64) * lN u + lN t = bsL (some (u, t)) from (by rw [show (10 : Int64) = lN 10 from rfl, lN_mul, lN_add]; rfl)]) ?_
                    refine lv_lstore (lv' := [(4, _), (3, _), (8, _), (0, _), (1, _), (2, _), (6, _), (7, _)]) hx hb dX11_best_89 hl (by decide) rfl (fun ls hl => ?_)
                    refine n_iinc C (lv' := [(7, _), (4, _), (3, _), (8, _), (0, _), (1, _), (2, _), (6, _)]) dX11_best_91 hl (k := 7) rfl (by decide) rfl (fun ls hl => ?_)
                    refine lv_goto (tgt := 40) hx hb dX11_best_94 (by decide) ?_
                    exact ih40 (t + 1) (some (u, t)) (some x18) (v9 + 1) f14 _ _ _ hw hc (lv_sub hl [4, 5, 6, 2, 1, 7, 0] rfl) (by omega) hun le17 ⟨fun h9 => (by cases h9), fun z9 hz9 => (by cases hz9; exact ⟨_, rfl, hrx⟩)⟩ (fun z9 hz9 => (by cases hz9; exact ⟨by omega, by omega, hcd.2.2.1⟩)) (by omega) (by rw [r_c (show t < nk by omega), List.foldl_cons, hbO.no, bs_2 hcd] at htot; exact htot) (by omega)
                  · subst cq21
                    obtain ⟨z, hoz⟩ := hbO.so
                    obtain ⟨x7, hx7, hlx⟩ := hbO.2 z hoz
                    cases hx7
                    have hlz := ls_z hwy hi hn (show u < nk by omega) (show t < nk by omega) hcd (hbz z hoz)
                    refine lv_aload hx hb dX11_best_66 (lv_at hl 0 rfl) ?_
                    refine lv_aload_n hx hb dX11_best_68 rfl (lv_at hl 4 rfl) ?_
                    refine h_calli hw (h_runV (n := 1) (As := [.ref x20]) (rest := []) C hw (c_X0_isLess hrx hlx) gX11_best_X0_isLess rfl rfl rfl (by decide +kernel) ⟨by decide, by decide⟩ bX0 hrx rfl hl.1 rfl (Nat.le_of_ble_eq_true rfl) dX11_best_69 ⟨by first | decide | omega | (dsimp only; omega), by first | decide | omega | (dsimp only; omega)⟩) (fun r22 f23 H locs hp hw => ?_)
                    obtain ⟨rfl, rfl⟩ := hp
                    refine n_ifeqB C (tgt := 91) dX11_best_72 (by decide) (fun cq24 => ?_) (fun cq24 => ?_)
                    · refine n_iinc C (lv' := [(7, _), (8, _), (0, _), (1, _), (2, _), (3, _), (4, _), (6, _)]) dX11_best_91 hl (k := 7) rfl (by decide) rfl (fun ls hl => ?_)
                      refine lv_goto (tgt := 40) hx hb dX11_best_94 (by decide) ?_
                      exact ih40 (t + 1) o9 (some x20) (v9 + 1) f14 _ _ _ hw hc (lv_sub hl [2, 3, 4, 5, 6, 7, 0] rfl) (by omega) hun le17 hbO hbz (by omega) (by rw [r_c (show t < nk by omega), List.foldl_cons, hoz, bs_4 hcd (fun h9 => cq24 (hlz.mpr h9)), ← hoz] at htot; exact htot) (by omega)
                    · refine lv_aload hx hb dX11_best_75 (lv_at hl 0 rfl) ?_
                      refine lv_astore_n (lv' := [(3, _), (8, _), (0, _), (1, _), (2, _), (4, _), (6, _), (7, _)]) hx hb dX11_best_77 rfl hl (by decide) rfl (fun ls hl => ?_)
                      refine lv_ldc2 hx hb C.1.2.2.2.1 (C.1.2.2.2.2 _ lk4) dX11_best_78 ?_
                      refine lv_iload hx hb dX11_best_81 (lv_at hl 6 rfl) ?_
                      refine n_i2l C (by omega) dX11_best_83 ?_
                      refine lv_lmul hx hb dX11_best_84 ?_
                      refine lv_iload hx hb dX11_best_85 (lv_at hl 7 rfl) ?_
                      refine n_i2l C (by omega) dX11_best_87 ?_
                      refine lv_ladd hx hb dX11_best_88 ?_
                      refine W.eq (g2 := F0 m 89 ls [.long (bsL (some (u, t)))]) (by rw [show (10 : Int64) * lN u + lN t = bsL (some (u, t)) from (by rw [show (10 : Int64) = lN 10 from rfl, lN_mul, lN_add]; rfl)]) ?_
                      refine lv_lstore (lv' := [(4, _), (3, _), (8, _), (0, _), (1, _), (2, _), (6, _), (7, _)]) hx hb dX11_best_89 hl (by decide) rfl (fun ls hl => ?_)
                      refine n_iinc C (lv' := [(7, _), (4, _), (3, _), (8, _), (0, _), (1, _), (2, _), (6, _)]) dX11_best_91 hl (k := 7) rfl (by decide) rfl (fun ls hl => ?_)
                      refine lv_goto (tgt := 40) hx hb dX11_best_94 (by decide) ?_
                      exact ih40 (t + 1) (some (u, t)) (some x18) (v9 + 1) f14 _ _ _ hw hc (lv_sub hl [4, 5, 6, 2, 1, 7, 0] rfl) (by omega) hun le17 ⟨fun h9 => (by cases h9), fun z9 hz9 => (by cases hz9; exact ⟨_, rfl, hrx⟩)⟩ (fun z9 hz9 => (by cases hz9; exact ⟨by omega, by omega, hcd.2.2.1⟩)) (by omega) (by rw [r_c (show t < nk by omega), List.foldl_cons, hoz, bs_3 hcd (hlz.mp cq24)] at htot; exact htot) (by omega)
          exact lp40 _ 0 o9 lo9 v9 f9 _ _ _ hw hc (lv_sub hl [1, 2, 3, 4, 5, 6, 0] rfl) (by omega) (by omega) hle9 hbO hbz (by omega) (by rw [r_c (show u < nk by omega), List.foldl_cons] at htot; exact htot) (Nat.lt_succ_self _)
    exact lp31 _ 0 none none 0 f _ _ _ hw hc (lv_sub hl [4, 5, 3, 2, 1, 0] rfl) (by omega) (hle.rf f) ⟨fun _ => rfl, fun z hz => (by cases hz)⟩ (fun z hz => (by cases hz)) (by omega) rfl (Nat.lt_succ_self _)
  · refine lv_aload_n hx hb dX11_best_7 rfl (lv_at hl 0 rfl) ?_
    refine lv_iconst (v := nI 1) hx hb dX11_best_8 (by decide) ?_
    refine h_calll hw (h_runV (n := 1) (As := [.int (nI 1)]) (rest := []) C hw (c_X11_finding hc (by omega)) gX11_best_X11_finding rfl rfl rfl (by decide +kernel) ⟨by decide, by decide⟩ bX11 (co.a0 hc) rfl hl.1 rfl (Nat.le_of_ble_eq_true rfl) dX11_best_9 ⟨by first | decide | omega | (dsimp only; omega), by first | decide | omega | (dsimp only; omega)⟩) (fun r25 f26 H locs hp hw => ?_)
    obtain ⟨rfl, K27, hc, eK28, kp29⟩ := hp
    refine W.widen (k := 112) (n := 304) (by first | decide | omega | (dsimp only; omega)) (by first | decide | omega | (dsimp only; omega)) ?_
    exact h_lret C hr hlk hw (cop (by simp only [op_best, if_neg cq3]) hc (rp_fnd hr9 eK28 (kp.tr (kp_le (hle.rf f)) kp29) (by decide) hN)) dX11_best_12
