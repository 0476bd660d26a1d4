/-! ===== the class: triangles, corner (laid by program) ===== -/
/-! the class's triangles beside the reference's -/
def shT (o : Nat) (t : T3) : T3 := ((o + t.1.1, t.1.2), (o + t.2.1.1, t.2.1.2), (o + t.2.2.1, t.2.2.2))
theorem sw1_sh (o : Nat) (t : T3) : sw1 (shT o t) = shT o (sw1 t) := by
  by_cases h : t.2.1.2 < t.1.2
  · rw [sw1_t (t := shT o t) h, sw1_t h]; rfl
  · rw [sw1_f (t := shT o t) h, sw1_f h]
theorem sw2_sh (o : Nat) (t : T3) : sw2 (shT o t) = shT o (sw2 t) := by
  by_cases h : t.2.2.2 < t.2.1.2
  · rw [sw2_t (t := shT o t) h, sw2_t h]; rfl
  · rw [sw2_f (t := shT o t) h, sw2_f h]
def ptR (A : MA) (o lm : Nat) (gx gy : Nat → Int32) : Prop := o + lm ≤ 22 ∧ (∀ z, z < lm → gx z = A 2 (o + z) ∧ gy z = A 3 (o + z)) ∧ (∀ j, j < 22 → ib 199 (A 2 j)) ∧ ∀ j, j < 22 → ib 199 (A 3 j)
section TR
variable {A : MA} {o lm : Nat} {gx gy : Nat → Int32}
theorem ib_dif {u v : Int32} (hu : ib 199 u) (hv : ib 199 v) : (u - v).toInt64 = u.toInt64 - v.toInt64 := by
  have h3 := (ib_sub (by decide) hu hv).2
  unfold ib at hu hv
  apply (c_int64 _ _).mpr
  rw [Int32.toInt_toInt64, h3, Int64.toInt_sub, Int32.toInt_toInt64, Int32.toInt_toInt64, fb_bmodL (by omega) (by omega)]
theorem ptR.x (h : ptR A o lm gx gy) {i j : Nat} (hi : i < lm) (hj : j < lm) : (A 2 (o + i) - A 2 (o + j)).toInt64 = (gx i).toInt64 - (gx j).toInt64 := by
  rw [(h.2.1 i hi).1, (h.2.1 j hj).1]
  have := h.1
  exact ib_dif (h.2.2.1 _ (by omega)) (h.2.2.1 _ (by omega))
theorem ptR.y (h : ptR A o lm gx gy) {i j : Nat} (hi : i < lm) (hj : j < lm) : (A 3 (o + i) - A 3 (o + j)).toInt64 = (gy i).toInt64 - (gy j).toInt64 := by
  rw [(h.2.1 i hi).2, (h.2.1 j hj).2]
  have := h.1
  exact ib_dif (h.2.2.2 _ (by omega)) (h.2.2.2 _ (by omega))
theorem ptR.sq (h : ptR A o lm gx gy) {i j : Nat} (hi : i < lm) (hj : j < lm) : sqA A (o + i) (o + j) = sqC gx gy i j := by
  have e1 : (gx j - gx i).toInt64 = (gx j).toInt64 - (gx i).toInt64 := by rw [(h.2.1 i hi).1, (h.2.1 j hj).1]; have := h.1; exact ib_dif (h.2.2.1 _ (by omega)) (h.2.2.1 _ (by omega))
  have e2 : (gy j - gy i).toInt64 = (gy j).toInt64 - (gy i).toInt64 := by rw [(h.2.1 i hi).2, (h.2.1 j hj).2]; have := h.1; exact ib_dif (h.2.2.2 _ (by omega)) (h.2.2.2 _ (by omega))
  unfold sqA sqC
  rw [h.x hi hj, h.y hi hj, e1, e2]
  generalize (gx i).toInt64 = a
  generalize (gx j).toInt64 = b
  generalize (gy i).toInt64 = c
  generalize (gy j).toInt64 = d
  grind
theorem ptR.cr (h : ptR A o lm gx gy) {i j k : Nat} (hi : i < lm) (hj : j < lm) (hk : k < lm) : crA A (o + i) (o + j) (o + k) = spC gx gy i j k := by
  unfold crA spC sfC
  rw [h.x hj hi, h.y hk hi, h.y hj hi, h.x hk hi]
theorem ptR.tri (h : ptR A o lm gx gy) {i j k : Nat} (hi : i < lm) (hj : j < lm) (hk : k < lm) : triT A (o + i) (o + j) (o + k) = shT o (tC0 gx gy i j k) := by
  unfold triT tC0 tS
  rw [← sw1_sh, ← sw2_sh, ← sw1_sh, h.sq hj hk, h.sq hi hk, h.sq hi hj]
  rfl
def spT (gx gy : Nat → Int32) (t : T3) : Int64 := spC gx gy t.1.1 t.2.1.1 t.2.2.1
theorem sp_12 (i j k : Nat) : spC gx gy j i k = -spC gx gy i j k := by
  unfold spC sfC
  generalize (gx i).toInt64 = a
  generalize (gx j).toInt64 = b
  generalize (gx k).toInt64 = c
  generalize (gy i).toInt64 = d
  generalize (gy j).toInt64 = e
  generalize (gy k).toInt64 = f
  grind
theorem sp_23 (i j k : Nat) : spC gx gy i k j = -spC gx gy i j k := by
  unfold spC sfC
  generalize (gx i).toInt64 = a
  generalize (gx j).toInt64 = b
  generalize (gx k).toInt64 = c
  generalize (gy i).toInt64 = d
  generalize (gy j).toInt64 = e
  generalize (gy k).toInt64 = f
  grind
theorem l_neg00 {a : Int64} : -a = 0 ↔ a = 0 := ⟨fun h => Decidable.not_not.mp (fun h2 => l_neg0 h2 h), fun h => by rw [h]; rfl⟩
theorem sp_s1 (t : T3) : spT gx gy (sw1 t) = 0 ↔ spT gx gy t = 0 := by
  by_cases h : t.2.1.2 < t.1.2
  · rw [sw1_t h]; unfold spT; rw [sp_12, l_neg00]
  · rw [sw1_f h]
theorem sp_s2 (t : T3) : spT gx gy (sw2 t) = 0 ↔ spT gx gy t = 0 := by
  by_cases h : t.2.2.2 < t.2.1.2
  · rw [sw2_t h]; unfold spT; rw [sp_23, l_neg00]
  · rw [sw2_f h]
def dis (t : T3) : Prop := ¬ t.1.2 = t.2.1.2 ∧ ¬ t.1.2 = t.2.2.2 ∧ ¬ t.2.1.2 = t.2.2.2
theorem dis_1 (t : T3) : dis (sw1 t) ↔ dis t := by
  by_cases h : t.2.1.2 < t.1.2
  · rw [sw1_t h]; unfold dis; exact ⟨fun h => ⟨fun e => h.1 e.symm, h.2.2, h.2.1⟩, fun h => ⟨fun e => h.1 e.symm, h.2.2, h.2.1⟩⟩
  · rw [sw1_f h]
theorem dis_2 (t : T3) : dis (sw2 t) ↔ dis t := by
  by_cases h : t.2.2.2 < t.2.1.2
  · rw [sw2_t h]; unfold dis; exact ⟨fun h => ⟨h.2.1, h.1, fun e => h.2.2 e.symm⟩, fun h => ⟨h.2.1, h.1, fun e => h.2.2 e.symm⟩⟩
  · rw [sw2_f h]
theorem srt (t : T3) : (tS t).1.2 ≤ (tS t).2.1.2 ∧ (tS t).2.1.2 ≤ (tS t).2.2.2 := by
  have g : ∀ a b : Int64, ¬ b < a → a ≤ b := fun a b h => Int64.not_lt.mp h
  unfold tS sw1 sw2
  by_cases h1 : t.2.1.2 < t.1.2
  · rw [if_pos h1]
    by_cases h2 : t.2.2.2 < t.1.2
    · rw [if_pos h2]
      by_cases h3 : t.2.2.2 < t.2.1.2
      · rw [if_pos h3]; exact ⟨Int64.le_of_lt h3, Int64.le_of_lt h1⟩
      · rw [if_neg h3]; exact ⟨g _ _ h3, Int64.le_of_lt h2⟩
    · rw [if_neg h2]
      by_cases h3 : t.1.2 < t.2.1.2
      · exact absurd (Int64.lt_trans h3 h1) Int64.lt_irrefl
      · rw [if_neg h3]; exact ⟨g _ _ h3, g _ _ h2⟩
  · rw [if_neg h1]
    by_cases h2 : t.2.2.2 < t.2.1.2
    · rw [if_pos h2]
      by_cases h3 : t.2.2.2 < t.1.2
      · rw [if_pos h3]; exact ⟨Int64.le_of_lt h3, g _ _ h1⟩
      · rw [if_neg h3]; exact ⟨g _ _ h3, Int64.le_of_lt h2⟩
    · rw [if_neg h2, if_neg h1]; exact ⟨g _ _ h1, g _ _ h2⟩
theorem srt_d {t : T3} (h : t.1.2 ≤ t.2.1.2 ∧ t.2.1.2 ≤ t.2.2.2) : dis t ↔ (¬ t.1.2 = t.2.1.2 ∧ ¬ t.2.1.2 = t.2.2.2) := by
  refine ⟨fun g => ⟨g.1, g.2.2⟩, fun g => ⟨g.1, fun e => ?_, g.2⟩⟩
  rw [Int64.le_iff_toInt_le, Int64.le_iff_toInt_le] at h
  have e2 := congrArg Int64.toInt e
  exact g.1 ((c_int64 _ _).mpr (by omega))
theorem gd_gen {t0 : T3} : gdC gx gy (tS t0) ↔ (¬ spT gx gy t0 = 0 ∧ dis t0) := by
  have h1 : spT gx gy (tS t0) = 0 ↔ spT gx gy t0 = 0 := by unfold tS; rw [sp_s1, sp_s2, sp_s1]
  have h2 : dis (tS t0) ↔ dis t0 := by unfold tS; rw [dis_1, dis_2, dis_1]
  have h3 := srt_d (srt t0)
  generalize tS t0 = T at *
  exact and_congr (not_congr h1) (h3.symm.trans h2)
theorem tS_all {P : Nat → Prop} {t0 : T3} (h : all3 P t0) : all3 P (tS t0) := all3_1 (all3_2 (all3_1 h))
theorem ptR.tg (h : ptR A o lm gx gy) {i j k : Nat} (hi : i < lm) (hj : j < lm) (hk : k < lm) : gdC gx gy (tC0 gx gy i j k) ↔ tgA A (o + i) (o + j) (o + k) := by
  have h1 := gd_gen (gx := gx) (gy := gy) (t0 := ((i, sqC gx gy j k), (j, sqC gx gy i k), (k, sqC gx gy i j)))
  unfold tC0 tgA
  rw [h1]
  rw [h.cr hi hj hk, h.sq hj hk, h.sq hi hk, h.sq hi hj]
  generalize sqC gx gy j k = a
  generalize sqC gx gy i k = b
  generalize sqC gx gy i j = c
  exact Iff.rfl
theorem ptR.in3 {i j k : Nat} (hi : i < lm) (hj : j < lm) (hk : k < lm) : (tC0 gx gy i j k).1.1 < lm ∧ (tC0 gx gy i j k).2.1.1 < lm ∧ (tC0 gx gy i j k).2.2.1 < lm := by
  have h := tS_all (P := fun z => z < lm) (t0 := ((i, sqC gx gy j k), (j, sqC gx gy i k), (k, sqC gx gy i j))) ⟨hi, hj, hk⟩
  unfold tC0
  generalize tS ((i, sqC gx gy j k), (j, sqC gx gy i k), (k, sqC gx gy i j)) = T at *
  exact h
theorem ptR.tn (h : ptR A o lm gx gy) {i j k : Nat} (hi : i < lm) (hj : j < lm) (hk : k < lm) : tnA A (triT A (o + i) (o + j) (o + k)) = tnC gx gy (tC0 gx gy i j k) := by
  rw [h.tri hi hj hk]
  obtain ⟨c1, c2, c3⟩ := ptR.in3 (gx := gx) (gy := gy) hi hj hk
  unfold tnA tnC shT
  simp only []
  rw [h.cr c1 c2 c3]
theorem ptR.re (h : ptR A o lm gx gy) {i j k : Nat} (hi : i < lm) (hj : j < lm) (hk : k < lm) : rel A o (triT A (o + i) (o + j) (o + k)) = (((tC0 gx gy i j k).1.1, (tC0 gx gy i j k).2.1.1, (tC0 gx gy i j k).2.2.1), ((tC0 gx gy i j k).1.2, (tC0 gx gy i j k).2.1.2, (tC0 gx gy i j k).2.2.2), tnC gx gy (tC0 gx gy i j k)) := by
  unfold rel
  rw [h.tn hi hj hk, h.tri hi hj hk]
  unfold shT
  simp only [Nat.add_sub_cancel_left]
end TR
theorem pts.st {K : KK} {A : MA} (h : pts K A) (hpx : ∀ j, j < 22 → ib 199 (A 2 j)) (hpy : ∀ j, j < 22 → ib 199 (A 3 j)) : ptR A 10 12 (K 12) (K 13) := ⟨by decide, h.2.2.1, hpx, hpy⟩
theorem pts.sp {K : KK} {A : MA} (h : pts K A) (hpx : ∀ j, j < 22 → ib 199 (A 2 j)) (hpy : ∀ j, j < 22 → ib 199 (A 3 j)) : ptR A 0 10 (K 14) (K 15) := ⟨by decide, fun z hz => by rw [Nat.zero_add]; exact h.2.2.2 z hz, hpx, hpy⟩
theorem tl_c {t : T3} {o u : Nat} {tn : Int32} (hu : u < 3) (ho : o ≤ 10) (h : t.1.1 < 12 ∧ t.2.1.1 < 12 ∧ t.2.2.1 < 12) : tlF (nI t.1.1) (nI t.2.1.1) (nI t.2.2.1) tn (nI u) = nI (cT (shT o t) u) - nI o := by
  have h3 : u = 0 ∨ u = 1 ∨ u = 2 := by omega
  unfold tlF cT shT
  rcases h3 with rfl | rfl | rfl
  · rw [if_pos (by decide), if_pos rfl]
    show nI t.1.1 = nI (o + t.1.1) - nI o
    rw [pk_sub (by omega), Nat.add_sub_cancel_left]
  · rw [if_neg (by decide), if_pos rfl, if_neg (by decide), if_pos rfl]
    show nI t.2.1.1 = nI (o + t.2.1.1) - nI o
    rw [pk_sub (by omega), Nat.add_sub_cancel_left]
  · rw [if_neg (by decide), if_neg (by decide), if_pos rfl, if_neg (by decide), if_neg (by decide)]
    show nI t.2.2.1 = nI (o + t.2.2.1) - nI o
    rw [pk_sub (by omega), Nat.add_sub_cancel_left]
theorem tl_3 {i1 i2 i3 tn : Int32} : tlF i1 i2 i3 tn (nI 3) = tn := by
  unfold tlF
  rw [if_neg (by decide), if_neg (by decide), if_neg (by decide)]
/-- what a triangle's change leaves -/
def kq (f f1 : HF) : Prop := (∀ a i fs, (i = 6 ∨ i = 10) → f a = some (eO i fs) → f1 a = some (eO i fs)) ∧ ∀ a, t8 f a → t8 f1 a
theorem kp.kq {f f1 : HF} (k : kp f f1) : kq f f1 := ⟨fun a i fs hi h => k a i fs (by omega) h, fun a h => h.up k⟩
theorem kq.tr {f g h : HF} (h1 : kq f g) (h2 : kq g h) : kq f h := ⟨fun a i fs hi h3 => h2.1 a i fs hi (h1.1 a i fs hi h3), fun a h3 => h2.2 a (h1.2 a h3)⟩
theorem kq_w {f f1 : HF} {a : Nat} {v0 v1 v2 v3 v4 v5 v6 v7 : Value} {fs : List Value} (h : f a = some (eO 8 fs)) (e : f1 = va_up f a (some (eO 8 [v0, v1, v2, v3, v4, v5, v6, v7]))) : kq f f1 := ⟨fun b i fs hi hb => up_o e (ne_kd hb h (by show i ≠ 8; omega)) hb, fun b hb => by
  by_cases eb : b = a
  · subst eb; exact ⟨_, _, _, _, _, _, _, _, up_s e⟩
  · obtain ⟨w0, w1, w2, w3, w4, w5, w6, w7, hw⟩ := hb
    exact ⟨_, _, _, _, _, _, _, _, up_o e eb hw⟩⟩
theorem crO.q {f f1 : HF} {r : Option Nat} {w : Nat → Int64} (h : crO f r w) (k : kq f f1) : crO f1 r w := ⟨fun h1 => by
  obtain ⟨y, hy, h3⟩ := h.1 h1
  exact ⟨y, hy, k.1 _ _ _ (by omega) h3⟩, h.2⟩
theorem sgO.q {A : MA} {f f1 : HF} {b t : Nat} (h : sgO A f b t) (k : kq f f1) : sgO A f1 b t := by
  obtain ⟨bg, en, md, pl, h1, h2, h3, h4, h5, h6⟩ := h
  refine ⟨bg, en, md, pl, k.1 _ _ _ (by omega) h1, k.1 _ _ _ (by omega) h2, k.1 _ _ _ (by omega) h3, fun h7 => ?_, h5, h6.q k⟩
  obtain ⟨m1, h8, h9⟩ := h4 h7
  exact ⟨m1, h8, k.1 _ _ _ (by omega) h9⟩
theorem sgs.q {K K1 : KK} {G G1 : GG} {A : MA} {f f1 : HF} (h : sgs K G A f) (k : kq f f1) (hK : ∀ i, i < 6 → K1 (28 + i) = K (28 + i)) (hG : ∀ i, i < 6 → G1 (34 + i) = G (34 + i)) : sgs K1 G1 A f1 := fun i hi => by
  obtain ⟨n, h1, h2, h3, h4⟩ := h i hi
  refine ⟨n, h1, h2, by rw [hK i hi]; exact h3, fun j hj => ?_⟩
  obtain ⟨b, h5, h6⟩ := h4 j hj
  exact ⟨b, by rw [hG i hi]; exact h5, h6.q k⟩
theorem sts.q {G G1 : GG} {A : MA} {f f1 : HF} (h : sts G A f) (k : kq f f1) (hG : G1 7 = G 7) : sts G1 A f1 := fun s hs => by
  obtain ⟨w, h1, h2⟩ := h s hs
  exact ⟨w, by rw [hG]; exact h1, k.1 _ _ _ (by omega) h2⟩
theorem tri.q {ad : Nat → Nat} {G G1 : GG} {f f1 : HF} (h : tri ad G f) (k : kq f f1) (h1 : G1 21 = G 21) (h2 : G1 22 = G 22) : tri ad G1 f1 := by
  unfold tri
  rw [h1, h2]
  exact ⟨k.2 _ h.1, ⟨fun j a hj e => k.2 _ (h.2.1.1 j a hj e), h.2.1.2⟩, ⟨fun j a hj e => k.2 _ (h.2.2.1.1 j a hj e), h.2.2.1.2⟩, h.2.2.2⟩
theorem rp_q {ad : Nat → Nat} {K : KK} {G : GG} {A : MA} {B : MB} {N : Nat} {f f1 : HF} (h : rp ad K G A B N f) (k : kq f f1) : rp ad K G A B N f1 := ⟨h.1, h.2.1, h.2.2.1.q k (fun _ _ => rfl) (fun _ _ => rfl), h.2.2.2.1.q k rfl, h.2.2.2.2.1, h.2.2.2.2.2.1, h.2.2.2.2.2.2.1, h.2.2.2.2.2.2.2.1, h.2.2.2.2.2.2.2.2.1.q k rfl rfl, h.2.2.2.2.2.2.2.2.2⟩
set_option maxHeartbeats 4000000 in
set_option maxRecDepth 100000 in
theorem c_X11_corner {l : Launch} {D : va_G} {cA : Nat → ClassId} {f : HF} {sz : Nat} {ad : Nat → Nat} {K : KK} {G : GG} {A : MA} {B : MB} {N : Nat} {ns nt : Nat} {a b d k w : Int32}  (hc : co cA ad K G f) (hr9 : rp ad K G A B N f) (hN : N < 2 ^ 20) (hns : A 0 0 = nI ns) (hnt : A 1 0 = nI nt) (hns2 : ns ≤ 10) (hnt2 : nt ≤ 12) : Met l yX11_corner wsX11_corner ({ frames := 3, cells := 0, slots := 0, locals := 78 } : Room) (va_Pc [.ref (ad 0), .int a, .int b, .int d, .int k, .int w] (hB D cA f sz)) (va_Ql (fun r f1 => (op_corner A B ns nt a b d k w).1 = r ∧ ∃ K1 G1, co cA ad K1 G1 f1 ∧ rp ad K1 G1 (op_corner A B ns nt a b d k w).2.1 (op_corner A B ns nt a b d k w).2.2 (N + 1) f1) (hE D f sz) (hA f sz)) 0 0 (hA f sz) := by
  refine h_of (cc := cX11_corner) (maxL := 7) (ret := (some .long)) (by decide +kernel) rfl (Nat.le_of_ble_eq_true rfl) ?_
  intro p e s m below meth c ls C hr hlk hnm hw hl
  have hx := C.1.1
  have hb := C.1.2.1
  have hl : lv_has ls 7 [(0, .ref (ad 0)), (1, .int a), (2, .int b), (3, .int d), (4, .int k), (5, .int w)] := hl
  have lk0 : Cond.fieldLink RX11 33 "FallingLight" "asked" "LFallingLight$Triangle;" ∈ wsX11_corner := by decide +kernel
  have lk1 : ∀ w ∈ u_ws RX11 TX11 11, w ∈ wsX11_corner := by decide +kernel
  have lk2 : Cond.fieldLink RX11 139 "FallingLight$Triangle" "good" "Z" ∈ wsX11_corner := by decide +kernel
  have lk3 : ∀ w ∈ u_ws RX8 TX8 8, w ∈ wsX11_corner := by decide +kernel
  obtain ⟨hI, hF, hS, hT, hP, hRw, hTp, hWd, hTr, hMt⟩ := id hr9
  obtain ⟨-, -, -, hrs, hso, hwy, hst, hdr, hpx, hpy⟩ := id hI
  obtain ⟨⟨v0, v1, v2, v3, v4, v5, v6, v7, h4⟩, -⟩ := id hTr
  refine lv_aload_n hx hb dX11_corner_0 rfl (lv_at hl 0 rfl) ?_
  refine lv_iload hx hb dX11_corner_1 (lv_at hl 5 rfl) ?_
  by_cases hw0 : w = 0
  · refine h_callq hw (h_runV (n := 1) (As := [.int w]) (rest := []) C hw (c_X11_pointsOf hc) gX11_corner_X11_pointsOf rfl rfl rfl (by decide +kernel) ⟨by decide, by decide⟩ bX11 (co.a0 hc) rfl hl.1 rfl (Nat.le_of_ble_eq_true rfl) dX11_corner_3 ⟨by first | decide | omega, by first | decide | omega⟩) (fun r1 f2 H locs hp hw => ?_)
    obtain ⟨hy9, hz9, rfl⟩ := hp
    have e3 := hy9 hw0
    subst e3
    refine lv_astore (lv' := [(6, _), (0, _), (1, _), (2, _), (3, _), (4, _), (5, _)]) hx hb dX11_corner_6 hl (by decide) rfl (fun ls hl => ?_)
    refine lv_aload hx hb dX11_corner_8 (lv_at hl 0 rfl) ?_
    refine lv_iload_n hx hb dX11_corner_10 rfl (lv_at hl 2 rfl) ?_
    refine h_calli hw (h_runV (n := 1) (As := [.int a]) (rest := []) C hw (c_X4_has ((co.a2 hc).trans (by rw [(hP.2.1.trans hns)])) (by omega)) gX11_corner_X4_has rfl rfl rfl (by decide +kernel) ⟨by decide, by decide⟩ bX4 (co.a2 hc) rfl hl.1 rfl (Nat.le_of_ble_eq_true rfl) dX11_corner_11 ⟨by first | decide | omega, by first | decide | omega⟩) (fun r4 f5 H locs hp hw => ?_)
    obtain ⟨rfl, rfl⟩ := hp
    refine n_ifeqB C (tgt := 35) dX11_corner_14 (by decide) (fun cq6 => ?_) (fun cq6 => ?_)
    · refine lv_aload_n hx hb dX11_corner_35 rfl (lv_at hl 1 rfl) ?_
      refine lv_iconst (v := nI 1) hx hb dX11_corner_36 (by decide) ?_
      refine h_calll hw (h_runV (n := 1) (As := [.int (nI 1)]) (rest := []) C hw (c_X11_finding hc (by omega)) gX11_corner_X11_finding rfl rfl rfl (by decide +kernel) ⟨by decide, by decide⟩ bX11 (co.a0 hc) rfl hl.1 rfl (Nat.le_of_ble_eq_true rfl) dX11_corner_37 ⟨by first | decide | omega, by first | decide | omega⟩) (fun r7 f8 H locs hp hw => ?_)
      obtain ⟨rfl, K9, hc, eK10, kp11⟩ := hp
      exact h_lret C hr hlk hw (cop (by simp only [op_corner, if_pos hw0, cn2, if_neg cq6]) hc (rp_fnd hr9 eK10 (kp.tr (kp_le (hle.rf f)) kp11) (by decide) hN)) dX11_corner_40
    · obtain ⟨i, hi, rfl⟩ := in1N (by omega) cq6
      refine lv_aload hx hb dX11_corner_17 (lv_at hl 0 rfl) ?_
      refine lv_iload_n hx hb dX11_corner_19 rfl (lv_at hl 3 rfl) ?_
      refine h_calli hw (h_runV (n := 1) (As := [.int b]) (rest := []) C hw (c_X4_has ((co.a2 hc).trans (by rw [(hP.2.1.trans hns)])) (by omega)) gX11_corner_X4_has rfl rfl rfl (by decide +kernel) ⟨by decide, by decide⟩ bX4 (co.a2 hc) rfl hl.1 rfl (Nat.le_of_ble_eq_true rfl) dX11_corner_20 ⟨by first | decide | omega, by first | decide | omega⟩) (fun r12 f13 H locs hp hw => ?_)
      obtain ⟨rfl, rfl⟩ := hp
      refine n_ifeqB C (tgt := 35) dX11_corner_23 (by decide) (fun cq14 => ?_) (fun cq14 => ?_)
      · refine lv_aload_n hx hb dX11_corner_35 rfl (lv_at hl 1 rfl) ?_
        refine lv_iconst (v := nI 1) hx hb dX11_corner_36 (by decide) ?_
        refine h_calll hw (h_runV (n := 1) (As := [.int (nI 1)]) (rest := []) C hw (c_X11_finding hc (by omega)) gX11_corner_X11_finding rfl rfl rfl (by decide +kernel) ⟨by decide, by decide⟩ bX11 (co.a0 hc) rfl hl.1 rfl (Nat.le_of_ble_eq_true rfl) dX11_corner_37 ⟨by first | decide | omega, by first | decide | omega⟩) (fun r15 f16 H locs hp hw => ?_)
        obtain ⟨rfl, K17, hc, eK18, kp19⟩ := hp
        exact h_lret C hr hlk hw (cop (by simp only [op_corner, if_pos hw0, cn2, if_pos cq6, if_neg cq14]) hc (rp_fnd hr9 eK18 (kp.tr (kp_le (hle.rf f)) kp19) (by decide) hN)) dX11_corner_40
      · obtain ⟨j, hj, rfl⟩ := in1N (by omega) cq14
        refine lv_aload hx hb dX11_corner_26 (lv_at hl 0 rfl) ?_
        refine lv_iload_n hx hb dX11_corner_28 rfl (lv_at hl 4 rfl) ?_
        refine h_calli hw (h_runV (n := 1) (As := [.int d]) (rest := []) C hw (c_X4_has ((co.a2 hc).trans (by rw [(hP.2.1.trans hns)])) (by omega)) gX11_corner_X4_has rfl rfl rfl (by decide +kernel) ⟨by decide, by decide⟩ bX4 (co.a2 hc) rfl hl.1 rfl (Nat.le_of_ble_eq_true rfl) dX11_corner_29 ⟨by first | decide | omega, by first | decide | omega⟩) (fun r20 f21 H locs hp hw => ?_)
        obtain ⟨rfl, rfl⟩ := hp
        refine n_ifneB C (tgt := 41) dX11_corner_32 (by decide) (fun cq22 => ?_) (fun cq22 => ?_)
        · obtain ⟨h, hh, rfl⟩ := in1N (by omega) cq22
          refine lv_iload_n hx hb dX11_corner_41 rfl (lv_at hl 2 rfl) ?_
          refine lv_iload_n hx hb dX11_corner_42 rfl (lv_at hl 3 rfl) ?_
          refine n_ceq C (by omega) (by omega) (tgt := 67) dX11_corner_43 (by decide) (fun cq23 => ?_) (fun cq23 => ?_)
          · refine lv_aload_n hx hb dX11_corner_67 rfl (lv_at hl 1 rfl) ?_
            refine lv_iconst (v := nI 1) hx hb dX11_corner_68 (by decide) ?_
            refine h_calll hw (h_runV (n := 1) (As := [.int (nI 1)]) (rest := []) C hw (c_X11_finding hc (by omega)) gX11_corner_X11_finding rfl rfl rfl (by decide +kernel) ⟨by decide, by decide⟩ bX11 (co.a0 hc) rfl hl.1 rfl (Nat.le_of_ble_eq_true rfl) dX11_corner_69 ⟨by first | decide | omega, by first | decide | omega⟩) (fun r24 f25 H locs hp hw => ?_)
            obtain ⟨rfl, K26, hc, eK27, kp28⟩ := hp
            exact h_lret C hr hlk hw (cop (by simp only [op_corner, if_pos hw0, cn2, if_pos cq6, if_pos cq14, if_pos cq22, nI_clamp (show i < 2 ^ 31 by omega), nI_clamp (show j < 2 ^ 31 by omega), nI_clamp (show h < 2 ^ 31 by omega), if_pos cq23]) hc (rp_fnd hr9 eK27 (kp.tr (kp_le (hle.rf f)) kp28) (by decide) hN)) dX11_corner_72
          · refine lv_iload_n hx hb dX11_corner_46 rfl (lv_at hl 3 rfl) ?_
            refine lv_iload_n hx hb dX11_corner_47 rfl (lv_at hl 4 rfl) ?_
            refine n_ceq C (by omega) (by omega) (tgt := 67) dX11_corner_48 (by decide) (fun cq29 => ?_) (fun cq29 => ?_)
            · refine lv_aload_n hx hb dX11_corner_67 rfl (lv_at hl 1 rfl) ?_
              refine lv_iconst (v := nI 1) hx hb dX11_corner_68 (by decide) ?_
              refine h_calll hw (h_runV (n := 1) (As := [.int (nI 1)]) (rest := []) C hw (c_X11_finding hc (by omega)) gX11_corner_X11_finding rfl rfl rfl (by decide +kernel) ⟨by decide, by decide⟩ bX11 (co.a0 hc) rfl hl.1 rfl (Nat.le_of_ble_eq_true rfl) dX11_corner_69 ⟨by first | decide | omega, by first | decide | omega⟩) (fun r30 f31 H locs hp hw => ?_)
              obtain ⟨rfl, K32, hc, eK33, kp34⟩ := hp
              exact h_lret C hr hlk hw (cop (by simp only [op_corner, if_pos hw0, cn2, if_pos cq6, if_pos cq14, if_pos cq22, nI_clamp (show i < 2 ^ 31 by omega), nI_clamp (show j < 2 ^ 31 by omega), nI_clamp (show h < 2 ^ 31 by omega), if_neg cq23, if_pos cq29, ite_self]) hc (rp_fnd hr9 eK33 (kp.tr (kp_le (hle.rf f)) kp34) (by decide) hN)) dX11_corner_72
            · refine lv_iload_n hx hb dX11_corner_51 rfl (lv_at hl 2 rfl) ?_
              refine lv_iload_n hx hb dX11_corner_52 rfl (lv_at hl 4 rfl) ?_
              refine n_ceq C (by omega) (by omega) (tgt := 67) dX11_corner_53 (by decide) (fun cq35 => ?_) (fun cq35 => ?_)
              · refine lv_aload_n hx hb dX11_corner_67 rfl (lv_at hl 1 rfl) ?_
                refine lv_iconst (v := nI 1) hx hb dX11_corner_68 (by decide) ?_
                refine h_calll hw (h_runV (n := 1) (As := [.int (nI 1)]) (rest := []) C hw (c_X11_finding hc (by omega)) gX11_corner_X11_finding rfl rfl rfl (by decide +kernel) ⟨by decide, by decide⟩ bX11 (co.a0 hc) rfl hl.1 rfl (Nat.le_of_ble_eq_true rfl) dX11_corner_69 ⟨by first | decide | omega, by first | decide | omega⟩) (fun r36 f37 H locs hp hw => ?_)
                obtain ⟨rfl, K38, hc, eK39, kp40⟩ := hp
                exact h_lret C hr hlk hw (cop (by simp only [op_corner, if_pos hw0, cn2, if_pos cq6, if_pos cq14, if_pos cq22, nI_clamp (show i < 2 ^ 31 by omega), nI_clamp (show j < 2 ^ 31 by omega), nI_clamp (show h < 2 ^ 31 by omega), if_neg cq23, if_pos cq35]) hc (rp_fnd hr9 eK39 (kp.tr (kp_le (hle.rf f)) kp40) (by decide) hN)) dX11_corner_72
              · refine lv_iload hx hb dX11_corner_56 (lv_at hl 5 rfl) ?_
                refine lv_if_lt (tgt := 67) hx hb dX11_corner_58 (by decide) (fun cq41 => ?_) (fun cq41 => ?_)
                · refine lv_aload_n hx hb dX11_corner_67 rfl (lv_at hl 1 rfl) ?_
                  refine lv_iconst (v := nI 1) hx hb dX11_corner_68 (by decide) ?_
                  refine h_calll hw (h_runV (n := 1) (As := [.int (nI 1)]) (rest := []) C hw (c_X11_finding hc (by omega)) gX11_corner_X11_finding rfl rfl rfl (by decide +kernel) ⟨by decide, by decide⟩ bX11 (co.a0 hc) rfl hl.1 rfl (Nat.le_of_ble_eq_true rfl) dX11_corner_69 ⟨by first | decide | omega, by first | decide | omega⟩) (fun r42 f43 H locs hp hw => ?_)
                  obtain ⟨rfl, K44, hc, eK45, kp46⟩ := hp
                  exact h_lret C hr hlk hw (cop (by simp only [op_corner, if_pos hw0, cn2, if_pos cq6, if_pos cq14, if_pos cq22, nI_clamp (show i < 2 ^ 31 by omega), nI_clamp (show j < 2 ^ 31 by omega), nI_clamp (show h < 2 ^ 31 by omega), if_neg cq23, if_neg cq35, if_neg cq29, if_neg (rg_lo cq41)]) hc (rp_fnd hr9 eK45 (kp.tr (kp_le (hle.rf f)) kp46) (by decide) hN)) dX11_corner_72
                · refine lv_iload hx hb dX11_corner_61 (lv_at hl 5 rfl) ?_
                  refine lv_iconst (v := nI 3) hx hb dX11_corner_63 (by decide) ?_
                  refine lv_icmp_le (tgt := 73) hx hb dX11_corner_64 (by decide) (fun cq47 => ?_) (fun cq47 => ?_)
                  · have hrgk := rg_of cq41 cq47
                    obtain ⟨u, hu, rfl⟩ := inN (by decide) hrgk
                    refine lv_aload_n hx hb dX11_corner_73 rfl (lv_at hl 1 rfl) ?_
                    refine h_get C hw bX11 (co.a0 hc) lk1 3 (by decide) lk0 (v := .ref (ad 4)) rfl dX11_corner_74 ?_
                    refine lv_aload hx hb dX11_corner_77 (lv_at hl 0 rfl) ?_
                    refine lv_iload_n hx hb dX11_corner_79 rfl (lv_at hl 2 rfl) ?_
                    refine lv_iload_n hx hb dX11_corner_80 rfl (lv_at hl 3 rfl) ?_
                    refine lv_iload_n hx hb dX11_corner_81 rfl (lv_at hl 4 rfl) ?_
                    refine h_callv hw (h_runV (n := 4) (As := [.ref (ad 2), .int (nI i), .int (nI j), .int (nI h)]) (rest := []) C hw (c_X8_measure h4 ((co.a2 hc).trans (by rw [(hP.2.1.trans hns)])) (co.a14 hc) (co.a15 hc) (by omega) (by omega) (by omega) (by omega)) gX11_corner_X8_measure rfl rfl rfl (by decide +kernel) ⟨by decide, by decide⟩ bX8 h4 rfl hl.1 rfl (Nat.le_of_ble_eq_true rfl) dX11_corner_82 ⟨by first | decide | omega, by first | decide | omega⟩) (fun  f48 H locs hp hw => ?_)
                    have e49 := hp
                    generalize hT50 : tC0 (K 14) (K 15) i j h = T50 at e49
                    have k51 : f48 (ad 4) = some (eO 8 [.int (bI (gdC (K 14) (K 15) T50)), .int (nI T50.1.1), .int (nI T50.2.1.1), .int (nI T50.2.2.1), .long T50.1.2, .long T50.2.1.2, .long T50.2.2.2, .int (tnC (K 14) (K 15) T50)]) := up_s e49
                    have hc := hc.wr8 (by omega) h4 e49
                    have kq9 := kq_w h4 e49
                    refine lv_aload_n hx hb dX11_corner_85 rfl (lv_at hl 1 rfl) ?_
                    refine h_get C hw bX11 (co.a0 hc) lk1 3 (by decide) lk0 (v := .ref (ad 4)) rfl dX11_corner_86 ?_
                    refine h_get C hw bX8 k51 lk3 0 (by decide) lk2 (v := .int (bI (gdC (K 14) (K 15) T50))) rfl dX11_corner_89 ?_
                    refine n_ifneB C (tgt := 101) dX11_corner_92 (by decide) (fun cq52 => ?_) (fun cq52 => ?_)
                    · have hpr := hP.sp hpx hpy
                      have htg := (hpr.tg (show i < _ by omega) (show j < _ by omega) (show h < _ by omega)).mp (by rw [hT50]; exact cq52)
                      have hin3 := ptR.in3 (gx := (K 14)) (gy := (K 15)) (lm := 10) (show i < _ by omega) (show j < _ by omega) (show h < _ by omega)
                      rw [hT50] at hin3
                      have hval : (if u = 3 then ((tnA A (triT A (0 + i) (0 + j) (0 + h))).toInt64, A, B) else ((nI (cT (triT A (0 + i) (0 + j) (0 + h)) u) - nI 0).toInt64, A, B)) = ((tlF (nI T50.1.1) (nI T50.2.1.1) (nI T50.2.2.1) (tnC (K 14) (K 15) T50) (nI u)).toInt64, A, B) := by
                        rw [hpr.tn (show i < _ by omega) (show j < _ by omega) (show h < _ by omega), hpr.tri (show i < _ by omega) (show j < _ by omega) (show h < _ by omega), hT50]
                        by_cases hu3 : u = 3
                        · subst hu3; rw [if_pos rfl, tl_3]
                        · rw [if_neg hu3, tl_c (o := 0) (by omega) (by decide) ⟨by omega, by omega, by omega⟩]
                      refine lv_aload_n hx hb dX11_corner_101 rfl (lv_at hl 1 rfl) ?_
                      refine h_get C hw bX11 (co.a0 hc) lk1 3 (by decide) lk0 (v := .ref (ad 4)) rfl dX11_corner_102 ?_
                      refine lv_iload hx hb dX11_corner_105 (lv_at hl 5 rfl) ?_
                      refine h_calli hw (h_runV (n := 1) (As := [.int (nI u)]) (rest := []) C hw (c_X8_told k51) gX11_corner_X8_told rfl rfl rfl (by decide +kernel) ⟨by decide, by decide⟩ bX8 k51 rfl hl.1 rfl (Nat.le_of_ble_eq_true rfl) dX11_corner_107 ⟨by first | decide | omega, by first | decide | omega⟩) (fun r53 f54 H locs hp hw => ?_)
                      obtain ⟨rfl, rfl⟩ := hp
                      refine lv_i2l hx hb dX11_corner_110 rfl ?_
                      exact h_lret C hr hlk hw (cop (by simp only [op_corner, if_pos hw0, cn2, if_pos cq6, if_pos cq14, if_pos cq22, nI_clamp (show i < 2 ^ 31 by omega), nI_clamp (show j < 2 ^ 31 by omega), nI_clamp (show h < 2 ^ 31 by omega), if_neg cq23, if_neg cq35, if_neg cq29, if_pos hrgk, nI_clamp (show u < 2 ^ 31 by omega), cn3, if_pos htg]; exact hval) hc (rp_le (rp_q hr9 kq9) (kp.rf _))) dX11_corner_111
                    · have hpr := hP.sp hpx hpy
                      have htg : ¬ tgA A (0 + i) (0 + j) (0 + h) := fun h9 => cq52 (by rw [← hT50]; exact (hpr.tg (show i < _ by omega) (show j < _ by omega) (show h < _ by omega)).mpr h9)
                      refine lv_aload_n hx hb dX11_corner_95 rfl (lv_at hl 1 rfl) ?_
                      refine lv_iconst (v := nI 2) hx hb dX11_corner_96 (by decide) ?_
                      refine h_calll hw (h_runV (n := 1) (As := [.int (nI 2)]) (rest := []) C hw (c_X11_finding hc (by omega)) gX11_corner_X11_finding rfl rfl rfl (by decide +kernel) ⟨by decide, by decide⟩ bX11 (co.a0 hc) rfl hl.1 rfl (Nat.le_of_ble_eq_true rfl) dX11_corner_97 ⟨by first | decide | omega, by first | decide | omega⟩) (fun r55 f56 H locs hp hw => ?_)
                      obtain ⟨rfl, K57, hc, eK58, kp59⟩ := hp
                      exact h_lret C hr hlk hw (cop (by simp only [op_corner, if_pos hw0, cn2, if_pos cq6, if_pos cq14, if_pos cq22, nI_clamp (show i < 2 ^ 31 by omega), nI_clamp (show j < 2 ^ 31 by omega), nI_clamp (show h < 2 ^ 31 by omega), if_neg cq23, if_neg cq35, if_neg cq29, if_pos hrgk, nI_clamp (show u < 2 ^ 31 by omega), cn3, if_neg htg]) hc (rp_fnd (rp_q hr9 kq9) eK58 (kp.tr (kp.rf _) kp59) (by decide) hN)) dX11_corner_100
                  · refine lv_aload_n hx hb dX11_corner_67 rfl (lv_at hl 1 rfl) ?_
                    refine lv_iconst (v := nI 1) hx hb dX11_corner_68 (by decide) ?_
                    refine h_calll hw (h_runV (n := 1) (As := [.int (nI 1)]) (rest := []) C hw (c_X11_finding hc (by omega)) gX11_corner_X11_finding rfl rfl rfl (by decide +kernel) ⟨by decide, by decide⟩ bX11 (co.a0 hc) rfl hl.1 rfl (Nat.le_of_ble_eq_true rfl) dX11_corner_69 ⟨by first | decide | omega, by first | decide | omega⟩) (fun r60 f61 H locs hp hw => ?_)
                    obtain ⟨rfl, K62, hc, eK63, kp64⟩ := hp
                    exact h_lret C hr hlk hw (cop (by simp only [op_corner, if_pos hw0, cn2, if_pos cq6, if_pos cq14, if_pos cq22, nI_clamp (show i < 2 ^ 31 by omega), nI_clamp (show j < 2 ^ 31 by omega), nI_clamp (show h < 2 ^ 31 by omega), if_neg cq23, if_neg cq35, if_neg cq29, if_neg (rg_hi cq47)]) hc (rp_fnd hr9 eK63 (kp.tr (kp_le (hle.rf f)) kp64) (by decide) hN)) dX11_corner_72
        · refine lv_aload_n hx hb dX11_corner_35 rfl (lv_at hl 1 rfl) ?_
          refine lv_iconst (v := nI 1) hx hb dX11_corner_36 (by decide) ?_
          refine h_calll hw (h_runV (n := 1) (As := [.int (nI 1)]) (rest := []) C hw (c_X11_finding hc (by omega)) gX11_corner_X11_finding rfl rfl rfl (by decide +kernel) ⟨by decide, by decide⟩ bX11 (co.a0 hc) rfl hl.1 rfl (Nat.le_of_ble_eq_true rfl) dX11_corner_37 ⟨by first | decide | omega, by first | decide | omega⟩) (fun r65 f66 H locs hp hw => ?_)
          obtain ⟨rfl, K67, hc, eK68, kp69⟩ := hp
          exact h_lret C hr hlk hw (cop (by simp only [op_corner, if_pos hw0, cn2, if_pos cq6, if_pos cq14, if_neg cq22]) hc (rp_fnd hr9 eK68 (kp.tr (kp_le (hle.rf f)) kp69) (by decide) hN)) dX11_corner_40
  · refine h_callq hw (h_runV (n := 1) (As := [.int w]) (rest := []) C hw (c_X11_pointsOf hc) gX11_corner_X11_pointsOf rfl rfl rfl (by decide +kernel) ⟨by decide, by decide⟩ bX11 (co.a0 hc) rfl hl.1 rfl (Nat.le_of_ble_eq_true rfl) dX11_corner_3 ⟨by first | decide | omega, by first | decide | omega⟩) (fun r70 f71 H locs hp hw => ?_)
    obtain ⟨hy9, hz9, rfl⟩ := hp
    have e72 := hz9 hw0
    subst e72
    refine lv_astore (lv' := [(6, _), (0, _), (1, _), (2, _), (3, _), (4, _), (5, _)]) hx hb dX11_corner_6 hl (by decide) rfl (fun ls hl => ?_)
    refine lv_aload hx hb dX11_corner_8 (lv_at hl 0 rfl) ?_
    refine lv_iload_n hx hb dX11_corner_10 rfl (lv_at hl 2 rfl) ?_
    refine h_calli hw (h_runV (n := 1) (As := [.int a]) (rest := []) C hw (c_X4_has ((co.a1 hc).trans (by rw [(hP.1.trans hnt)])) (by omega)) gX11_corner_X4_has rfl rfl rfl (by decide +kernel) ⟨by decide, by decide⟩ bX4 (co.a1 hc) rfl hl.1 rfl (Nat.le_of_ble_eq_true rfl) dX11_corner_11 ⟨by first | decide | omega, by first | decide | omega⟩) (fun r73 f74 H locs hp hw => ?_)
    obtain ⟨rfl, rfl⟩ := hp
    refine n_ifeqB C (tgt := 35) dX11_corner_14 (by decide) (fun cq75 => ?_) (fun cq75 => ?_)
    · refine lv_aload_n hx hb dX11_corner_35 rfl (lv_at hl 1 rfl) ?_
      refine lv_iconst (v := nI 1) hx hb dX11_corner_36 (by decide) ?_
      refine h_calll hw (h_runV (n := 1) (As := [.int (nI 1)]) (rest := []) C hw (c_X11_finding hc (by omega)) gX11_corner_X11_finding rfl rfl rfl (by decide +kernel) ⟨by decide, by decide⟩ bX11 (co.a0 hc) rfl hl.1 rfl (Nat.le_of_ble_eq_true rfl) dX11_corner_37 ⟨by first | decide | omega, by first | decide | omega⟩) (fun r76 f77 H locs hp hw => ?_)
      obtain ⟨rfl, K78, hc, eK79, kp80⟩ := hp
      exact h_lret C hr hlk hw (cop (by simp only [op_corner, if_neg hw0, cn2, if_neg cq75]) hc (rp_fnd hr9 eK79 (kp.tr (kp_le (hle.rf f)) kp80) (by decide) hN)) dX11_corner_40
    · obtain ⟨i, hi, rfl⟩ := in1N (by omega) cq75
      refine lv_aload hx hb dX11_corner_17 (lv_at hl 0 rfl) ?_
      refine lv_iload_n hx hb dX11_corner_19 rfl (lv_at hl 3 rfl) ?_
      refine h_calli hw (h_runV (n := 1) (As := [.int b]) (rest := []) C hw (c_X4_has ((co.a1 hc).trans (by rw [(hP.1.trans hnt)])) (by omega)) gX11_corner_X4_has rfl rfl rfl (by decide +kernel) ⟨by decide, by decide⟩ bX4 (co.a1 hc) rfl hl.1 rfl (Nat.le_of_ble_eq_true rfl) dX11_corner_20 ⟨by first | decide | omega, by first | decide | omega⟩) (fun r81 f82 H locs hp hw => ?_)
      obtain ⟨rfl, rfl⟩ := hp
      refine n_ifeqB C (tgt := 35) dX11_corner_23 (by decide) (fun cq83 => ?_) (fun cq83 => ?_)
      · refine lv_aload_n hx hb dX11_corner_35 rfl (lv_at hl 1 rfl) ?_
        refine lv_iconst (v := nI 1) hx hb dX11_corner_36 (by decide) ?_
        refine h_calll hw (h_runV (n := 1) (As := [.int (nI 1)]) (rest := []) C hw (c_X11_finding hc (by omega)) gX11_corner_X11_finding rfl rfl rfl (by decide +kernel) ⟨by decide, by decide⟩ bX11 (co.a0 hc) rfl hl.1 rfl (Nat.le_of_ble_eq_true rfl) dX11_corner_37 ⟨by first | decide | omega, by first | decide | omega⟩) (fun r84 f85 H locs hp hw => ?_)
        obtain ⟨rfl, K86, hc, eK87, kp88⟩ := hp
        exact h_lret C hr hlk hw (cop (by simp only [op_corner, if_neg hw0, cn2, if_pos cq75, if_neg cq83]) hc (rp_fnd hr9 eK87 (kp.tr (kp_le (hle.rf f)) kp88) (by decide) hN)) dX11_corner_40
      · obtain ⟨j, hj, rfl⟩ := in1N (by omega) cq83
        refine lv_aload hx hb dX11_corner_26 (lv_at hl 0 rfl) ?_
        refine lv_iload_n hx hb dX11_corner_28 rfl (lv_at hl 4 rfl) ?_
        refine h_calli hw (h_runV (n := 1) (As := [.int d]) (rest := []) C hw (c_X4_has ((co.a1 hc).trans (by rw [(hP.1.trans hnt)])) (by omega)) gX11_corner_X4_has rfl rfl rfl (by decide +kernel) ⟨by decide, by decide⟩ bX4 (co.a1 hc) rfl hl.1 rfl (Nat.le_of_ble_eq_true rfl) dX11_corner_29 ⟨by first | decide | omega, by first | decide | omega⟩) (fun r89 f90 H locs hp hw => ?_)
        obtain ⟨rfl, rfl⟩ := hp
        refine n_ifneB C (tgt := 41) dX11_corner_32 (by decide) (fun cq91 => ?_) (fun cq91 => ?_)
        · obtain ⟨h, hh, rfl⟩ := in1N (by omega) cq91
          refine lv_iload_n hx hb dX11_corner_41 rfl (lv_at hl 2 rfl) ?_
          refine lv_iload_n hx hb dX11_corner_42 rfl (lv_at hl 3 rfl) ?_
          refine n_ceq C (by omega) (by omega) (tgt := 67) dX11_corner_43 (by decide) (fun cq92 => ?_) (fun cq92 => ?_)
          · refine lv_aload_n hx hb dX11_corner_67 rfl (lv_at hl 1 rfl) ?_
            refine lv_iconst (v := nI 1) hx hb dX11_corner_68 (by decide) ?_
            refine h_calll hw (h_runV (n := 1) (As := [.int (nI 1)]) (rest := []) C hw (c_X11_finding hc (by omega)) gX11_corner_X11_finding rfl rfl rfl (by decide +kernel) ⟨by decide, by decide⟩ bX11 (co.a0 hc) rfl hl.1 rfl (Nat.le_of_ble_eq_true rfl) dX11_corner_69 ⟨by first | decide | omega, by first | decide | omega⟩) (fun r93 f94 H locs hp hw => ?_)
            obtain ⟨rfl, K95, hc, eK96, kp97⟩ := hp
            exact h_lret C hr hlk hw (cop (by simp only [op_corner, if_neg hw0, cn2, if_pos cq75, if_pos cq83, if_pos cq91, nI_clamp (show i < 2 ^ 31 by omega), nI_clamp (show j < 2 ^ 31 by omega), nI_clamp (show h < 2 ^ 31 by omega), if_pos cq92]) hc (rp_fnd hr9 eK96 (kp.tr (kp_le (hle.rf f)) kp97) (by decide) hN)) dX11_corner_72
          · refine lv_iload_n hx hb dX11_corner_46 rfl (lv_at hl 3 rfl) ?_
            refine lv_iload_n hx hb dX11_corner_47 rfl (lv_at hl 4 rfl) ?_
            refine n_ceq C (by omega) (by omega) (tgt := 67) dX11_corner_48 (by decide) (fun cq98 => ?_) (fun cq98 => ?_)
            · refine lv_aload_n hx hb dX11_corner_67 rfl (lv_at hl 1 rfl) ?_
              refine lv_iconst (v := nI 1) hx hb dX11_corner_68 (by decide) ?_
              refine h_calll hw (h_runV (n := 1) (As := [.int (nI 1)]) (rest := []) C hw (c_X11_finding hc (by omega)) gX11_corner_X11_finding rfl rfl rfl (by decide +kernel) ⟨by decide, by decide⟩ bX11 (co.a0 hc) rfl hl.1 rfl (Nat.le_of_ble_eq_true rfl) dX11_corner_69 ⟨by first | decide | omega, by first | decide | omega⟩) (fun r99 f100 H locs hp hw => ?_)
              obtain ⟨rfl, K101, hc, eK102, kp103⟩ := hp
              exact h_lret C hr hlk hw (cop (by simp only [op_corner, if_neg hw0, cn2, if_pos cq75, if_pos cq83, if_pos cq91, nI_clamp (show i < 2 ^ 31 by omega), nI_clamp (show j < 2 ^ 31 by omega), nI_clamp (show h < 2 ^ 31 by omega), if_neg cq92, if_pos cq98, ite_self]) hc (rp_fnd hr9 eK102 (kp.tr (kp_le (hle.rf f)) kp103) (by decide) hN)) dX11_corner_72
            · refine lv_iload_n hx hb dX11_corner_51 rfl (lv_at hl 2 rfl) ?_
              refine lv_iload_n hx hb dX11_corner_52 rfl (lv_at hl 4 rfl) ?_
              refine n_ceq C (by omega) (by omega) (tgt := 67) dX11_corner_53 (by decide) (fun cq104 => ?_) (fun cq104 => ?_)
              · refine lv_aload_n hx hb dX11_corner_67 rfl (lv_at hl 1 rfl) ?_
                refine lv_iconst (v := nI 1) hx hb dX11_corner_68 (by decide) ?_
                refine h_calll hw (h_runV (n := 1) (As := [.int (nI 1)]) (rest := []) C hw (c_X11_finding hc (by omega)) gX11_corner_X11_finding rfl rfl rfl (by decide +kernel) ⟨by decide, by decide⟩ bX11 (co.a0 hc) rfl hl.1 rfl (Nat.le_of_ble_eq_true rfl) dX11_corner_69 ⟨by first | decide | omega, by first | decide | omega⟩) (fun r105 f106 H locs hp hw => ?_)
                obtain ⟨rfl, K107, hc, eK108, kp109⟩ := hp
                exact h_lret C hr hlk hw (cop (by simp only [op_corner, if_neg hw0, cn2, if_pos cq75, if_pos cq83, if_pos cq91, nI_clamp (show i < 2 ^ 31 by omega), nI_clamp (show j < 2 ^ 31 by omega), nI_clamp (show h < 2 ^ 31 by omega), if_neg cq92, if_pos cq104]) hc (rp_fnd hr9 eK108 (kp.tr (kp_le (hle.rf f)) kp109) (by decide) hN)) dX11_corner_72
              · refine lv_iload hx hb dX11_corner_56 (lv_at hl 5 rfl) ?_
                refine lv_if_lt (tgt := 67) hx hb dX11_corner_58 (by decide) (fun cq110 => ?_) (fun cq110 => ?_)
                · refine lv_aload_n hx hb dX11_corner_67 rfl (lv_at hl 1 rfl) ?_
                  refine lv_iconst (v := nI 1) hx hb dX11_corner_68 (by decide) ?_
                  refine h_calll hw (h_runV (n := 1) (As := [.int (nI 1)]) (rest := []) C hw (c_X11_finding hc (by omega)) gX11_corner_X11_finding rfl rfl rfl (by decide +kernel) ⟨by decide, by decide⟩ bX11 (co.a0 hc) rfl hl.1 rfl (Nat.le_of_ble_eq_true rfl) dX11_corner_69 ⟨by first | decide | omega, by first | decide | omega⟩) (fun r111 f112 H locs hp hw => ?_)
                  obtain ⟨rfl, K113, hc, eK114, kp115⟩ := hp
                  exact h_lret C hr hlk hw (cop (by simp only [op_corner, if_neg hw0, cn2, if_pos cq75, if_pos cq83, if_pos cq91, nI_clamp (show i < 2 ^ 31 by omega), nI_clamp (show j < 2 ^ 31 by omega), nI_clamp (show h < 2 ^ 31 by omega), if_neg cq92, if_neg cq104, if_neg cq98, if_neg (rg_lo cq110)]) hc (rp_fnd hr9 eK114 (kp.tr (kp_le (hle.rf f)) kp115) (by decide) hN)) dX11_corner_72
                · refine lv_iload hx hb dX11_corner_61 (lv_at hl 5 rfl) ?_
                  refine lv_iconst (v := nI 3) hx hb dX11_corner_63 (by decide) ?_
                  refine lv_icmp_le (tgt := 73) hx hb dX11_corner_64 (by decide) (fun cq116 => ?_) (fun cq116 => ?_)
                  · have hrgk := rg_of cq110 cq116
                    obtain ⟨u, hu, rfl⟩ := inN (by decide) hrgk
                    refine lv_aload_n hx hb dX11_corner_73 rfl (lv_at hl 1 rfl) ?_
                    refine h_get C hw bX11 (co.a0 hc) lk1 3 (by decide) lk0 (v := .ref (ad 4)) rfl dX11_corner_74 ?_
                    refine lv_aload hx hb dX11_corner_77 (lv_at hl 0 rfl) ?_
                    refine lv_iload_n hx hb dX11_corner_79 rfl (lv_at hl 2 rfl) ?_
                    refine lv_iload_n hx hb dX11_corner_80 rfl (lv_at hl 3 rfl) ?_
                    refine lv_iload_n hx hb dX11_corner_81 rfl (lv_at hl 4 rfl) ?_
                    refine h_callv hw (h_runV (n := 4) (As := [.ref (ad 1), .int (nI i), .int (nI j), .int (nI h)]) (rest := []) C hw (c_X8_measure h4 ((co.a1 hc).trans (by rw [(hP.1.trans hnt)])) (co.a12 hc) (co.a13 hc) (by omega) (by omega) (by omega) (by omega)) gX11_corner_X8_measure rfl rfl rfl (by decide +kernel) ⟨by decide, by decide⟩ bX8 h4 rfl hl.1 rfl (Nat.le_of_ble_eq_true rfl) dX11_corner_82 ⟨by first | decide | omega, by first | decide | omega⟩) (fun  f117 H locs hp hw => ?_)
                    have e118 := hp
                    generalize hT119 : tC0 (K 12) (K 13) i j h = T119 at e118
                    have k120 : f117 (ad 4) = some (eO 8 [.int (bI (gdC (K 12) (K 13) T119)), .int (nI T119.1.1), .int (nI T119.2.1.1), .int (nI T119.2.2.1), .long T119.1.2, .long T119.2.1.2, .long T119.2.2.2, .int (tnC (K 12) (K 13) T119)]) := up_s e118
                    have hc := hc.wr8 (by omega) h4 e118
                    have kq9 := kq_w h4 e118
                    refine lv_aload_n hx hb dX11_corner_85 rfl (lv_at hl 1 rfl) ?_
                    refine h_get C hw bX11 (co.a0 hc) lk1 3 (by decide) lk0 (v := .ref (ad 4)) rfl dX11_corner_86 ?_
                    refine h_get C hw bX8 k120 lk3 0 (by decide) lk2 (v := .int (bI (gdC (K 12) (K 13) T119))) rfl dX11_corner_89 ?_
                    refine n_ifneB C (tgt := 101) dX11_corner_92 (by decide) (fun cq121 => ?_) (fun cq121 => ?_)
                    · have hpr := hP.st hpx hpy
                      have htg := (hpr.tg (show i < _ by omega) (show j < _ by omega) (show h < _ by omega)).mp (by rw [hT119]; exact cq121)
                      have hin3 := ptR.in3 (gx := (K 12)) (gy := (K 13)) (lm := 12) (show i < _ by omega) (show j < _ by omega) (show h < _ by omega)
                      rw [hT119] at hin3
                      have hval : (if u = 3 then ((tnA A (triT A (10 + i) (10 + j) (10 + h))).toInt64, A, B) else ((nI (cT (triT A (10 + i) (10 + j) (10 + h)) u) - nI 10).toInt64, A, B)) = ((tlF (nI T119.1.1) (nI T119.2.1.1) (nI T119.2.2.1) (tnC (K 12) (K 13) T119) (nI u)).toInt64, A, B) := by
                        rw [hpr.tn (show i < _ by omega) (show j < _ by omega) (show h < _ by omega), hpr.tri (show i < _ by omega) (show j < _ by omega) (show h < _ by omega), hT119]
                        by_cases hu3 : u = 3
                        · subst hu3; rw [if_pos rfl, tl_3]
                        · rw [if_neg hu3, tl_c (o := 10) (by omega) (by decide) ⟨by omega, by omega, by omega⟩]
                      refine lv_aload_n hx hb dX11_corner_101 rfl (lv_at hl 1 rfl) ?_
                      refine h_get C hw bX11 (co.a0 hc) lk1 3 (by decide) lk0 (v := .ref (ad 4)) rfl dX11_corner_102 ?_
                      refine lv_iload hx hb dX11_corner_105 (lv_at hl 5 rfl) ?_
                      refine h_calli hw (h_runV (n := 1) (As := [.int (nI u)]) (rest := []) C hw (c_X8_told k120) gX11_corner_X8_told rfl rfl rfl (by decide +kernel) ⟨by decide, by decide⟩ bX8 k120 rfl hl.1 rfl (Nat.le_of_ble_eq_true rfl) dX11_corner_107 ⟨by first | decide | omega, by first | decide | omega⟩) (fun r122 f123 H locs hp hw => ?_)
                      obtain ⟨rfl, rfl⟩ := hp
                      refine lv_i2l hx hb dX11_corner_110 rfl ?_
                      exact h_lret C hr hlk hw (cop (by simp only [op_corner, if_neg hw0, cn2, if_pos cq75, if_pos cq83, if_pos cq91, nI_clamp (show i < 2 ^ 31 by omega), nI_clamp (show j < 2 ^ 31 by omega), nI_clamp (show h < 2 ^ 31 by omega), if_neg cq92, if_neg cq104, if_neg cq98, if_pos hrgk, nI_clamp (show u < 2 ^ 31 by omega), cn3, if_pos htg]; exact hval) hc (rp_le (rp_q hr9 kq9) (kp.rf _))) dX11_corner_111
                    · have hpr := hP.st hpx hpy
                      have htg : ¬ tgA A (10 + i) (10 + j) (10 + h) := fun h9 => cq121 (by rw [← hT119]; exact (hpr.tg (show i < _ by omega) (show j < _ by omega) (show h < _ by omega)).mpr h9)
                      refine lv_aload_n hx hb dX11_corner_95 rfl (lv_at hl 1 rfl) ?_
                      refine lv_iconst (v := nI 2) hx hb dX11_corner_96 (by decide) ?_
                      refine h_calll hw (h_runV (n := 1) (As := [.int (nI 2)]) (rest := []) C hw (c_X11_finding hc (by omega)) gX11_corner_X11_finding rfl rfl rfl (by decide +kernel) ⟨by decide, by decide⟩ bX11 (co.a0 hc) rfl hl.1 rfl (Nat.le_of_ble_eq_true rfl) dX11_corner_97 ⟨by first | decide | omega, by first | decide | omega⟩) (fun r124 f125 H locs hp hw => ?_)
                      obtain ⟨rfl, K126, hc, eK127, kp128⟩ := hp
                      exact h_lret C hr hlk hw (cop (by simp only [op_corner, if_neg hw0, cn2, if_pos cq75, if_pos cq83, if_pos cq91, nI_clamp (show i < 2 ^ 31 by omega), nI_clamp (show j < 2 ^ 31 by omega), nI_clamp (show h < 2 ^ 31 by omega), if_neg cq92, if_neg cq104, if_neg cq98, if_pos hrgk, nI_clamp (show u < 2 ^ 31 by omega), cn3, if_neg htg]) hc (rp_fnd (rp_q hr9 kq9) eK127 (kp.tr (kp.rf _) kp128) (by decide) hN)) dX11_corner_100
                  · refine lv_aload_n hx hb dX11_corner_67 rfl (lv_at hl 1 rfl) ?_
                    refine lv_iconst (v := nI 1) hx hb dX11_corner_68 (by decide) ?_
                    refine h_calll hw (h_runV (n := 1) (As := [.int (nI 1)]) (rest := []) C hw (c_X11_finding hc (by omega)) gX11_corner_X11_finding rfl rfl rfl (by decide +kernel) ⟨by decide, by decide⟩ bX11 (co.a0 hc) rfl hl.1 rfl (Nat.le_of_ble_eq_true rfl) dX11_corner_69 ⟨by first | decide | omega, by first | decide | omega⟩) (fun r129 f130 H locs hp hw => ?_)
                    obtain ⟨rfl, K131, hc, eK132, kp133⟩ := hp
                    exact h_lret C hr hlk hw (cop (by simp only [op_corner, if_neg hw0, cn2, if_pos cq75, if_pos cq83, if_pos cq91, nI_clamp (show i < 2 ^ 31 by omega), nI_clamp (show j < 2 ^ 31 by omega), nI_clamp (show h < 2 ^ 31 by omega), if_neg cq92, if_neg cq104, if_neg cq98, if_neg (rg_hi cq116)]) hc (rp_fnd hr9 eK132 (kp.tr (kp_le (hle.rf f)) kp133) (by decide) hN)) dX11_corner_72
        · refine lv_aload_n hx hb dX11_corner_35 rfl (lv_at hl 1 rfl) ?_
          refine lv_iconst (v := nI 1) hx hb dX11_corner_36 (by decide) ?_
          refine h_calll hw (h_runV (n := 1) (As := [.int (nI 1)]) (rest := []) C hw (c_X11_finding hc (by omega)) gX11_corner_X11_finding rfl rfl rfl (by decide +kernel) ⟨by decide, by decide⟩ bX11 (co.a0 hc) rfl hl.1 rfl (Nat.le_of_ble_eq_true rfl) dX11_corner_37 ⟨by first | decide | omega, by first | decide | omega⟩) (fun r134 f135 H locs hp hw => ?_)
          obtain ⟨rfl, K136, hc, eK137, kp138⟩ := hp
          exact h_lret C hr hlk hw (cop (by simp only [op_corner, if_neg hw0, cn2, if_pos cq75, if_pos cq83, if_neg cq91]) hc (rp_fnd hr9 eK137 (kp.tr (kp_le (hle.rf f)) kp138) (by decide) hN)) dX11_corner_40
