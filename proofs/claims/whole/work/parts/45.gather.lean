/-! ===== the class: triangles in rows (laid by program) ===== -/
/-! good triangles gathered into a row of objects -/
def tgV (t : GT) : List Value := [.int (nI 1), .int (nI t.1.1), .int (nI t.1.2.1), .int (nI t.1.2.2), .long t.2.1.1, .long t.2.1.2.1, .long t.2.1.2.2, .int t.2.2]
def trH (γ : Nat → Option Nat) (f : HF) (l : List GT) : Prop := ∀ k t, l[k]? = some t → ∃ a, γ k = some a ∧ f a = some (eO 8 (tgV t))
def kgO (cA : Nat → ClassId) (f f1 : HF) (a ra T : Nat) (γ : Nat → Option Nat) (s : Nat) (gx gy : Nat → Int32) (t : T3) : Prop := ∃ b, (γ s = some b ∨ (γ s = none ∧ f b = none)) ∧ f1 b = some (tE (.int (bI (gdC gx gy t))) t (.int (tnC gx gy t))) ∧ f1 ra = some (eQ cA 7 T (va_up γ s (some b))) ∧ f1 a = some (eO 9 [.ref ra, .int (nI (if gdC gx gy t then s + 1 else s))]) ∧ ∀ x e, f x = some e → x ≠ a → x ≠ ra → x ≠ b → f1 x = some e
def gaI (cA : Nat → ClassId) (f : HF) (a ra T : Nat) (γ : Nat → Option Nat) (f9 : HF) (γ9 : Nat → Option Nat) (lg : List GT) : Prop := f9 a = some (eO 9 [.ref ra, .int (nI lg.length)]) ∧ f9 ra = some (eQ cA 7 T γ9) ∧ trI T γ9 f9 ∧ trH γ9 f9 lg ∧ (∀ x e, f x = some e → x ≠ a → x ≠ ra → (∀ k, k < T → γ k ≠ some x) → f9 x = some e) ∧ (∀ k x, k < T → γ9 k = some x → γ k = some x ∨ f x = none) ∧ ∀ k x, k < T → γ k = some x → γ9 k = some x
def uB (n b : Nat) : Nat := ((List.range' b (n - b)).map (fun b1 => n - (b1 + 1))).sum
def uA (n a : Nat) : Nat := ((List.range' a (n - a)).map (fun a1 => uB n (a1 + 1))).sum
theorem uB_s {n b : Nat} (h : b < n) : uB n b = (n - (b + 1)) + uB n (b + 1) := by unfold uB; rw [r_c h, List.map_cons, List.sum_cons]
theorem uA_s {n a : Nat} (h : a < n) : uA n a = uB n (a + 1) + uA n (a + 1) := by unfold uA; rw [r_c h, List.map_cons, List.sum_cons]
theorem uA_10 : ∀ n, n < 11 → uA n 0 ≤ 120 := by decide +kernel
theorem uA_12 : ∀ n, n < 13 → uA n 0 ≤ 220 := by decide +kernel
theorem t8_of {f : HF} {a : Nat} {g tn : Value} {t : T3} (h : f a = some (tE g t tn)) : t8 f a := ⟨_, _, _, _, _, _, _, _, h⟩
theorem t8_kd {f : HF} {a : Nat} {e : va_E} (h : t8 f a) (he : f a = some e) : kd e = 8 := by
  obtain ⟨v0, v1, v2, v3, v4, v5, v6, v7, h⟩ := h
  rw [h] at he
  cases he
  rfl
theorem ga_0 {cA : Nat → ClassId} {f f1 : HF} {a ra T : Nat} {γ : Nat → Option Nat} {v : Value} (h0 : f a = some (eO 9 [.ref ra, v])) (h1 : f ra = some (eQ cA 7 T γ)) (ht : trI T γ f) (e : f1 = va_up f a (some (eO 9 [.ref ra, .int (nI 0)]))) : gaI cA f a ra T γ f1 γ [] := by
  have hra : ra ≠ a := ne_kd h1 h0 (Nat.ne_of_beq_eq_false rfl)
  have h8 : ∀ x, t8 f x → t8 f1 x := fun x hx => by
    obtain ⟨w0, w1, w2, w3, w4, w5, w6, w7, hw⟩ := hx
    exact ⟨_, _, _, _, _, _, _, _, up_o e (ne_kd hw h0 (Nat.ne_of_beq_eq_false rfl)) hw⟩
  exact ⟨up_s e, up_o e hra h1, ⟨fun k x hk hx => h8 x (ht.1 k x hk hx), ht.2⟩, fun k t hk => by simp at hk, fun x y hx n1 _ _ => up_o e n1 hx, fun k x _ hx => Or.inl hx, fun k x _ hx => hx⟩
theorem ga_fr {cA : Nat → ClassId} {f f9 : HF} {a ra T : Nat} {γ γ9 : Nat → Option Nat} {lg : List GT} {v : Value} (h : gaI cA f a ra T γ f9 γ9 lg) (h0 : f a = some (eO 9 [.ref ra, v])) (h1 : f ra = some (eQ cA 7 T γ)) (ht : trI T γ f) {x : Nat} {e : va_E} (hx : f x = some e) (hk : kd e ≠ 9 ∧ kd e ≠ 22 ∧ kd e ≠ 8) : f9 x = some e := h.2.2.2.2.1 x e hx (ne_kd hx h0 hk.1) (ne_kd hx h1 hk.2.1) (fun k hk1 hγ => hk.2.2 (t8_kd (ht.1 k x hk1 hγ) hx))
theorem ga_step {cA : Nat → ClassId} {f f9 f1 : HF} {a ra T i j k o lm : Nat} {γ γ9 : Nat → Option Nat} {lg : List GT} {gx gy : Nat → Int32} {A : MA} {v : Value} (h : gaI cA f a ra T γ f9 γ9 lg) (h0 : f a = some (eO 9 [.ref ra, v])) (h1 : f ra = some (eQ cA 7 T γ)) (ht : trI T γ f) (hl : lg.length < T) (hp : ptR A o lm gx gy) (hi : i < lm) (hj : j < lm) (hk : k < lm) (hs : kgO cA f9 f1 a ra T γ9 lg.length gx gy (tC0 gx gy i j k)) : ∃ γ1, gaI cA f a ra T γ f1 γ1 (lg ++ g1 A o i j k) := by
  obtain ⟨b, hb, hfb, hfr, hfa, hfm⟩ := hs
  obtain ⟨g1a, g2, g3, g4, g5, g6, g7⟩ := h
  have hrel := hp.re hi hj hk
  have htg := hp.tg hi hj hk
  generalize tC0 gx gy i j k = t at hfb hfr hfa hrel htg
  -- the object's place is in no other place of the row
  have hbn : ∀ m x, m < T → γ9 m = some x → m ≠ lg.length → x ≠ b := fun m x hm hx hne e => by
    subst e
    rcases hb with hb | ⟨hb, hb2⟩
    · exact hne (g3.2 m lg.length x hm hl hx hb)
    · obtain ⟨w0, w1, w2, w3, w4, w5, w6, w7, hw⟩ := g3.1 m x hm hx
      rw [hb2] at hw; cases hw
  have hb8 : ∀ e, f9 b = some e → kd e = 8 := fun e he => by
    rcases hb with hb | ⟨hb, hb2⟩
    · exact t8_kd (g3.1 _ _ hl hb) he
    · rw [hb2] at he; cases he
  have hba : b ≠ a := fun e => by have := hb8 _ (by rw [e]; exact g1a); cases this
  have hbr : b ≠ ra := fun e => by have := hb8 _ (by rw [e]; exact g2); cases this
  have ht8 : ∀ x, t8 f9 x → t8 f1 x := fun x hx => by
    by_cases e : x = b
    · subst e; exact t8_of hfb
    · obtain ⟨w0, w1, w2, w3, w4, w5, w6, w7, hw⟩ := hx
      exact ⟨_, _, _, _, _, _, _, _, hfm x _ hw (ne_kd hw g1a (Nat.ne_of_beq_eq_false rfl)) (ne_kd hw g2 (Nat.ne_of_beq_eq_false rfl)) e⟩
  have hlen : (lg ++ g1 A o i j k).length = if gdC gx gy t then lg.length + 1 else lg.length := by
    unfold g1
    by_cases hg : gdC gx gy t
    · rw [if_pos hg, if_pos (htg.mp hg), List.length_append]; rfl
    · rw [if_neg hg, if_neg (fun h9 => hg (htg.mpr h9)), List.append_nil]
  refine ⟨va_up γ9 lg.length (some b), by rw [hlen]; exact hfa, hfr, ⟨fun m x hm hx => ?_, fun m m2 x hm hm2 hx hx2 => ?_⟩, fun m z hz => ?_, fun x e hx n1 n2 n3 => ?_, fun m x hm hx => ?_, fun m x hm hx => ?_⟩
  · by_cases e : m = lg.length
    · subst e; rw [va_up_self] at hx; cases hx; exact t8_of hfb
    · rw [va_up_ne _ _ e] at hx; exact ht8 x (g3.1 m x hm hx)
  · by_cases e : m = lg.length
    · by_cases e2 : m2 = lg.length
      · rw [e, e2]
      · subst e
        rw [va_up_self] at hx
        rw [va_up_ne _ _ e2] at hx2
        cases hx
        exact absurd rfl (hbn m2 _ hm2 hx2 e2)
    · rw [va_up_ne _ _ e] at hx
      by_cases e2 : m2 = lg.length
      · subst e2
        rw [va_up_self] at hx2
        cases hx2
        exact absurd rfl (hbn m _ hm hx e)
      · rw [va_up_ne _ _ e2] at hx2
        exact g3.2 m m2 x hm hm2 hx hx2
  · rcases Nat.lt_or_ge m lg.length with hm | hm
    · rw [List.getElem?_append_left hm] at hz
      obtain ⟨x, q1, q2⟩ := g4 m z hz
      refine ⟨x, by rw [va_up_ne _ _ (by omega)]; exact q1, hfm x _ q2 (ne_kd q2 g1a (Nat.ne_of_beq_eq_false rfl)) (ne_kd q2 g2 (Nat.ne_of_beq_eq_false rfl)) (hbn m x (by omega) q1 (by omega))⟩
    · rw [List.getElem?_append_right hm] at hz
      unfold g1 at hz
      by_cases hg : gdC gx gy t
      · rw [if_pos (htg.mp hg)] at hz
        have hm2 : m = lg.length := by
          have := (List.getElem?_eq_some_iff.mp hz).1
          rw [List.length_singleton] at this
          omega
        subst hm2
        rw [Nat.sub_self] at hz
        cases hz
        refine ⟨b, by rw [va_up_self], ?_⟩
        rw [hrel, hfb, bI_t hg]
        rfl
      · rw [if_neg (fun h9 => hg (htg.mpr h9))] at hz
        simp at hz
  · have q := g5 x e hx n1 n2 n3
    refine hfm x e q n1 n2 (fun e2 => ?_)
    subst e2
    rcases hb with hb | ⟨hb, hb2⟩
    · rcases g6 _ _ hl hb with q2 | q2
      · exact n3 _ hl q2
      · rw [q2] at hx; cases hx
    · rw [hb2] at q; cases q
  · by_cases e : m = lg.length
    · subst e
      rw [va_up_self] at hx
      cases hx
      rcases hb with hb | ⟨hb, hb2⟩
      · exact g6 _ _ hl hb
      · right
        cases hfb2 : f b with
        | none => rfl
        | some e9 =>
          exfalso
          by_cases hin : ∃ q, q < T ∧ γ q = some b
          · obtain ⟨q, hq, hq2⟩ := hin
            obtain ⟨w0, w1, w2, w3, w4, w5, w6, w7, hw⟩ := g3.1 q b hq (g7 q b hq hq2)
            rw [hb2] at hw; cases hw
          · have := g5 b e9 hfb2 hba hbr (fun q hq hq2 => hin ⟨q, hq, hq2⟩)
            rw [hb2] at this; cases this
    · rw [va_up_ne _ _ e] at hx; exact g6 m x hm hx
  · by_cases e : m = lg.length
    · subst e
      have q := g7 _ x hm hx
      rw [va_up_self]
      rcases hb with hb | ⟨hb, hb2⟩
      · rw [q] at hb; exact hb.symm
      · rw [hb] at q; cases q
    · rw [va_up_ne _ _ e]; exact g7 m x hm hx
set_option maxHeartbeats 4000000 in
set_option maxRecDepth 100000 in
theorem c_X9_keepIfGood {l : Launch} {D : va_G} {cA : Nat → ClassId} {f : HF} {sz : Nat} {a ra pb xa ya T s1 lm n1 i j k : Nat} {γ : Nat → Option Nat} {gx gy : Nat → Int32}  (h0 : f a = some (eO 9 [.ref ra, .int (nI s1)])) (h1 : f ra = some (eQ cA 7 T γ)) (hp0 : f pb = some (eO 4 [.int (nI lm), .ref xa, .ref ya, .int (nI n1)])) (hx1 : f xa = some (eI cA lm gx)) (hy1 : f ya = some (eI cA lm gy)) (hlm : lm ≤ 12) (ht : trI T γ f) (hs : s1 < T) (hT : T ≤ 220) (hi : i < lm) (hj : j < lm) (hk : k < lm) : Met l yX9_keepIfGood wsX9_keepIfGood ({ frames := 3, cells := 1, slots := 8, locals := 78 } : Room) (va_Pc [.ref a, .ref pb, .int (nI i), .int (nI j), .int (nI k)] (hB D cA f sz)) (va_Qv (fun f1 => kgO cA f f1 a ra T γ s1 gx gy (tC0 gx gy i j k)) (hE D f sz) (hA f sz)) 1 8 (hA f sz) := by
  refine h_of (cc := cX9_keepIfGood) (maxL := 5) (ret := none) (by decide +kernel) rfl (Nat.le_of_ble_eq_true rfl) ?_
  intro p e s m below meth c ls C hr hlk hnm hw hl
  have hx := C.1.1
  have hb := C.1.2.1
  have hl : lv_has ls 5 [(0, .ref a), (1, .ref pb), (2, .int (nI i)), (3, .int (nI j)), (4, .int (nI k))] := hl
  have lk0 : Cond.fieldLink RX9 15 "FallingLight$Triangles" "row" "[LFallingLight$Triangle;" ∈ wsX9_keepIfGood := by decide +kernel
  have lk1 : ∀ w ∈ u_ws RX9 TX9 2, w ∈ wsX9_keepIfGood := by decide +kernel
  have lk2 : Cond.fieldLink RX9 21 "FallingLight$Triangles" "size" "I" ∈ wsX9_keepIfGood := by decide +kernel
  have lk3 : Cond.fieldLink RX9 36 "FallingLight$Triangle" "good" "Z" ∈ wsX9_keepIfGood := by decide +kernel
  have lk4 : ∀ w ∈ u_ws RX8 TX8 8, w ∈ wsX9_keepIfGood := by decide +kernel
  have lk5 : Cond.classLink RX9 13 RX8 ∈ wsX9_keepIfGood := by decide +kernel
  have lk6 : Cond.instantiable RX8 8 ∈ wsX9_keepIfGood := by decide +kernel
  have lk7 : Cond.initialized RX8 ∈ wsX9_keepIfGood := by decide +kernel
  have lk8 : Cond.methodLink RX9 32 yX8_init ∈ wsX9_keepIfGood := by decide +kernel
  have lk9 : Cond.instanceMethod yX8_init ∈ wsX9_keepIfGood := by decide +kernel
  generalize hgs : γ s1 = r0
  refine lv_aload_n hx hb dX9_keepIfGood_0 rfl (lv_at hl 0 rfl) ?_
  refine h_get C hw bX9 h0 lk1 0 (by decide) lk0 (v := .ref ra) rfl dX9_keepIfGood_1 ?_
  refine lv_aload_n hx hb dX9_keepIfGood_4 rfl (lv_at hl 0 rfl) ?_
  refine h_get C hw bX9 h0 lk1 1 (by decide) lk2 (v := .int (nI s1)) rfl dX9_keepIfGood_5 ?_
  refine h_aldO C hw 7 rfl h1 hgs (show s1 < T from (by omega)) (by first | omega | decide) dX9_keepIfGood_8 ?_
  refine n_ifnonnull C (tgt := 28) dX9_keepIfGood_9 (by decide) (fun x1 cq2 => ?_) (fun cq2 => ?_)
  · subst cq2
    obtain ⟨v0, v1, v2, v3, v4, v5, v6, v7, ht9⟩ := ht.1 s1 x1 hs hgs
    refine lv_aload_n hx hb dX9_keepIfGood_28 rfl (lv_at hl 0 rfl) ?_
    refine h_get C hw bX9 h0 lk1 0 (by decide) lk0 (v := .ref ra) rfl dX9_keepIfGood_29 ?_
    refine lv_aload_n hx hb dX9_keepIfGood_32 rfl (lv_at hl 0 rfl) ?_
    refine h_get C hw bX9 h0 lk1 1 (by decide) lk2 (v := .int (nI s1)) rfl dX9_keepIfGood_33 ?_
    refine h_aldS C hw 7 rfl h1 hgs (show s1 < T from (by omega)) (by first | omega | decide) dX9_keepIfGood_36 ?_
    refine lv_aload_n hx hb dX9_keepIfGood_37 rfl (lv_at hl 1 rfl) ?_
    refine lv_iload_n hx hb dX9_keepIfGood_38 rfl (lv_at hl 2 rfl) ?_
    refine lv_iload_n hx hb dX9_keepIfGood_39 rfl (lv_at hl 3 rfl) ?_
    refine lv_iload hx hb dX9_keepIfGood_40 (lv_at hl 4 rfl) ?_
    refine h_callv hw (h_runV (n := 4) (As := [.ref pb, .int (nI i), .int (nI j), .int (nI k)]) (rest := []) C hw (c_X8_measure ht9 hp0 hx1 hy1 (by omega) (by omega) (by omega) (by omega)) gX9_keepIfGood_X8_measure rfl rfl rfl (by decide +kernel) ⟨by decide, by decide⟩ bX8 ht9 rfl hl.1 rfl (Nat.le_of_ble_eq_true rfl) dX9_keepIfGood_42 ⟨by first | decide | omega | (dsimp only; omega), by first | decide | omega | (dsimp only; omega)⟩) (fun  f3 H locs hp hw => ?_)
    have e4 := hp
    generalize hT5 : tC0 gx gy i j k = T5 at e4
    have k6 := up_o e4 (ne_kd h0 ht9 (Nat.ne_of_beq_eq_false rfl)) h0
    have k7 := up_o e4 (ne_kd h1 ht9 (Nat.ne_of_beq_eq_false rfl)) h1
    have k8 := up_o e4 (ne_kd hp0 ht9 (Nat.ne_of_beq_eq_false rfl)) hp0
    have k9 := up_o e4 (ne_kd hx1 ht9 (Nat.ne_of_beq_eq_false rfl)) hx1
    have k10 := up_o e4 (ne_kd hy1 ht9 (Nat.ne_of_beq_eq_false rfl)) hy1
    have k11 : f3 x1 = some (eO 8 [.int (bI (gdC gx gy T5)), .int (nI T5.1.1), .int (nI T5.2.1.1), .int (nI T5.2.2.1), .long T5.1.2, .long T5.2.1.2, .long T5.2.2.2, .int (tnC gx gy T5)]) := up_s e4
    have kq9 := kq_w ht9 e4
    refine lv_aload_n hx hb dX9_keepIfGood_45 rfl (lv_at hl 0 rfl) ?_
    refine h_get C hw bX9 k6 lk1 0 (by decide) lk0 (v := .ref ra) rfl dX9_keepIfGood_46 ?_
    refine lv_aload_n hx hb dX9_keepIfGood_49 rfl (lv_at hl 0 rfl) ?_
    refine h_get C hw bX9 k6 lk1 1 (by decide) lk2 (v := .int (nI s1)) rfl dX9_keepIfGood_50 ?_
    refine h_aldS C hw 7 rfl k7 hgs (show s1 < T from (by omega)) (by first | omega | decide) dX9_keepIfGood_53 ?_
    refine h_get C hw bX8 k11 lk4 0 (by decide) lk3 (v := .int (bI (gdC gx gy T5))) rfl dX9_keepIfGood_54 ?_
    refine n_ifeqB C (tgt := 70) dX9_keepIfGood_57 (by decide) (fun cq12 => ?_) (fun cq12 => ?_)
    · refine W.widen (k := 1) (n := 8) (by first | decide | omega | (dsimp only; omega)) (by first | decide | omega | (dsimp only; omega)) ?_
      subst hT5
      exact h_vret C hr hlk hw (⟨x1, Or.inl hgs, k11, (by rw [va_same hgs]; exact k7), (by rw [if_neg cq12]; exact k6), fun x e9 hx n1 n2 n3 => (up_o e4 n3 hx)⟩) dX9_keepIfGood_70
    · refine lv_aload_n hx hb dX9_keepIfGood_60 rfl (lv_at hl 0 rfl) ?_
      refine lv_dup hx hb dX9_keepIfGood_61 rfl ?_
      refine h_get C hw bX9 k6 lk1 1 (by decide) lk2 (v := .int (nI s1)) rfl dX9_keepIfGood_62 ?_
      refine lv_iconst (v := nI 1) hx hb dX9_keepIfGood_65 (by decide) ?_
      refine n_iadd C dX9_keepIfGood_66 ?_
      refine h_put1 C hw bX9 k6 lk1 1 (by decide) lk2 rfl rfl rfl (Nat.le_of_ble_eq_true rfl) dX9_keepIfGood_67 (fun f13 H locs e14 hw => ?_)
      have k15 := up_o e14 (ne_kd k7 k6 (Nat.ne_of_beq_eq_false rfl)) k7
      have k16 := up_o e14 (ne_kd k8 k6 (Nat.ne_of_beq_eq_false rfl)) k8
      have k17 := up_o e14 (ne_kd k9 k6 (Nat.ne_of_beq_eq_false rfl)) k9
      have k18 := up_o e14 (ne_kd k10 k6 (Nat.ne_of_beq_eq_false rfl)) k10
      have k19 := up_o e14 (ne_kd k11 k6 (Nat.ne_of_beq_eq_false rfl)) k11
      have k20 : f13 a = some (eO 9 [.ref ra, .int (nI (s1 + 1))]) := up_s e14
      refine W.widen (k := 1) (n := 8) (by first | decide | omega | (dsimp only; omega)) (by first | decide | omega | (dsimp only; omega)) ?_
      subst hT5
      exact h_vret C hr hlk hw (⟨x1, Or.inl hgs, k19, (by rw [va_same hgs]; exact k15), (by rw [if_pos cq12]; exact k20), fun x e9 hx n1 n2 n3 => (up_o e14 n1 (up_o e4 n3 hx))⟩) dX9_keepIfGood_70
  · subst cq2
    refine lv_aload_n hx hb dX9_keepIfGood_12 rfl (lv_at hl 0 rfl) ?_
    refine h_get C hw bX9 h0 lk1 0 (by decide) lk0 (v := .ref ra) rfl dX9_keepIfGood_13 ?_
    refine lv_aload_n hx hb dX9_keepIfGood_16 rfl (lv_at hl 0 rfl) ?_
    refine h_get C hw bX9 h0 lk1 1 (by decide) lk2 (v := .int (nI s1)) rfl dX9_keepIfGood_17 ?_
    refine h_new1 C hw bX8 lk4 lk5 lk6 lk7 dfX8 (by first | decide | omega | (dsimp only; omega)) (by first | decide | omega | (dsimp only; omega)) dX9_keepIfGood_20 (fun q21 f22 H hq24 e23 hw => ?_)
    have k25 := up_n e23 hq24 h0
    have k26 := up_n e23 hq24 h1
    have k27 := up_n e23 hq24 hp0
    have k28 := up_n e23 hq24 hx1
    have k29 := up_n e23 hq24 hy1
    have k30 : f22 q21 = some (eO 8 [.int 0, .int 0, .int 0, .int 0, .long 0, .long 0, .long 0, .int 0]) := up_s e23
    have fr31 := hle_no (hle.rf f) hq24
    have le32 := hle_new (hle.rf f) hq24 e23
    refine lv_dup hx hb dX9_keepIfGood_23 rfl ?_
    refine h_callv hw (h_runI (n := 0) (As := []) (rest := [.ref q21, .int (nI s1), .ref ra]) C hw (c_X8_init k30) gX9_keepIfGood_X8_init rfl rfl rfl lk7 lk8 lk9 rfl (by decide +kernel) ⟨by decide, by decide⟩ rfl hl.1 rfl (Nat.le_of_ble_eq_true rfl) dX9_keepIfGood_24 ⟨by first | decide | omega | (dsimp only; omega), by first | decide | omega | (dsimp only; omega)⟩) (fun  f33 H locs hp hw => ?_)
    have e34 := hp
    have k35 := up_o e34 (ne_kd k25 k30 (Nat.ne_of_beq_eq_false rfl)) k25
    have k36 := up_o e34 (ne_kd k26 k30 (Nat.ne_of_beq_eq_false rfl)) k26
    have k37 := up_o e34 (ne_kd k27 k30 (Nat.ne_of_beq_eq_false rfl)) k27
    have k38 := up_o e34 (ne_kd k28 k30 (Nat.ne_of_beq_eq_false rfl)) k28
    have k39 := up_o e34 (ne_kd k29 k30 (Nat.ne_of_beq_eq_false rfl)) k29
    have k40 : f33 q21 = some (eO 8 [.int (nI 0), .int 0, .int 0, .int 0, .long 0, .long 0, .long 0, .int 0]) := up_s e34
    have le41 := hle_up le32 fr31 e34
    refine h_astq1 C hw 7 bX8 rfl k36 k40 (show s1 < T from (by omega)) (by first | omega | decide) dX9_keepIfGood_27 (fun f42 H locs e43 hw => ?_)
    have k44 := up_o e43 (ne_kd k35 k36 (Nat.ne_of_beq_eq_false rfl)) k35
    have k45 := up_o e43 (ne_kd k37 k36 (Nat.ne_of_beq_eq_false rfl)) k37
    have k46 := up_o e43 (ne_kd k38 k36 (Nat.ne_of_beq_eq_false rfl)) k38
    have k47 := up_o e43 (ne_kd k39 k36 (Nat.ne_of_beq_eq_false rfl)) k39
    have k48 := up_o e43 (ne_kd k40 k36 (Nat.ne_of_beq_eq_false rfl)) k40
    have k49 : f42 ra = some (eQ cA 7 T (va_up γ s1 (some q21))) := up_s e43
    refine lv_aload_n hx hb dX9_keepIfGood_28 rfl (lv_at hl 0 rfl) ?_
    refine h_get C hw bX9 k44 lk1 0 (by decide) lk0 (v := .ref ra) rfl dX9_keepIfGood_29 ?_
    refine lv_aload_n hx hb dX9_keepIfGood_32 rfl (lv_at hl 0 rfl) ?_
    refine h_get C hw bX9 k44 lk1 1 (by decide) lk2 (v := .int (nI s1)) rfl dX9_keepIfGood_33 ?_
    refine h_aldS C hw 7 rfl k49 (va_up_self _ _ _) (show s1 < T from (by omega)) (by first | omega | decide) dX9_keepIfGood_36 ?_
    refine lv_aload_n hx hb dX9_keepIfGood_37 rfl (lv_at hl 1 rfl) ?_
    refine lv_iload_n hx hb dX9_keepIfGood_38 rfl (lv_at hl 2 rfl) ?_
    refine lv_iload_n hx hb dX9_keepIfGood_39 rfl (lv_at hl 3 rfl) ?_
    refine lv_iload hx hb dX9_keepIfGood_40 (lv_at hl 4 rfl) ?_
    refine h_callv hw (h_runV (n := 4) (As := [.ref pb, .int (nI i), .int (nI j), .int (nI k)]) (rest := []) C hw (c_X8_measure k48 k45 k46 k47 (by omega) (by omega) (by omega) (by omega)) gX9_keepIfGood_X8_measure rfl rfl rfl (by decide +kernel) ⟨by decide, by decide⟩ bX8 k48 rfl hl.1 rfl (Nat.le_of_ble_eq_true rfl) dX9_keepIfGood_42 ⟨by first | decide | omega | (dsimp only; omega), by first | decide | omega | (dsimp only; omega)⟩) (fun  f50 H locs hp hw => ?_)
    have e51 := hp
    generalize hT52 : tC0 gx gy i j k = T52 at e51
    have k53 := up_o e51 (ne_kd k44 k48 (Nat.ne_of_beq_eq_false rfl)) k44
    have k54 := up_o e51 (ne_kd k45 k48 (Nat.ne_of_beq_eq_false rfl)) k45
    have k55 := up_o e51 (ne_kd k46 k48 (Nat.ne_of_beq_eq_false rfl)) k46
    have k56 := up_o e51 (ne_kd k47 k48 (Nat.ne_of_beq_eq_false rfl)) k47
    have k57 := up_o e51 (ne_kd k49 k48 (Nat.ne_of_beq_eq_false rfl)) k49
    have k58 : f50 q21 = some (eO 8 [.int (bI (gdC gx gy T52)), .int (nI T52.1.1), .int (nI T52.2.1.1), .int (nI T52.2.2.1), .long T52.1.2, .long T52.2.1.2, .long T52.2.2.2, .int (tnC gx gy T52)]) := up_s e51
    have kq9 := kq_w k48 e51
    refine lv_aload_n hx hb dX9_keepIfGood_45 rfl (lv_at hl 0 rfl) ?_
    refine h_get C hw bX9 k53 lk1 0 (by decide) lk0 (v := .ref ra) rfl dX9_keepIfGood_46 ?_
    refine lv_aload_n hx hb dX9_keepIfGood_49 rfl (lv_at hl 0 rfl) ?_
    refine h_get C hw bX9 k53 lk1 1 (by decide) lk2 (v := .int (nI s1)) rfl dX9_keepIfGood_50 ?_
    refine h_aldS C hw 7 rfl k57 (va_up_self _ _ _) (show s1 < T from (by omega)) (by first | omega | decide) dX9_keepIfGood_53 ?_
    refine h_get C hw bX8 k58 lk4 0 (by decide) lk3 (v := .int (bI (gdC gx gy T52))) rfl dX9_keepIfGood_54 ?_
    refine n_ifeqB C (tgt := 70) dX9_keepIfGood_57 (by decide) (fun cq59 => ?_) (fun cq59 => ?_)
    · refine W.widen (k := 1) (n := 8) (by first | decide | omega | (dsimp only; omega)) (by first | decide | omega | (dsimp only; omega)) ?_
      subst hT52
      exact h_vret C hr hlk hw (⟨q21, Or.inr ⟨hgs, fr31⟩, k58, k57, (by rw [if_neg cq59]; exact k53), fun x e9 hx n1 n2 n3 => (up_o e51 n3 (up_o e43 n2 (up_o e34 n3 (up_o e23 n3 hx))))⟩) dX9_keepIfGood_70
    · refine lv_aload_n hx hb dX9_keepIfGood_60 rfl (lv_at hl 0 rfl) ?_
      refine lv_dup hx hb dX9_keepIfGood_61 rfl ?_
      refine h_get C hw bX9 k53 lk1 1 (by decide) lk2 (v := .int (nI s1)) rfl dX9_keepIfGood_62 ?_
      refine lv_iconst (v := nI 1) hx hb dX9_keepIfGood_65 (by decide) ?_
      refine n_iadd C dX9_keepIfGood_66 ?_
      refine h_put1 C hw bX9 k53 lk1 1 (by decide) lk2 rfl rfl rfl (Nat.le_of_ble_eq_true rfl) dX9_keepIfGood_67 (fun f60 H locs e61 hw => ?_)
      have k62 := up_o e61 (ne_kd k54 k53 (Nat.ne_of_beq_eq_false rfl)) k54
      have k63 := up_o e61 (ne_kd k55 k53 (Nat.ne_of_beq_eq_false rfl)) k55
      have k64 := up_o e61 (ne_kd k56 k53 (Nat.ne_of_beq_eq_false rfl)) k56
      have k65 := up_o e61 (ne_kd k57 k53 (Nat.ne_of_beq_eq_false rfl)) k57
      have k66 := up_o e61 (ne_kd k58 k53 (Nat.ne_of_beq_eq_false rfl)) k58
      have k67 : f60 a = some (eO 9 [.ref ra, .int (nI (s1 + 1))]) := up_s e61
      refine W.widen (k := 1) (n := 8) (by first | decide | omega | (dsimp only; omega)) (by first | decide | omega | (dsimp only; omega)) ?_
      subst hT52
      exact h_vret C hr hlk hw (⟨q21, Or.inr ⟨hgs, fr31⟩, k66, k65, (by rw [if_pos cq59]; exact k67), fun x e9 hx n1 n2 n3 => (up_o e61 n1 (up_o e51 n3 (up_o e43 n2 (up_o e34 n3 (up_o e23 n3 hx)))))⟩) dX9_keepIfGood_70
set_option maxHeartbeats 4000000 in
set_option maxRecDepth 100000 in
theorem c_X9_gather {l : Launch} {D : va_G} {cA : Nat → ClassId} {f : HF} {sz : Nat} {a ra pb xa ya T lm n1 o : Nat} {v0 : Value} {γ : Nat → Option Nat} {gx gy : Nat → Int32} {A : MA}  (h0 : f a = some (eO 9 [.ref ra, v0])) (h1 : f ra = some (eQ cA 7 T γ)) (hp0 : f pb = some (eO 4 [.int (nI lm), .ref xa, .ref ya, .int (nI n1)])) (hx1 : f xa = some (eI cA lm gx)) (hy1 : f ya = some (eI cA lm gy)) (hlm : lm ≤ 12) (ht : trI T γ f) (hT : T ≤ 220) (hn1 : n1 ≤ lm) (hu0 : uA n1 0 ≤ T) (hpr : ptR A o lm gx gy) : Met l yX9_gather wsX9_gather ({ frames := 4, cells := 220, slots := 1760, locals := 102 } : Room) (va_Pc [.ref a, .ref pb] (hB D cA f sz)) (va_Qv (fun f1 => ∃ γ1, gaI cA f a ra T γ f1 γ1 (gl A o n1)) (hE D f sz) (hA f sz)) 220 1760 (hA f sz) := by
  refine h_of (cc := cX9_gather) (maxL := 5) (ret := none) (by decide +kernel) rfl (Nat.le_of_ble_eq_true rfl) ?_
  intro p e s m below meth c ls C hr hlk hnm hw hl
  have hx := C.1.1
  have hb := C.1.2.1
  have hl : lv_has ls 5 [(0, .ref a), (1, .ref pb)] := hl
  have lk0 : Cond.fieldLink RX9 21 "FallingLight$Triangles" "size" "I" ∈ wsX9_gather := by decide +kernel
  have lk1 : ∀ w ∈ u_ws RX9 TX9 2, w ∈ wsX9_gather := by decide +kernel
  have lk2 : Cond.fieldLink RX9 25 "FallingLight$Points" "size" "I" ∈ wsX9_gather := by decide +kernel
  have lk3 : ∀ w ∈ u_ws RX4 TX4 4, w ∈ wsX9_gather := by decide +kernel
  have lk4 : Cond.fieldLink RX9 15 "FallingLight$Triangles" "row" "[LFallingLight$Triangle;" ∈ wsX9_gather := by decide +kernel
  refine lv_aload_n hx hb dX9_gather_0 rfl (lv_at hl 0 rfl) ?_
  refine lv_iconst (v := nI 0) hx hb dX9_gather_1 (by decide) ?_
  refine h_put1 C hw bX9 h0 lk1 1 (by decide) lk0 rfl rfl rfl (Nat.le_of_ble_eq_true rfl) dX9_gather_2 (fun f1 H locs e2 hw => ?_)
  have k3 := up_o e2 (ne_kd h1 h0 (Nat.ne_of_beq_eq_false rfl)) h1
  have k4 := up_o e2 (ne_kd hp0 h0 (Nat.ne_of_beq_eq_false rfl)) hp0
  have k5 := up_o e2 (ne_kd hx1 h0 (Nat.ne_of_beq_eq_false rfl)) hx1
  have k6 := up_o e2 (ne_kd hy1 h0 (Nat.ne_of_beq_eq_false rfl)) hy1
  have k7 : f1 a = some (eO 9 [.ref ra, .int (nI 0)]) := up_s e2
  refine lv_iconst (v := nI 0) hx hb dX9_gather_5 (by decide) ?_
  refine lv_istore_n (lv' := [(2, _), (0, _), (1, _)]) hx hb dX9_gather_6 rfl hl (by decide) rfl (fun ls hl => ?_)
  have lp7 : ∀ (n : Nat) (lg : List GT) (γ9 : Nat → Option Nat) (u : Nat) (a1 : Nat) (f9 : HF) (H1 : Heap) (locs1 : List Loc) (ls1 : Array Slot), hW D (hA f sz) s.heap f9 H1 locs1 → lv_has ls1 5 [(0, .ref a), (1, .ref pb), (2, .int (nI a1))] → (gaI cA f a ra T γ f9 γ9 lg) → (lg ++ gA A o n1 a1 = gl A o n1) → (lg.length ≤ u) → (u + uA n1 a1 ≤ uA n1 0) → (a1 ≤ n1) → n1 - a1 < n → W p l e ({ frames := 4, cells := 220, slots := 1760, locals := 102 } : Room) s m ([.ref a, .ref pb]).toArray below meth c H1 locs1 u (8 * u) (MQ below (va_Qv (fun f1 => ∃ γ1, gaI cA f a ra T γ f1 γ1 (gl A o n1)) (hE D f sz) (hA f sz)) ([.ref a, .ref pb]).toArray s 220 1760 (hA f sz)) (F0 m 7 ls1 []) := by
    intro n
    induction n with
    | zero => intros; omega
    | succ n ih7 =>
      intro lg γ9 u a1 f9 H locs ls hw hl hGI htot hlu hur hale hmu
      refine lv_iload_n hx hb dX9_gather_7 rfl (lv_at hl 2 rfl) ?_
      refine lv_aload_n hx hb dX9_gather_8 rfl (lv_at hl 1 rfl) ?_
      refine h_get C hw bX4 (ga_fr hGI h0 h1 ht hp0 ⟨Nat.ne_of_beq_eq_false rfl, Nat.ne_of_beq_eq_false rfl, Nat.ne_of_beq_eq_false rfl⟩) lk3 3 (by decide) lk2 (v := .int (nI n1)) rfl dX9_gather_9 ?_
      refine n_cge C (by omega) (by omega) (tgt := 80) dX9_gather_12 (by decide) (fun cq8 => ?_) (fun cq8 => ?_)
      · refine W.widen (k := 220) (n := 1760) (by first | decide | omega | (dsimp only; omega)) (by first | decide | omega | (dsimp only; omega)) ?_
        exact h_vret C hr hlk hw (⟨γ9, by rw [gA_e (show n1 ≤ a1 by omega), List.append_nil] at htot; rw [← htot]; exact hGI⟩) dX9_gather_80
      · refine lv_iload_n hx hb dX9_gather_15 rfl (lv_at hl 2 rfl) ?_
        refine lv_iconst (v := nI 1) hx hb dX9_gather_16 (by decide) ?_
        refine n_iadd C dX9_gather_17 ?_
        refine lv_istore_n (lv' := [(3, _), (0, _), (1, _), (2, _)]) hx hb dX9_gather_18 rfl hl (by decide) rfl (fun ls hl => ?_)
        have lp19 : ∀ (n : Nat) (lg : List GT) (γ9 : Nat → Option Nat) (u : Nat) (b1 : Nat) (f9 : HF) (H1 : Heap) (locs1 : List Loc) (ls1 : Array Slot), hW D (hA f sz) s.heap f9 H1 locs1 → lv_has ls1 5 [(0, .ref a), (1, .ref pb), (2, .int (nI a1)), (3, .int (nI b1))] → (gaI cA f a ra T γ f9 γ9 lg) → (lg ++ (gB A o n1 a1 b1 ++ gA A o n1 (a1 + 1)) = gl A o n1) → (lg.length ≤ u) → (u + (uB n1 b1 + uA n1 (a1 + 1)) ≤ uA n1 0) → (b1 ≤ n1) → (a1 < n1) → (a1 < b1) → n1 - b1 < n → W p l e ({ frames := 4, cells := 220, slots := 1760, locals := 102 } : Room) s m ([.ref a, .ref pb]).toArray below meth c H1 locs1 u (8 * u) (MQ below (va_Qv (fun f1 => ∃ γ1, gaI cA f a ra T γ f1 γ1 (gl A o n1)) (hE D f sz) (hA f sz)) ([.ref a, .ref pb]).toArray s 220 1760 (hA f sz)) (F0 m 19 ls1 []) := by
          intro n
          induction n with
          | zero => intros; omega
          | succ n ih19 =>
            intro lg γ9 u b1 f9 H locs ls hw hl hGI htot hlu hur hble ha3 hab hmu
            refine lv_iload_n hx hb dX9_gather_19 rfl (lv_at hl 3 rfl) ?_
            refine lv_aload_n hx hb dX9_gather_20 rfl (lv_at hl 1 rfl) ?_
            refine h_get C hw bX4 (ga_fr hGI h0 h1 ht hp0 ⟨Nat.ne_of_beq_eq_false rfl, Nat.ne_of_beq_eq_false rfl, Nat.ne_of_beq_eq_false rfl⟩) lk3 3 (by decide) lk2 (v := .int (nI n1)) rfl dX9_gather_21 ?_
            refine n_cge C (by omega) (by omega) (tgt := 74) dX9_gather_24 (by decide) (fun cq9 => ?_) (fun cq9 => ?_)
            · refine n_iinc C (lv' := [(2, _), (0, _), (1, _), (3, _)]) dX9_gather_74 hl (k := 2) rfl (by decide) rfl (fun ls hl => ?_)
              refine lv_goto (tgt := 7) hx hb dX9_gather_77 (by decide) ?_
              exact ih7 lg γ9 u (a1 + 1) f9 _ _ _ hw (lv_sub hl [1, 2, 0] rfl) hGI (by rw [gB_e (show n1 ≤ b1 by omega), List.nil_append] at htot; exact htot) hlu (by omega) (by omega) (by omega)
            · refine lv_iload_n hx hb dX9_gather_27 rfl (lv_at hl 3 rfl) ?_
              refine lv_iconst (v := nI 1) hx hb dX9_gather_28 (by decide) ?_
              refine n_iadd C dX9_gather_29 ?_
              refine lv_istore (lv' := [(4, _), (0, _), (1, _), (2, _), (3, _)]) hx hb dX9_gather_30 hl (by decide) rfl (fun ls hl => ?_)
              have lp32 : ∀ (n : Nat) (lg : List GT) (γ9 : Nat → Option Nat) (u : Nat) (d1 : Nat) (f9 : HF) (H1 : Heap) (locs1 : List Loc) (ls1 : Array Slot), hW D (hA f sz) s.heap f9 H1 locs1 → lv_has ls1 5 [(0, .ref a), (1, .ref pb), (2, .int (nI a1)), (3, .int (nI b1)), (4, .int (nI d1))] → (gaI cA f a ra T γ f9 γ9 lg) → (lg ++ (gC A o n1 a1 b1 d1 ++ (gB A o n1 a1 (b1 + 1) ++ gA A o n1 (a1 + 1))) = gl A o n1) → (lg.length ≤ u) → (u + ((n1 - d1) + (uB n1 (b1 + 1) + uA n1 (a1 + 1))) ≤ uA n1 0) → (d1 ≤ n1) → (b1 < n1) → (a1 < n1) → (a1 < b1) → (b1 < d1) → n1 - d1 < n → W p l e ({ frames := 4, cells := 220, slots := 1760, locals := 102 } : Room) s m ([.ref a, .ref pb]).toArray below meth c H1 locs1 u (8 * u) (MQ below (va_Qv (fun f1 => ∃ γ1, gaI cA f a ra T γ f1 γ1 (gl A o n1)) (hE D f sz) (hA f sz)) ([.ref a, .ref pb]).toArray s 220 1760 (hA f sz)) (F0 m 32 ls1 []) := by
                intro n
                induction n with
                | zero => intros; omega
                | succ n ih32 =>
                  intro lg γ9 u d1 f9 H locs ls hw hl hGI htot hlu hur hdle hb3 ha3 hab hbd hmu
                  refine lv_iload hx hb dX9_gather_32 (lv_at hl 4 rfl) ?_
                  refine lv_aload_n hx hb dX9_gather_34 rfl (lv_at hl 1 rfl) ?_
                  refine h_get C hw bX4 (ga_fr hGI h0 h1 ht hp0 ⟨Nat.ne_of_beq_eq_false rfl, Nat.ne_of_beq_eq_false rfl, Nat.ne_of_beq_eq_false rfl⟩) lk3 3 (by decide) lk2 (v := .int (nI n1)) rfl dX9_gather_35 ?_
                  refine n_cge C (by omega) (by omega) (tgt := 68) dX9_gather_38 (by decide) (fun cq10 => ?_) (fun cq10 => ?_)
                  · refine n_iinc C (lv' := [(3, _), (0, _), (1, _), (2, _), (4, _)]) dX9_gather_68 hl (k := 3) rfl (by decide) rfl (fun ls hl => ?_)
                    refine lv_goto (tgt := 19) hx hb dX9_gather_71 (by decide) ?_
                    exact ih19 lg γ9 u (b1 + 1) f9 _ _ _ hw (lv_sub hl [1, 2, 3, 0] rfl) hGI (by rw [gC_e (show n1 ≤ d1 by omega), List.nil_append] at htot; exact htot) hlu (by omega) (by omega) ha3 (by omega) (by omega)
                  · refine lv_aload_n hx hb dX9_gather_41 rfl (lv_at hl 0 rfl) ?_
                    refine h_get C hw bX9 hGI.1 lk1 1 (by decide) lk0 (v := .int (nI lg.length)) rfl dX9_gather_42 ?_
                    refine lv_aload_n hx hb dX9_gather_45 rfl (lv_at hl 0 rfl) ?_
                    refine h_get C hw bX9 hGI.1 lk1 0 (by decide) lk4 (v := .ref ra) rfl dX9_gather_46 ?_
                    refine h_alen C hw 7 hGI.2.1 rfl dX9_gather_49 ?_
                    refine n_cge C (by omega) (by omega) (tgt := 68) dX9_gather_50 (by decide) (fun cq11 => ?_) (fun cq11 => ?_)
                    · exact absurd cq11 (by omega)
                    · refine lv_aload_n hx hb dX9_gather_53 rfl (lv_at hl 0 rfl) ?_
                      refine lv_aload_n hx hb dX9_gather_54 rfl (lv_at hl 1 rfl) ?_
                      refine lv_iload_n hx hb dX9_gather_55 rfl (lv_at hl 2 rfl) ?_
                      refine lv_iload_n hx hb dX9_gather_56 rfl (lv_at hl 3 rfl) ?_
                      refine lv_iload hx hb dX9_gather_57 (lv_at hl 4 rfl) ?_
                      refine h_callv hw (h_runV (n := 4) (As := [.ref pb, .int (nI a1), .int (nI b1), .int (nI d1)]) (rest := []) C hw (c_X9_keepIfGood hGI.1 hGI.2.1 (ga_fr hGI h0 h1 ht hp0 ⟨Nat.ne_of_beq_eq_false rfl, Nat.ne_of_beq_eq_false rfl, Nat.ne_of_beq_eq_false rfl⟩) (ga_fr hGI h0 h1 ht hx1 ⟨Nat.ne_of_beq_eq_false rfl, Nat.ne_of_beq_eq_false rfl, Nat.ne_of_beq_eq_false rfl⟩) (ga_fr hGI h0 h1 ht hy1 ⟨Nat.ne_of_beq_eq_false rfl, Nat.ne_of_beq_eq_false rfl, Nat.ne_of_beq_eq_false rfl⟩) (by omega) hGI.2.2.1 (by omega) (by omega) (by omega) (by omega) (by omega)) gX9_gather_X9_keepIfGood rfl rfl rfl (by decide +kernel) ⟨by decide, by decide⟩ bX9 hGI.1 rfl hl.1 rfl (Nat.le_of_ble_eq_true rfl) dX9_gather_59 ⟨by first | decide | omega | (dsimp only; omega), by first | decide | omega | (dsimp only; omega)⟩) (fun  f12 H locs hp hw => ?_)
                      obtain ⟨γn13, hGI⟩ := ga_step hGI h0 h1 ht (by omega) hpr (by omega) (by omega) (by omega) hp
                      refine n_iinc C (lv' := [(4, _), (0, _), (1, _), (2, _), (3, _)]) dX9_gather_62 hl (k := 4) rfl (by decide) rfl (fun ls hl => ?_)
                      refine lv_goto (tgt := 32) hx hb dX9_gather_65 (by decide) ?_
                      exact ih32 (lg ++ g1 A o a1 b1 d1) γn13 (u + 1) (d1 + 1) f12 _ _ _ hw (lv_sub hl [1, 2, 3, 4, 0] rfl) hGI (by rw [gC_s (show d1 < n1 by omega), List.append_assoc] at htot; rw [List.append_assoc]; exact htot) (by have := g1_len A o a1 b1 d1; rw [List.length_append]; omega) (by omega) (by omega) hb3 ha3 hab (by omega) (by omega)
              exact lp32 _ lg γ9 u (b1 + 1) f9 _ _ _ hw (lv_sub hl [1, 2, 3, 4, 0] rfl) hGI (by rw [gB_s (show b1 < n1 by omega), List.append_assoc] at htot; exact htot) hlu (by have := uB_s (show b1 < n1 by omega); omega) (by omega) (by omega) ha3 hab (by omega) (Nat.lt_succ_self _)
        exact lp19 _ lg γ9 u (a1 + 1) f9 _ _ _ hw (lv_sub hl [1, 2, 3, 0] rfl) hGI (by rw [gA_s (show a1 < n1 by omega)] at htot; exact htot) hlu (by have := uA_s (show a1 < n1 by omega); omega) (by omega) (by omega) (by omega) (Nat.lt_succ_self _)
  exact lp7 _ [] γ 0 0 f1 _ _ _ hw (lv_sub hl [1, 2, 0] rfl) (ga_0 h0 h1 ht e2) rfl (Nat.zero_le _) (by omega) (by omega) (Nat.lt_succ_self _)
