/-! ===== the class: votes and partners (laid by program) ===== -/
/-! votes -/
def vB (K : KK) (V : Nat → Int32) : Prop := ∀ p s, p < 10 → s < 12 → K (40 + p) s = V (12 * p + s)
theorem vB_b {K K1 : KK} {V : Nat → Int32} {p s : Nat} (h : vB K V) (hp : p < 10) (hs : s < 12) (e : K1 = va_up K (40 + p) (upd (K (40 + p)) s (K (40 + p) s + nI 1))) : vB K1 (bmp V (12 * p + s)) := fun p2 s2 hp2 hs2 => by
  unfold bmp
  rw [e]
  by_cases e1 : p2 = p
  · subst e1
    rw [va_up_self]
    by_cases e2 : s2 = s
    · subst e2; rw [pk_us, pk_us, h p2 s2 hp2 hs2]
    · rw [pk_un e2, pk_un (by omega)]; exact h p2 s2 hp2 hs2
  · rw [va_up_ne _ _ (by omega), pk_un (by omega)]; exact h p2 s2 hp2 hs2
theorem trH.up {γ : Nat → Option Nat} {f f1 : HF} {l : List GT} (h : trH γ f l) (k : kp f f1) : trH γ f1 l := fun j t hj => by
  obtain ⟨a, h1, h2⟩ := h j t hj
  exact ⟨a, h1, k _ _ _ (by omega) h2⟩
theorem dr_c {α : Type} {l : List α} {q : Nat} {t : α} (h : l[q]? = some t) : l.drop q = t :: l.drop (q + 1) := by
  obtain ⟨h1, h2⟩ := List.getElem?_eq_some_iff.mp h
  rw [List.drop_eq_getElem_cons h1, h2]
def okz (z : GT) (k : Nat) : Prop := z.1.1 < k ∧ z.1.2.1 < k ∧ z.1.2.2 < k
def zr (K : KK) (p s : Nat) : Prop := ∀ p2 s2, p2 < 10 → s2 < 12 → (p2 < p ∨ (p2 = p ∧ s2 < s)) → K (40 + p2) s2 = nI 0
theorem zr_s {K K1 : KK} {p s : Nat} (h : zr K p s) (e : K1 = va_up K (40 + p) (upd (K (40 + p)) s (nI 0))) : zr K1 p (s + 1) := fun p2 s2 hp hs hh => by
  rw [e]
  by_cases e1 : p2 = p
  · subst e1
    rw [va_up_self]
    by_cases e2 : s2 = s
    · subst e2; rw [pk_us]
    · rw [pk_un e2]; exact h p2 s2 hp hs (by omega)
  · rw [va_up_ne _ _ (by omega)]; exact h p2 s2 hp hs (by omega)
abbrev alP (V : Nat → Int32) (ns nt p b : Nat) : Prop := (∀ j, j < nt → ¬ j = b → V (12 * p + j) < V (12 * p + b)) ∧ ∀ j, j < ns → ¬ j = p → V (12 * j + b) < V (12 * p + b)
theorem bs_max {V : Nat → Int32} {p : Nat} : ∀ {k b : Nat}, bsF V p k = some b → (∀ j, j < k → V (12 * p + j) ≤ V (12 * p + b)) ∧ ∀ j, j < b → V (12 * p + j) < V (12 * p + b)
  | 0, b, h => by cases h
  | k + 1, b, h => by
    cases h0 : bsF V p k with
    | none =>
      rw [bs_n h0] at h
      cases h
      have hk : k = 0 := by
        cases k with
        | zero => rfl
        | succ m =>
          exfalso
          cases h1 : bsF V p m with
          | none => rw [bs_n h1] at h0; cases h0
          | some c =>
            by_cases h2 : V (12 * p + m) ≤ V (12 * p + c)
            · rw [bs_k h1 h2] at h0; cases h0
            · rw [bs_g h1 h2] at h0; cases h0
      subst hk
      exact ⟨fun j hj => by have : j = 0 := by omega
                            subst this; exact Int32.le_refl _, fun j hj => absurd hj (by omega)⟩
    | some c =>
      obtain ⟨g1, g2⟩ := bs_max h0
      have hc := bs_lt h0
      by_cases h2 : V (12 * p + k) ≤ V (12 * p + c)
      · rw [bs_k h0 h2] at h
        cases h
        exact ⟨fun j hj => (Nat.lt_succ_iff_lt_or_eq.mp hj).elim (g1 j) (fun e => by rw [e]; exact h2), g2⟩
      · rw [bs_g h0 h2] at h
        cases h
        have h3 := Int32.not_le.mp h2
        exact ⟨fun j hj => (Nat.lt_succ_iff_lt_or_eq.mp hj).elim (fun e => Int32.le_trans (g1 j e) (Int32.le_of_lt h3)) (fun e => by rw [e]; exact Int32.le_refl _), fun j hj => Int32.lt_of_le_of_lt (g1 j hj) h3⟩
def paI (V : Nat → Int32) (p k : Nat) (o : Option Nat) (m : Int32) : Prop := (o = none ∧ m = nI 1 ∧ ∀ j, j < k → V (12 * p + j) ≤ nI 1) ∨ ∃ b, o = some b ∧ b < k ∧ m = V (12 * p + b) ∧ nI 1 < m ∧ (∀ j, j < k → V (12 * p + j) ≤ m) ∧ ∀ j, j < b → V (12 * p + j) < m
theorem pa_y {V : Nat → Int32} {p k : Nat} {o : Option Nat} {m : Int32} (h : paI V p k o m) (h2 : m < V (12 * p + k)) : paI V p (k + 1) (some k) (V (12 * p + k)) := by
  have hm : nI 1 ≤ m ∧ ∀ j, j < k → V (12 * p + j) ≤ m := by
    rcases h with ⟨-, h3, h4⟩ | ⟨b, -, -, -, h4, h5, -⟩
    · subst h3; exact ⟨Int32.le_refl _, h4⟩
    · exact ⟨Int32.le_of_lt h4, h5⟩
  exact Or.inr ⟨k, rfl, by omega, rfl, Int32.lt_of_le_of_lt hm.1 h2, fun j hj => (Nat.lt_succ_iff_lt_or_eq.mp hj).elim (fun e => Int32.le_of_lt (Int32.lt_of_le_of_lt (hm.2 j e) h2)) (fun e => by rw [e]; exact Int32.le_refl _), fun j hj => Int32.lt_of_le_of_lt (hm.2 j hj) h2⟩
theorem pa_n {V : Nat → Int32} {p k : Nat} {o : Option Nat} {m : Int32} (h : paI V p k o m) (h2 : V (12 * p + k) ≤ m) : paI V p (k + 1) o m := by
  rcases h with ⟨h1, h3, h4⟩ | ⟨b, h1, hb, h3, h4, h5, h6⟩
  · exact Or.inl ⟨h1, h3, fun j hj => (Nat.lt_succ_iff_lt_or_eq.mp hj).elim (h4 j) (fun e => by rw [e, ← h3]; exact h2)⟩
  · exact Or.inr ⟨b, h1, by omega, h3, h4, fun j hj => (Nat.lt_succ_iff_lt_or_eq.mp hj).elim (h5 j) (fun e => by rw [e]; exact h2), h6⟩
theorem pa_e0 {V : Nat → Int32} {ns nt p : Nat} {m : Int32} (h : paI V p nt none m) : mtF V ns nt p = none := by
  rcases h with ⟨-, -, h4⟩ | ⟨b, h1, -⟩
  · cases h0 : bsF V p nt with
    | none => exact mt_n h0
    | some b =>
      refine mt_f h0 (fun h5 => ?_)
      have h6 := h4 b (bs_lt h0)
      have h7 := h5.1
      have : nI 2 ≤ nI 1 := Int32.le_trans h7 h6
      exact absurd this (by decide)
  · cases h1
theorem pa_e1 {V : Nat → Int32} {ns nt p b : Nat} {m : Int32} (h : paI V p nt (some b) m) : (alP V ns nt p b → mtF V ns nt p = some b) ∧ (¬ alP V ns nt p b → mtF V ns nt p = none) := by
  rcases h with ⟨h1, -⟩ | ⟨b1, h1, hb, h3, h4, h5, h6⟩
  · cases h1
  · cases h1
    subst h3
    have h0 : bsF V p nt = some b := by
      cases h0 : bsF V p nt with
      | none =>
        cases nt with
        | zero => omega
        | succ k =>
          exfalso
          cases h7 : bsF V p k with
          | none => rw [bs_n h7] at h0; cases h0
          | some c =>
            by_cases h8 : V (12 * p + k) ≤ V (12 * p + c)
            · rw [bs_k h7 h8] at h0; cases h0
            · rw [bs_g h7 h8] at h0; cases h0
      | some c =>
        obtain ⟨g1, g2⟩ := bs_max h0
        have hc := bs_lt h0
        rcases Nat.lt_trichotomy b c with h7 | h7 | h7
        · exact absurd (g2 b h7) (Int32.not_lt.mpr (h5 c hc))
        · rw [h7]
        · exact absurd (h6 c h7) (Int32.not_lt.mpr (g1 b hb))
    have h2 : nI 2 ≤ V (12 * p + b) := (ge_succ (n := 1) (by decide)).mpr h4
    exact ⟨fun h7 => mt_t h0 ⟨h2, h7.1, h7.2⟩, fun h7 => mt_f h0 (fun h8 => h7 ⟨h8.2.1, h8.2.2⟩)⟩
set_option maxHeartbeats 4000000 in
set_option maxRecDepth 100000 in
theorem c_X1_castBallots {l : Launch} {D : va_G} {cA : Nat → ClassId} {f : HF} {sz : Nat} {ad : Nat → Nat} {K : KK} {G : GG} {tz : Nat} {z : GT} {gs : List GT} {V0 : Nat → Int32}  (hc : co cA ad K G f) (hgl : K 17 0 = nI gs.length) (hgs : trH (G 22) f gs) (hz : f tz = some (eO 8 (tgV z))) (hz9 : okz z 10) (hok : ∀ t, t ∈ gs → okz t 12) (hlen : gs.length ≤ 220) (hV : vB K V0) : Met l yX1_castBallots wsX1_castBallots ({ frames := 2, cells := 0, slots := 0, locals := 48 } : Room) (va_Pc [.ref (ad 3), .ref tz] (hB D cA f sz)) (va_Qv (fun f1 => ∃ K1, co cA ad K1 G f1 ∧ kp f f1 ∧ (∀ j, j < 40 → K1 j = K j) ∧ vB K1 (gs.foldl (vt1 (K 3 2) z) V0)) (hE D f sz) (hA f sz)) 0 0 (hA f sz) := by
  refine h_of (cc := cX1_castBallots) (maxL := 4) (ret := none) (by decide +kernel) rfl (Nat.le_of_ble_eq_true rfl) ?_
  intro p e s m below meth c ls C hr hlk hnm hw hl
  have hx := C.1.1
  have hb := C.1.2.1
  have hl : lv_has ls 4 [(0, .ref (ad 3)), (1, .ref tz)] := hl
  have lk0 : Cond.fieldLink RX1 27 "FallingLight$Matching" "starTriangles" "LFallingLight$Triangles;" ∈ wsX1_castBallots := by decide +kernel
  have lk1 : ∀ w ∈ u_ws RX1 TX1 10, w ∈ wsX1_castBallots := by decide +kernel
  have lk2 : Cond.fieldLink RX1 73 "FallingLight$Triangles" "size" "I" ∈ wsX1_castBallots := by decide +kernel
  have lk3 : ∀ w ∈ u_ws RX9 TX9 2, w ∈ wsX1_castBallots := by decide +kernel
  have lk4 : Cond.fieldLink RX1 74 "FallingLight$Triangles" "row" "[LFallingLight$Triangle;" ∈ wsX1_castBallots := by decide +kernel
  have lk5 : Cond.fieldLink RX1 49 "FallingLight$Matching" "nearness" "I" ∈ wsX1_castBallots := by decide +kernel
  have lk6 : Cond.fieldLink RX1 32 "FallingLight$Matching" "ballots" "[[I" ∈ wsX1_castBallots := by decide +kernel
  have lk7 : Cond.fieldLink RX1 88 "FallingLight$Triangle" "first" "I" ∈ wsX1_castBallots := by decide +kernel
  have lk8 : ∀ w ∈ u_ws RX8 TX8 8, w ∈ wsX1_castBallots := by decide +kernel
  have lk9 : Cond.fieldLink RX1 91 "FallingLight$Triangle" "second" "I" ∈ wsX1_castBallots := by decide +kernel
  have lk10 : Cond.fieldLink RX1 94 "FallingLight$Triangle" "third" "I" ∈ wsX1_castBallots := by decide +kernel
  obtain ⟨hz1, hz2, hz3⟩ := id hz9
  refine lv_iconst (v := nI 0) hx hb dX1_castBallots_0 (by decide) ?_
  refine lv_istore_n (lv' := [(2, _), (0, _), (1, _)]) hx hb dX1_castBallots_1 rfl hl (by decide) rfl (fun ls hl => ?_)
  have lp2 : ∀ (n : Nat) (q : Nat) (V9 : Nat → Int32) (f9 : HF) (K9 : Nat → Nat → Int32) (H1 : Heap) (locs1 : List Loc) (ls1 : Array Slot), hW D (hA f sz) s.heap f9 H1 locs1 → co cA ad K9 G f9 → lv_has ls1 4 [(0, .ref (ad 3)), (1, .ref tz), (2, .int (nI q))] → (q ≤ gs.length) → (kp f f9) → (∀ j, j < 40 → K9 j = K j) → (vB K9 V9) → ((gs.drop q).foldl (vt1 (K 3 2) z) V9 = gs.foldl (vt1 (K 3 2) z) V0) → gs.length - q < n → W p l e ({ frames := 2, cells := 0, slots := 0, locals := 48 } : Room) s m ([.ref (ad 3), .ref tz]).toArray below meth c H1 locs1 0 0 (MQ below (va_Qv (fun f1 => ∃ K1, co cA ad K1 G f1 ∧ kp f f1 ∧ (∀ j, j < 40 → K1 j = K j) ∧ vB K1 (gs.foldl (vt1 (K 3 2) z) V0)) (hE D f sz) (hA f sz)) ([.ref (ad 3), .ref tz]).toArray s 0 0 (hA f sz)) (F0 m 2 ls1 []) := by
    intro n
    induction n with
    | zero => intros; omega
    | succ n ih2 =>
      intro q V9 f9 K9 H locs ls hw hc hl hq hkp hKn hvB htot hmu
      refine lv_iload_n hx hb dX1_castBallots_2 rfl (lv_at hl 2 rfl) ?_
      refine lv_aload_n hx hb dX1_castBallots_3 rfl (lv_at hl 0 rfl) ?_
      refine h_get C hw bX1 (co.a3 hc) lk1 3 (by decide) lk0 (v := .ref (ad 17)) rfl dX1_castBallots_4 ?_
      refine h_get C hw bX9 (co.a17 hc) lk3 1 (by decide) lk2 (v := .int (nI gs.length)) (congrArg (fun z => some (Value.int z)) ((congrFun (hKn 17 (by decide)) 0).trans hgl)) dX1_castBallots_7 ?_
      refine n_cge C (by omega) (by omega) (tgt := 95) dX1_castBallots_10 (by decide) (fun cq1 => ?_) (fun cq1 => ?_)
      · have hq9 : q = gs.length := by omega
        rw [hq9, List.drop_length, List.foldl_nil] at htot
        subst htot
        exact h_vret C hr hlk hw (⟨_, hc, hkp, hKn, hvB⟩) dX1_castBallots_95
      · obtain ⟨t, hgt⟩ : ∃ t, gs[q]? = some t := ⟨gs[q], List.getElem?_eq_getElem cq1⟩
        obtain ⟨tt, htt, hto⟩ := hgs q t hgt
        have hto9 := hkp _ _ _ (by omega) hto
        obtain ⟨hk1, hk2, hk3⟩ := hok t (List.mem_of_getElem? hgt)
        have hdr := dr_c hgt
        refine lv_aload_n hx hb dX1_castBallots_13 rfl (lv_at hl 0 rfl) ?_
        refine h_get C hw bX1 (co.a3 hc) lk1 3 (by decide) lk0 (v := .ref (ad 17)) rfl dX1_castBallots_14 ?_
        refine h_get C hw bX9 (co.a17 hc) lk3 0 (by decide) lk4 (v := .ref (ad 22)) rfl dX1_castBallots_17 ?_
        refine lv_iload_n hx hb dX1_castBallots_20 rfl (lv_at hl 2 rfl) ?_
        refine h_aldS C hw 7 rfl (co.a22 hc) htt (show q < 220 from (by omega)) (by first | omega | decide) dX1_castBallots_21 ?_
        refine lv_astore_n (lv' := [(3, _), (0, _), (1, _), (2, _)]) hx hb dX1_castBallots_22 rfl hl (by decide) rfl (fun ls hl => ?_)
        refine lv_aload_n hx hb dX1_castBallots_23 rfl (lv_at hl 2 rfl) ?_
        refine lv_aload_n hx hb dX1_castBallots_24 rfl (lv_at hl 0 rfl) ?_
        refine lv_aload_n hx hb dX1_castBallots_25 rfl (lv_at hl 1 rfl) ?_
        refine h_get C hw bX1 (co.a3 hc) lk1 9 (by decide) lk5 (v := .int (K 3 2)) (congrArg (fun z => some (Value.int z)) (congrFun (hKn 3 (by decide)) 2)) dX1_castBallots_26 ?_
        refine h_calli hw (h_runV (n := 2) (As := [.ref tt, .int (K 3 2)]) (rest := []) C hw (c_X8_isLike (hkp _ _ _ (by omega) hz) hto9) gX1_castBallots_X8_isLike rfl rfl rfl (by decide +kernel) ⟨by decide, by decide⟩ bX8 (hkp _ _ _ (by omega) hz) rfl hl.1 rfl (Nat.le_of_ble_eq_true rfl) dX1_castBallots_29 ⟨by first | decide | omega | (dsimp only; omega), by first | decide | omega | (dsimp only; omega)⟩) (fun r2 f3 H locs hp hw => ?_)
        obtain ⟨rfl, rfl⟩ := hp
        refine n_ifeqB C (tgt := 89) dX1_castBallots_32 (by decide) (fun cq4 => ?_) (fun cq4 => ?_)
        · refine n_iinc C (lv' := [(2, _), (3, _), (0, _), (1, _)]) dX1_castBallots_89 hl (k := 3) rfl (by decide) rfl (fun ls hl => ?_)
          refine lv_goto (tgt := 2) hx hb dX1_castBallots_92 (by decide) ?_
          exact ih2 (q + 1) V9 f9 K9 _ _ _ hw hc (lv_sub hl [2, 3, 0] rfl) (by omega) hkp hKn hvB (by rw [hdr, List.foldl_cons, vt1, if_neg cq4] at htot; exact htot) (by omega)
        · refine lv_aload_n hx hb dX1_castBallots_35 rfl (lv_at hl 1 rfl) ?_
          refine h_get C hw bX1 (co.a3 hc) lk1 4 (by decide) lk6 (v := .ref (ad 18)) rfl dX1_castBallots_36 ?_
          refine lv_aload_n hx hb dX1_castBallots_39 rfl (lv_at hl 2 rfl) ?_
          refine h_get C hw bX8 (hkp _ _ _ (by omega) hz) lk8 1 (by decide) lk7 (v := .int (nI z.1.1)) rfl dX1_castBallots_40 ?_
          refine h_aldM C hw (co.a18 hc) (if_pos (by omega)) (show z.1.1 < 10 from (by omega)) (by first | omega | decide) dX1_castBallots_43 ?_
          refine lv_aload_n hx hb dX1_castBallots_44 rfl (lv_at hl 0 rfl) ?_
          refine h_get C hw bX8 hto9 lk8 1 (by decide) lk7 (v := .int (nI t.1.1)) rfl dX1_castBallots_45 ?_
          refine lv_dup2_11 hx hb dX1_castBallots_48 rfl rfl ?_
          refine h_iald1 C hw (v := (K9 (40 + z.1.1)) t.1.1) (co.bal hc (show z.1.1 < 10 by omega)) rfl (show t.1.1 < 12 from (by omega)) (by first | omega | decide) dX1_castBallots_49 ?_
          refine lv_iconst (v := nI 1) hx hb dX1_castBallots_50 (by decide) ?_
          refine lv_iadd hx hb dX1_castBallots_51 ?_
          refine h_iast1 C hw (co.bal hc (show z.1.1 < 10 by omega)) (show t.1.1 < 12 from (by omega)) (by first | omega | decide) dX1_castBallots_52 (fun f5 H locs e6 hw => ?_)
          obtain ⟨K7, eK8, hc2⟩ := hc.upK (40 + z.1.1) (κ := upd (K9 (40 + z.1.1)) t.1.1 (((K9 (40 + z.1.1)) t.1.1) + (nI 1))) (e := eI cA 12 (upd (K9 (40 + z.1.1)) t.1.1 (((K9 (40 + z.1.1)) t.1.1) + (nI 1)))) (by omega) ((cell_bal (show z.1.1 < 10 by omega)).trans rfl)
          have hc3 := hc
          have k9 := up_o e6 (ne_kd (hkp _ _ _ (by omega) hz) (co.bal hc (show z.1.1 < 10 by omega)) (Nat.ne_of_beq_eq_false rfl)) (hkp _ _ _ (by omega) hz)
          have k10 := up_o e6 (ne_kd hto9 (co.bal hc (show z.1.1 < 10 by omega)) (Nat.ne_of_beq_eq_false rfl)) hto9
          have hc := hc2.of e6
          have kpK7 := kp_up hc3 (40 + z.1.1) (by omega) e6
          have kfK7 := kp.tr (kp_le (hle.rf _)) kpK7
          have kn11 : K7 17 0 = nI gs.length := by rw [eK8, va_up_ne _ _ (by first | decide | omega)]; exact ((congrFun (hKn 17 (by decide)) 0).trans hgl)
          refine lv_aload_n hx hb dX1_castBallots_53 rfl (lv_at hl 1 rfl) ?_
          refine h_get C hw bX1 (co.a3 hc) lk1 4 (by decide) lk6 (v := .ref (ad 18)) rfl dX1_castBallots_54 ?_
          refine lv_aload_n hx hb dX1_castBallots_57 rfl (lv_at hl 2 rfl) ?_
          refine h_get C hw bX8 k9 lk8 2 (by decide) lk9 (v := .int (nI z.1.2.1)) rfl dX1_castBallots_58 ?_
          refine h_aldM C hw (co.a18 hc) (if_pos (by omega)) (show z.1.2.1 < 10 from (by omega)) (by first | omega | decide) dX1_castBallots_61 ?_
          refine lv_aload_n hx hb dX1_castBallots_62 rfl (lv_at hl 0 rfl) ?_
          refine h_get C hw bX8 k10 lk8 2 (by decide) lk9 (v := .int (nI t.1.2.1)) rfl dX1_castBallots_63 ?_
          refine lv_dup2_11 hx hb dX1_castBallots_66 rfl rfl ?_
          refine h_iald1 C hw (v := (K7 (40 + z.1.2.1)) t.1.2.1) (co.bal hc (show z.1.2.1 < 10 by omega)) rfl (show t.1.2.1 < 12 from (by omega)) (by first | omega | decide) dX1_castBallots_67 ?_
          refine lv_iconst (v := nI 1) hx hb dX1_castBallots_68 (by decide) ?_
          refine lv_iadd hx hb dX1_castBallots_69 ?_
          refine h_iast1 C hw (co.bal hc (show z.1.2.1 < 10 by omega)) (show t.1.2.1 < 12 from (by omega)) (by first | omega | decide) dX1_castBallots_70 (fun f12 H locs e13 hw => ?_)
          obtain ⟨K14, eK15, hc2⟩ := hc.upK (40 + z.1.2.1) (κ := upd (K7 (40 + z.1.2.1)) t.1.2.1 (((K7 (40 + z.1.2.1)) t.1.2.1) + (nI 1))) (e := eI cA 12 (upd (K7 (40 + z.1.2.1)) t.1.2.1 (((K7 (40 + z.1.2.1)) t.1.2.1) + (nI 1)))) (by omega) ((cell_bal (show z.1.2.1 < 10 by omega)).trans rfl)
          have hc3 := hc
          have k16 := up_o e13 (ne_kd k9 (co.bal hc (show z.1.2.1 < 10 by omega)) (Nat.ne_of_beq_eq_false rfl)) k9
          have k17 := up_o e13 (ne_kd k10 (co.bal hc (show z.1.2.1 < 10 by omega)) (Nat.ne_of_beq_eq_false rfl)) k10
          have hc := hc2.of e13
          have kpK14 := kp_up hc3 (40 + z.1.2.1) (by omega) e13
          have kfK14 := kp.tr kfK7 kpK14
          have kn18 : K14 17 0 = nI gs.length := by rw [eK15, va_up_ne _ _ (by first | decide | omega)]; exact kn11
          refine lv_aload_n hx hb dX1_castBallots_71 rfl (lv_at hl 1 rfl) ?_
          refine h_get C hw bX1 (co.a3 hc) lk1 4 (by decide) lk6 (v := .ref (ad 18)) rfl dX1_castBallots_72 ?_
          refine lv_aload_n hx hb dX1_castBallots_75 rfl (lv_at hl 2 rfl) ?_
          refine h_get C hw bX8 k16 lk8 3 (by decide) lk10 (v := .int (nI z.1.2.2)) rfl dX1_castBallots_76 ?_
          refine h_aldM C hw (co.a18 hc) (if_pos (by omega)) (show z.1.2.2 < 10 from (by omega)) (by first | omega | decide) dX1_castBallots_79 ?_
          refine lv_aload_n hx hb dX1_castBallots_80 rfl (lv_at hl 0 rfl) ?_
          refine h_get C hw bX8 k17 lk8 3 (by decide) lk10 (v := .int (nI t.1.2.2)) rfl dX1_castBallots_81 ?_
          refine lv_dup2_11 hx hb dX1_castBallots_84 rfl rfl ?_
          refine h_iald1 C hw (v := (K14 (40 + z.1.2.2)) t.1.2.2) (co.bal hc (show z.1.2.2 < 10 by omega)) rfl (show t.1.2.2 < 12 from (by omega)) (by first | omega | decide) dX1_castBallots_85 ?_
          refine lv_iconst (v := nI 1) hx hb dX1_castBallots_86 (by decide) ?_
          refine lv_iadd hx hb dX1_castBallots_87 ?_
          refine h_iast1 C hw (co.bal hc (show z.1.2.2 < 10 by omega)) (show t.1.2.2 < 12 from (by omega)) (by first | omega | decide) dX1_castBallots_88 (fun f19 H locs e20 hw => ?_)
          obtain ⟨K21, eK22, hc2⟩ := hc.upK (40 + z.1.2.2) (κ := upd (K14 (40 + z.1.2.2)) t.1.2.2 (((K14 (40 + z.1.2.2)) t.1.2.2) + (nI 1))) (e := eI cA 12 (upd (K14 (40 + z.1.2.2)) t.1.2.2 (((K14 (40 + z.1.2.2)) t.1.2.2) + (nI 1)))) (by omega) ((cell_bal (show z.1.2.2 < 10 by omega)).trans rfl)
          have hc3 := hc
          have k23 := up_o e20 (ne_kd k16 (co.bal hc (show z.1.2.2 < 10 by omega)) (Nat.ne_of_beq_eq_false rfl)) k16
          have k24 := up_o e20 (ne_kd k17 (co.bal hc (show z.1.2.2 < 10 by omega)) (Nat.ne_of_beq_eq_false rfl)) k17
          have hc := hc2.of e20
          have kpK21 := kp_up hc3 (40 + z.1.2.2) (by omega) e20
          have kfK21 := kp.tr kfK14 kpK21
          have kn25 : K21 17 0 = nI gs.length := by rw [eK22, va_up_ne _ _ (by first | decide | omega)]; exact kn18
          refine n_iinc C (lv' := [(2, _), (3, _), (0, _), (1, _)]) dX1_castBallots_89 hl (k := 3) rfl (by decide) rfl (fun ls hl => ?_)
          refine lv_goto (tgt := 2) hx hb dX1_castBallots_92 (by decide) ?_
          exact ih2 (q + 1) (bmp (bmp (bmp V9 (12 * z.1.1 + t.1.1)) (12 * z.1.2.1 + t.1.2.1)) (12 * z.1.2.2 + t.1.2.2)) f19 K21 _ _ _ hw hc (lv_sub hl [2, 3, 0] rfl) (by omega) (hkp.tr kfK21) (fun jj hj => by rw [eK22, va_up_ne _ _ (by omega), eK15, va_up_ne _ _ (by omega), eK8, va_up_ne _ _ (by omega)]; exact hKn jj hj) (vB_b (vB_b (vB_b hvB (by omega) (by omega) eK8) (by omega) (by omega) eK15) (by omega) (by omega) eK22) (by rw [hdr, List.foldl_cons, vt1, if_pos cq4] at htot; exact htot) (by omega)
  exact lp2 _ 0 V0 f K _ _ _ hw hc (lv_sub hl [1, 2, 0] rfl) (Nat.zero_le _) (kp.rf f) (fun _ _ => rfl) hV rfl (Nat.lt_succ_self _)
set_option maxHeartbeats 4000000 in
set_option maxRecDepth 100000 in
theorem c_X1_countBallots {l : Launch} {D : va_G} {cA : Nat → ClassId} {f : HF} {sz : Nat} {ad : Nat → Nat} {K : KK} {G : GG} {zs gs : List GT}  (hc : co cA ad K G f) (hzl : K 16 0 = nI zs.length) (hzs : trH (G 21) f zs) (hgl : K 17 0 = nI gs.length) (hgs : trH (G 22) f gs) (hzo : ∀ t, t ∈ zs → okz t 10) (hok : ∀ t, t ∈ gs → okz t 12) (hlen : gs.length ≤ 220) (hlz : zs.length ≤ 120) : Met l yX1_countBallots wsX1_countBallots ({ frames := 3, cells := 0, slots := 0, locals := 71 } : Room) (va_Pc [.ref (ad 3)] (hB D cA f sz)) (va_Qv (fun f1 => ∃ K1, co cA ad K1 G f1 ∧ kp f f1 ∧ (∀ j, j < 40 → K1 j = K j) ∧ vB K1 (zs.foldl (fun V z => gs.foldl (vt1 (K 3 2) z) V) (fun _ => nI 0))) (hE D f sz) (hA f sz)) 0 0 (hA f sz) := by
  refine h_of (cc := cX1_countBallots) (maxL := 3) (ret := none) (by decide +kernel) rfl (Nat.le_of_ble_eq_true rfl) ?_
  intro p e s m below meth c ls C hr hlk hnm hw hl
  have hx := C.1.1
  have hb := C.1.2.1
  have hl : lv_has ls 3 [(0, .ref (ad 3))] := hl
  have lk0 : Cond.fieldLink RX1 23 "FallingLight$Matching" "spotTriangles" "LFallingLight$Triangles;" ∈ wsX1_countBallots := by decide +kernel
  have lk1 : ∀ w ∈ u_ws RX1 TX1 10, w ∈ wsX1_countBallots := by decide +kernel
  have lk2 : Cond.fieldLink RX1 73 "FallingLight$Triangles" "size" "I" ∈ wsX1_countBallots := by decide +kernel
  have lk3 : ∀ w ∈ u_ws RX9 TX9 2, w ∈ wsX1_countBallots := by decide +kernel
  have lk4 : Cond.fieldLink RX1 74 "FallingLight$Triangles" "row" "[LFallingLight$Triangle;" ∈ wsX1_countBallots := by decide +kernel
  have lk5 : Cond.fieldLink RX1 32 "FallingLight$Matching" "ballots" "[[I" ∈ wsX1_countBallots := by decide +kernel
  refine lv_iconst (v := nI 0) hx hb dX1_countBallots_0 (by decide) ?_
  refine lv_istore_n (lv' := [(1, _), (0, _)]) hx hb dX1_countBallots_1 rfl hl (by decide) rfl (fun ls hl => ?_)
  have lp2 : ∀ (n : Nat) (p2 : Nat) (f9 : HF) (K9 : Nat → Nat → Int32) (H1 : Heap) (locs1 : List Loc) (ls1 : Array Slot), hW D (hA f sz) s.heap f9 H1 locs1 → co cA ad K9 G f9 → lv_has ls1 3 [(0, .ref (ad 3)), (1, .int (nI p2))] → (p2 ≤ 10) → (kp f f9) → (∀ j, j < 40 → K9 j = K j) → (zr K9 p2 0) → 10 - p2 < n → W p l e ({ frames := 3, cells := 0, slots := 0, locals := 71 } : Room) s m ([.ref (ad 3)]).toArray below meth c H1 locs1 0 0 (MQ below (va_Qv (fun f1 => ∃ K1, co cA ad K1 G f1 ∧ kp f f1 ∧ (∀ j, j < 40 → K1 j = K j) ∧ vB K1 (zs.foldl (fun V z => gs.foldl (vt1 (K 3 2) z) V) (fun _ => nI 0))) (hE D f sz) (hA f sz)) ([.ref (ad 3)]).toArray s 0 0 (hA f sz)) (F0 m 2 ls1 []) := by
    intro n
    induction n with
    | zero => intros; omega
    | succ n ih2 =>
      intro p2 f9 K9 H locs ls hw hc hl hp2 hkp hKn hzr hmu
      refine lv_iload_n hx hb dX1_countBallots_2 rfl (lv_at hl 1 rfl) ?_
      refine lv_bipush (v := nI 10) hx hb dX1_countBallots_3 (by decide) ?_
      refine n_cge C (by omega) (by omega) (tgt := 37) dX1_countBallots_5 (by decide) (fun cq1 => ?_) (fun cq1 => ?_)
      · refine lv_iconst (v := nI 0) hx hb dX1_countBallots_37 (by decide) ?_
        refine lv_istore_n (lv' := [(1, _), (0, _)]) hx hb dX1_countBallots_38 rfl hl (by decide) rfl (fun ls hl => ?_)
        have lp39 : ∀ (n : Nat) (q : Nat) (V9 : Nat → Int32) (f9 : HF) (K9 : Nat → Nat → Int32) (H1 : Heap) (locs1 : List Loc) (ls1 : Array Slot), hW D (hA f sz) s.heap f9 H1 locs1 → co cA ad K9 G f9 → lv_has ls1 3 [(0, .ref (ad 3)), (1, .int (nI q))] → (q ≤ zs.length) → (kp f f9) → (∀ j, j < 40 → K9 j = K j) → (vB K9 V9) → ((zs.drop q).foldl (fun V z => gs.foldl (vt1 (K 3 2) z) V) V9 = zs.foldl (fun V z => gs.foldl (vt1 (K 3 2) z) V) (fun _ => nI 0)) → zs.length - q < n → W p l e ({ frames := 3, cells := 0, slots := 0, locals := 71 } : Room) s m ([.ref (ad 3)]).toArray below meth c H1 locs1 0 0 (MQ below (va_Qv (fun f1 => ∃ K1, co cA ad K1 G f1 ∧ kp f f1 ∧ (∀ j, j < 40 → K1 j = K j) ∧ vB K1 (zs.foldl (fun V z => gs.foldl (vt1 (K 3 2) z) V) (fun _ => nI 0))) (hE D f sz) (hA f sz)) ([.ref (ad 3)]).toArray s 0 0 (hA f sz)) (F0 m 39 ls1 []) := by
          intro n
          induction n with
          | zero => intros; omega
          | succ n ih39 =>
            intro q V9 f9 K9 H locs ls hw hc hl hq hkp hKn hvB htot hmu
            refine lv_iload_n hx hb dX1_countBallots_39 rfl (lv_at hl 1 rfl) ?_
            refine lv_aload_n hx hb dX1_countBallots_40 rfl (lv_at hl 0 rfl) ?_
            refine h_get C hw bX1 (co.a3 hc) lk1 2 (by decide) lk0 (v := .ref (ad 16)) rfl dX1_countBallots_41 ?_
            refine h_get C hw bX9 (co.a16 hc) lk3 1 (by decide) lk2 (v := .int (nI zs.length)) (congrArg (fun z => some (Value.int z)) ((congrFun (hKn 16 (by decide)) 0).trans hzl)) dX1_countBallots_44 ?_
            refine n_cge C (by omega) (by omega) (tgt := 69) dX1_countBallots_47 (by decide) (fun cq2 => ?_) (fun cq2 => ?_)
            · have hq9 : q = zs.length := by omega
              rw [hq9, List.drop_length, List.foldl_nil] at htot
              subst htot
              exact h_vret C hr hlk hw (⟨_, hc, hkp, hKn, hvB⟩) dX1_countBallots_69
            · obtain ⟨z, hgz⟩ : ∃ z, zs[q]? = some z := ⟨zs[q], List.getElem?_eq_getElem cq2⟩
              obtain ⟨tzz, htz, htzo⟩ := hzs q z hgz
              have hzk := hzo z (List.mem_of_getElem? hgz)
              have hdr := dr_c hgz
              refine lv_aload_n hx hb dX1_countBallots_50 rfl (lv_at hl 0 rfl) ?_
              refine lv_aload_n hx hb dX1_countBallots_51 rfl (lv_at hl 0 rfl) ?_
              refine h_get C hw bX1 (co.a3 hc) lk1 2 (by decide) lk0 (v := .ref (ad 16)) rfl dX1_countBallots_52 ?_
              refine h_get C hw bX9 (co.a16 hc) lk3 0 (by decide) lk4 (v := .ref (ad 21)) rfl dX1_countBallots_55 ?_
              refine lv_iload_n hx hb dX1_countBallots_58 rfl (lv_at hl 1 rfl) ?_
              refine h_aldS C hw 7 rfl (co.a21 hc) htz (show q < 120 from (by omega)) (by first | omega | decide) dX1_countBallots_59 ?_
              refine h_callv hw (h_runV (n := 1) (As := [.ref tzz]) (rest := []) C hw (c_X1_castBallots hc ((congrFun (hKn 17 (by decide)) 0).trans hgl) (hgs.up hkp) (hkp _ _ _ (by omega) htzo) hzk hok hlen hvB) gX1_countBallots_X1_castBallots rfl rfl rfl (by decide +kernel) ⟨by decide, by decide⟩ bX1 (co.a3 hc) rfl hl.1 rfl (Nat.le_of_ble_eq_true rfl) dX1_countBallots_60 ⟨by first | decide | omega | (dsimp only; omega), by first | decide | omega | (dsimp only; omega)⟩) (fun  f3 H locs hp hw => ?_)
              obtain ⟨K4, hc, kpK4, knK4, vbK4⟩ := hp
              refine n_iinc C (lv' := [(1, _), (0, _)]) dX1_countBallots_63 hl (k := 1) rfl (by decide) rfl (fun ls hl => ?_)
              refine lv_goto (tgt := 39) hx hb dX1_countBallots_66 (by decide) ?_
              exact ih39 (q + 1) _ f3 K4 _ _ _ hw hc (lv_sub hl [1, 0] rfl) (by omega) (hkp.tr kpK4) (fun jj hj => (knK4 jj hj).trans (hKn jj hj)) vbK4 (by rw [hdr, List.foldl_cons] at htot; rw [congrFun (hKn 3 (by decide)) 2]; exact htot) (by omega)
        exact lp39 _ 0 (fun _ => nI 0) f9 K9 _ _ _ hw hc (lv_sub hl [1, 0] rfl) (Nat.zero_le _) hkp hKn (fun a b h1 h2 => hzr a b h1 h2 (by omega)) rfl (Nat.lt_succ_self _)
      · refine lv_iconst (v := nI 0) hx hb dX1_countBallots_8 (by decide) ?_
        refine lv_istore_n (lv' := [(2, _), (0, _), (1, _)]) hx hb dX1_countBallots_9 rfl hl (by decide) rfl (fun ls hl => ?_)
        have lp10 : ∀ (n : Nat) (s2 : Nat) (f9 : HF) (K9 : Nat → Nat → Int32) (H1 : Heap) (locs1 : List Loc) (ls1 : Array Slot), hW D (hA f sz) s.heap f9 H1 locs1 → co cA ad K9 G f9 → lv_has ls1 3 [(0, .ref (ad 3)), (1, .int (nI p2)), (2, .int (nI s2))] → (s2 ≤ 12) → (kp f f9) → (∀ j, j < 40 → K9 j = K j) → (zr K9 p2 s2) → 12 - s2 < n → W p l e ({ frames := 3, cells := 0, slots := 0, locals := 71 } : Room) s m ([.ref (ad 3)]).toArray below meth c H1 locs1 0 0 (MQ below (va_Qv (fun f1 => ∃ K1, co cA ad K1 G f1 ∧ kp f f1 ∧ (∀ j, j < 40 → K1 j = K j) ∧ vB K1 (zs.foldl (fun V z => gs.foldl (vt1 (K 3 2) z) V) (fun _ => nI 0))) (hE D f sz) (hA f sz)) ([.ref (ad 3)]).toArray s 0 0 (hA f sz)) (F0 m 10 ls1 []) := by
          intro n
          induction n with
          | zero => intros; omega
          | succ n ih10 =>
            intro s2 f9 K9 H locs ls hw hc hl hs2 hkp hKn hzr hmu
            refine lv_iload_n hx hb dX1_countBallots_10 rfl (lv_at hl 2 rfl) ?_
            refine lv_bipush (v := nI 12) hx hb dX1_countBallots_11 (by decide) ?_
            refine n_cge C (by omega) (by omega) (tgt := 31) dX1_countBallots_13 (by decide) (fun cq5 => ?_) (fun cq5 => ?_)
            · refine n_iinc C (lv' := [(1, _), (0, _), (2, _)]) dX1_countBallots_31 hl (k := 1) rfl (by decide) rfl (fun ls hl => ?_)
              refine lv_goto (tgt := 2) hx hb dX1_countBallots_34 (by decide) ?_
              exact ih2 (p2 + 1) f9 K9 _ _ _ hw hc (lv_sub hl [1, 0] rfl) (by omega) hkp hKn (fun a b h1 h2 h3 => hzr a b h1 h2 (by omega)) (by omega)
            · refine lv_aload_n hx hb dX1_countBallots_16 rfl (lv_at hl 0 rfl) ?_
              refine h_get C hw bX1 (co.a3 hc) lk1 4 (by decide) lk5 (v := .ref (ad 18)) rfl dX1_countBallots_17 ?_
              refine lv_iload_n hx hb dX1_countBallots_20 rfl (lv_at hl 1 rfl) ?_
              refine h_aldM C hw (co.a18 hc) (if_pos (by omega)) (show p2 < 10 from (by omega)) (by first | omega | decide) dX1_countBallots_21 ?_
              refine lv_iload_n hx hb dX1_countBallots_22 rfl (lv_at hl 2 rfl) ?_
              refine lv_iconst (v := nI 0) hx hb dX1_countBallots_23 (by decide) ?_
              refine h_iast1 C hw (co.bal hc (show p2 < 10 by omega)) (show s2 < 12 from (by omega)) (by first | omega | decide) dX1_countBallots_24 (fun f6 H locs e7 hw => ?_)
              obtain ⟨K8, eK9, hc2⟩ := hc.upK (40 + p2) (κ := upd (K9 (40 + p2)) s2 (nI 0)) (e := eI cA 12 (upd (K9 (40 + p2)) s2 (nI 0))) (by omega) ((cell_bal (show p2 < 10 by omega)).trans rfl)
              have hc3 := hc
              have hc := hc2.of e7
              have kpK8 := kp_up hc3 (40 + p2) (by omega) e7
              have kfK8 := kp.tr (kp_le (hle.rf _)) kpK8
              refine n_iinc C (lv' := [(2, _), (0, _), (1, _)]) dX1_countBallots_25 hl (k := 2) rfl (by decide) rfl (fun ls hl => ?_)
              refine lv_goto (tgt := 10) hx hb dX1_countBallots_28 (by decide) ?_
              exact ih10 (s2 + 1) f6 K8 _ _ _ hw hc (lv_sub hl [1, 2, 0] rfl) (by omega) (hkp.tr kfK8) (fun jj hj => by rw [eK9, va_up_ne _ _ (by omega)]; exact hKn jj hj) (zr_s hzr eK9) (by omega)
        exact lp10 _ 0 f9 K9 _ _ _ hw hc (lv_sub hl [1, 2, 0] rfl) (by omega) hkp hKn hzr (Nat.lt_succ_self _)
  exact lp2 _ 0 f K _ _ _ hw hc (lv_sub hl [1, 0] rfl) (by omega) (kp.rf f) (fun _ _ => rfl) (fun a b h1 h2 h3 => absurd h3 (by omega)) (Nat.lt_succ_self _)
set_option maxHeartbeats 4000000 in
set_option maxRecDepth 100000 in
theorem c_X1_isAlone {l : Launch} {D : va_G} {cA : Nat → ClassId} {f : HF} {sz : Nat} {ad : Nat → Nat} {K : KK} {G : GG} {V : Nat → Int32} {ns nt p1 b1 : Nat}  (hc : co cA ad K G f) (hvB : vB K V) (hKs : K 2 0 = nI ns) (hKt : K 1 0 = nI nt) (hns2 : ns ≤ 10) (hnt2 : nt ≤ 12) (hp1 : p1 < 10) (hb1 : b1 < 12) : Met l yX1_isAlone wsX1_isAlone ({ frames := 0, cells := 0, slots := 0, locals := 0 } : Room) (va_Pc [.ref (ad 3), .int (nI p1), .int (nI b1)] (hB D cA f sz)) (va_Qi (fun r f1 => bI (alP V ns nt p1 b1) = r ∧ f = f1) (hE D f sz) (hA f sz)) 0 0 (hA f sz) := by
  refine h_of (cc := cX1_isAlone) (maxL := 5) (ret := (some .boolean)) (by decide +kernel) rfl (Nat.le_of_ble_eq_true rfl) ?_
  intro p e s m below meth c ls C hr hlk hnm hw hl
  have hx := C.1.1
  have hb := C.1.2.1
  have hl : lv_has ls 5 [(0, .ref (ad 3)), (1, .int (nI p1)), (2, .int (nI b1))] := hl
  have lk0 : Cond.fieldLink RX1 32 "FallingLight$Matching" "ballots" "[[I" ∈ wsX1_isAlone := by decide +kernel
  have lk1 : ∀ w ∈ u_ws RX1 TX1 10, w ∈ wsX1_isAlone := by decide +kernel
  have lk2 : Cond.fieldLink RX1 15 "FallingLight$Matching" "stars" "LFallingLight$Points;" ∈ wsX1_isAlone := by decide +kernel
  have lk3 : Cond.fieldLink RX1 60 "FallingLight$Points" "size" "I" ∈ wsX1_isAlone := by decide +kernel
  have lk4 : ∀ w ∈ u_ws RX4 TX4 4, w ∈ wsX1_isAlone := by decide +kernel
  have lk5 : Cond.fieldLink RX1 9 "FallingLight$Matching" "spots" "LFallingLight$Points;" ∈ wsX1_isAlone := by decide +kernel
  refine lv_aload_n hx hb dX1_isAlone_0 rfl (lv_at hl 0 rfl) ?_
  refine h_get C hw bX1 (co.a3 hc) lk1 4 (by decide) lk0 (v := .ref (ad 18)) rfl dX1_isAlone_1 ?_
  refine lv_iload_n hx hb dX1_isAlone_4 rfl (lv_at hl 1 rfl) ?_
  refine h_aldM C hw (co.a18 hc) (if_pos (by omega)) (show p1 < 10 from (by omega)) (by first | omega | decide) dX1_isAlone_5 ?_
  refine lv_iload_n hx hb dX1_isAlone_6 rfl (lv_at hl 2 rfl) ?_
  refine h_iald1 C hw (v := V (12 * p1 + b1)) (co.bal hc (show p1 < 10 by omega)) (hvB p1 b1 (by omega) (by omega)) (show b1 < 12 from (by omega)) (by first | omega | decide) dX1_isAlone_7 ?_
  refine lv_istore_n (lv' := [(3, _), (0, _), (1, _), (2, _)]) hx hb dX1_isAlone_8 rfl hl (by decide) rfl (fun ls hl => ?_)
  refine lv_iconst (v := nI 0) hx hb dX1_isAlone_9 (by decide) ?_
  refine lv_istore (lv' := [(4, _), (3, _), (0, _), (1, _), (2, _)]) hx hb dX1_isAlone_10 hl (by decide) rfl (fun ls hl => ?_)
  have lp12 : ∀ (n : Nat) (j : Nat) (H1 : Heap) (locs1 : List Loc) (ls1 : Array Slot), hW D (hA f sz) s.heap f H1 locs1 → lv_has ls1 5 [(0, .ref (ad 3)), (1, .int (nI p1)), (2, .int (nI b1)), (3, .int (V (12 * p1 + b1))), (4, .int (nI j))] → (j ≤ nt) → (∀ j9, j9 < j → ¬ j9 = b1 → V (12 * p1 + j9) < V (12 * p1 + b1)) → nt - j < n → W p l e ({ frames := 0, cells := 0, slots := 0, locals := 0 } : Room) s m ([.ref (ad 3), .int (nI p1), .int (nI b1)]).toArray below meth c H1 locs1 0 0 (MQ below (va_Qi (fun r f1 => bI (alP V ns nt p1 b1) = r ∧ f = f1) (hE D f sz) (hA f sz)) ([.ref (ad 3), .int (nI p1), .int (nI b1)]).toArray s 0 0 (hA f sz)) (F0 m 12 ls1 []) := by
    intro n
    induction n with
    | zero => intros; omega
    | succ n ih12 =>
      intro j H locs ls hw hl hj hall hmu
      refine lv_iload hx hb dX1_isAlone_12 (lv_at hl 4 rfl) ?_
      refine lv_aload_n hx hb dX1_isAlone_14 rfl (lv_at hl 0 rfl) ?_
      refine h_get C hw bX1 (co.a3 hc) lk1 1 (by decide) lk2 (v := .ref (ad 1)) rfl dX1_isAlone_15 ?_
      refine h_get C hw bX4 (co.a1 hc) lk4 3 (by decide) lk3 (v := .int (nI nt)) (congrArg (fun z => some (Value.int z)) hKt) dX1_isAlone_18 ?_
      refine n_cge C (by omega) (by omega) (tgt := 51) dX1_isAlone_21 (by decide) (fun cq1 => ?_) (fun cq1 => ?_)
      · have hrow : ∀ j, j < nt → ¬ j = b1 → V (12 * p1 + j) < V (12 * p1 + b1) := fun j9 h9 => hall j9 (by omega)
        refine lv_iconst (v := nI 0) hx hb dX1_isAlone_51 (by decide) ?_
        refine lv_istore (lv' := [(4, _), (0, _), (1, _), (2, _), (3, _)]) hx hb dX1_isAlone_52 hl (by decide) rfl (fun ls hl => ?_)
        have lp54 : ∀ (n : Nat) (j : Nat) (H1 : Heap) (locs1 : List Loc) (ls1 : Array Slot), hW D (hA f sz) s.heap f H1 locs1 → lv_has ls1 5 [(0, .ref (ad 3)), (1, .int (nI p1)), (2, .int (nI b1)), (3, .int (V (12 * p1 + b1))), (4, .int (nI j))] → (j ≤ ns) → (∀ j9, j9 < j → ¬ j9 = p1 → V (12 * j9 + b1) < V (12 * p1 + b1)) → ns - j < n → W p l e ({ frames := 0, cells := 0, slots := 0, locals := 0 } : Room) s m ([.ref (ad 3), .int (nI p1), .int (nI b1)]).toArray below meth c H1 locs1 0 0 (MQ below (va_Qi (fun r f1 => bI (alP V ns nt p1 b1) = r ∧ f = f1) (hE D f sz) (hA f sz)) ([.ref (ad 3), .int (nI p1), .int (nI b1)]).toArray s 0 0 (hA f sz)) (F0 m 54 ls1 []) := by
          intro n
          induction n with
          | zero => intros; omega
          | succ n ih54 =>
            intro j H locs ls hw hl hj hall hmu
            refine lv_iload hx hb dX1_isAlone_54 (lv_at hl 4 rfl) ?_
            refine lv_aload_n hx hb dX1_isAlone_56 rfl (lv_at hl 0 rfl) ?_
            refine h_get C hw bX1 (co.a3 hc) lk1 0 (by decide) lk5 (v := .ref (ad 2)) rfl dX1_isAlone_57 ?_
            refine h_get C hw bX4 (co.a2 hc) lk4 3 (by decide) lk3 (v := .int (nI ns)) (congrArg (fun z => some (Value.int z)) hKs) dX1_isAlone_60 ?_
            refine n_cge C (by omega) (by omega) (tgt := 93) dX1_isAlone_63 (by decide) (fun cq2 => ?_) (fun cq2 => ?_)
            · refine lv_iconst (v := nI 1) hx hb dX1_isAlone_93 (by decide) ?_
              exact h_zret C hr (by first | rfl | decide) hlk hw (⟨bI_t ⟨hrow, fun j hj hn => hall j (by omega) hn⟩, rfl⟩) dX1_isAlone_94
            · refine lv_iload hx hb dX1_isAlone_66 (lv_at hl 4 rfl) ?_
              refine lv_iload_n hx hb dX1_isAlone_68 rfl (lv_at hl 1 rfl) ?_
              refine n_ceq C (by omega) (by omega) (tgt := 87) dX1_isAlone_69 (by decide) (fun cq3 => ?_) (fun cq3 => ?_)
              · refine n_iinc C (lv' := [(4, _), (0, _), (1, _), (2, _), (3, _)]) dX1_isAlone_87 hl (k := 4) rfl (by decide) rfl (fun ls hl => ?_)
                refine lv_goto (tgt := 54) hx hb dX1_isAlone_90 (by decide) ?_
                exact ih54 (j + 1) _ _ _ hw (lv_sub hl [1, 2, 3, 4, 0] rfl) (by omega) (fun j9 h9 hn9 => (Nat.lt_succ_iff_lt_or_eq.mp h9).elim (fun e9 => hall j9 e9 hn9) (fun e9 => absurd (e9.trans cq3) hn9)) (by omega)
              · refine lv_aload_n hx hb dX1_isAlone_72 rfl (lv_at hl 0 rfl) ?_
                refine h_get C hw bX1 (co.a3 hc) lk1 4 (by decide) lk0 (v := .ref (ad 18)) rfl dX1_isAlone_73 ?_
                refine lv_iload hx hb dX1_isAlone_76 (lv_at hl 4 rfl) ?_
                refine h_aldM C hw (co.a18 hc) (if_pos (by omega)) (show j < 10 from (by omega)) (by first | omega | decide) dX1_isAlone_78 ?_
                refine lv_iload_n hx hb dX1_isAlone_79 rfl (lv_at hl 2 rfl) ?_
                refine h_iald1 C hw (v := V (12 * j + b1)) (co.bal hc (show j < 10 by omega)) (hvB j b1 (by omega) (by omega)) (show b1 < 12 from (by omega)) (by first | omega | decide) dX1_isAlone_80 ?_
                refine lv_iload_n hx hb dX1_isAlone_81 rfl (lv_at hl 3 rfl) ?_
                refine lv_icmp_lt (tgt := 87) hx hb dX1_isAlone_82 (by decide) (fun cq4 => ?_) (fun cq4 => ?_)
                · refine n_iinc C (lv' := [(4, _), (0, _), (1, _), (2, _), (3, _)]) dX1_isAlone_87 hl (k := 4) rfl (by decide) rfl (fun ls hl => ?_)
                  refine lv_goto (tgt := 54) hx hb dX1_isAlone_90 (by decide) ?_
                  exact ih54 (j + 1) _ _ _ hw (lv_sub hl [1, 2, 3, 4, 0] rfl) (by omega) (fun j9 h9 hn9 => (Nat.lt_succ_iff_lt_or_eq.mp h9).elim (fun e9 => hall j9 e9 hn9) (fun e9 => by rw [e9]; exact cq4)) (by omega)
                · refine lv_iconst (v := nI 0) hx hb dX1_isAlone_85 (by decide) ?_
                  exact h_zret C hr (by first | rfl | decide) hlk hw (⟨bI_f (fun h9 => cq4 (h9.2 j (by omega) cq3)), rfl⟩) dX1_isAlone_86
        exact lp54 _ 0 _ _ _ hw (lv_sub hl [1, 2, 3, 4, 0] rfl) (by omega) (fun j9 h9 => absurd h9 (by omega)) (Nat.lt_succ_self _)
      · refine lv_iload hx hb dX1_isAlone_24 (lv_at hl 4 rfl) ?_
        refine lv_iload_n hx hb dX1_isAlone_26 rfl (lv_at hl 2 rfl) ?_
        refine n_ceq C (by omega) (by omega) (tgt := 45) dX1_isAlone_27 (by decide) (fun cq5 => ?_) (fun cq5 => ?_)
        · refine n_iinc C (lv' := [(4, _), (0, _), (1, _), (2, _), (3, _)]) dX1_isAlone_45 hl (k := 4) rfl (by decide) rfl (fun ls hl => ?_)
          refine lv_goto (tgt := 12) hx hb dX1_isAlone_48 (by decide) ?_
          exact ih12 (j + 1) _ _ _ hw (lv_sub hl [1, 2, 3, 4, 0] rfl) (by omega) (fun j9 h9 hn9 => (Nat.lt_succ_iff_lt_or_eq.mp h9).elim (fun e9 => hall j9 e9 hn9) (fun e9 => absurd (e9.trans cq5) hn9)) (by omega)
        · refine lv_aload_n hx hb dX1_isAlone_30 rfl (lv_at hl 0 rfl) ?_
          refine h_get C hw bX1 (co.a3 hc) lk1 4 (by decide) lk0 (v := .ref (ad 18)) rfl dX1_isAlone_31 ?_
          refine lv_iload_n hx hb dX1_isAlone_34 rfl (lv_at hl 1 rfl) ?_
          refine h_aldM C hw (co.a18 hc) (if_pos (by omega)) (show p1 < 10 from (by omega)) (by first | omega | decide) dX1_isAlone_35 ?_
          refine lv_iload hx hb dX1_isAlone_36 (lv_at hl 4 rfl) ?_
          refine h_iald1 C hw (v := V (12 * p1 + j)) (co.bal hc (show p1 < 10 by omega)) (hvB p1 j (by omega) (by omega)) (show j < 12 from (by omega)) (by first | omega | decide) dX1_isAlone_38 ?_
          refine lv_iload_n hx hb dX1_isAlone_39 rfl (lv_at hl 3 rfl) ?_
          refine lv_icmp_lt (tgt := 45) hx hb dX1_isAlone_40 (by decide) (fun cq6 => ?_) (fun cq6 => ?_)
          · refine n_iinc C (lv' := [(4, _), (0, _), (1, _), (2, _), (3, _)]) dX1_isAlone_45 hl (k := 4) rfl (by decide) rfl (fun ls hl => ?_)
            refine lv_goto (tgt := 12) hx hb dX1_isAlone_48 (by decide) ?_
            exact ih12 (j + 1) _ _ _ hw (lv_sub hl [1, 2, 3, 4, 0] rfl) (by omega) (fun j9 h9 hn9 => (Nat.lt_succ_iff_lt_or_eq.mp h9).elim (fun e9 => hall j9 e9 hn9) (fun e9 => by rw [e9]; exact cq6)) (by omega)
          · refine lv_iconst (v := nI 0) hx hb dX1_isAlone_43 (by decide) ?_
            exact h_zret C hr (by first | rfl | decide) hlk hw (⟨bI_f (fun h9 => cq6 (h9.1 j (by omega) cq5)), rfl⟩) dX1_isAlone_44
  exact lp12 _ 0 _ _ _ hw (lv_sub hl [2, 3, 4, 1, 0] rfl) (by omega) (fun j9 h9 => absurd h9 (by omega)) (Nat.lt_succ_self _)
set_option maxHeartbeats 4000000 in
set_option maxRecDepth 100000 in
theorem c_X1_partnerOf {l : Launch} {D : va_G} {cA : Nat → ClassId} {f : HF} {sz : Nat} {ad : Nat → Nat} {K : KK} {G : GG} {V : Nat → Int32} {ns nt p1 : Nat}  (hc : co cA ad K G f) (hvB : vB K V) (hKs : K 2 0 = nI ns) (hKt : K 1 0 = nI nt) (hns2 : ns ≤ 10) (hnt2 : nt ≤ 12) (hp1 : p1 < ns) : Met l yX1_partnerOf wsX1_partnerOf ({ frames := 1, cells := 0, slots := 0, locals := 24 } : Room) (va_Pc [.ref (ad 3), .int (nI p1)] (hB D cA f sz)) (va_Qi (fun r f1 => oI (mtF V ns nt p1) = r ∧ f = f1) (hE D f sz) (hA f sz)) 0 0 (hA f sz) := by
  refine h_of (cc := cX1_partnerOf) (maxL := 5) (ret := (some .int)) (by decide +kernel) rfl (Nat.le_of_ble_eq_true rfl) ?_
  intro p e s m below meth c ls C hr hlk hnm hw hl
  have hx := C.1.1
  have hb := C.1.2.1
  have hl : lv_has ls 5 [(0, .ref (ad 3)), (1, .int (nI p1))] := hl
  have lk0 : Cond.fieldLink RX1 15 "FallingLight$Matching" "stars" "LFallingLight$Points;" ∈ wsX1_partnerOf := by decide +kernel
  have lk1 : ∀ w ∈ u_ws RX1 TX1 10, w ∈ wsX1_partnerOf := by decide +kernel
  have lk2 : Cond.fieldLink RX1 60 "FallingLight$Points" "size" "I" ∈ wsX1_partnerOf := by decide +kernel
  have lk3 : ∀ w ∈ u_ws RX4 TX4 4, w ∈ wsX1_partnerOf := by decide +kernel
  have lk4 : Cond.fieldLink RX1 32 "FallingLight$Matching" "ballots" "[[I" ∈ wsX1_partnerOf := by decide +kernel
  refine lv_iconst (v := (-1)) hx hb dX1_partnerOf_0 (by decide) ?_
  refine lv_istore_n (lv' := [(2, _), (0, _), (1, _)]) hx hb dX1_partnerOf_1 rfl hl (by decide) rfl (fun ls hl => ?_)
  refine lv_iconst (v := nI 1) hx hb dX1_partnerOf_2 (by decide) ?_
  refine lv_istore_n (lv' := [(3, _), (2, _), (0, _), (1, _)]) hx hb dX1_partnerOf_3 rfl hl (by decide) rfl (fun ls hl => ?_)
  refine lv_iconst (v := nI 0) hx hb dX1_partnerOf_4 (by decide) ?_
  refine lv_istore (lv' := [(4, _), (3, _), (2, _), (0, _), (1, _)]) hx hb dX1_partnerOf_5 hl (by decide) rfl (fun ls hl => ?_)
  have lp7 : ∀ (n : Nat) (k : Nat) (o1 : Option Nat) (m1 : Int32) (H1 : Heap) (locs1 : List Loc) (ls1 : Array Slot), hW D (hA f sz) s.heap f H1 locs1 → lv_has ls1 5 [(0, .ref (ad 3)), (1, .int (nI p1)), (2, .int (oI o1)), (3, .int m1), (4, .int (nI k))] → (k ≤ nt) → (paI V p1 k o1 m1) → nt - k < n → W p l e ({ frames := 1, cells := 0, slots := 0, locals := 24 } : Room) s m ([.ref (ad 3), .int (nI p1)]).toArray below meth c H1 locs1 0 0 (MQ below (va_Qi (fun r f1 => oI (mtF V ns nt p1) = r ∧ f = f1) (hE D f sz) (hA f sz)) ([.ref (ad 3), .int (nI p1)]).toArray s 0 0 (hA f sz)) (F0 m 7 ls1 []) := by
    intro n
    induction n with
    | zero => intros; omega
    | succ n ih7 =>
      intro k o1 m1 H locs ls hw hl hk hpa hmu
      refine lv_iload hx hb dX1_partnerOf_7 (lv_at hl 4 rfl) ?_
      refine lv_aload_n hx hb dX1_partnerOf_9 rfl (lv_at hl 0 rfl) ?_
      refine h_get C hw bX1 (co.a3 hc) lk1 1 (by decide) lk0 (v := .ref (ad 1)) rfl dX1_partnerOf_10 ?_
      refine h_get C hw bX4 (co.a1 hc) lk3 3 (by decide) lk2 (v := .int (nI nt)) (congrArg (fun z => some (Value.int z)) hKt) dX1_partnerOf_13 ?_
      refine n_cge C (by omega) (by omega) (tgt := 51) dX1_partnerOf_16 (by decide) (fun cq1 => ?_) (fun cq1 => ?_)
      · have hk9 : k = nt := by omega
        rw [hk9] at hpa
        refine lv_iload_n hx hb dX1_partnerOf_51 rfl (lv_at hl 2 rfl) ?_
        refine lv_if_lt (tgt := 68) hx hb dX1_partnerOf_52 (by decide) (fun cq2 => ?_) (fun cq2 => ?_)
        · have ho9 := oI_lt (fun b h9 => by rcases hpa with ⟨q1, -⟩ | ⟨b2, q1, q2, -⟩; (rw [q1] at h9; cases h9); (rw [q1] at h9; cases h9; omega)) cq2
          subst ho9
          refine lv_iconst (v := (-1)) hx hb dX1_partnerOf_68 (by decide) ?_
          exact h_iret C hr hlk hw (⟨by rw [pa_e0 hpa]; rfl, rfl⟩) dX1_partnerOf_69
        · obtain ⟨b9, hb9, hbI⟩ := oI_nn cq2
          subst hb9
          have hb12 : b9 < 12 := by rcases hpa with ⟨q1, -⟩ | ⟨b2, q1, q2, -⟩; (cases q1); (cases q1; omega)
          refine lv_aload_n hx hb dX1_partnerOf_55 rfl (lv_at hl 0 rfl) ?_
          refine lv_iload_n hx hb dX1_partnerOf_56 rfl (lv_at hl 1 rfl) ?_
          refine lv_iload_n hx hb dX1_partnerOf_57 rfl (lv_at hl 2 rfl) ?_
          refine h_calli hw (h_runV (n := 2) (As := [.int (nI p1), .int (nI b9)]) (rest := []) C hw (c_X1_isAlone hc hvB hKs hKt hns2 hnt2 (by omega) (by omega)) gX1_partnerOf_X1_isAlone rfl rfl rfl (by decide +kernel) ⟨by decide, by decide⟩ bX1 (co.a3 hc) rfl hl.1 rfl (Nat.le_of_ble_eq_true rfl) dX1_partnerOf_58 ⟨by first | decide | omega | (dsimp only; omega), by first | decide | omega | (dsimp only; omega)⟩) (fun r3 f4 H locs hp hw => ?_)
          obtain ⟨rfl, rfl⟩ := hp
          refine n_ifeqB C (tgt := 68) dX1_partnerOf_61 (by decide) (fun cq5 => ?_) (fun cq5 => ?_)
          · refine lv_iconst (v := (-1)) hx hb dX1_partnerOf_68 (by decide) ?_
            exact h_iret C hr hlk hw (⟨by rw [(pa_e1 hpa).2 cq5]; rfl, rfl⟩) dX1_partnerOf_69
          · refine lv_iload_n hx hb dX1_partnerOf_64 rfl (lv_at hl 2 rfl) ?_
            refine lv_goto (tgt := 69) hx hb dX1_partnerOf_65 (by decide) ?_
            exact h_iret C hr hlk hw (⟨by rw [(pa_e1 hpa).1 cq5] <;> rfl, rfl⟩) dX1_partnerOf_69
      · refine lv_aload_n hx hb dX1_partnerOf_19 rfl (lv_at hl 0 rfl) ?_
        refine h_get C hw bX1 (co.a3 hc) lk1 4 (by decide) lk4 (v := .ref (ad 18)) rfl dX1_partnerOf_20 ?_
        refine lv_iload_n hx hb dX1_partnerOf_23 rfl (lv_at hl 1 rfl) ?_
        refine h_aldM C hw (co.a18 hc) (if_pos (by omega)) (show p1 < 10 from (by omega)) (by first | omega | decide) dX1_partnerOf_24 ?_
        refine lv_iload hx hb dX1_partnerOf_25 (lv_at hl 4 rfl) ?_
        refine h_iald1 C hw (v := V (12 * p1 + k)) (co.bal hc (show p1 < 10 by omega)) (hvB p1 k (by omega) (by omega)) (show k < 12 from (by omega)) (by first | omega | decide) dX1_partnerOf_27 ?_
        refine lv_iload_n hx hb dX1_partnerOf_28 rfl (lv_at hl 3 rfl) ?_
        refine lv_icmp_le (tgt := 45) hx hb dX1_partnerOf_29 (by decide) (fun cq6 => ?_) (fun cq6 => ?_)
        · have hpa2 := pa_n hpa cq6
          refine n_iinc C (lv' := [(4, _), (0, _), (1, _), (2, _), (3, _)]) dX1_partnerOf_45 hl (k := 4) rfl (by decide) rfl (fun ls hl => ?_)
          refine lv_goto (tgt := 7) hx hb dX1_partnerOf_48 (by decide) ?_
          exact ih7 (k + 1) o1 m1 _ _ _ hw (lv_sub hl [1, 2, 3, 4, 0] rfl) (by omega) hpa2 (by omega)
        · have hpa2 := pa_y hpa (Int32.not_le.mp cq6)
          refine lv_iload hx hb dX1_partnerOf_32 (lv_at hl 4 rfl) ?_
          refine lv_istore_n (lv' := [(2, _), (0, _), (1, _), (3, _), (4, _)]) hx hb dX1_partnerOf_34 rfl hl (by decide) rfl (fun ls hl => ?_)
          refine lv_aload_n hx hb dX1_partnerOf_35 rfl (lv_at hl 1 rfl) ?_
          refine h_get C hw bX1 (co.a3 hc) lk1 4 (by decide) lk4 (v := .ref (ad 18)) rfl dX1_partnerOf_36 ?_
          refine lv_iload_n hx hb dX1_partnerOf_39 rfl (lv_at hl 2 rfl) ?_
          refine h_aldM C hw (co.a18 hc) (if_pos (by omega)) (show p1 < 10 from (by omega)) (by first | omega | decide) dX1_partnerOf_40 ?_
          refine lv_iload hx hb dX1_partnerOf_41 (lv_at hl 4 rfl) ?_
          refine h_iald1 C hw (v := V (12 * p1 + k)) (co.bal hc (show p1 < 10 by omega)) (hvB p1 k (by omega) (by omega)) (show k < 12 from (by omega)) (by first | omega | decide) dX1_partnerOf_43 ?_
          refine lv_istore_n (lv' := [(3, _), (2, _), (0, _), (1, _), (4, _)]) hx hb dX1_partnerOf_44 rfl hl (by decide) rfl (fun ls hl => ?_)
          refine n_iinc C (lv' := [(4, _), (3, _), (2, _), (0, _), (1, _)]) dX1_partnerOf_45 hl (k := 4) rfl (by decide) rfl (fun ls hl => ?_)
          refine lv_goto (tgt := 7) hx hb dX1_partnerOf_48 (by decide) ?_
          exact ih7 (k + 1) (some k) (V (12 * p1 + k)) _ _ _ hw (lv_sub hl [3, 4, 2, 1, 0] rfl) (by omega) hpa2 (by omega)
  exact lp7 _ 0 none (nI 1) _ _ _ hw (lv_sub hl [3, 4, 2, 1, 0] rfl) (by omega) (Or.inl ⟨rfl, rfl, fun j hj => absurd hj (by omega)⟩) (Nat.lt_succ_self _)
