/-! ===== the reference, ninth methods (laid by program) ===== -/
abbrev GT : Type := (Nat × Nat × Nat) × (Int64 × Int64 × Int64) × Int32
def rel (A : MA) (o : Nat) (t : T3) : GT := ((t.1.1 - o, t.2.1.1 - o, t.2.2.1 - o), (t.1.2, t.2.1.2, t.2.2.2), tnA A t)
def g1 (A : MA) (o a b d : Nat) : List GT := if tgA A (o + a) (o + b) (o + d) then [rel A o (triT A (o + a) (o + b) (o + d))] else []
def gC (A : MA) (o n a b d : Nat) : List GT := (List.range' d (n - d)).flatMap (g1 A o a b)
def gB (A : MA) (o n a b : Nat) : List GT := (List.range' b (n - b)).flatMap (fun b1 => gC A o n a b1 (b1 + 1))
def gA (A : MA) (o n a : Nat) : List GT := (List.range' a (n - a)).flatMap (fun a1 => gB A o n a1 (a1 + 1))
def gl (A : MA) (o n : Nat) : List GT := gA A o n 0
theorem r_c {d n : Nat} (h : d < n) : List.range' d (n - d) = d :: List.range' (d + 1) (n - (d + 1)) := by
  have h1 : n - d = (n - (d + 1)) + 1 := by omega
  rw [h1, List.range'_succ]
theorem r_n {d n : Nat} (h : n ≤ d) : List.range' d (n - d) = [] := by rw [Nat.sub_eq_zero_of_le h]; rfl
theorem gC_s {A : MA} {o n a b d : Nat} (h : d < n) : gC A o n a b d = g1 A o a b d ++ gC A o n a b (d + 1) := by unfold gC; rw [r_c h, List.flatMap_cons]
theorem gC_e {A : MA} {o n a b d : Nat} (h : n ≤ d) : gC A o n a b d = [] := by unfold gC; rw [r_n h]; rfl
theorem gB_s {A : MA} {o n a b : Nat} (h : b < n) : gB A o n a b = gC A o n a b (b + 1) ++ gB A o n a (b + 1) := by unfold gB; rw [r_c h, List.flatMap_cons]
theorem gB_e {A : MA} {o n a b : Nat} (h : n ≤ b) : gB A o n a b = [] := by unfold gB; rw [r_n h]; rfl
theorem gA_s {A : MA} {o n a : Nat} (h : a < n) : gA A o n a = gB A o n a (a + 1) ++ gA A o n (a + 1) := by unfold gA; rw [r_c h, List.flatMap_cons]
theorem gA_e {A : MA} {o n a : Nat} (h : n ≤ a) : gA A o n a = [] := by unfold gA; rw [r_n h]; rfl
theorem fl_len {α β : Type} {f : α → List β} {g : α → Nat} : ∀ (l : List α), (∀ z, z ∈ l → (f z).length ≤ g z) → (l.flatMap f).length ≤ (l.map g).sum
  | [], _ => Nat.le_refl 0
  | z :: l, h => by
    rw [List.flatMap_cons, List.length_append, List.map_cons, List.sum_cons]
    exact Nat.add_le_add (h z List.mem_cons_self) (fl_len l (fun y hy => h y (List.mem_cons_of_mem _ hy)))
def cB (n b : Nat) : Nat := ((List.range' b (n - b)).map (fun b1 => ((List.range' (b1 + 1) (n - (b1 + 1))).map (fun _ => 1)).sum)).sum
def cG (n : Nat) : Nat := ((List.range' 0 (n - 0)).map (fun a1 => cB n (a1 + 1))).sum
theorem g1_len (A : MA) (o a b d : Nat) : (g1 A o a b d).length ≤ 1 := by
  unfold g1
  by_cases h : tgA A (o + a) (o + b) (o + d)
  · rw [if_pos h]; exact Nat.le_refl 1
  · rw [if_neg h]; exact Nat.zero_le 1
theorem gl_len (A : MA) (o n : Nat) : (gl A o n).length ≤ cG n := fl_len _ (fun a _ => fl_len _ (fun b _ => fl_len _ (fun d _ => g1_len A o a b d)))
theorem cG_12 : ∀ n, n < 13 → cG n ≤ 220 := by decide +kernel
theorem cG_10 : ∀ n, n < 11 → cG n ≤ 120 := by decide +kernel
def all3 (P : Nat → Prop) (t : T3) : Prop := P t.1.1 ∧ P t.2.1.1 ∧ P t.2.2.1
theorem all3_1 {P : Nat → Prop} {t : T3} (h : all3 P t) : all3 P (sw1 t) := by
  unfold sw1
  by_cases h1 : t.2.1.2 < t.1.2
  · rw [if_pos h1]; exact ⟨h.2.1, h.1, h.2.2⟩
  · rw [if_neg h1]; exact h
theorem all3_2 {P : Nat → Prop} {t : T3} (h : all3 P t) : all3 P (sw2 t) := by
  unfold sw2
  by_cases h1 : t.2.2.2 < t.2.1.2
  · rw [if_pos h1]; exact ⟨h.1, h.2.2, h.2.1⟩
  · rw [if_neg h1]; exact h
theorem tri_all {P : Nat → Prop} {A : MA} {a b d : Nat} (ha : P a) (hb : P b) (hd : P d) : all3 P (triT A a b d) := all3_1 (all3_2 (all3_1 ⟨ha, hb, hd⟩))
theorem tg_c {A A1 : MA} {a b d : Nat} (h2 : A1 2 = A 2) (h3 : A1 3 = A 3) : tgA A1 a b d ↔ tgA A a b d := by simp only [tgA, sq_c h2 h3, cr_c h2 h3]
theorem tri_c {A A1 : MA} {a b d : Nat} (h2 : A1 2 = A 2) (h3 : A1 3 = A 3) : triT A1 a b d = triT A a b d := by simp only [triT, sq_c h2 h3]
theorem tn_c {A A1 : MA} {t : T3} (h2 : A1 2 = A 2) (h3 : A1 3 = A 3) : tnA A1 t = tnA A t := by simp only [tnA, cr_c h2 h3]
def gh (A1 : MA) (B1 : MB) (l : List GT) : Prop := ∀ (g : Nat) (t : GT), l[g]? = some t → A1 20 (3 * g) = nI t.1.1 ∧ A1 20 (3 * g + 1) = nI t.1.2.1 ∧ A1 20 (3 * g + 2) = nI t.1.2.2 ∧ B1 21 (3 * g) = t.2.1.1 ∧ B1 21 (3 * g + 1) = t.2.1.2.1 ∧ B1 21 (3 * g + 2) = t.2.1.2.2 ∧ A1 22 g = t.2.2
theorem gh_0 (A1 : MA) (B1 : MB) : gh A1 B1 [] := fun g t h => by simp at h
theorem gh_c {A1 A2 : MA} {B1 B2 : MB} {l : List GT} (h : gh A1 B1 l) (h1 : A2 20 = A1 20) (h2 : A2 22 = A1 22) (h3 : B2 21 = B1 21) : gh A2 B2 l := fun g t ht => by rw [h1, h2, h3]; exact h g t ht
theorem gh_p {A1 A2 : MA} {B1 B2 : MB} {l : List GT} {c0 c1 c2 : Nat} {s0 s1 s2 : Int64} {tn : Int32} (h : gh A1 B1 l) (h1 : A2 20 = upd (upd (upd (A1 20) (3 * l.length + 0) (nI c0)) (3 * l.length + 1) (nI c1)) (3 * l.length + 2) (nI c2)) (h3 : B2 21 = vp_updL (vp_updL (vp_updL (B1 21) (3 * l.length + 0) s0) (3 * l.length + 1) s1) (3 * l.length + 2) s2) (h2 : A2 22 = upd (A1 22) l.length tn) : gh A2 B2 (l ++ [((c0, c1, c2), (s0, s1, s2), tn)]) := by
  intro g t ht
  rw [h1, h2, h3]
  rcases Nat.lt_or_ge g l.length with hg | hg
  · rw [List.getElem?_append_left hg] at ht
    have h9 := h g t ht
    rw [pk_un (by omega), pk_un (by omega), pk_un (by omega), pk_un (by omega), pk_un (by omega), pk_un (by omega), pk_un (by omega), pk_un (by omega), pk_un (by omega), pk_uLn (by omega), pk_uLn (by omega), pk_uLn (by omega), pk_uLn (by omega), pk_uLn (by omega), pk_uLn (by omega), pk_uLn (by omega), pk_uLn (by omega), pk_uLn (by omega), pk_un (by omega)]
    exact h9
  · have hg2 : g = l.length := by
      have := (List.getElem?_eq_some_iff.mp ht).1
      rw [List.length_append, List.length_singleton] at this
      omega
    subst hg2
    rw [List.getElem?_append_right (Nat.le_refl _), Nat.sub_self] at ht
    cases ht
    refine ⟨?_, ?_, ?_, ?_, ?_, ?_, ?_⟩
    · rw [pk_un (by omega), pk_un (by omega)]; exact pk_us
    · rw [pk_un (by omega)]; exact pk_us
    · exact pk_us
    · rw [pk_uLn (by omega), pk_uLn (by omega)]; exact pk_uLs
    · rw [pk_uLn (by omega)]; exact pk_uLs
    · exact pk_uLs
    · exact pk_us
theorem gl_room {A : MA} {o n a b d : Nat} {l r1 : List GT} (hn : n < 13) (hd : d < n) (htg : tgA A (o + a) (o + b) (o + d)) (h : l ++ (gC A o n a b d ++ r1) = gl A o n) : l.length < 220 := by
  have h1 := gl_len A o n
  have h2 := cG_12 n hn
  rw [← h, gC_s hd, g1, if_pos htg] at h1
  simp only [List.length_append, List.length_cons] at h1
  omega
set_option maxHeartbeats 4000000 in
set_option maxRecDepth 100000 in
theorem c_X12_findGoods {l : Launch} {D : va_G} {cA : Nat → ClassId} {f : HF} {sz : Nat} {q : Nat → Nat} {A : MA} {B : MB} {nt : Nat} (hm : mo cA q A B f) (hnt : A 1 0 = nI nt) (hnt2 : nt ≤ 12) : Met l yX12_findGoods wsX12_findGoods ({ frames := 2, cells := 0, slots := 0, locals := 49 } : Room) (va_Pc [.ref (q 0)] (hB D cA f sz)) (va_Qv (fun f1 => ∃ A1 B1, mo cA q A1 B1 f1 ∧ (∀ k, k ≠ 16 → k ≠ 18 → k ≠ 19 → k ≠ 20 → k ≠ 22 → A1 k = A k) ∧ (∀ k, k ≠ 17 → k ≠ 21 → B1 k = B k) ∧ A1 19 0 = nI (gl A 10 nt).length ∧ gh A1 B1 (gl A 10 nt)) (hE D f sz) (hA f sz)) 0 0 (hA f sz) := by
  refine h_of (cc := cX12_findGoods) (maxL := 5) (ret := none) (by decide +kernel) rfl (Nat.le_of_ble_eq_true rfl) ?_
  intro p e s m below meth c ls C hr hlk hnm hw hl
  have hx := C.1.1
  have hb := C.1.2.1
  have hl : lv_has ls 5 [(0, .ref (q 0))] := hl
  have lk0 : Cond.fieldLink RX12 126 "FallingLightModel" "goods" "I" ∈ wsX12_findGoods := by decide +kernel
  have lk1 : ∀ w ∈ u_ws RX12 TX12 27, w ∈ wsX12_findGoods := by decide +kernel
  have lk2 : Cond.fieldLink RX12 96 "FallingLightModel" "stars" "I" ∈ wsX12_findGoods := by decide +kernel
  have lk3 : Cond.fieldLink RX12 57 "FallingLightModel" "goodCorner" "[I" ∈ wsX12_findGoods := by decide +kernel
  have lk4 : Cond.fieldLink RX12 51 "FallingLightModel" "cornerAt" "[I" ∈ wsX12_findGoods := by decide +kernel
  have lk5 : Cond.fieldLink RX12 60 "FallingLightModel" "goodSquare" "[J" ∈ wsX12_findGoods := by decide +kernel
  have lk6 : Cond.fieldLink RX12 54 "FallingLightModel" "squareAt" "[J" ∈ wsX12_findGoods := by decide +kernel
  have lk7 : Cond.fieldLink RX12 63 "FallingLightModel" "goodTurn" "[I" ∈ wsX12_findGoods := by decide +kernel
  have lk8 : Cond.fieldLink RX12 120 "FallingLightModel" "turn" "I" ∈ wsX12_findGoods := by decide +kernel
  refine lv_aload_n hx hb dX12_findGoods_0 rfl (lv_at hl 0 rfl) ?_
  refine lv_iconst (v := nI 0) hx hb dX12_findGoods_1 (by decide) ?_
  refine m_puti C hw hm lk1 19 rfl (by decide) rfl rfl lk0 dX12_findGoods_2 (fun A1 f2 H locs eA1 hw hm => ?_)
  have hn3 : A1 1 0 = nI nt := by rw [eA1, va_up_ne _ _ (by decide)]; exact hnt
  have hn4 : A1 19 0 = nI 0 := by rw [eA1, va_up_self]
  refine lv_iconst (v := nI 0) hx hb dX12_findGoods_5 (by decide) ?_
  refine lv_istore_n (lv' := [(1, _), (0, _)]) hx hb dX12_findGoods_6 rfl hl (by decide) rfl (fun ls hl => ?_)
  have lp7 : ∀ (n : Nat) (lg : List GT) (a : Nat) (Ak : MA) (Bk : MB) (f1 : HF) (H1 : Heap) (locs1 : List Loc) (ls1 : Array Slot), hW D (hA f sz) s.heap f1 H1 locs1 → mo cA q Ak Bk f1 → lv_has ls1 5 [(0, .ref (q 0)), (1, .int (nI a))] → (∀ k, k ≠ 16 → k ≠ 18 → k ≠ 19 → k ≠ 20 → k ≠ 22 → Ak k = A k) → (∀ k, k ≠ 17 → k ≠ 21 → Bk k = B k) → (Ak 19 0 = nI lg.length) → (gh Ak Bk lg) → (lg ++ gA A 10 nt a = gl A 10 nt) → (a ≤ nt) → nt - a < n → W p l e ({ frames := 2, cells := 0, slots := 0, locals := 49 } : Room) s m ([.ref (q 0)]).toArray below meth c H1 locs1 0 0 (MQ below (va_Qv (fun f1 => ∃ A1 B1, mo cA q A1 B1 f1 ∧ (∀ k, k ≠ 16 → k ≠ 18 → k ≠ 19 → k ≠ 20 → k ≠ 22 → A1 k = A k) ∧ (∀ k, k ≠ 17 → k ≠ 21 → B1 k = B k) ∧ A1 19 0 = nI (gl A 10 nt).length ∧ gh A1 B1 (gl A 10 nt)) (hE D f sz) (hA f sz)) ([.ref (q 0)]).toArray s 0 0 (hA f sz)) (F0 m 7 ls1 []) := by
    intro n
    induction n with
    | zero => intros; omega
    | succ n ih7 =>
      intro lg a Ak Bk f1 H locs ls hw hm hl hFA hFB hgl hgh htot hale hmu
      have hn1 : Ak 1 0 = nI nt := by rw [hFA 1 (by decide) (by decide) (by decide) (by decide) (by decide)]; exact hnt
      have hA2 : Ak 2 = A 2 := hFA 2 (by decide) (by decide) (by decide) (by decide) (by decide)
      have hA3 : Ak 3 = A 3 := hFA 3 (by decide) (by decide) (by decide) (by decide) (by decide)
      refine lv_iload_n hx hb dX12_findGoods_7 rfl (lv_at hl 1 rfl) ?_
      refine lv_aload_n hx hb dX12_findGoods_8 rfl (lv_at hl 0 rfl) ?_
      refine m_fld C hw hm lk1 1 (by decide) lk2 (v := .int (nI nt)) (congrArg (fun z => some (Value.int z)) hn1) dX12_findGoods_9 ?_
      refine n_cge C (by omega) (by omega) (tgt := 162) dX12_findGoods_12 (by decide) (fun cq5 => ?_) (fun cq5 => ?_)
      · exact h_vret C hr hlk hw (by rw [gA_e (show nt ≤ a by omega), List.append_nil] at htot; exact ⟨_, _, hm, hFA, hFB, by rw [← htot]; exact hgl, by rw [← htot]; exact hgh⟩) dX12_findGoods_162
      · refine lv_iload_n hx hb dX12_findGoods_15 rfl (lv_at hl 1 rfl) ?_
        refine lv_iconst (v := nI 1) hx hb dX12_findGoods_16 (by decide) ?_
        refine n_iadd C dX12_findGoods_17 ?_
        refine lv_istore_n (lv' := [(2, _), (0, _), (1, _)]) hx hb dX12_findGoods_18 rfl hl (by decide) rfl (fun ls hl => ?_)
        have lp19 : ∀ (n : Nat) (lg : List GT) (b : Nat) (Ak : MA) (Bk : MB) (f1 : HF) (H1 : Heap) (locs1 : List Loc) (ls1 : Array Slot), hW D (hA f sz) s.heap f1 H1 locs1 → mo cA q Ak Bk f1 → lv_has ls1 5 [(0, .ref (q 0)), (1, .int (nI a)), (2, .int (nI b))] → (∀ k, k ≠ 16 → k ≠ 18 → k ≠ 19 → k ≠ 20 → k ≠ 22 → Ak k = A k) → (∀ k, k ≠ 17 → k ≠ 21 → Bk k = B k) → (Ak 19 0 = nI lg.length) → (gh Ak Bk lg) → (lg ++ (gB A 10 nt a b ++ gA A 10 nt (a + 1)) = gl A 10 nt) → (b ≤ nt) → (a < nt) → (a < b) → nt - b < n → W p l e ({ frames := 2, cells := 0, slots := 0, locals := 49 } : Room) s m ([.ref (q 0)]).toArray below meth c H1 locs1 0 0 (MQ below (va_Qv (fun f1 => ∃ A1 B1, mo cA q A1 B1 f1 ∧ (∀ k, k ≠ 16 → k ≠ 18 → k ≠ 19 → k ≠ 20 → k ≠ 22 → A1 k = A k) ∧ (∀ k, k ≠ 17 → k ≠ 21 → B1 k = B k) ∧ A1 19 0 = nI (gl A 10 nt).length ∧ gh A1 B1 (gl A 10 nt)) (hE D f sz) (hA f sz)) ([.ref (q 0)]).toArray s 0 0 (hA f sz)) (F0 m 19 ls1 []) := by
          intro n
          induction n with
          | zero => intros; omega
          | succ n ih19 =>
            intro lg b Ak Bk f1 H locs ls hw hm hl hFA hFB hgl hgh htot hble ha3 hab hmu
            have hn1 : Ak 1 0 = nI nt := by rw [hFA 1 (by decide) (by decide) (by decide) (by decide) (by decide)]; exact hnt
            have hA2 : Ak 2 = A 2 := hFA 2 (by decide) (by decide) (by decide) (by decide) (by decide)
            have hA3 : Ak 3 = A 3 := hFA 3 (by decide) (by decide) (by decide) (by decide) (by decide)
            refine lv_iload_n hx hb dX12_findGoods_19 rfl (lv_at hl 2 rfl) ?_
            refine lv_aload_n hx hb dX12_findGoods_20 rfl (lv_at hl 0 rfl) ?_
            refine m_fld C hw hm lk1 1 (by decide) lk2 (v := .int (nI nt)) (congrArg (fun z => some (Value.int z)) hn1) dX12_findGoods_21 ?_
            refine n_cge C (by omega) (by omega) (tgt := 156) dX12_findGoods_24 (by decide) (fun cq6 => ?_) (fun cq6 => ?_)
            · refine n_iinc C (lv' := [(1, _), (0, _), (2, _)]) dX12_findGoods_156 hl (k := 1) rfl (by decide) rfl (fun ls hl => ?_)
              refine lv_goto (tgt := 7) hx hb dX12_findGoods_159 (by decide) ?_
              exact ih7 lg (a + 1) _ _ _ _ _ _ hw hm (lv_sub hl [1, 0] rfl) hFA hFB hgl hgh (by rw [gB_e (show nt ≤ b by omega), List.nil_append] at htot; exact htot) (by omega) (by omega)
            · refine lv_iload_n hx hb dX12_findGoods_27 rfl (lv_at hl 2 rfl) ?_
              refine lv_iconst (v := nI 1) hx hb dX12_findGoods_28 (by decide) ?_
              refine n_iadd C dX12_findGoods_29 ?_
              refine lv_istore_n (lv' := [(3, _), (0, _), (1, _), (2, _)]) hx hb dX12_findGoods_30 rfl hl (by decide) rfl (fun ls hl => ?_)
              have lp31 : ∀ (n : Nat) (lg : List GT) (d : Nat) (Ak : MA) (Bk : MB) (f1 : HF) (H1 : Heap) (locs1 : List Loc) (ls1 : Array Slot), hW D (hA f sz) s.heap f1 H1 locs1 → mo cA q Ak Bk f1 → lv_has ls1 5 [(0, .ref (q 0)), (1, .int (nI a)), (2, .int (nI b)), (3, .int (nI d))] → (∀ k, k ≠ 16 → k ≠ 18 → k ≠ 19 → k ≠ 20 → k ≠ 22 → Ak k = A k) → (∀ k, k ≠ 17 → k ≠ 21 → Bk k = B k) → (Ak 19 0 = nI lg.length) → (gh Ak Bk lg) → (lg ++ (gC A 10 nt a b d ++ (gB A 10 nt a (b + 1) ++ gA A 10 nt (a + 1))) = gl A 10 nt) → (b < nt) → (a < nt) → (a < b) → (b < d) → (d ≤ nt) → nt - d < n → W p l e ({ frames := 2, cells := 0, slots := 0, locals := 49 } : Room) s m ([.ref (q 0)]).toArray below meth c H1 locs1 0 0 (MQ below (va_Qv (fun f1 => ∃ A1 B1, mo cA q A1 B1 f1 ∧ (∀ k, k ≠ 16 → k ≠ 18 → k ≠ 19 → k ≠ 20 → k ≠ 22 → A1 k = A k) ∧ (∀ k, k ≠ 17 → k ≠ 21 → B1 k = B k) ∧ A1 19 0 = nI (gl A 10 nt).length ∧ gh A1 B1 (gl A 10 nt)) (hE D f sz) (hA f sz)) ([.ref (q 0)]).toArray s 0 0 (hA f sz)) (F0 m 31 ls1 []) := by
                intro n
                induction n with
                | zero => intros; omega
                | succ n ih31 =>
                  intro lg d Ak Bk f1 H locs ls hw hm hl hFA hFB hgl hgh htot hb3 ha3 hab hbd hdle hmu
                  have hn1 : Ak 1 0 = nI nt := by rw [hFA 1 (by decide) (by decide) (by decide) (by decide) (by decide)]; exact hnt
                  have hA2 : Ak 2 = A 2 := hFA 2 (by decide) (by decide) (by decide) (by decide) (by decide)
                  have hA3 : Ak 3 = A 3 := hFA 3 (by decide) (by decide) (by decide) (by decide) (by decide)
                  refine lv_iload_n hx hb dX12_findGoods_31 rfl (lv_at hl 3 rfl) ?_
                  refine lv_aload_n hx hb dX12_findGoods_32 rfl (lv_at hl 0 rfl) ?_
                  refine m_fld C hw hm lk1 1 (by decide) lk2 (v := .int (nI nt)) (congrArg (fun z => some (Value.int z)) hn1) dX12_findGoods_33 ?_
                  refine n_cge C (by omega) (by omega) (tgt := 150) dX12_findGoods_36 (by decide) (fun cq7 => ?_) (fun cq7 => ?_)
                  · refine n_iinc C (lv' := [(2, _), (0, _), (1, _), (3, _)]) dX12_findGoods_150 hl (k := 2) rfl (by decide) rfl (fun ls hl => ?_)
                    refine lv_goto (tgt := 19) hx hb dX12_findGoods_153 (by decide) ?_
                    exact ih19 lg (b + 1) _ _ _ _ _ _ hw hm (lv_sub hl [1, 2, 0] rfl) hFA hFB hgl hgh (by rw [gC_e (show nt ≤ d by omega), List.nil_append] at htot; exact htot) (by omega) ha3 (by omega) (by omega)
                  · refine lv_aload_n hx hb dX12_findGoods_39 rfl (lv_at hl 0 rfl) ?_
                    refine lv_bipush (v := nI 10) hx hb dX12_findGoods_40 (by decide) ?_
                    refine lv_iload_n hx hb dX12_findGoods_42 rfl (lv_at hl 1 rfl) ?_
                    refine n_iadd C dX12_findGoods_43 ?_
                    refine lv_bipush (v := nI 10) hx hb dX12_findGoods_44 (by decide) ?_
                    refine lv_iload_n hx hb dX12_findGoods_46 rfl (lv_at hl 2 rfl) ?_
                    refine n_iadd C dX12_findGoods_47 ?_
                    refine lv_bipush (v := nI 10) hx hb dX12_findGoods_48 (by decide) ?_
                    refine lv_iload_n hx hb dX12_findGoods_50 rfl (lv_at hl 3 rfl) ?_
                    refine n_iadd C dX12_findGoods_51 ?_
                    refine h_calli hw (h_runV (n := 3) (As := [.int (nI (10 + a)), .int (nI (10 + b)), .int (nI (10 + d))]) (rest := []) C hw (c_X12_layOut hm (by omega) (by omega) (by omega)) gX12_findGoods_X12_layOut rfl rfl rfl (by decide +kernel) ⟨by decide, by decide⟩ bX12 hm.1 rfl hl.1 rfl (Nat.le_of_ble_eq_true rfl) dX12_findGoods_52 ⟨by first | decide | omega, by first | decide | omega⟩) (fun r8 f9 H locs hp hw => ?_)
                    obtain ⟨rfl, A10, B11, hm, hFAA10, hFBA10, hTA10⟩ := hp
                    have hn12 : A10 1 0 = nI nt := by rw [hFAA10 1 (by decide) (by decide)]; exact hn1
                    have hn13 : A10 19 0 = nI lg.length := by rw [hFAA10 19 (by decide) (by decide)]; exact hgl
                    refine n_ifneB C (tgt := 61) dX12_findGoods_55 (by decide) (fun cq14 => ?_) (fun cq14 => ?_)
                    · have htg := (tg_c hA2 hA3).mp cq14
                      obtain ⟨k0, k1, k2, s0, s1, s2, htn⟩ := hTA10 cq14
                      rw [tri_c hA2 hA3] at k0 k1 k2 s0 s1 s2 htn
                      rw [tn_c hA2 hA3] at htn
                      have hlt := gl_room (by omega) (by omega) htg htot
                      obtain ⟨hc0, hc1, hc2⟩ := tri_all (P := fun z => 10 ≤ z ∧ z < 22) (A := A) (a := 10 + a) (b := 10 + b) (d := 10 + d) ⟨by omega, by omega⟩ ⟨by omega, by omega⟩ ⟨by omega, by omega⟩
                      generalize hTT : triT A (10 + a) (10 + b) (10 + d) = T at k0 k1 k2 s0 s1 s2 htn hc0 hc1 hc2
                      refine lv_iconst (v := nI 0) hx hb dX12_findGoods_61 (by decide) ?_
                      refine lv_istore (lv' := [(4, _), (0, _), (1, _), (2, _), (3, _)]) hx hb dX12_findGoods_62 hl (by decide) rfl (fun ls hl => ?_)
                      refine lv_iload hx hb dX12_findGoods_64 (lv_at hl 0 rfl) ?_
                      refine lv_iconst (v := nI 3) hx hb dX12_findGoods_66 (by decide) ?_
                      refine n_cge C (by decide) (by decide) (tgt := 121) dX12_findGoods_67 (by decide) (fun h9 => absurd h9 (by decide)) (fun _ => ?_)
                      refine lv_aload_n hx hb dX12_findGoods_70 rfl (lv_at hl 1 rfl) ?_
                      refine m_fld C hw hm lk1 20 (by decide) lk3 (v := .ref (q 20)) rfl dX12_findGoods_71 ?_
                      refine lv_iconst (v := nI 3) hx hb dX12_findGoods_74 (by decide) ?_
                      refine lv_aload_n hx hb dX12_findGoods_75 rfl (lv_at hl 1 rfl) ?_
                      refine m_fld C hw hm lk1 19 (by decide) lk0 (v := .int (nI lg.length)) (congrArg (fun z => some (Value.int z)) hn13) dX12_findGoods_76 ?_
                      refine n_imul C dX12_findGoods_79 ?_
                      refine lv_iload hx hb dX12_findGoods_80 (lv_at hl 0 rfl) ?_
                      refine n_iadd C dX12_findGoods_82 ?_
                      refine lv_aload_n hx hb dX12_findGoods_83 rfl (lv_at hl 1 rfl) ?_
                      refine m_fld C hw hm lk1 16 (by decide) lk4 (v := .ref (q 16)) rfl dX12_findGoods_84 ?_
                      refine lv_iload hx hb dX12_findGoods_87 (lv_at hl 0 rfl) ?_
                      refine m_iald C hw hm 16 rfl (v := nI T.1.1) k0 (show 0 < 3 from (by omega)) dX12_findGoods_89 ?_
                      refine lv_bipush (v := nI 10) hx hb dX12_findGoods_90 (by decide) ?_
                      refine n_isub C hc0.1 dX12_findGoods_92 ?_
                      refine m_iast C hw hm 20 rfl (show 3 * lg.length + 0 < 660 from (by omega)) dX12_findGoods_93 (fun A16 f17 H locs eA16 hw hm => ?_)
                      have hn18 : A16 1 0 = nI nt := by rw [eA16, va_up_ne _ _ (by decide)]; exact hn12
                      have hn19 : A16 19 0 = nI lg.length := by rw [eA16, va_up_ne _ _ (by decide)]; exact hn13
                      have kn20 : A16 16 0 = nI T.1.1 := by rw [eA16, va_up_ne _ _ (by decide)]; exact k0
                      have kn21 : A16 16 1 = nI T.2.1.1 := by rw [eA16, va_up_ne _ _ (by decide)]; exact k1
                      have kn22 : A16 16 2 = nI T.2.2.1 := by rw [eA16, va_up_ne _ _ (by decide)]; exact k2
                      refine lv_aload_n hx hb dX12_findGoods_94 rfl (lv_at hl 1 rfl) ?_
                      refine m_fld C hw hm lk1 21 (by decide) lk5 (v := .ref (q 21)) rfl dX12_findGoods_95 ?_
                      refine lv_iconst (v := nI 3) hx hb dX12_findGoods_98 (by decide) ?_
                      refine lv_aload_n hx hb dX12_findGoods_99 rfl (lv_at hl 1 rfl) ?_
                      refine m_fld C hw hm lk1 19 (by decide) lk0 (v := .int (nI lg.length)) (congrArg (fun z => some (Value.int z)) hn19) dX12_findGoods_100 ?_
                      refine n_imul C dX12_findGoods_103 ?_
                      refine lv_iload hx hb dX12_findGoods_104 (lv_at hl 0 rfl) ?_
                      refine n_iadd C dX12_findGoods_106 ?_
                      refine lv_aload_n hx hb dX12_findGoods_107 rfl (lv_at hl 1 rfl) ?_
                      refine m_fld C hw hm lk1 17 (by decide) lk6 (v := .ref (q 17)) rfl dX12_findGoods_108 ?_
                      refine lv_iload hx hb dX12_findGoods_111 (lv_at hl 0 rfl) ?_
                      refine m_lald C hw hm 17 rfl (v := T.1.2) s0 (show 0 < 3 from (by omega)) dX12_findGoods_113 ?_
                      refine m_last C hw hm 21 rfl (show 3 * lg.length + 0 < 660 from (by omega)) dX12_findGoods_114 (fun B23 f24 H locs eB23 hw hm => ?_)
                      have kn25 : B23 17 0 = T.1.2 := by rw [eB23, va_up_ne _ _ (by decide)]; exact s0
                      have kn26 : B23 17 1 = T.2.1.2 := by rw [eB23, va_up_ne _ _ (by decide)]; exact s1
                      have kn27 : B23 17 2 = T.2.2.2 := by rw [eB23, va_up_ne _ _ (by decide)]; exact s2
                      refine n_iinc C (lv' := [(4, _), (0, _), (1, _), (2, _), (3, _)]) dX12_findGoods_115 hl (k := 0) rfl (by decide) rfl (fun ls hl => ?_)
                      refine lv_goto (tgt := 64) hx hb dX12_findGoods_118 (by decide) ?_
                      refine lv_iload hx hb dX12_findGoods_64 (lv_at hl 0 rfl) ?_
                      refine lv_iconst (v := nI 3) hx hb dX12_findGoods_66 (by decide) ?_
                      refine n_cge C (by decide) (by decide) (tgt := 121) dX12_findGoods_67 (by decide) (fun h9 => absurd h9 (by decide)) (fun _ => ?_)
                      refine lv_aload_n hx hb dX12_findGoods_70 rfl (lv_at hl 1 rfl) ?_
                      refine m_fld C hw hm lk1 20 (by decide) lk3 (v := .ref (q 20)) rfl dX12_findGoods_71 ?_
                      refine lv_iconst (v := nI 3) hx hb dX12_findGoods_74 (by decide) ?_
                      refine lv_aload_n hx hb dX12_findGoods_75 rfl (lv_at hl 1 rfl) ?_
                      refine m_fld C hw hm lk1 19 (by decide) lk0 (v := .int (nI lg.length)) (congrArg (fun z => some (Value.int z)) hn19) dX12_findGoods_76 ?_
                      refine n_imul C dX12_findGoods_79 ?_
                      refine lv_iload hx hb dX12_findGoods_80 (lv_at hl 0 rfl) ?_
                      refine n_iadd C dX12_findGoods_82 ?_
                      refine lv_aload_n hx hb dX12_findGoods_83 rfl (lv_at hl 1 rfl) ?_
                      refine m_fld C hw hm lk1 16 (by decide) lk4 (v := .ref (q 16)) rfl dX12_findGoods_84 ?_
                      refine lv_iload hx hb dX12_findGoods_87 (lv_at hl 0 rfl) ?_
                      refine m_iald C hw hm 16 rfl (v := nI T.2.1.1) kn21 (show 1 < 3 from (by omega)) dX12_findGoods_89 ?_
                      refine lv_bipush (v := nI 10) hx hb dX12_findGoods_90 (by decide) ?_
                      refine n_isub C hc1.1 dX12_findGoods_92 ?_
                      refine m_iast C hw hm 20 rfl (show 3 * lg.length + 1 < 660 from (by omega)) dX12_findGoods_93 (fun A29 f30 H locs eA29 hw hm => ?_)
                      have hn31 : A29 1 0 = nI nt := by rw [eA29, va_up_ne _ _ (by decide)]; exact hn18
                      have hn32 : A29 19 0 = nI lg.length := by rw [eA29, va_up_ne _ _ (by decide)]; exact hn19
                      have kn33 : A29 16 0 = nI T.1.1 := by rw [eA29, va_up_ne _ _ (by decide)]; exact kn20
                      have kn34 : A29 16 1 = nI T.2.1.1 := by rw [eA29, va_up_ne _ _ (by decide)]; exact kn21
                      have kn35 : A29 16 2 = nI T.2.2.1 := by rw [eA29, va_up_ne _ _ (by decide)]; exact kn22
                      refine lv_aload_n hx hb dX12_findGoods_94 rfl (lv_at hl 1 rfl) ?_
                      refine m_fld C hw hm lk1 21 (by decide) lk5 (v := .ref (q 21)) rfl dX12_findGoods_95 ?_
                      refine lv_iconst (v := nI 3) hx hb dX12_findGoods_98 (by decide) ?_
                      refine lv_aload_n hx hb dX12_findGoods_99 rfl (lv_at hl 1 rfl) ?_
                      refine m_fld C hw hm lk1 19 (by decide) lk0 (v := .int (nI lg.length)) (congrArg (fun z => some (Value.int z)) hn32) dX12_findGoods_100 ?_
                      refine n_imul C dX12_findGoods_103 ?_
                      refine lv_iload hx hb dX12_findGoods_104 (lv_at hl 0 rfl) ?_
                      refine n_iadd C dX12_findGoods_106 ?_
                      refine lv_aload_n hx hb dX12_findGoods_107 rfl (lv_at hl 1 rfl) ?_
                      refine m_fld C hw hm lk1 17 (by decide) lk6 (v := .ref (q 17)) rfl dX12_findGoods_108 ?_
                      refine lv_iload hx hb dX12_findGoods_111 (lv_at hl 0 rfl) ?_
                      refine m_lald C hw hm 17 rfl (v := T.2.1.2) kn26 (show 1 < 3 from (by omega)) dX12_findGoods_113 ?_
                      refine m_last C hw hm 21 rfl (show 3 * lg.length + 1 < 660 from (by omega)) dX12_findGoods_114 (fun B36 f37 H locs eB36 hw hm => ?_)
                      have kn38 : B36 17 0 = T.1.2 := by rw [eB36, va_up_ne _ _ (by decide)]; exact kn25
                      have kn39 : B36 17 1 = T.2.1.2 := by rw [eB36, va_up_ne _ _ (by decide)]; exact kn26
                      have kn40 : B36 17 2 = T.2.2.2 := by rw [eB36, va_up_ne _ _ (by decide)]; exact kn27
                      refine n_iinc C (lv' := [(4, _), (0, _), (1, _), (2, _), (3, _)]) dX12_findGoods_115 hl (k := 0) rfl (by decide) rfl (fun ls hl => ?_)
                      refine lv_goto (tgt := 64) hx hb dX12_findGoods_118 (by decide) ?_
                      refine lv_iload hx hb dX12_findGoods_64 (lv_at hl 0 rfl) ?_
                      refine lv_iconst (v := nI 3) hx hb dX12_findGoods_66 (by decide) ?_
                      refine n_cge C (by decide) (by decide) (tgt := 121) dX12_findGoods_67 (by decide) (fun h9 => absurd h9 (by decide)) (fun _ => ?_)
                      refine lv_aload_n hx hb dX12_findGoods_70 rfl (lv_at hl 1 rfl) ?_
                      refine m_fld C hw hm lk1 20 (by decide) lk3 (v := .ref (q 20)) rfl dX12_findGoods_71 ?_
                      refine lv_iconst (v := nI 3) hx hb dX12_findGoods_74 (by decide) ?_
                      refine lv_aload_n hx hb dX12_findGoods_75 rfl (lv_at hl 1 rfl) ?_
                      refine m_fld C hw hm lk1 19 (by decide) lk0 (v := .int (nI lg.length)) (congrArg (fun z => some (Value.int z)) hn32) dX12_findGoods_76 ?_
                      refine n_imul C dX12_findGoods_79 ?_
                      refine lv_iload hx hb dX12_findGoods_80 (lv_at hl 0 rfl) ?_
                      refine n_iadd C dX12_findGoods_82 ?_
                      refine lv_aload_n hx hb dX12_findGoods_83 rfl (lv_at hl 1 rfl) ?_
                      refine m_fld C hw hm lk1 16 (by decide) lk4 (v := .ref (q 16)) rfl dX12_findGoods_84 ?_
                      refine lv_iload hx hb dX12_findGoods_87 (lv_at hl 0 rfl) ?_
                      refine m_iald C hw hm 16 rfl (v := nI T.2.2.1) kn35 (show 2 < 3 from (by omega)) dX12_findGoods_89 ?_
                      refine lv_bipush (v := nI 10) hx hb dX12_findGoods_90 (by decide) ?_
                      refine n_isub C hc2.1 dX12_findGoods_92 ?_
                      refine m_iast C hw hm 20 rfl (show 3 * lg.length + 2 < 660 from (by omega)) dX12_findGoods_93 (fun A42 f43 H locs eA42 hw hm => ?_)
                      have hn44 : A42 1 0 = nI nt := by rw [eA42, va_up_ne _ _ (by decide)]; exact hn31
                      have hn45 : A42 19 0 = nI lg.length := by rw [eA42, va_up_ne _ _ (by decide)]; exact hn32
                      have kn46 : A42 16 0 = nI T.1.1 := by rw [eA42, va_up_ne _ _ (by decide)]; exact kn33
                      have kn47 : A42 16 1 = nI T.2.1.1 := by rw [eA42, va_up_ne _ _ (by decide)]; exact kn34
                      have kn48 : A42 16 2 = nI T.2.2.1 := by rw [eA42, va_up_ne _ _ (by decide)]; exact kn35
                      refine lv_aload_n hx hb dX12_findGoods_94 rfl (lv_at hl 1 rfl) ?_
                      refine m_fld C hw hm lk1 21 (by decide) lk5 (v := .ref (q 21)) rfl dX12_findGoods_95 ?_
                      refine lv_iconst (v := nI 3) hx hb dX12_findGoods_98 (by decide) ?_
                      refine lv_aload_n hx hb dX12_findGoods_99 rfl (lv_at hl 1 rfl) ?_
                      refine m_fld C hw hm lk1 19 (by decide) lk0 (v := .int (nI lg.length)) (congrArg (fun z => some (Value.int z)) hn45) dX12_findGoods_100 ?_
                      refine n_imul C dX12_findGoods_103 ?_
                      refine lv_iload hx hb dX12_findGoods_104 (lv_at hl 0 rfl) ?_
                      refine n_iadd C dX12_findGoods_106 ?_
                      refine lv_aload_n hx hb dX12_findGoods_107 rfl (lv_at hl 1 rfl) ?_
                      refine m_fld C hw hm lk1 17 (by decide) lk6 (v := .ref (q 17)) rfl dX12_findGoods_108 ?_
                      refine lv_iload hx hb dX12_findGoods_111 (lv_at hl 0 rfl) ?_
                      refine m_lald C hw hm 17 rfl (v := T.2.2.2) kn40 (show 2 < 3 from (by omega)) dX12_findGoods_113 ?_
                      refine m_last C hw hm 21 rfl (show 3 * lg.length + 2 < 660 from (by omega)) dX12_findGoods_114 (fun B49 f50 H locs eB49 hw hm => ?_)
                      have kn51 : B49 17 0 = T.1.2 := by rw [eB49, va_up_ne _ _ (by decide)]; exact kn38
                      have kn52 : B49 17 1 = T.2.1.2 := by rw [eB49, va_up_ne _ _ (by decide)]; exact kn39
                      have kn53 : B49 17 2 = T.2.2.2 := by rw [eB49, va_up_ne _ _ (by decide)]; exact kn40
                      refine n_iinc C (lv' := [(4, _), (0, _), (1, _), (2, _), (3, _)]) dX12_findGoods_115 hl (k := 0) rfl (by decide) rfl (fun ls hl => ?_)
                      refine lv_goto (tgt := 64) hx hb dX12_findGoods_118 (by decide) ?_
                      refine lv_iload hx hb dX12_findGoods_64 (lv_at hl 0 rfl) ?_
                      refine lv_iconst (v := nI 3) hx hb dX12_findGoods_66 (by decide) ?_
                      refine n_cge C (by decide) (by decide) (tgt := 121) dX12_findGoods_67 (by decide) (fun _ => ?_) (fun h9 => absurd h9 (by decide))
                      refine lv_aload_n hx hb dX12_findGoods_121 rfl (lv_at hl 1 rfl) ?_
                      refine m_fld C hw hm lk1 22 (by decide) lk7 (v := .ref (q 22)) rfl dX12_findGoods_122 ?_
                      refine lv_aload_n hx hb dX12_findGoods_125 rfl (lv_at hl 1 rfl) ?_
                      refine m_fld C hw hm lk1 19 (by decide) lk0 (v := .int (nI lg.length)) (congrArg (fun z => some (Value.int z)) hn45) dX12_findGoods_126 ?_
                      refine lv_aload_n hx hb dX12_findGoods_129 rfl (lv_at hl 1 rfl) ?_
                      refine m_fld C hw hm lk1 18 (by decide) lk8 (v := .int (tnA A T)) (congrArg (fun z => some (Value.int z)) (by rw [eA42, va_up_ne _ _ (by decide), eA29, va_up_ne _ _ (by decide), eA16, va_up_ne _ _ (by decide)]; exact htn)) dX12_findGoods_130 ?_
                      refine m_iast C hw hm 22 rfl (show lg.length < 220 from (by omega)) dX12_findGoods_133 (fun A55 f56 H locs eA55 hw hm => ?_)
                      have hn57 : A55 1 0 = nI nt := by rw [eA55, va_up_ne _ _ (by decide)]; exact hn44
                      have hn58 : A55 19 0 = nI lg.length := by rw [eA55, va_up_ne _ _ (by decide)]; exact hn45
                      have kn59 : A55 16 0 = nI T.1.1 := by rw [eA55, va_up_ne _ _ (by decide)]; exact kn46
                      have kn60 : A55 16 1 = nI T.2.1.1 := by rw [eA55, va_up_ne _ _ (by decide)]; exact kn47
                      have kn61 : A55 16 2 = nI T.2.2.1 := by rw [eA55, va_up_ne _ _ (by decide)]; exact kn48
                      refine lv_aload_n hx hb dX12_findGoods_134 rfl (lv_at hl 1 rfl) ?_
                      refine lv_dup hx hb dX12_findGoods_135 rfl ?_
                      refine m_fld C hw hm lk1 19 (by decide) lk0 (v := .int (nI lg.length)) (congrArg (fun z => some (Value.int z)) hn58) dX12_findGoods_136 ?_
                      refine lv_iconst (v := nI 1) hx hb dX12_findGoods_139 (by decide) ?_
                      refine n_iadd C dX12_findGoods_140 ?_
                      refine m_puti C hw hm lk1 19 rfl (by decide) rfl rfl lk0 dX12_findGoods_141 (fun A62 f63 H locs eA62 hw hm => ?_)
                      have hn64 : A62 1 0 = nI nt := by rw [eA62, va_up_ne _ _ (by decide)]; exact hn57
                      have kn65 : A62 16 0 = nI T.1.1 := by rw [eA62, va_up_ne _ _ (by decide)]; exact kn59
                      have kn66 : A62 16 1 = nI T.2.1.1 := by rw [eA62, va_up_ne _ _ (by decide)]; exact kn60
                      have kn67 : A62 16 2 = nI T.2.2.1 := by rw [eA62, va_up_ne _ _ (by decide)]; exact kn61
                      have hn68 : A62 19 0 = nI (lg.length + 1) := by rw [eA62, va_up_self]
                      refine n_iinc C (lv' := [(3, _), (4, _), (0, _), (1, _), (2, _)]) dX12_findGoods_144 hl (k := 4) rfl (by decide) rfl (fun ls hl => ?_)
                      refine lv_goto (tgt := 31) hx hb dX12_findGoods_147 (by decide) ?_
                      exact ih31 (lg ++ [rel A 10 (triT A (10 + a) (10 + b) (10 + d))]) (d + 1) _ _ _ _ _ _ hw hm (lv_sub hl [2, 3, 4, 0] rfl) (fun k h1 h2 h3 h4 h5 => by rw [eA62, va_up_ne _ _ (by assumption), eA55, va_up_ne _ _ (by assumption), eA42, va_up_ne _ _ (by assumption), eA29, va_up_ne _ _ (by assumption), eA16, va_up_ne _ _ (by assumption), hFAA10 k h1 h2]; exact hFA k h1 h2 h3 h4 h5) (fun k h1 h2 => by rw [eB49, va_up_ne _ _ (by assumption), eB36, va_up_ne _ _ (by assumption), eB23, va_up_ne _ _ (by assumption), hFBA10 k h1]; exact hFB k h1 h2) (by rw [eA62, va_up_self, List.length_append]; rfl) (by rw [hTT]; exact gh_p hgh (by rw [eA62, va_up_ne _ _ (by decide), eA55, va_up_ne _ _ (by decide), eA42, va_up_self, eA29, va_up_self, eA16, va_up_self, hFAA10 20 (by decide) (by decide)]) (by rw [eB49, va_up_self, eB36, va_up_self, eB23, va_up_self, hFBA10 21 (by decide)]) (by rw [eA62, va_up_ne _ _ (by decide), eA55, va_up_self, eA42, va_up_ne _ _ (by decide), eA29, va_up_ne _ _ (by decide), eA16, va_up_ne _ _ (by decide), hFAA10 22 (by decide) (by decide)])) (by rw [gC_s (show d < nt by omega), g1, if_pos htg] at htot; rw [List.append_assoc]; exact htot) hb3 ha3 hab (by omega) (by omega) (by omega)
                    · refine lv_goto (tgt := 144) hx hb dX12_findGoods_58 (by decide) ?_
                      refine n_iinc C (lv' := [(3, _), (0, _), (1, _), (2, _)]) dX12_findGoods_144 hl (k := 3) rfl (by decide) rfl (fun ls hl => ?_)
                      refine lv_goto (tgt := 31) hx hb dX12_findGoods_147 (by decide) ?_
                      exact ih31 lg (d + 1) _ _ _ _ _ _ hw hm (lv_sub hl [1, 2, 3, 0] rfl) (fun k h1 h2 h3 h4 h5 => by rw [hFAA10 k h1 h2]; exact hFA k h1 h2 h3 h4 h5) (fun k h1 h2 => by rw [hFBA10 k h1]; exact hFB k h1 h2) (by rw [hFAA10 19 (by decide) (by decide)]; exact hgl) (gh_c hgh (hFAA10 20 (by decide) (by decide)) (hFAA10 22 (by decide) (by decide)) (hFBA10 21 (by decide))) (by rw [gC_s (show d < nt by omega), g1, if_neg (fun h => cq14 ((tg_c hA2 hA3).mpr h))] at htot; exact htot) hb3 ha3 hab (by omega) (by omega) (by omega)
              exact lp31 _ lg (b + 1) _ _ _ _ _ _ hw hm (lv_sub hl [1, 2, 3, 0] rfl) hFA hFB hgl hgh (by rw [gB_s (show b < nt by omega), List.append_assoc] at htot; exact htot) (by omega) (by omega) hab (by omega) (by omega) (Nat.lt_succ_self _)
        exact lp19 _ lg (a + 1) _ _ _ _ _ _ hw hm (lv_sub hl [1, 2, 0] rfl) hFA hFB hgl hgh (by rw [gA_s (show a < nt by omega)] at htot; exact htot) (by omega) (by omega) (by omega) (Nat.lt_succ_self _)
  exact lp7 _ [] 0 _ _ _ _ _ _ hw hm (lv_sub hl [1, 0] rfl) (fun k h1 h2 h3 h4 h5 => by rw [eA1, va_up_ne _ _ h3]) (fun _ _ _ => rfl) (by rw [eA1, va_up_self]; rfl) (gh_0 _ _) rfl (by omega) (Nat.lt_succ_self _)
