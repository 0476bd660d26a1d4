/-! ===== the reference, eleventh methods (laid by program) ===== -/
def vF (A : MA) (nt : Nat) (V : Nat → Int32) (z : GT) : Nat → Int32 := (gl A 10 nt).foldl (vt1 (A 4 0) z) V
def vtA (A : MA) (ns nt : Nat) : Nat → Int32 := (gl A 0 ns).foldl (vF A nt) (fun _ => nI 0)
def vt0 (A : MA) : Nat → Int32 := fun j => if j < 120 then nI 0 else A 23 j
theorem g1_0 (A : MA) (a b d : Nat) : g1 A 0 a b d = if tgA A a b d then [rel A 0 (triT A a b d)] else [] := by unfold g1; simp only [Nat.zero_add]
theorem gl_c {A A1 : MA} {o n : Nat} (h2 : A1 2 = A 2) (h3 : A1 3 = A 3) : gl A1 o n = gl A o n := by
  have h : g1 A1 o = g1 A o := by
    funext a b d
    unfold g1
    rw [tri_c h2 h3]
    unfold rel
    rw [tn_c h2 h3]
    by_cases ht : tgA A (o + a) (o + b) (o + d)
    · rw [if_pos ht, if_pos ((tg_c h2 h3).mpr ht)]
    · rw [if_neg ht, if_neg (fun h9 => ht ((tg_c h2 h3).mp h9))]
  simp only [gl, gA, gB, gC, h]
theorem gl_ok {A : MA} {o n : Nat} {t : GT} (h : t ∈ gl A o n) : t.1.1 < n ∧ t.1.2.1 < n ∧ t.1.2.2 < n := by
  unfold gl gA gB gC at h
  simp only [List.mem_flatMap, List.mem_range'_1] at h
  obtain ⟨a, ⟨_, ha⟩, b, ⟨_, hb⟩, d, ⟨_, hd⟩, ht⟩ := h
  unfold g1 at ht
  by_cases hg : tgA A (o + a) (o + b) (o + d)
  · rw [if_pos hg, List.mem_singleton] at ht
    subst ht
    obtain ⟨h1, h2, h3⟩ := tri_all (P := fun z => o ≤ z ∧ z < o + n) (A := A) (a := o + a) (b := o + b) (d := o + d) ⟨by omega, by omega⟩ ⟨by omega, by omega⟩ ⟨by omega, by omega⟩
    exact ⟨show _ - o < n by omega, show _ - o < n by omega, show _ - o < n by omega⟩
  · rw [if_neg hg] at ht
    cases ht
theorem z_0 (A : MA) : A = va_up A 23 (fun j => if j < 0 then nI 0 else A 23 j) := by
  funext k j
  by_cases h : k = 23
  · subst h; rw [va_up_self, if_neg (by omega)]
  · rw [va_up_ne _ _ h]
theorem z_s (A : MA) (i : Nat) : va_up (va_up A 23 (fun j => if j < i then nI 0 else A 23 j)) 23 (upd (va_up A 23 (fun j => if j < i then nI 0 else A 23 j) 23) i (nI 0)) = va_up A 23 (fun j => if j < i + 1 then nI 0 else A 23 j) := by
  rw [va_up_self, bx_uu]
  congr 1
  funext j
  by_cases h : j = i
  · subst h; rw [pk_us, if_pos (by omega)]
  · rw [pk_un h]
    by_cases h2 : j < i
    · rw [if_pos h2, if_pos (by omega)]
    · rw [if_neg h2, if_neg (by omega)]
def ag (V W9 : Nat → Int32) : Prop := ∀ j, j < 120 → V j = W9 j
theorem ag_b {V W9 : Nat → Int32} {i : Nat} (h : ag V W9) (hi : i < 120) : ag (bmp V i) (bmp W9 i) := fun j hj => by
  unfold bmp
  by_cases e : j = i
  · subst e; rw [pk_us, pk_us, h j hj]
  · rw [pk_un e, pk_un e, h j hj]
theorem ag_1 {V W9 : Nat → Int32} {n : Int32} {z t : GT} (h : ag V W9) (hz : z.1.1 < 10 ∧ z.1.2.1 < 10 ∧ z.1.2.2 < 10) (ht : t.1.1 < 12 ∧ t.1.2.1 < 12 ∧ t.1.2.2 < 12) : ag (vt1 n z V t) (vt1 n z W9 t) := by
  unfold vt1
  by_cases hl : lkG n z t
  · rw [if_pos hl, if_pos hl]
    exact ag_b (ag_b (ag_b h (by omega)) (by omega)) (by omega)
  · rw [if_neg hl, if_neg hl]
    exact h
theorem ag_l {n : Int32} {z : GT} (hz : z.1.1 < 10 ∧ z.1.2.1 < 10 ∧ z.1.2.2 < 10) : ∀ (gs : List GT) (V W9 : Nat → Int32), (∀ t, t ∈ gs → t.1.1 < 12 ∧ t.1.2.1 < 12 ∧ t.1.2.2 < 12) → ag V W9 → ag (gs.foldl (vt1 n z) V) (gs.foldl (vt1 n z) W9)
  | [], _, _, _, h => h
  | t :: gs, V, W9, ho, h => ag_l hz gs _ _ (fun y hy => ho y (List.mem_cons_of_mem _ hy)) (ag_1 h hz (ho t List.mem_cons_self))
theorem ag_v {A : MA} {nt : Nat} (hnt : nt ≤ 12) : ∀ (zs : List GT) (V W9 : Nat → Int32), (∀ t, t ∈ zs → t.1.1 < 10 ∧ t.1.2.1 < 10 ∧ t.1.2.2 < 10) → ag V W9 → ag (zs.foldl (vF A nt) V) (zs.foldl (vF A nt) W9)
  | [], _, _, _, h => h
  | z :: zs, V, W9, ho, h => ag_v hnt zs _ _ (fun y hy => ho y (List.mem_cons_of_mem _ hy)) (ag_l (ho z List.mem_cons_self) _ _ _ (fun t ht => by have := gl_ok ht; omega) h)
theorem vt_end {A : MA} {ns nt : Nat} (hns : ns ≤ 10) (hnt : nt ≤ 12) : ag ((gl A 0 ns).foldl (vF A nt) (vt0 A)) (vtA A ns nt) := ag_v hnt _ _ _ (fun t ht => by have := gl_ok ht; omega) (fun j hj => by unfold vt0; rw [if_pos hj])
def bsF (V : Nat → Int32) (p : Nat) : Nat → Option Nat
  | 0 => none
  | k + 1 => match bsF V p k with
    | none => some k
    | some b => if V (12 * p + k) ≤ V (12 * p + b) then some b else some k
def oI (o : Option Nat) : Int32 := match o with
  | none => -1
  | some b => nI b
theorem bs_lt {V : Nat → Int32} {p : Nat} : ∀ {k b : Nat}, bsF V p k = some b → b < k
  | 0, b, h => by cases h
  | k + 1, b, h => by
    unfold bsF at h
    cases hb : bsF V p k with
    | none => rw [hb] at h; cases h; omega
    | some c =>
      rw [hb] at h
      have := bs_lt hb
      dsimp only at h
      by_cases h2 : V (12 * p + k) ≤ V (12 * p + c)
      · rw [if_pos h2] at h; cases h; omega
      · rw [if_neg h2] at h; cases h; omega
theorem bs_n {V : Nat → Int32} {p k : Nat} (h : bsF V p k = none) : bsF V p (k + 1) = some k := by rw [bsF, h]
theorem bs_g {V : Nat → Int32} {p k b : Nat} (h : bsF V p k = some b) (h2 : ¬ V (12 * p + k) ≤ V (12 * p + b)) : bsF V p (k + 1) = some k := by rw [bsF, h]; exact if_neg h2
theorem bs_k {V : Nat → Int32} {p k b : Nat} (h : bsF V p k = some b) (h2 : V (12 * p + k) ≤ V (12 * p + b)) : bsF V p (k + 1) = some b := by rw [bsF, h]; exact if_pos h2
theorem oI_nn {o : Option Nat} (h : ¬ oI o < 0) : ∃ b, o = some b ∧ oI o = nI b := by
  cases o with
  | none => exact absurd (show oI none < 0 by decide) h
  | some b => exact ⟨b, rfl, rfl⟩
theorem oI_lt {o : Option Nat} (hb : ∀ b, o = some b → b < 2 ^ 31) (h : oI o < 0) : o = none := by
  cases o with
  | none => rfl
  | some b => exact absurd h (nI_pos (hb b rfl))
abbrev mtP (V : Nat → Int32) (ns nt p b : Nat) : Prop := nI 2 ≤ V (12 * p + b) ∧ (∀ j, j < nt → ¬ j = b → V (12 * p + j) < V (12 * p + b)) ∧ ∀ j, j < ns → ¬ j = p → V (12 * j + b) < V (12 * p + b)
def mtF (V : Nat → Int32) (ns nt p : Nat) : Option Nat := match bsF V p nt with
  | none => none
  | some b => if mtP V ns nt p b then some b else none
theorem mt_n {V : Nat → Int32} {ns nt p : Nat} (h : bsF V p nt = none) : mtF V ns nt p = none := by unfold mtF; rw [h]
theorem mt_t {V : Nat → Int32} {ns nt p b : Nat} (h : bsF V p nt = some b) (h2 : mtP V ns nt p b) : mtF V ns nt p = some b := by unfold mtF; rw [h]; exact if_pos h2
theorem mt_f {V : Nat → Int32} {ns nt p b : Nat} (h : bsF V p nt = some b) (h2 : ¬ mtP V ns nt p b) : mtF V ns nt p = none := by unfold mtF; rw [h]; exact if_neg h2
set_option maxHeartbeats 4000000 in
set_option maxRecDepth 100000 in
theorem c_X12_matchOf {l : Launch} {D : va_G} {cA : Nat → ClassId} {f : HF} {sz : Nat} {q : Nat → Nat} {A : MA} {B : MB} {ns nt p9 : Nat} (hm : mo cA q A B f) (hns : A 0 0 = nI ns) (hnt : A 1 0 = nI nt) (hns2 : ns ≤ 10) (hnt2 : nt ≤ 12) (hp9 : p9 < ns) : Met l yX12_matchOf wsX12_matchOf ({ frames := 0, cells := 0, slots := 0, locals := 0 } : Room) (va_Pc [.ref (q 0), .int (nI p9)] (hB D cA f sz)) (va_Qi (fun r f1 => oI (mtF (A 23) ns nt p9) = r ∧ f = f1) (hE D f sz) (hA f sz)) 0 0 (hA f sz) := by
  refine h_of (cc := cX12_matchOf) (maxL := 5) (ret := (some .int)) (by decide +kernel) rfl (Nat.le_of_ble_eq_true rfl) ?_
  intro p e s m below meth c ls C hr hlk hnm hw hl
  have hx := C.1.1
  have hb := C.1.2.1
  have hl : lv_has ls 5 [(0, .ref (q 0)), (1, .int (nI p9))] := hl
  have lk0 : Cond.fieldLink RX12 96 "FallingLightModel" "stars" "I" ∈ wsX12_matchOf := by decide +kernel
  have lk1 : ∀ w ∈ u_ws RX12 TX12 27, w ∈ wsX12_matchOf := by decide +kernel
  have lk2 : Cond.fieldLink RX12 66 "FallingLightModel" "voteOf" "[I" ∈ wsX12_matchOf := by decide +kernel
  have lk3 : Cond.fieldLink RX12 101 "FallingLightModel" "spots" "I" ∈ wsX12_matchOf := by decide +kernel
  refine lv_iconst (v := (-1)) hx hb dX12_matchOf_0 (by decide) ?_
  refine lv_istore_n (lv' := [(2, _), (0, _), (1, _)]) hx hb dX12_matchOf_1 rfl hl (by decide) rfl (fun ls hl => ?_)
  refine lv_iconst (v := nI 0) hx hb dX12_matchOf_2 (by decide) ?_
  refine lv_istore_n (lv' := [(3, _), (2, _), (0, _), (1, _)]) hx hb dX12_matchOf_3 rfl hl (by decide) rfl (fun ls hl => ?_)
  have lp4 : ∀ (n : Nat) (k : Nat) (H1 : Heap) (locs1 : List Loc) (ls1 : Array Slot), hW D (hA f sz) s.heap f H1 locs1 → mo cA q A B f → lv_has ls1 5 [(0, .ref (q 0)), (1, .int (nI p9)), (2, .int (oI (bsF (A 23) p9 k))), (3, .int (nI k))] → (k ≤ nt) → nt - k < n → W p l e ({ frames := 0, cells := 0, slots := 0, locals := 0 } : Room) s m ([.ref (q 0), .int (nI p9)]).toArray below meth c H1 locs1 0 0 (MQ below (va_Qi (fun r f1 => oI (mtF (A 23) ns nt p9) = r ∧ f = f1) (hE D f sz) (hA f sz)) ([.ref (q 0), .int (nI p9)]).toArray s 0 0 (hA f sz)) (F0 m 4 ls1 []) := by
    intro n
    induction n with
    | zero => intros; omega
    | succ n ih4 =>
      intro k H locs ls hw hm hl hk hmu
      refine lv_iload_n hx hb dX12_matchOf_4 rfl (lv_at hl 3 rfl) ?_
      refine lv_aload_n hx hb dX12_matchOf_5 rfl (lv_at hl 0 rfl) ?_
      refine m_fld C hw hm lk1 1 (by decide) lk0 (v := .int (nI nt)) (congrArg (fun z => some (Value.int z)) hnt) dX12_matchOf_6 ?_
      refine n_cge C (by omega) (by omega) (tgt := 53) dX12_matchOf_9 (by decide) (fun cq1 => ?_) (fun cq1 => ?_)
      · obtain rfl : nt = k := by omega
        refine lv_iload_n hx hb dX12_matchOf_53 rfl (lv_at hl 2 rfl) ?_
        refine lv_if_lt (tgt := 72) hx hb dX12_matchOf_54 (by decide) (fun cq2 => ?_) (fun cq2 => ?_)
        · have hbn := oI_lt (fun b h9 => by have := bs_lt h9; omega) cq2
          refine lv_iconst (v := (-1)) hx hb dX12_matchOf_72 (by decide) ?_
          exact h_iret C hr hlk hw (⟨by rw [mt_n hbn]; rfl, rfl⟩) dX12_matchOf_73
        · obtain ⟨b, hbb, hbI⟩ := oI_nn cq2
          have hbk := bs_lt hbb
          rw [hbI] at hl
          refine lv_aload_n hx hb dX12_matchOf_57 rfl (lv_at hl 0 rfl) ?_
          refine m_fld C hw hm lk1 23 (by decide) lk2 (v := .ref (q 23)) rfl dX12_matchOf_58 ?_
          refine lv_bipush (v := nI 12) hx hb dX12_matchOf_61 (by decide) ?_
          refine lv_iload_n hx hb dX12_matchOf_63 rfl (lv_at hl 1 rfl) ?_
          refine n_imul C dX12_matchOf_64 ?_
          refine lv_iload_n hx hb dX12_matchOf_65 rfl (lv_at hl 2 rfl) ?_
          refine n_iadd C dX12_matchOf_66 ?_
          refine m_iald C hw hm 23 rfl (v := A 23 (12 * p9 + b)) rfl (show 12 * p9 + b < 120 from (by omega)) dX12_matchOf_67 ?_
          refine lv_iconst (v := nI 2) hx hb dX12_matchOf_68 (by decide) ?_
          refine lv_icmp_ge (tgt := 74) hx hb dX12_matchOf_69 (by decide) (fun cq3 => ?_) (fun cq3 => ?_)
          · refine lv_aload_n hx hb dX12_matchOf_74 rfl (lv_at hl 0 rfl) ?_
            refine m_fld C hw hm lk1 23 (by decide) lk2 (v := .ref (q 23)) rfl dX12_matchOf_75 ?_
            refine lv_bipush (v := nI 12) hx hb dX12_matchOf_78 (by decide) ?_
            refine lv_iload_n hx hb dX12_matchOf_80 rfl (lv_at hl 1 rfl) ?_
            refine n_imul C dX12_matchOf_81 ?_
            refine lv_iload_n hx hb dX12_matchOf_82 rfl (lv_at hl 2 rfl) ?_
            refine n_iadd C dX12_matchOf_83 ?_
            refine m_iald C hw hm 23 rfl (v := A 23 (12 * p9 + b)) rfl (show 12 * p9 + b < 120 from (by omega)) dX12_matchOf_84 ?_
            refine lv_istore_n (lv' := [(3, _), (0, _), (1, _), (2, _)]) hx hb dX12_matchOf_85 rfl hl (by decide) rfl (fun ls hl => ?_)
            refine lv_iconst (v := nI 0) hx hb dX12_matchOf_86 (by decide) ?_
            refine lv_istore (lv' := [(4, _), (3, _), (0, _), (1, _), (2, _)]) hx hb dX12_matchOf_87 hl (by decide) rfl (fun ls hl => ?_)
            have lp89 : ∀ (n : Nat) (k2 : Nat) (H1 : Heap) (locs1 : List Loc) (ls1 : Array Slot), hW D (hA f sz) s.heap f H1 locs1 → mo cA q A B f → lv_has ls1 5 [(0, .ref (q 0)), (1, .int (nI p9)), (2, .int (nI b)), (3, .int (A 23 (12 * p9 + b))), (4, .int (nI k2))] → (k2 ≤ nt) → (∀ j, j < k2 → ¬ j = b → A 23 (12 * p9 + j) < A 23 (12 * p9 + b)) → nt - k2 < n → W p l e ({ frames := 0, cells := 0, slots := 0, locals := 0 } : Room) s m ([.ref (q 0), .int (nI p9)]).toArray below meth c H1 locs1 0 0 (MQ below (va_Qi (fun r f1 => oI (mtF (A 23) ns nt p9) = r ∧ f = f1) (hE D f sz) (hA f sz)) ([.ref (q 0), .int (nI p9)]).toArray s 0 0 (hA f sz)) (F0 m 89 ls1 []) := by
              intro n
              induction n with
              | zero => intros; omega
              | succ n ih89 =>
                intro k2 H locs ls hw hm hl hk2 hm2 hmu
                refine lv_iload hx hb dX12_matchOf_89 (lv_at hl 4 rfl) ?_
                refine lv_aload_n hx hb dX12_matchOf_91 rfl (lv_at hl 0 rfl) ?_
                refine m_fld C hw hm lk1 1 (by decide) lk0 (v := .int (nI nt)) (congrArg (fun z => some (Value.int z)) hnt) dX12_matchOf_92 ?_
                refine n_cge C (by omega) (by omega) (tgt := 128) dX12_matchOf_95 (by decide) (fun cq4 => ?_) (fun cq4 => ?_)
                · refine lv_iconst (v := nI 0) hx hb dX12_matchOf_128 (by decide) ?_
                  refine lv_istore (lv' := [(4, _), (0, _), (1, _), (2, _), (3, _)]) hx hb dX12_matchOf_129 hl (by decide) rfl (fun ls hl => ?_)
                  have lp131 : ∀ (n : Nat) (k3 : Nat) (H1 : Heap) (locs1 : List Loc) (ls1 : Array Slot), hW D (hA f sz) s.heap f H1 locs1 → mo cA q A B f → lv_has ls1 5 [(0, .ref (q 0)), (1, .int (nI p9)), (2, .int (nI b)), (3, .int (A 23 (12 * p9 + b))), (4, .int (nI k3))] → (k3 ≤ ns) → (∀ j, j < k3 → ¬ j = p9 → A 23 (12 * j + b) < A 23 (12 * p9 + b)) → ns - k3 < n → W p l e ({ frames := 0, cells := 0, slots := 0, locals := 0 } : Room) s m ([.ref (q 0), .int (nI p9)]).toArray below meth c H1 locs1 0 0 (MQ below (va_Qi (fun r f1 => oI (mtF (A 23) ns nt p9) = r ∧ f = f1) (hE D f sz) (hA f sz)) ([.ref (q 0), .int (nI p9)]).toArray s 0 0 (hA f sz)) (F0 m 131 ls1 []) := by
                    intro n
                    induction n with
                    | zero => intros; omega
                    | succ n ih131 =>
                      intro k3 H locs ls hw hm hl hk3 hm3 hmu
                      refine lv_iload hx hb dX12_matchOf_131 (lv_at hl 4 rfl) ?_
                      refine lv_aload_n hx hb dX12_matchOf_133 rfl (lv_at hl 0 rfl) ?_
                      refine m_fld C hw hm lk1 0 (by decide) lk3 (v := .int (nI ns)) (congrArg (fun z => some (Value.int z)) hns) dX12_matchOf_134 ?_
                      refine n_cge C (by omega) (by omega) (tgt := 170) dX12_matchOf_137 (by decide) (fun cq5 => ?_) (fun cq5 => ?_)
                      · refine lv_iload_n hx hb dX12_matchOf_170 rfl (lv_at hl 2 rfl) ?_
                        exact h_iret C hr hlk hw (⟨by rw [mt_t hbb ⟨cq3, fun j hj => hm2 j (by omega), fun j hj => hm3 j (by omega)⟩]; rfl, rfl⟩) dX12_matchOf_171
                      · refine lv_iload hx hb dX12_matchOf_140 (lv_at hl 4 rfl) ?_
                        refine lv_iload_n hx hb dX12_matchOf_142 rfl (lv_at hl 1 rfl) ?_
                        refine n_ceq C (by omega) (by omega) (tgt := 164) dX12_matchOf_143 (by decide) (fun cq6 => ?_) (fun cq6 => ?_)
                        · refine n_iinc C (lv' := [(4, _), (0, _), (1, _), (2, _), (3, _)]) dX12_matchOf_164 hl (k := 4) rfl (by decide) rfl (fun ls hl => ?_)
                          refine lv_goto (tgt := 131) hx hb dX12_matchOf_167 (by decide) ?_
                          exact ih131 (k3 + 1) _ _ _ hw hm (lv_sub hl [1, 2, 3, 4, 0] rfl) (by omega) (fun j hj hne => (Nat.lt_succ_iff_lt_or_eq.mp hj).elim (fun h => hm3 j h hne) (fun e => by subst e; exact absurd cq6 hne)) (by omega)
                        · refine lv_aload_n hx hb dX12_matchOf_146 rfl (lv_at hl 0 rfl) ?_
                          refine m_fld C hw hm lk1 23 (by decide) lk2 (v := .ref (q 23)) rfl dX12_matchOf_147 ?_
                          refine lv_bipush (v := nI 12) hx hb dX12_matchOf_150 (by decide) ?_
                          refine lv_iload hx hb dX12_matchOf_152 (lv_at hl 4 rfl) ?_
                          refine n_imul C dX12_matchOf_154 ?_
                          refine lv_iload_n hx hb dX12_matchOf_155 rfl (lv_at hl 2 rfl) ?_
                          refine n_iadd C dX12_matchOf_156 ?_
                          refine m_iald C hw hm 23 rfl (v := A 23 (12 * k3 + b)) rfl (show 12 * k3 + b < 120 from (by omega)) dX12_matchOf_157 ?_
                          refine lv_iload_n hx hb dX12_matchOf_158 rfl (lv_at hl 3 rfl) ?_
                          refine lv_icmp_lt (tgt := 164) hx hb dX12_matchOf_159 (by decide) (fun cq7 => ?_) (fun cq7 => ?_)
                          · refine n_iinc C (lv' := [(4, _), (0, _), (1, _), (2, _), (3, _)]) dX12_matchOf_164 hl (k := 4) rfl (by decide) rfl (fun ls hl => ?_)
                            refine lv_goto (tgt := 131) hx hb dX12_matchOf_167 (by decide) ?_
                            exact ih131 (k3 + 1) _ _ _ hw hm (lv_sub hl [1, 2, 3, 4, 0] rfl) (by omega) (fun j hj hne => (Nat.lt_succ_iff_lt_or_eq.mp hj).elim (fun h => hm3 j h hne) (fun e => by subst e; exact cq7)) (by omega)
                          · refine lv_iconst (v := (-1)) hx hb dX12_matchOf_162 (by decide) ?_
                            exact h_iret C hr hlk hw (⟨by rw [mt_f hbb (fun h => cq7 (h.2.2 k3 (by omega) cq6))]; rfl, rfl⟩) dX12_matchOf_163
                  exact lp131 _ 0 _ _ _ hw hm (lv_sub hl [1, 2, 3, 4, 0] rfl) (by omega) (fun j hj => absurd hj (by omega)) (Nat.lt_succ_self _)
                · refine lv_iload hx hb dX12_matchOf_98 (lv_at hl 4 rfl) ?_
                  refine lv_iload_n hx hb dX12_matchOf_100 rfl (lv_at hl 2 rfl) ?_
                  refine n_ceq C (by omega) (by omega) (tgt := 122) dX12_matchOf_101 (by decide) (fun cq8 => ?_) (fun cq8 => ?_)
                  · refine n_iinc C (lv' := [(4, _), (0, _), (1, _), (2, _), (3, _)]) dX12_matchOf_122 hl (k := 4) rfl (by decide) rfl (fun ls hl => ?_)
                    refine lv_goto (tgt := 89) hx hb dX12_matchOf_125 (by decide) ?_
                    exact ih89 (k2 + 1) _ _ _ hw hm (lv_sub hl [1, 2, 3, 4, 0] rfl) (by omega) (fun j hj hne => (Nat.lt_succ_iff_lt_or_eq.mp hj).elim (fun h => hm2 j h hne) (fun e => by subst e; exact absurd cq8 hne)) (by omega)
                  · refine lv_aload_n hx hb dX12_matchOf_104 rfl (lv_at hl 0 rfl) ?_
                    refine m_fld C hw hm lk1 23 (by decide) lk2 (v := .ref (q 23)) rfl dX12_matchOf_105 ?_
                    refine lv_bipush (v := nI 12) hx hb dX12_matchOf_108 (by decide) ?_
                    refine lv_iload_n hx hb dX12_matchOf_110 rfl (lv_at hl 1 rfl) ?_
                    refine n_imul C dX12_matchOf_111 ?_
                    refine lv_iload hx hb dX12_matchOf_112 (lv_at hl 4 rfl) ?_
                    refine n_iadd C dX12_matchOf_114 ?_
                    refine m_iald C hw hm 23 rfl (v := A 23 (12 * p9 + k2)) rfl (show 12 * p9 + k2 < 120 from (by omega)) dX12_matchOf_115 ?_
                    refine lv_iload_n hx hb dX12_matchOf_116 rfl (lv_at hl 3 rfl) ?_
                    refine lv_icmp_lt (tgt := 122) hx hb dX12_matchOf_117 (by decide) (fun cq9 => ?_) (fun cq9 => ?_)
                    · refine n_iinc C (lv' := [(4, _), (0, _), (1, _), (2, _), (3, _)]) dX12_matchOf_122 hl (k := 4) rfl (by decide) rfl (fun ls hl => ?_)
                      refine lv_goto (tgt := 89) hx hb dX12_matchOf_125 (by decide) ?_
                      exact ih89 (k2 + 1) _ _ _ hw hm (lv_sub hl [1, 2, 3, 4, 0] rfl) (by omega) (fun j hj hne => (Nat.lt_succ_iff_lt_or_eq.mp hj).elim (fun h => hm2 j h hne) (fun e => by subst e; exact cq9)) (by omega)
                    · refine lv_iconst (v := (-1)) hx hb dX12_matchOf_120 (by decide) ?_
                      exact h_iret C hr hlk hw (⟨by rw [mt_f hbb (fun h => cq9 (h.2.1 k2 (by omega) cq8))]; rfl, rfl⟩) dX12_matchOf_121
            exact lp89 _ 0 _ _ _ hw hm (lv_sub hl [2, 3, 4, 1, 0] rfl) (by omega) (fun j hj => absurd hj (by omega)) (Nat.lt_succ_self _)
          · refine lv_iconst (v := (-1)) hx hb dX12_matchOf_72 (by decide) ?_
            exact h_iret C hr hlk hw (⟨by rw [mt_f hbb (fun h => cq3 h.1)]; rfl, rfl⟩) dX12_matchOf_73
      · refine lv_iload_n hx hb dX12_matchOf_12 rfl (lv_at hl 2 rfl) ?_
        refine lv_if_lt (tgt := 41) hx hb dX12_matchOf_13 (by decide) (fun cq10 => ?_) (fun cq10 => ?_)
        · have hbn := oI_lt (fun b h9 => by have := bs_lt h9; omega) cq10
          refine lv_iload_n hx hb dX12_matchOf_41 rfl (lv_at hl 3 rfl) ?_
          refine lv_goto (tgt := 46) hx hb dX12_matchOf_42 (by decide) ?_
          refine W.eq (g2 := F0 m 46 ls [.int (oI (bsF (A 23) p9 (k + 1)))]) (by rw [bs_n hbn]; rfl) ?_
          refine lv_istore_n (lv' := [(2, _), (0, _), (1, _), (3, _)]) hx hb dX12_matchOf_46 rfl hl (by decide) rfl (fun ls hl => ?_)
          refine n_iinc C (lv' := [(3, _), (2, _), (0, _), (1, _)]) dX12_matchOf_47 hl (k := 3) rfl (by decide) rfl (fun ls hl => ?_)
          refine lv_goto (tgt := 4) hx hb dX12_matchOf_50 (by decide) ?_
          exact ih4 (k + 1) _ _ _ hw hm (lv_sub hl [2, 3, 1, 0] rfl) (by omega) (by omega)
        · obtain ⟨b, hbb, hbI⟩ := oI_nn cq10
          have hbk := bs_lt hbb
          rw [hbI] at hl
          refine lv_aload_n hx hb dX12_matchOf_16 rfl (lv_at hl 0 rfl) ?_
          refine m_fld C hw hm lk1 23 (by decide) lk2 (v := .ref (q 23)) rfl dX12_matchOf_17 ?_
          refine lv_bipush (v := nI 12) hx hb dX12_matchOf_20 (by decide) ?_
          refine lv_iload_n hx hb dX12_matchOf_22 rfl (lv_at hl 1 rfl) ?_
          refine n_imul C dX12_matchOf_23 ?_
          refine lv_iload_n hx hb dX12_matchOf_24 rfl (lv_at hl 3 rfl) ?_
          refine n_iadd C dX12_matchOf_25 ?_
          refine m_iald C hw hm 23 rfl (v := A 23 (12 * p9 + k)) rfl (show 12 * p9 + k < 120 from (by omega)) dX12_matchOf_26 ?_
          refine lv_aload_n hx hb dX12_matchOf_27 rfl (lv_at hl 0 rfl) ?_
          refine m_fld C hw hm lk1 23 (by decide) lk2 (v := .ref (q 23)) rfl dX12_matchOf_28 ?_
          refine lv_bipush (v := nI 12) hx hb dX12_matchOf_31 (by decide) ?_
          refine lv_iload_n hx hb dX12_matchOf_33 rfl (lv_at hl 1 rfl) ?_
          refine n_imul C dX12_matchOf_34 ?_
          refine lv_iload_n hx hb dX12_matchOf_35 rfl (lv_at hl 2 rfl) ?_
          refine n_iadd C dX12_matchOf_36 ?_
          refine m_iald C hw hm 23 rfl (v := A 23 (12 * p9 + b)) rfl (show 12 * p9 + b < 120 from (by omega)) dX12_matchOf_37 ?_
          refine lv_icmp_le (tgt := 45) hx hb dX12_matchOf_38 (by decide) (fun cq11 => ?_) (fun cq11 => ?_)
          · refine lv_iload_n hx hb dX12_matchOf_45 rfl (lv_at hl 2 rfl) ?_
            refine W.eq (g2 := F0 m 46 ls [.int (oI (bsF (A 23) p9 (k + 1)))]) (by rw [bs_k hbb cq11]; rfl) ?_
            refine lv_istore_n (lv' := [(2, _), (0, _), (1, _), (3, _)]) hx hb dX12_matchOf_46 rfl hl (by decide) rfl (fun ls hl => ?_)
            refine n_iinc C (lv' := [(3, _), (2, _), (0, _), (1, _)]) dX12_matchOf_47 hl (k := 3) rfl (by decide) rfl (fun ls hl => ?_)
            refine lv_goto (tgt := 4) hx hb dX12_matchOf_50 (by decide) ?_
            exact ih4 (k + 1) _ _ _ hw hm (lv_sub hl [2, 3, 1, 0] rfl) (by omega) (by omega)
          · refine lv_iload_n hx hb dX12_matchOf_41 rfl (lv_at hl 3 rfl) ?_
            refine lv_goto (tgt := 46) hx hb dX12_matchOf_42 (by decide) ?_
            refine W.eq (g2 := F0 m 46 ls [.int (oI (bsF (A 23) p9 (k + 1)))]) (by rw [bs_g hbb cq11]; rfl) ?_
            refine lv_istore_n (lv' := [(2, _), (0, _), (1, _), (3, _)]) hx hb dX12_matchOf_46 rfl hl (by decide) rfl (fun ls hl => ?_)
            refine n_iinc C (lv' := [(3, _), (2, _), (0, _), (1, _)]) dX12_matchOf_47 hl (k := 3) rfl (by decide) rfl (fun ls hl => ?_)
            refine lv_goto (tgt := 4) hx hb dX12_matchOf_50 (by decide) ?_
            exact ih4 (k + 1) _ _ _ hw hm (lv_sub hl [2, 3, 1, 0] rfl) (by omega) (by omega)
  exact lp4 _ 0 _ _ _ hw hm (lv_sub hl [2, 3, 1, 0] rfl) (by omega) (Nat.lt_succ_self _)
