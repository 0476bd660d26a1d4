/-! ===== the reference, tenth methods (laid by program) ===== -/
def bmp (V : Nat → Int32) (i : Nat) : Nat → Int32 := upd V i (V i + nI 1)
abbrev lkG (n : Int32) (z t : GT) : Prop := t.2.2 = z.2.2 ∧ nrA n z.2.1.1 z.2.1.2.2 t.2.1.1 t.2.1.2.2 ∧ nrA n z.2.1.2.1 z.2.1.2.2 t.2.1.2.1 t.2.1.2.2
def vt1 (n : Int32) (z : GT) (V : Nat → Int32) (t : GT) : Nat → Int32 := if lkG n z t then bmp (bmp (bmp V (12 * z.1.1 + t.1.1)) (12 * z.1.2.1 + t.1.2.1)) (12 * z.1.2.2 + t.1.2.2) else V
theorem take_s {α β : Type} {gs : List α} {g : Nat} {t : α} {f : β → α → β} {V : β} (h : gs[g]? = some t) : (gs.take (g + 1)).foldl f V = f ((gs.take g).foldl f V) t := by
  rw [List.take_succ, h, List.foldl_append]
  rfl
theorem bm_s {A A1 A2 : MA} {V : Nat → Int32} {i : Nat} (h1 : A2 = va_up A1 23 (upd (A1 23) i (A1 23 i + nI 1))) (h2 : A1 = va_up A 23 V) : A2 = va_up A 23 (bmp V i) := by
  rw [h1, h2, va_up_self, bx_uu]
  rfl
theorem vt_0 (A : MA) : A = va_up A 23 (A 23) := by
  funext k
  by_cases h : k = 23
  · subst h; rw [va_up_self]
  · rw [va_up_ne _ _ h]
set_option maxHeartbeats 4000000 in
set_option maxRecDepth 100000 in
theorem c_X12_vote {l : Launch} {D : va_G} {cA : Nat → ClassId} {f : HF} {sz : Nat} {q : Nat → Nat} {A : MA} {B : MB} {z : GT} {gs : List GT} (hm : mo cA q A B f) (hz0 : A 16 0 = nI z.1.1) (hz1 : A 16 1 = nI z.1.2.1) (hz2 : A 16 2 = nI z.1.2.2) (hs0 : B 17 0 = z.2.1.1) (hs1 : B 17 1 = z.2.1.2.1) (hs2 : B 17 2 = z.2.1.2.2) (hz3 : A 18 0 = z.2.2) (hx0 : z.1.1 < 10) (hx1 : z.1.2.1 < 10) (hx2 : z.1.2.2 < 10) (hgl : A 19 0 = nI gs.length) (hgh : gh A B gs) (hok : ∀ t, t ∈ gs → t.1.1 < 12 ∧ t.1.2.1 < 12 ∧ t.1.2.2 < 12) (hlen : gs.length ≤ 220) : Met l yX12_vote wsX12_vote ({ frames := 2, cells := 0, slots := 0, locals := 52 } : Room) (va_Pc [.ref (q 0)] (hB D cA f sz)) (va_Qv (fun f1 => ∃ A1, mo cA q A1 B f1 ∧ A1 = va_up A 23 (gs.foldl (vt1 (A 4 0) z) (A 23))) (hE D f sz) (hA f sz)) 0 0 (hA f sz) := by
  refine h_of (cc := cX12_vote) (maxL := 5) (ret := none) (by decide +kernel) rfl (Nat.le_of_ble_eq_true rfl) ?_
  intro p e s m below meth c ls C hr hlk hnm hw hl
  have hx := C.1.1
  have hb := C.1.2.1
  have hl : lv_has ls 5 [(0, .ref (q 0))] := hl
  have lk0 : Cond.fieldLink RX12 126 "FallingLightModel" "goods" "I" ∈ wsX12_vote := by decide +kernel
  have lk1 : ∀ w ∈ u_ws RX12 TX12 27, w ∈ wsX12_vote := by decide +kernel
  have lk2 : Cond.fieldLink RX12 60 "FallingLightModel" "goodSquare" "[J" ∈ wsX12_vote := by decide +kernel
  have lk3 : Cond.fieldLink RX12 63 "FallingLightModel" "goodTurn" "[I" ∈ wsX12_vote := by decide +kernel
  have lk4 : Cond.fieldLink RX12 120 "FallingLightModel" "turn" "I" ∈ wsX12_vote := by decide +kernel
  have lk5 : Cond.fieldLink RX12 54 "FallingLightModel" "squareAt" "[J" ∈ wsX12_vote := by decide +kernel
  have lk6 : Cond.fieldLink RX12 66 "FallingLightModel" "voteOf" "[I" ∈ wsX12_vote := by decide +kernel
  have lk7 : Cond.fieldLink RX12 51 "FallingLightModel" "cornerAt" "[I" ∈ wsX12_vote := by decide +kernel
  have lk8 : Cond.fieldLink RX12 57 "FallingLightModel" "goodCorner" "[I" ∈ wsX12_vote := by decide +kernel
  refine lv_iconst (v := nI 0) hx hb dX12_vote_0 (by decide) ?_
  refine lv_istore_n (lv' := [(1, _), (0, _)]) hx hb dX12_vote_1 rfl hl (by decide) rfl (fun ls hl => ?_)
  have lp2 : ∀ (n : Nat) (g : Nat) (Ak : MA) (f1 : HF) (H1 : Heap) (locs1 : List Loc) (ls1 : Array Slot), hW D (hA f sz) s.heap f1 H1 locs1 → mo cA q Ak B f1 → lv_has ls1 5 [(0, .ref (q 0)), (1, .int (nI g))] → (Ak = va_up A 23 ((gs.take g).foldl (vt1 (A 4 0) z) (A 23))) → (g ≤ gs.length) → gs.length - g < n → W p l e ({ frames := 2, cells := 0, slots := 0, locals := 52 } : Room) s m ([.ref (q 0)]).toArray below meth c H1 locs1 0 0 (MQ below (va_Qv (fun f1 => ∃ A1, mo cA q A1 B f1 ∧ A1 = va_up A 23 (gs.foldl (vt1 (A 4 0) z) (A 23))) (hE D f sz) (hA f sz)) ([.ref (q 0)]).toArray s 0 0 (hA f sz)) (F0 m 2 ls1 []) := by
    intro n
    induction n with
    | zero => intros; omega
    | succ n ih2 =>
      intro g Ak f1 H locs ls hw hm hl hAk hg hmu
      have hFk : ∀ k, k ≠ 23 → Ak k = A k := fun k h => by rw [hAk, va_up_ne _ _ h]
      have hn19 : Ak 19 0 = nI gs.length := by rw [hFk 19 (by decide)]; exact hgl
      have hA4 : Ak 4 0 = A 4 0 := by rw [hFk 4 (by decide)]
      refine lv_iload_n hx hb dX12_vote_2 rfl (lv_at hl 1 rfl) ?_
      refine lv_aload_n hx hb dX12_vote_3 rfl (lv_at hl 0 rfl) ?_
      refine m_fld C hw hm lk1 19 (by decide) lk0 (v := .int (nI gs.length)) (congrArg (fun z => some (Value.int z)) hn19) dX12_vote_4 ?_
      refine n_cge C (by omega) (by omega) (tgt := 147) dX12_vote_7 (by decide) (fun cq1 => ?_) (fun cq1 => ?_)
      · exact h_vret C hr hlk hw (⟨_, hm, by rw [hAk, List.take_of_length_le (by omega)]⟩) dX12_vote_147
      · obtain ⟨t, ht⟩ : ∃ t, gs[g]? = some t := ⟨_, List.getElem?_eq_getElem cq1⟩
        obtain ⟨t0, t1, t2, u0, u1, u2, t3⟩ := hgh g t ht
        obtain ⟨o0, o1, o2⟩ := hok t (List.mem_of_getElem? ht)
        refine lv_aload_n hx hb dX12_vote_10 rfl (lv_at hl 0 rfl) ?_
        refine m_fld C hw hm lk1 21 (by decide) lk2 (v := .ref (q 21)) rfl dX12_vote_11 ?_
        refine lv_iconst (v := nI 3) hx hb dX12_vote_14 (by decide) ?_
        refine lv_iload_n hx hb dX12_vote_15 rfl (lv_at hl 1 rfl) ?_
        refine n_imul C dX12_vote_16 ?_
        refine lv_iconst (v := nI 2) hx hb dX12_vote_17 (by decide) ?_
        refine n_iadd C dX12_vote_18 ?_
        refine m_lald C hw hm 21 rfl (v := t.2.1.2.2) u2 (show 3 * g + 2 < 660 from (by omega)) dX12_vote_19 ?_
        refine lv_lstore_n (lv' := [(2, _), (0, _), (1, _)]) hx hb dX12_vote_20 rfl hl (by decide) rfl (fun ls hl => ?_)
        refine lv_aload_n hx hb dX12_vote_21 rfl (lv_at hl 1 rfl) ?_
        refine m_fld C hw hm lk1 22 (by decide) lk3 (v := .ref (q 22)) rfl dX12_vote_22 ?_
        refine lv_iload_n hx hb dX12_vote_25 rfl (lv_at hl 2 rfl) ?_
        refine m_iald C hw hm 22 rfl (v := t.2.2) (by rw [hFk 22 (by decide)]; exact t3) (show g < 220 from (by omega)) dX12_vote_26 ?_
        refine lv_aload_n hx hb dX12_vote_27 rfl (lv_at hl 1 rfl) ?_
        refine m_fld C hw hm lk1 18 (by decide) lk4 (v := .int z.2.2) (congrArg (fun z => some (Value.int z)) (by rw [hFk 18 (by decide)]; exact hz3)) dX12_vote_28 ?_
        refine lv_icmp_ne (tgt := 141) hx hb dX12_vote_31 (by decide) (fun cq2 => ?_) (fun cq2 => ?_)
        · refine n_iinc C (lv' := [(1, _), (2, _), (0, _)]) dX12_vote_141 hl (k := 2) rfl (by decide) rfl (fun ls hl => ?_)
          refine lv_goto (tgt := 2) hx hb dX12_vote_144 (by decide) ?_
          exact ih2 (g + 1) _ _ _ _ _ hw hm (lv_sub hl [2, 0] rfl) (by rw [take_s ht, vt1, if_neg (fun h => cq2 h.1)]; exact hAk) (by omega) (by omega)
        · refine lv_aload_n hx hb dX12_vote_34 rfl (lv_at hl 1 rfl) ?_
          refine lv_aload_n hx hb dX12_vote_35 rfl (lv_at hl 1 rfl) ?_
          refine m_fld C hw hm lk1 17 (by decide) lk5 (v := .ref (q 17)) rfl dX12_vote_36 ?_
          refine lv_iconst (v := nI 0) hx hb dX12_vote_39 (by decide) ?_
          refine m_lald C hw hm 17 rfl (v := z.2.1.1) hs0 (show 0 < 3 from (by omega)) dX12_vote_40 ?_
          refine lv_aload_n hx hb dX12_vote_41 rfl (lv_at hl 1 rfl) ?_
          refine m_fld C hw hm lk1 17 (by decide) lk5 (v := .ref (q 17)) rfl dX12_vote_42 ?_
          refine lv_iconst (v := nI 2) hx hb dX12_vote_45 (by decide) ?_
          refine m_lald C hw hm 17 rfl (v := z.2.1.2.2) hs2 (show 2 < 3 from (by omega)) dX12_vote_46 ?_
          refine lv_aload_n hx hb dX12_vote_47 rfl (lv_at hl 1 rfl) ?_
          refine m_fld C hw hm lk1 21 (by decide) lk2 (v := .ref (q 21)) rfl dX12_vote_48 ?_
          refine lv_iconst (v := nI 3) hx hb dX12_vote_51 (by decide) ?_
          refine lv_iload_n hx hb dX12_vote_52 rfl (lv_at hl 2 rfl) ?_
          refine n_imul C dX12_vote_53 ?_
          refine m_lald C hw hm 21 rfl (v := t.2.1.1) u0 (show 3 * g < 660 from (by omega)) dX12_vote_54 ?_
          refine lv_lload_n hx hb dX12_vote_55 rfl (lv_at hl 0 rfl) ?_
          refine h_calli hw (h_runV (n := 4) (As := [.long z.2.1.1, .long z.2.1.2.2, .long t.2.1.1, .long t.2.1.2.2]) (rest := []) C hw (c_X12_isNear hm) gX12_vote_X12_isNear rfl rfl rfl (by decide +kernel) ⟨by decide, by decide⟩ bX12 hm.1 rfl hl.1 rfl (Nat.le_of_ble_eq_true rfl) dX12_vote_56 ⟨by first | decide | omega, by first | decide | omega⟩) (fun r3 f4 H locs hp hw => ?_)
          obtain ⟨rfl, rfl⟩ := hp
          refine n_ifeqB C (tgt := 141) dX12_vote_59 (by decide) (fun cq5 => ?_) (fun cq5 => ?_)
          · rw [hA4] at cq5
            refine n_iinc C (lv' := [(1, _), (2, _), (0, _)]) dX12_vote_141 hl (k := 2) rfl (by decide) rfl (fun ls hl => ?_)
            refine lv_goto (tgt := 2) hx hb dX12_vote_144 (by decide) ?_
            exact ih2 (g + 1) _ _ _ _ _ hw hm (lv_sub hl [2, 0] rfl) (by rw [take_s ht, vt1, if_neg (fun h => cq5 h.2.1)]; exact hAk) (by omega) (by omega)
          · rw [hA4] at cq5
            refine lv_aload_n hx hb dX12_vote_62 rfl (lv_at hl 1 rfl) ?_
            refine lv_aload_n hx hb dX12_vote_63 rfl (lv_at hl 1 rfl) ?_
            refine m_fld C hw hm lk1 17 (by decide) lk5 (v := .ref (q 17)) rfl dX12_vote_64 ?_
            refine lv_iconst (v := nI 1) hx hb dX12_vote_67 (by decide) ?_
            refine m_lald C hw hm 17 rfl (v := z.2.1.2.1) hs1 (show 1 < 3 from (by omega)) dX12_vote_68 ?_
            refine lv_aload_n hx hb dX12_vote_69 rfl (lv_at hl 1 rfl) ?_
            refine m_fld C hw hm lk1 17 (by decide) lk5 (v := .ref (q 17)) rfl dX12_vote_70 ?_
            refine lv_iconst (v := nI 2) hx hb dX12_vote_73 (by decide) ?_
            refine m_lald C hw hm 17 rfl (v := z.2.1.2.2) hs2 (show 2 < 3 from (by omega)) dX12_vote_74 ?_
            refine lv_aload_n hx hb dX12_vote_75 rfl (lv_at hl 1 rfl) ?_
            refine m_fld C hw hm lk1 21 (by decide) lk2 (v := .ref (q 21)) rfl dX12_vote_76 ?_
            refine lv_iconst (v := nI 3) hx hb dX12_vote_79 (by decide) ?_
            refine lv_iload_n hx hb dX12_vote_80 rfl (lv_at hl 2 rfl) ?_
            refine n_imul C dX12_vote_81 ?_
            refine lv_iconst (v := nI 1) hx hb dX12_vote_82 (by decide) ?_
            refine n_iadd C dX12_vote_83 ?_
            refine m_lald C hw hm 21 rfl (v := t.2.1.2.1) u1 (show 3 * g + 1 < 660 from (by omega)) dX12_vote_84 ?_
            refine lv_lload_n hx hb dX12_vote_85 rfl (lv_at hl 0 rfl) ?_
            refine h_calli hw (h_runV (n := 4) (As := [.long z.2.1.2.1, .long z.2.1.2.2, .long t.2.1.2.1, .long t.2.1.2.2]) (rest := []) C hw (c_X12_isNear hm) gX12_vote_X12_isNear rfl rfl rfl (by decide +kernel) ⟨by decide, by decide⟩ bX12 hm.1 rfl hl.1 rfl (Nat.le_of_ble_eq_true rfl) dX12_vote_86 ⟨by first | decide | omega, by first | decide | omega⟩) (fun r6 f7 H locs hp hw => ?_)
            obtain ⟨rfl, rfl⟩ := hp
            refine n_ifneB C (tgt := 95) dX12_vote_89 (by decide) (fun cq8 => ?_) (fun cq8 => ?_)
            · rw [hA4] at cq8
              refine lv_iconst (v := nI 0) hx hb dX12_vote_95 (by decide) ?_
              refine lv_istore (lv' := [(4, _), (2, _), (0, _), (1, _)]) hx hb dX12_vote_96 hl (by decide) rfl (fun ls hl => ?_)
              refine lv_iload hx hb dX12_vote_98 (lv_at hl 0 rfl) ?_
              refine lv_iconst (v := nI 3) hx hb dX12_vote_100 (by decide) ?_
              refine n_cge C (by decide) (by decide) (tgt := 141) dX12_vote_101 (by decide) (fun h9 => absurd h9 (by decide)) (fun _ => ?_)
              refine lv_aload_n hx hb dX12_vote_104 rfl (lv_at hl 2 rfl) ?_
              refine m_fld C hw hm lk1 23 (by decide) lk6 (v := .ref (q 23)) rfl dX12_vote_105 ?_
              refine lv_bipush (v := nI 12) hx hb dX12_vote_108 (by decide) ?_
              refine lv_aload_n hx hb dX12_vote_110 rfl (lv_at hl 2 rfl) ?_
              refine m_fld C hw hm lk1 16 (by decide) lk7 (v := .ref (q 16)) rfl dX12_vote_111 ?_
              refine lv_iload hx hb dX12_vote_114 (lv_at hl 0 rfl) ?_
              refine m_iald C hw hm 16 rfl (v := nI z.1.1) (by rw [hFk 16 (by decide)]; exact hz0) (show 0 < 3 from (by omega)) dX12_vote_116 ?_
              refine n_imul C dX12_vote_117 ?_
              refine lv_aload_n hx hb dX12_vote_118 rfl (lv_at hl 2 rfl) ?_
              refine m_fld C hw hm lk1 20 (by decide) lk8 (v := .ref (q 20)) rfl dX12_vote_119 ?_
              refine lv_iconst (v := nI 3) hx hb dX12_vote_122 (by decide) ?_
              refine lv_iload_n hx hb dX12_vote_123 rfl (lv_at hl 3 rfl) ?_
              refine n_imul C dX12_vote_124 ?_
              refine lv_iload hx hb dX12_vote_125 (lv_at hl 0 rfl) ?_
              refine n_iadd C dX12_vote_127 ?_
              refine m_iald C hw hm 20 rfl (v := nI t.1.1) (by rw [hFk 20 (by decide)]; exact t0) (show 3 * g + 0 < 660 from (by omega)) dX12_vote_128 ?_
              refine n_iadd C dX12_vote_129 ?_
              refine lv_dup2_11 hx hb dX12_vote_130 rfl rfl ?_
              refine m_iald C hw hm 23 rfl (v := Ak 23 (12 * z.1.1 + t.1.1)) rfl (show 12 * z.1.1 + t.1.1 < 120 from (by omega)) dX12_vote_131 ?_
              refine lv_iconst (v := nI 1) hx hb dX12_vote_132 (by decide) ?_
              refine lv_iadd hx hb dX12_vote_133 ?_
              refine m_iast C hw hm 23 rfl (show 12 * z.1.1 + t.1.1 < 120 from (by omega)) dX12_vote_134 (fun A10 f11 H locs eA10 hw hm => ?_)
              have hn12 : A10 19 0 = nI gs.length := by rw [eA10, va_up_ne _ _ (by decide)]; exact hn19
              refine n_iinc C (lv' := [(4, _), (2, _), (0, _), (1, _)]) dX12_vote_135 hl (k := 0) rfl (by decide) rfl (fun ls hl => ?_)
              refine lv_goto (tgt := 98) hx hb dX12_vote_138 (by decide) ?_
              refine lv_iload hx hb dX12_vote_98 (lv_at hl 0 rfl) ?_
              refine lv_iconst (v := nI 3) hx hb dX12_vote_100 (by decide) ?_
              refine n_cge C (by decide) (by decide) (tgt := 141) dX12_vote_101 (by decide) (fun h9 => absurd h9 (by decide)) (fun _ => ?_)
              refine lv_aload_n hx hb dX12_vote_104 rfl (lv_at hl 2 rfl) ?_
              refine m_fld C hw hm lk1 23 (by decide) lk6 (v := .ref (q 23)) rfl dX12_vote_105 ?_
              refine lv_bipush (v := nI 12) hx hb dX12_vote_108 (by decide) ?_
              refine lv_aload_n hx hb dX12_vote_110 rfl (lv_at hl 2 rfl) ?_
              refine m_fld C hw hm lk1 16 (by decide) lk7 (v := .ref (q 16)) rfl dX12_vote_111 ?_
              refine lv_iload hx hb dX12_vote_114 (lv_at hl 0 rfl) ?_
              refine m_iald C hw hm 16 rfl (v := nI z.1.2.1) (by rw [eA10, va_up_ne _ _ (by decide), hFk 16 (by decide)]; exact hz1) (show 1 < 3 from (by omega)) dX12_vote_116 ?_
              refine n_imul C dX12_vote_117 ?_
              refine lv_aload_n hx hb dX12_vote_118 rfl (lv_at hl 2 rfl) ?_
              refine m_fld C hw hm lk1 20 (by decide) lk8 (v := .ref (q 20)) rfl dX12_vote_119 ?_
              refine lv_iconst (v := nI 3) hx hb dX12_vote_122 (by decide) ?_
              refine lv_iload_n hx hb dX12_vote_123 rfl (lv_at hl 3 rfl) ?_
              refine n_imul C dX12_vote_124 ?_
              refine lv_iload hx hb dX12_vote_125 (lv_at hl 0 rfl) ?_
              refine n_iadd C dX12_vote_127 ?_
              refine m_iald C hw hm 20 rfl (v := nI t.1.2.1) (by rw [eA10, va_up_ne _ _ (by decide), hFk 20 (by decide)]; exact t1) (show 3 * g + 1 < 660 from (by omega)) dX12_vote_128 ?_
              refine n_iadd C dX12_vote_129 ?_
              refine lv_dup2_11 hx hb dX12_vote_130 rfl rfl ?_
              refine m_iald C hw hm 23 rfl (v := A10 23 (12 * z.1.2.1 + t.1.2.1)) rfl (show 12 * z.1.2.1 + t.1.2.1 < 120 from (by omega)) dX12_vote_131 ?_
              refine lv_iconst (v := nI 1) hx hb dX12_vote_132 (by decide) ?_
              refine lv_iadd hx hb dX12_vote_133 ?_
              refine m_iast C hw hm 23 rfl (show 12 * z.1.2.1 + t.1.2.1 < 120 from (by omega)) dX12_vote_134 (fun A14 f15 H locs eA14 hw hm => ?_)
              have hn16 : A14 19 0 = nI gs.length := by rw [eA14, va_up_ne _ _ (by decide)]; exact hn12
              refine n_iinc C (lv' := [(4, _), (2, _), (0, _), (1, _)]) dX12_vote_135 hl (k := 0) rfl (by decide) rfl (fun ls hl => ?_)
              refine lv_goto (tgt := 98) hx hb dX12_vote_138 (by decide) ?_
              refine lv_iload hx hb dX12_vote_98 (lv_at hl 0 rfl) ?_
              refine lv_iconst (v := nI 3) hx hb dX12_vote_100 (by decide) ?_
              refine n_cge C (by decide) (by decide) (tgt := 141) dX12_vote_101 (by decide) (fun h9 => absurd h9 (by decide)) (fun _ => ?_)
              refine lv_aload_n hx hb dX12_vote_104 rfl (lv_at hl 2 rfl) ?_
              refine m_fld C hw hm lk1 23 (by decide) lk6 (v := .ref (q 23)) rfl dX12_vote_105 ?_
              refine lv_bipush (v := nI 12) hx hb dX12_vote_108 (by decide) ?_
              refine lv_aload_n hx hb dX12_vote_110 rfl (lv_at hl 2 rfl) ?_
              refine m_fld C hw hm lk1 16 (by decide) lk7 (v := .ref (q 16)) rfl dX12_vote_111 ?_
              refine lv_iload hx hb dX12_vote_114 (lv_at hl 0 rfl) ?_
              refine m_iald C hw hm 16 rfl (v := nI z.1.2.2) (by rw [eA14, va_up_ne _ _ (by decide), eA10, va_up_ne _ _ (by decide), hFk 16 (by decide)]; exact hz2) (show 2 < 3 from (by omega)) dX12_vote_116 ?_
              refine n_imul C dX12_vote_117 ?_
              refine lv_aload_n hx hb dX12_vote_118 rfl (lv_at hl 2 rfl) ?_
              refine m_fld C hw hm lk1 20 (by decide) lk8 (v := .ref (q 20)) rfl dX12_vote_119 ?_
              refine lv_iconst (v := nI 3) hx hb dX12_vote_122 (by decide) ?_
              refine lv_iload_n hx hb dX12_vote_123 rfl (lv_at hl 3 rfl) ?_
              refine n_imul C dX12_vote_124 ?_
              refine lv_iload hx hb dX12_vote_125 (lv_at hl 0 rfl) ?_
              refine n_iadd C dX12_vote_127 ?_
              refine m_iald C hw hm 20 rfl (v := nI t.1.2.2) (by rw [eA14, va_up_ne _ _ (by decide), eA10, va_up_ne _ _ (by decide), hFk 20 (by decide)]; exact t2) (show 3 * g + 2 < 660 from (by omega)) dX12_vote_128 ?_
              refine n_iadd C dX12_vote_129 ?_
              refine lv_dup2_11 hx hb dX12_vote_130 rfl rfl ?_
              refine m_iald C hw hm 23 rfl (v := A14 23 (12 * z.1.2.2 + t.1.2.2)) rfl (show 12 * z.1.2.2 + t.1.2.2 < 120 from (by omega)) dX12_vote_131 ?_
              refine lv_iconst (v := nI 1) hx hb dX12_vote_132 (by decide) ?_
              refine lv_iadd hx hb dX12_vote_133 ?_
              refine m_iast C hw hm 23 rfl (show 12 * z.1.2.2 + t.1.2.2 < 120 from (by omega)) dX12_vote_134 (fun A18 f19 H locs eA18 hw hm => ?_)
              have hn20 : A18 19 0 = nI gs.length := by rw [eA18, va_up_ne _ _ (by decide)]; exact hn16
              refine n_iinc C (lv' := [(4, _), (2, _), (0, _), (1, _)]) dX12_vote_135 hl (k := 0) rfl (by decide) rfl (fun ls hl => ?_)
              refine lv_goto (tgt := 98) hx hb dX12_vote_138 (by decide) ?_
              refine lv_iload hx hb dX12_vote_98 (lv_at hl 0 rfl) ?_
              refine lv_iconst (v := nI 3) hx hb dX12_vote_100 (by decide) ?_
              refine n_cge C (by decide) (by decide) (tgt := 141) dX12_vote_101 (by decide) (fun _ => ?_) (fun h9 => absurd h9 (by decide))
              refine n_iinc C (lv' := [(1, _), (4, _), (2, _), (0, _)]) dX12_vote_141 hl (k := 3) rfl (by decide) rfl (fun ls hl => ?_)
              refine lv_goto (tgt := 2) hx hb dX12_vote_144 (by decide) ?_
              exact ih2 (g + 1) _ _ _ _ _ hw hm (lv_sub hl [3, 0] rfl) (by rw [take_s ht, vt1, if_pos ⟨cq2, cq5, cq8⟩]; exact bm_s eA18 (bm_s eA14 (bm_s eA10 hAk))) (by omega) (by omega)
            · rw [hA4] at cq8
              refine lv_goto (tgt := 141) hx hb dX12_vote_92 (by decide) ?_
              refine n_iinc C (lv' := [(1, _), (2, _), (0, _)]) dX12_vote_141 hl (k := 2) rfl (by decide) rfl (fun ls hl => ?_)
              refine lv_goto (tgt := 2) hx hb dX12_vote_144 (by decide) ?_
              exact ih2 (g + 1) _ _ _ _ _ hw hm (lv_sub hl [2, 0] rfl) (by rw [take_s ht, vt1, if_neg (fun h => cq8 h.2.2)]; exact hAk) (by omega) (by omega)
  exact lp2 _ 0 _ _ _ _ _ hw hm (lv_sub hl [1, 0] rfl) (vt_0 A) (by omega) (Nat.lt_succ_self _)
