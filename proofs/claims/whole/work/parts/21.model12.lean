/-! ===== the reference, twelfth methods (laid by program) ===== -/
set_option maxHeartbeats 4000000 in
set_option maxRecDepth 100000 in
theorem c_X12_findVotes {l : Launch} {D : va_G} {cA : Nat → ClassId} {f : HF} {sz : Nat} {q : Nat → Nat} {A : MA} {B : MB} {ns nt : Nat} (hm : mo cA q A B f) (hns : A 0 0 = nI ns) (hnt : A 1 0 = nI nt) (hns2 : ns ≤ 10) (hnt2 : nt ≤ 12) : Met l yX12_findVotes wsX12_findVotes ({ frames := 3, cells := 0, slots := 0, locals := 76 } : Room) (va_Pc [.ref (q 0)] (hB D cA f sz)) (va_Qv (fun f1 => ∃ A1 B1, mo cA q A1 B1 f1 ∧ (∀ k, k ≠ 16 → k ≠ 18 → k ≠ 19 → k ≠ 20 → k ≠ 22 → k ≠ 23 → A1 k = A k) ∧ (∀ k, k ≠ 17 → k ≠ 21 → B1 k = B k) ∧ ∀ j, j < 120 → A1 23 j = vtA A ns nt j) (hE D f sz) (hA f sz)) 0 0 (hA f sz) := by
  refine h_of (cc := cX12_findVotes) (maxL := 4) (ret := none) (by decide +kernel) rfl (Nat.le_of_ble_eq_true rfl) ?_
  intro p e s m below meth c ls C hr hlk hnm hw hl
  have hx := C.1.1
  have hb := C.1.2.1
  have hl : lv_has ls 4 [(0, .ref (q 0))] := hl
  have lk0 : Cond.fieldLink RX12 101 "FallingLightModel" "spots" "I" ∈ wsX12_findVotes := by decide +kernel
  have lk1 : ∀ w ∈ u_ws RX12 TX12 27, w ∈ wsX12_findVotes := by decide +kernel
  have lk2 : Cond.fieldLink RX12 66 "FallingLightModel" "voteOf" "[I" ∈ wsX12_findVotes := by decide +kernel
  refine lv_iconst (v := nI 0) hx hb dX12_findVotes_0 (by decide) ?_
  refine lv_istore_n (lv' := [(1, _), (0, _)]) hx hb dX12_findVotes_1 rfl hl (by decide) rfl (fun ls hl => ?_)
  have lp2 : ∀ (n : Nat) (k : Nat) (Az : MA) (f1 : HF) (H1 : Heap) (locs1 : List Loc) (ls1 : Array Slot), hW D (hA f sz) s.heap f1 H1 locs1 → mo cA q Az B f1 → lv_has ls1 4 [(0, .ref (q 0)), (1, .int (nI k))] → (Az = va_up A 23 (fun j => if j < k then nI 0 else A 23 j)) → (k ≤ 120) → 120 - k < n → W p l e ({ frames := 3, cells := 0, slots := 0, locals := 76 } : Room) s m ([.ref (q 0)]).toArray below meth c H1 locs1 0 0 (MQ below (va_Qv (fun f1 => ∃ A1 B1, mo cA q A1 B1 f1 ∧ (∀ k, k ≠ 16 → k ≠ 18 → k ≠ 19 → k ≠ 20 → k ≠ 22 → k ≠ 23 → A1 k = A k) ∧ (∀ k, k ≠ 17 → k ≠ 21 → B1 k = B k) ∧ ∀ j, j < 120 → A1 23 j = vtA A ns nt j) (hE D f sz) (hA f sz)) ([.ref (q 0)]).toArray s 0 0 (hA f sz)) (F0 m 2 ls1 []) := by
    intro n
    induction n with
    | zero => intros; omega
    | succ n ih2 =>
      intro k Az f1 H locs ls hw hm hl hAz hk hmu
      have hn0 : Az 0 0 = nI ns := by rw [hAz, va_up_ne _ _ (by decide)]; exact hns
      have hn1 : Az 1 0 = nI nt := by rw [hAz, va_up_ne _ _ (by decide)]; exact hnt
      refine lv_iload_n hx hb dX12_findVotes_2 rfl (lv_at hl 1 rfl) ?_
      refine lv_bipush (v := nI 120) hx hb dX12_findVotes_3 (by decide) ?_
      refine n_cge C (by omega) (by omega) (tgt := 21) dX12_findVotes_5 (by decide) (fun cq1 => ?_) (fun cq1 => ?_)
      · have hk120 : k = 120 := by omega
        refine lv_aload_n hx hb dX12_findVotes_21 rfl (lv_at hl 0 rfl) ?_
        refine h_callv hw (h_runV (n := 0) (As := []) (rest := []) C hw (c_X12_findGoods hm hn1 (by omega)) gX12_findVotes_X12_findGoods rfl rfl rfl (by decide +kernel) ⟨by decide, by decide⟩ bX12 hm.1 rfl hl.1 rfl (Nat.le_of_ble_eq_true rfl) dX12_findVotes_22 ⟨by first | decide | omega, by first | decide | omega⟩) (fun  f2 H locs hp hw => ?_)
        obtain ⟨Ag, Bg, hm, hFAg, hFBg, hglg, hghg⟩ := hp
        have hz2 : Az 2 = A 2 := by rw [hAz, va_up_ne _ _ (by decide)]
        have hz3 : Az 3 = A 3 := by rw [hAz, va_up_ne _ _ (by decide)]
        rw [gl_c hz2 hz3] at hglg hghg
        refine lv_iconst (v := nI 0) hx hb dX12_findVotes_25 (by decide) ?_
        refine lv_istore_n (lv' := [(1, _), (0, _)]) hx hb dX12_findVotes_26 rfl hl (by decide) rfl (fun ls hl => ?_)
        have lp27 : ∀ (n : Nat) (Vg : Nat → Int32) (a : Nat) (Ak : MA) (Bk : MB) (f1 : HF) (H1 : Heap) (locs1 : List Loc) (ls1 : Array Slot), hW D (hA f sz) s.heap f1 H1 locs1 → mo cA q Ak Bk f1 → lv_has ls1 4 [(0, .ref (q 0)), (1, .int (nI a))] → (∀ k, k ≠ 16 → k ≠ 18 → k ≠ 19 → k ≠ 20 → k ≠ 22 → k ≠ 23 → Ak k = A k) → (∀ k, k ≠ 17 → k ≠ 21 → Bk k = B k) → (Ak 19 0 = nI (gl A 10 nt).length) → (gh Ak Bk (gl A 10 nt)) → (Ak 23 = Vg) → ((gA A 0 ns a).foldl (vF A nt) Vg = (gl A 0 ns).foldl (vF A nt) (vt0 A)) → (a ≤ ns) → ns - a < n → W p l e ({ frames := 3, cells := 0, slots := 0, locals := 76 } : Room) s m ([.ref (q 0)]).toArray below meth c H1 locs1 0 0 (MQ below (va_Qv (fun f1 => ∃ A1 B1, mo cA q A1 B1 f1 ∧ (∀ k, k ≠ 16 → k ≠ 18 → k ≠ 19 → k ≠ 20 → k ≠ 22 → k ≠ 23 → A1 k = A k) ∧ (∀ k, k ≠ 17 → k ≠ 21 → B1 k = B k) ∧ ∀ j, j < 120 → A1 23 j = vtA A ns nt j) (hE D f sz) (hA f sz)) ([.ref (q 0)]).toArray s 0 0 (hA f sz)) (F0 m 27 ls1 []) := by
          intro n
          induction n with
          | zero => intros; omega
          | succ n ih27 =>
            intro Vg a Ak Bk f1 H locs ls hw hm hl hFA hFB hgl hgh hV htot hale hmu
            have hn0 : Ak 0 0 = nI ns := by rw [hFA 0 (by decide) (by decide) (by decide) (by decide) (by decide) (by decide)]; exact hns
            have hA2 : Ak 2 = A 2 := hFA 2 (by decide) (by decide) (by decide) (by decide) (by decide) (by decide)
            have hA3 : Ak 3 = A 3 := hFA 3 (by decide) (by decide) (by decide) (by decide) (by decide) (by decide)
            refine lv_iload_n hx hb dX12_findVotes_27 rfl (lv_at hl 1 rfl) ?_
            refine lv_aload_n hx hb dX12_findVotes_28 rfl (lv_at hl 0 rfl) ?_
            refine m_fld C hw hm lk1 0 (by decide) lk0 (v := .int (nI ns)) (congrArg (fun z => some (Value.int z)) hn0) dX12_findVotes_29 ?_
            refine n_cge C (by omega) (by omega) (tgt := 91) dX12_findVotes_32 (by decide) (fun cq3 => ?_) (fun cq3 => ?_)
            · exact h_vret C hr hlk hw (by rw [gA_e (show ns ≤ a by omega)] at htot; exact ⟨_, _, hm, hFA, hFB, fun j hj => by rw [hV]; exact (congrFun htot j).trans (vt_end hns2 hnt2 j hj)⟩) dX12_findVotes_91
            · refine lv_iload_n hx hb dX12_findVotes_35 rfl (lv_at hl 1 rfl) ?_
              refine lv_iconst (v := nI 1) hx hb dX12_findVotes_36 (by decide) ?_
              refine n_iadd C dX12_findVotes_37 ?_
              refine lv_istore_n (lv' := [(2, _), (0, _), (1, _)]) hx hb dX12_findVotes_38 rfl hl (by decide) rfl (fun ls hl => ?_)
              have lp39 : ∀ (n : Nat) (Vg : Nat → Int32) (b : Nat) (Ak : MA) (Bk : MB) (f1 : HF) (H1 : Heap) (locs1 : List Loc) (ls1 : Array Slot), hW D (hA f sz) s.heap f1 H1 locs1 → mo cA q Ak Bk f1 → lv_has ls1 4 [(0, .ref (q 0)), (1, .int (nI a)), (2, .int (nI b))] → (∀ k, k ≠ 16 → k ≠ 18 → k ≠ 19 → k ≠ 20 → k ≠ 22 → k ≠ 23 → Ak k = A k) → (∀ k, k ≠ 17 → k ≠ 21 → Bk k = B k) → (Ak 19 0 = nI (gl A 10 nt).length) → (gh Ak Bk (gl A 10 nt)) → (Ak 23 = Vg) → ((gB A 0 ns a b ++ gA A 0 ns (a + 1)).foldl (vF A nt) Vg = (gl A 0 ns).foldl (vF A nt) (vt0 A)) → (b ≤ ns) → (a < ns) → (a < b) → ns - b < n → W p l e ({ frames := 3, cells := 0, slots := 0, locals := 76 } : Room) s m ([.ref (q 0)]).toArray below meth c H1 locs1 0 0 (MQ below (va_Qv (fun f1 => ∃ A1 B1, mo cA q A1 B1 f1 ∧ (∀ k, k ≠ 16 → k ≠ 18 → k ≠ 19 → k ≠ 20 → k ≠ 22 → k ≠ 23 → A1 k = A k) ∧ (∀ k, k ≠ 17 → k ≠ 21 → B1 k = B k) ∧ ∀ j, j < 120 → A1 23 j = vtA A ns nt j) (hE D f sz) (hA f sz)) ([.ref (q 0)]).toArray s 0 0 (hA f sz)) (F0 m 39 ls1 []) := by
                intro n
                induction n with
                | zero => intros; omega
                | succ n ih39 =>
                  intro Vg b Ak Bk f1 H locs ls hw hm hl hFA hFB hgl hgh hV htot hble ha3 hab hmu
                  have hn0 : Ak 0 0 = nI ns := by rw [hFA 0 (by decide) (by decide) (by decide) (by decide) (by decide) (by decide)]; exact hns
                  have hA2 : Ak 2 = A 2 := hFA 2 (by decide) (by decide) (by decide) (by decide) (by decide) (by decide)
                  have hA3 : Ak 3 = A 3 := hFA 3 (by decide) (by decide) (by decide) (by decide) (by decide) (by decide)
                  refine lv_iload_n hx hb dX12_findVotes_39 rfl (lv_at hl 2 rfl) ?_
                  refine lv_aload_n hx hb dX12_findVotes_40 rfl (lv_at hl 0 rfl) ?_
                  refine m_fld C hw hm lk1 0 (by decide) lk0 (v := .int (nI ns)) (congrArg (fun z => some (Value.int z)) hn0) dX12_findVotes_41 ?_
                  refine n_cge C (by omega) (by omega) (tgt := 85) dX12_findVotes_44 (by decide) (fun cq4 => ?_) (fun cq4 => ?_)
                  · refine n_iinc C (lv' := [(1, _), (0, _), (2, _)]) dX12_findVotes_85 hl (k := 1) rfl (by decide) rfl (fun ls hl => ?_)
                    refine lv_goto (tgt := 27) hx hb dX12_findVotes_88 (by decide) ?_
                    exact ih27 Vg (a + 1) _ _ _ _ _ _ hw hm (lv_sub hl [1, 0] rfl) hFA hFB hgl hgh hV (by rw [gB_e (show ns ≤ b by omega), List.nil_append] at htot; exact htot) (by omega) (by omega)
                  · refine lv_iload_n hx hb dX12_findVotes_47 rfl (lv_at hl 2 rfl) ?_
                    refine lv_iconst (v := nI 1) hx hb dX12_findVotes_48 (by decide) ?_
                    refine n_iadd C dX12_findVotes_49 ?_
                    refine lv_istore_n (lv' := [(3, _), (0, _), (1, _), (2, _)]) hx hb dX12_findVotes_50 rfl hl (by decide) rfl (fun ls hl => ?_)
                    have lp51 : ∀ (n : Nat) (Vg : Nat → Int32) (d : Nat) (Ak : MA) (Bk : MB) (f1 : HF) (H1 : Heap) (locs1 : List Loc) (ls1 : Array Slot), hW D (hA f sz) s.heap f1 H1 locs1 → mo cA q Ak Bk f1 → lv_has ls1 4 [(0, .ref (q 0)), (1, .int (nI a)), (2, .int (nI b)), (3, .int (nI d))] → (∀ k, k ≠ 16 → k ≠ 18 → k ≠ 19 → k ≠ 20 → k ≠ 22 → k ≠ 23 → Ak k = A k) → (∀ k, k ≠ 17 → k ≠ 21 → Bk k = B k) → (Ak 19 0 = nI (gl A 10 nt).length) → (gh Ak Bk (gl A 10 nt)) → (Ak 23 = Vg) → ((gC A 0 ns a b d ++ (gB A 0 ns a (b + 1) ++ gA A 0 ns (a + 1))).foldl (vF A nt) Vg = (gl A 0 ns).foldl (vF A nt) (vt0 A)) → (b < ns) → (a < ns) → (a < b) → (b < d) → (d ≤ ns) → ns - d < n → W p l e ({ frames := 3, cells := 0, slots := 0, locals := 76 } : Room) s m ([.ref (q 0)]).toArray below meth c H1 locs1 0 0 (MQ below (va_Qv (fun f1 => ∃ A1 B1, mo cA q A1 B1 f1 ∧ (∀ k, k ≠ 16 → k ≠ 18 → k ≠ 19 → k ≠ 20 → k ≠ 22 → k ≠ 23 → A1 k = A k) ∧ (∀ k, k ≠ 17 → k ≠ 21 → B1 k = B k) ∧ ∀ j, j < 120 → A1 23 j = vtA A ns nt j) (hE D f sz) (hA f sz)) ([.ref (q 0)]).toArray s 0 0 (hA f sz)) (F0 m 51 ls1 []) := by
                      intro n
                      induction n with
                      | zero => intros; omega
                      | succ n ih51 =>
                        intro Vg d Ak Bk f1 H locs ls hw hm hl hFA hFB hgl hgh hV htot hb3 ha3 hab hbd hdle hmu
                        have hn0 : Ak 0 0 = nI ns := by rw [hFA 0 (by decide) (by decide) (by decide) (by decide) (by decide) (by decide)]; exact hns
                        have hA2 : Ak 2 = A 2 := hFA 2 (by decide) (by decide) (by decide) (by decide) (by decide) (by decide)
                        have hA3 : Ak 3 = A 3 := hFA 3 (by decide) (by decide) (by decide) (by decide) (by decide) (by decide)
                        refine lv_iload_n hx hb dX12_findVotes_51 rfl (lv_at hl 3 rfl) ?_
                        refine lv_aload_n hx hb dX12_findVotes_52 rfl (lv_at hl 0 rfl) ?_
                        refine m_fld C hw hm lk1 0 (by decide) lk0 (v := .int (nI ns)) (congrArg (fun z => some (Value.int z)) hn0) dX12_findVotes_53 ?_
                        refine n_cge C (by omega) (by omega) (tgt := 79) dX12_findVotes_56 (by decide) (fun cq5 => ?_) (fun cq5 => ?_)
                        · refine n_iinc C (lv' := [(2, _), (0, _), (1, _), (3, _)]) dX12_findVotes_79 hl (k := 2) rfl (by decide) rfl (fun ls hl => ?_)
                          refine lv_goto (tgt := 39) hx hb dX12_findVotes_82 (by decide) ?_
                          exact ih39 Vg (b + 1) _ _ _ _ _ _ hw hm (lv_sub hl [1, 2, 0] rfl) hFA hFB hgl hgh hV (by rw [gC_e (show ns ≤ d by omega), List.nil_append] at htot; exact htot) (by omega) ha3 (by omega) (by omega)
                        · refine lv_aload_n hx hb dX12_findVotes_59 rfl (lv_at hl 0 rfl) ?_
                          refine lv_iload_n hx hb dX12_findVotes_60 rfl (lv_at hl 1 rfl) ?_
                          refine lv_iload_n hx hb dX12_findVotes_61 rfl (lv_at hl 2 rfl) ?_
                          refine lv_iload_n hx hb dX12_findVotes_62 rfl (lv_at hl 3 rfl) ?_
                          refine h_calli hw (h_runV (n := 3) (As := [.int (nI a), .int (nI b), .int (nI d)]) (rest := []) C hw (c_X12_layOut hm (by omega) (by omega) (by omega)) gX12_findVotes_X12_layOut rfl rfl rfl (by decide +kernel) ⟨by decide, by decide⟩ bX12 hm.1 rfl hl.1 rfl (Nat.le_of_ble_eq_true rfl) dX12_findVotes_63 ⟨by first | decide | omega, by first | decide | omega⟩) (fun r6 f7 H locs hp hw => ?_)
                          obtain ⟨rfl, A8, B9, hm, hFAA8, hFBA8, hTA8⟩ := hp
                          have hn10 : A8 0 0 = nI ns := by rw [hFAA8 0 (by decide) (by decide)]; exact hn0
                          refine n_ifeqB C (tgt := 73) dX12_findVotes_66 (by decide) (fun cq11 => ?_) (fun cq11 => ?_)
                          · refine n_iinc C (lv' := [(3, _), (0, _), (1, _), (2, _)]) dX12_findVotes_73 hl (k := 3) rfl (by decide) rfl (fun ls hl => ?_)
                            refine lv_goto (tgt := 51) hx hb dX12_findVotes_76 (by decide) ?_
                            exact ih51 Vg (d + 1) _ _ _ _ _ _ hw hm (lv_sub hl [1, 2, 3, 0] rfl) (fun k h1 h2 h3 h4 h5 h6 => by rw [hFAA8 k h1 h2]; exact hFA k h1 h2 h3 h4 h5 h6) (fun k h1 h2 => by rw [hFBA8 k h1]; exact hFB k h1 h2) (by rw [hFAA8 19 (by decide) (by decide)]; exact hgl) (gh_c hgh (hFAA8 20 (by decide) (by decide)) (hFAA8 22 (by decide) (by decide)) (hFBA8 21 (by decide))) (by rw [hFAA8 23 (by decide) (by decide)]; exact hV) (by rw [gC_s (show d < ns by omega), g1_0, if_neg (fun h => cq11 ((tg_c hA2 hA3).mpr h))] at htot; exact htot) hb3 ha3 hab (by omega) (by omega) (by omega)
                          · have htg := (tg_c hA2 hA3).mp cq11
                            obtain ⟨k0, k1, k2, s0, s1, s2, htn⟩ := hTA8 cq11
                            rw [tri_c hA2 hA3] at k0 k1 k2 s0 s1 s2 htn
                            rw [tn_c hA2 hA3] at htn
                            obtain ⟨hc0, hc1, hc2⟩ := tri_all (P := fun z => z < 10) (A := A) (a := a) (b := b) (d := d) (by omega) (by omega) (by omega)
                            generalize hTT : triT A a b d = T at k0 k1 k2 s0 s1 s2 htn hc0 hc1 hc2
                            have hgl7 : A8 19 0 = nI (gl A 10 nt).length := by rw [hFAA8 19 (by decide) (by decide)]; exact hgl
                            have hgh7 := gh_c hgh (hFAA8 20 (by decide) (by decide)) (hFAA8 22 (by decide) (by decide)) (hFBA8 21 (by decide))
                            refine lv_aload_n hx hb dX12_findVotes_69 rfl (lv_at hl 0 rfl) ?_
                            refine h_callv hw (h_runV (n := 0) (As := []) (rest := []) C hw (c_X12_vote (z := rel A 0 T) (gs := gl A 10 nt) hm k0 k1 k2 s0 s1 s2 htn hc0 hc1 hc2 hgl7 hgh7 (fun t ht => by have := gl_ok ht; omega) (Nat.le_trans (gl_len A 10 nt) (cG_12 nt (by omega)))) gX12_findVotes_X12_vote rfl rfl rfl (by decide +kernel) ⟨by decide, by decide⟩ bX12 hm.1 rfl hl.1 rfl (Nat.le_of_ble_eq_true rfl) dX12_findVotes_70 ⟨by first | decide | omega, by first | decide | omega⟩) (fun  f12 H locs hp hw => ?_)
                            obtain ⟨A13, hm, eA13⟩ := hp
                            refine n_iinc C (lv' := [(3, _), (0, _), (1, _), (2, _)]) dX12_findVotes_73 hl (k := 3) rfl (by decide) rfl (fun ls hl => ?_)
                            refine lv_goto (tgt := 51) hx hb dX12_findVotes_76 (by decide) ?_
                            exact ih51 (vF A nt Vg (rel A 0 T)) (d + 1) _ _ _ _ _ _ hw hm (lv_sub hl [1, 2, 3, 0] rfl) (fun k h1 h2 h3 h4 h5 h6 => by rw [eA13, va_up_ne _ _ h6, hFAA8 k h1 h2]; exact hFA k h1 h2 h3 h4 h5 h6) (fun k h1 h2 => by rw [hFBA8 k h1]; exact hFB k h1 h2) (by rw [eA13, va_up_ne _ _ (by decide)]; exact hgl7) (gh_c hgh7 (by rw [eA13, va_up_ne _ _ (by decide)]) (by rw [eA13, va_up_ne _ _ (by decide)]) rfl) (by rw [eA13, va_up_self, hFAA8 23 (by decide) (by decide), hFAA8 4 (by decide) (by decide), hFA 4 (by decide) (by decide) (by decide) (by decide) (by decide) (by decide), hV]; rfl) (by rw [gC_s (show d < ns by omega), g1_0, if_pos htg, hTT] at htot; exact htot) hb3 ha3 hab (by omega) (by omega) (by omega)
                    exact lp51 _ Vg (b + 1) _ _ _ _ _ _ hw hm (lv_sub hl [1, 2, 3, 0] rfl) hFA hFB hgl hgh hV (by rw [gB_s (show b < ns by omega), List.append_assoc] at htot; exact htot) (by omega) (by omega) hab (by omega) (by omega) (Nat.lt_succ_self _)
              exact lp39 _ Vg (a + 1) _ _ _ _ _ _ hw hm (lv_sub hl [1, 2, 0] rfl) hFA hFB hgl hgh hV (by rw [gA_s (show a < ns by omega)] at htot; exact htot) (by omega) (by omega) (by omega) (Nat.lt_succ_self _)
        exact lp27 _ (vt0 A) 0 _ _ _ _ _ _ hw hm (lv_sub hl [1, 0] rfl) (fun k h1 h2 h3 h4 h5 h6 => by rw [hFAg k h1 h2 h3 h4 h5, hAz, va_up_ne _ _ h6]) hFBg hglg hghg (by rw [hFAg 23 (by decide) (by decide) (by decide) (by decide) (by decide), hAz, va_up_self, hk120]; rfl) (by unfold gl; exact rfl) (by omega) (Nat.lt_succ_self _)
      · refine lv_aload_n hx hb dX12_findVotes_8 rfl (lv_at hl 0 rfl) ?_
        refine m_fld C hw hm lk1 23 (by decide) lk2 (v := .ref (q 23)) rfl dX12_findVotes_9 ?_
        refine lv_iload_n hx hb dX12_findVotes_12 rfl (lv_at hl 1 rfl) ?_
        refine lv_iconst (v := nI 0) hx hb dX12_findVotes_13 (by decide) ?_
        refine m_iast C hw hm 23 rfl (show k < 120 from (by omega)) dX12_findVotes_14 (fun A14 f15 H locs eA14 hw hm => ?_)
        have hn16 : A14 0 0 = nI ns := by rw [eA14, va_up_ne _ _ (by decide)]; exact hn0
        have hn17 : A14 1 0 = nI nt := by rw [eA14, va_up_ne _ _ (by decide)]; exact hn1
        refine n_iinc C (lv' := [(1, _), (0, _)]) dX12_findVotes_15 hl (k := 1) rfl (by decide) rfl (fun ls hl => ?_)
        refine lv_goto (tgt := 2) hx hb dX12_findVotes_18 (by decide) ?_
        exact ih2 (k + 1) _ _ _ _ _ hw hm (lv_sub hl [1, 0] rfl) (by rw [eA14, hAz]; exact z_s A k) (by omega) (by omega)
  exact lp2 _ 0 _ _ _ _ _ hw hm (lv_sub hl [1, 0] rfl) (z_0 A) (by omega) (Nat.lt_succ_self _)
