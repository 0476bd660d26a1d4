/-! ===== the class: the matching made anew (laid by program) ===== -/
theorem bI_fit (P : Prop) [Decidable P] : fits .boolean (.int (bI P)) = true := by
  unfold bI
  split <;> rfl
theorem kq_ga {cA : Nat → ClassId} {f f1 : HF} {a ra T : Nat} {γ γ1 : Nat → Option Nat} {l : List GT} {v : Value} (h : gaI cA f a ra T γ f1 γ1 l) (h0 : f a = some (eO 9 [.ref ra, v])) (h1 : f ra = some (eQ cA 7 T γ)) (ht : trI T γ f) : kq f f1 := by
  refine ⟨fun x i fs hi hx => ga_fr h h0 h1 ht hx ⟨by show i ≠ 9; omega, by show i ≠ 22; omega, by show i ≠ 8; omega⟩, fun x hx => ?_⟩
  by_cases hin : ∃ k, k < T ∧ γ k = some x
  · obtain ⟨k, hk, hk2⟩ := hin
    exact h.2.2.1.1 k x hk (h.2.2.2.2.2.2 k x hk hk2)
  · obtain ⟨w0, w1, w2, w3, w4, w5, w6, w7, hw⟩ := hx
    exact ⟨_, _, _, _, _, _, _, _, h.2.2.2.2.1 x _ hw (ne_kd hw h0 (Nat.ne_of_beq_eq_false rfl)) (ne_kd hw h1 (Nat.ne_of_beq_eq_false rfl)) (fun k hk hk2 => hin ⟨k, hk, hk2⟩)⟩
theorem ga_rp {cA : Nat → ClassId} {ad : Nat → Nat} {K : KK} {G : GG} {A : MA} {B : MB} {N : Nat} {f f1 : HF} {γ1 : Nat → Option Nat} {l : List GT} {ka kr T : Nat} (hk : (ka = 16 ∧ kr = 21 ∧ T = 120) ∨ (ka = 17 ∧ kr = 22 ∧ T = 220)) (hc : co cA ad K G f) (hr : rp ad K G A B N f) (hg : gaI cA f (ad ka) (ad kr) T (G kr) f1 γ1 l) : ∃ K1 G1, co cA ad K1 G1 f1 ∧ rp ad K1 G1 A B N f1 ∧ K1 = va_up K ka (fun _ => nI l.length) ∧ G1 = va_up G kr γ1 := by
  have h0 : f (ad ka) = some (eO 9 [.ref (ad kr), .int (K ka 0)]) := by
    rcases hk with ⟨rfl, rfl, rfl⟩ | ⟨rfl, rfl, rfl⟩
    · exact co.a16 hc
    · exact co.a17 hc
  have h1 : f (ad kr) = some (eQ cA 7 T (G kr)) := by
    rcases hk with ⟨rfl, rfl, rfl⟩ | ⟨rfl, rfl, rfl⟩
    · exact co.a21 hc
    · exact co.a22 hc
  have hT := hr.2.2.2.2.2.2.2.2.1
  have ht : trI T (G kr) f := by
    rcases hk with ⟨rfl, rfl, rfl⟩ | ⟨rfl, rfl, rfl⟩
    · exact hT.2.1
    · exact hT.2.2.1
  have hq := kq_ga hg h0 h1 ht
  have hkk : ka < 50 ∧ ka ≠ 4 ∧ kr < 50 ∧ kr ≠ 4 := by omega
  have hcell : ∀ (κ : Nat → Int32) (γ : Nat → Option Nat), cell cA ad ka κ γ = eO 9 [.ref (ad kr), .int (κ 0)] := by
    rcases hk with ⟨rfl, rfl, rfl⟩ | ⟨rfl, rfl, rfl⟩ <;> exact fun _ _ => rfl
  have hcelr : ∀ (κ : Nat → Int32) (γ : Nat → Option Nat), cell cA ad kr κ γ = eQ cA 7 T γ := by
    rcases hk with ⟨rfl, rfl, rfl⟩ | ⟨rfl, rfl, rfl⟩ <;> exact fun _ _ => rfl
  refine ⟨_, _, ⟨fun j hj h4 => ?_, hc.2⟩, ?_, rfl, rfl⟩
  · by_cases e1 : j = ka
    · subst e1; rw [va_up_self, hcell]; exact hg.1
    · by_cases e2 : j = kr
      · subst e2; rw [va_up_self, va_up_ne _ _ e1, hcelr]; exact hg.2.1
      · rw [va_up_ne _ _ e1, va_up_ne _ _ e2]
        have hcj := hc.1 j hj h4
        refine hg.2.2.2.2.1 _ _ hcj (hc.ap ⟨hj, h4⟩ ⟨hkk.1, hkk.2.1⟩ e1) (hc.ap ⟨hj, h4⟩ ⟨hkk.2.2.1, hkk.2.2.2⟩ e2) (fun k hk1 hγ => ?_)
        have h8 := t8_kd (ht.1 k _ hk1 hγ) hcj
        have := cell_kd (cA := cA) (ad := ad) (κ := K j) (γ := G j) j
        omega
  · have hn : ∀ j, j ≠ ka → va_up K ka (fun _ => nI l.length) j = K j := fun j hj => va_up_ne _ _ hj
    have hgn : ∀ j, j ≠ kr → va_up G kr γ1 j = G j := fun j hj => va_up_ne _ _ hj
    refine ⟨hr.1, fun q hq => ?_, hr.2.2.1.q hq (fun i hi => hn _ (by omega)) (fun i hi => hgn _ (by omega)), hr.2.2.2.1.q hq (hgn 7 (by omega)), hr.2.2.2.2.1.cg (fun j hj => hn j (by omega)) (fun _ _ => rfl), hr.2.2.2.2.2.1.cg (fun j _ _ => hn j (by omega)) rfl rfl, hr.2.2.2.2.2.2.1.cg (hn 6 (by omega)) (hn 27 (by omega)) rfl rfl, hr.2.2.2.2.2.2.2.1.cg (hn 9 (by omega)) (hn 10 (by omega)) rfl, ?_, hr.2.2.2.2.2.2.2.2.2.cg (fun j hj => hn j (by omega)) (fun _ _ => rfl)⟩
    · rw [hn 11 (by omega)]; exact hr.2.1 q hq
    · rcases hk with ⟨rfl, rfl, rfl⟩ | ⟨rfl, rfl, rfl⟩
      · unfold tri
        rw [va_up_self, va_up_ne _ _ (by decide)]
        refine ⟨hq.2 _ hT.1, hg.2.2.1, ⟨fun k x hk hx => hq.2 _ (hT.2.2.1.1 k x hk hx), hT.2.2.1.2⟩, fun i j x hi hj hx hx2 => ?_⟩
        rcases hg.2.2.2.2.2.1 i x hi hx with h9 | h9
        · exact hT.2.2.2 i j x hi hj h9 hx2
        · obtain ⟨w0, w1, w2, w3, w4, w5, w6, w7, hw⟩ := hT.2.2.1.1 j x hj hx2
          rw [h9] at hw; cases hw
      · unfold tri
        rw [va_up_self, va_up_ne _ _ (by decide)]
        refine ⟨hq.2 _ hT.1, ⟨fun k x hk hx => hq.2 _ (hT.2.1.1 k x hk hx), hT.2.1.2⟩, hg.2.2.1, fun i j x hi hj hx hx2 => ?_⟩
        rcases hg.2.2.2.2.2.1 j x hj hx2 with h9 | h9
        · exact hT.2.2.2 i j x hi hj hx h9
        · obtain ⟨w0, w1, w2, w3, w4, w5, w6, w7, hw⟩ := hT.2.1.1 i x hi hx
          rw [h9] at hw; cases hw
theorem trH_ga {cA : Nat → ClassId} {ad : Nat → Nat} {K : KK} {G : GG} {A : MA} {B : MB} {N : Nat} {f f1 : HF} {γ1 : Nat → Option Nat} {l zs : List GT} (hc : co cA ad K G f) (hr : rp ad K G A B N f) (hg : gaI cA f (ad 17) (ad 22) 220 (G 22) f1 γ1 l) (hz : trH (G 21) f zs) (hl : zs.length ≤ 120) : trH (G 21) f1 zs := fun k t hk => by
  obtain ⟨x, h1, h2⟩ := hz k t hk
  have hk2 : k < 120 := by have := (List.getElem?_eq_some_iff.mp hk).1; omega
  exact ⟨x, h1, hg.2.2.2.2.1 x _ h2 (ne_kd h2 (co.a17 hc) (Nat.ne_of_beq_eq_false rfl)) (ne_kd h2 (co.a22 hc) (Nat.ne_of_beq_eq_false rfl)) (fun j hj hj2 => hr.2.2.2.2.2.2.2.2.1.2.2.2 k j x hk2 hj h1 hj2)⟩
theorem rp_m {ad : Nat → Nat} {K K1 : KK} {G : GG} {A : MA} {B : MB} {N : Nat} {f f1 : HF} (h : rp ad K G A B N f) (k : kp f f1) (hn : ∀ j, j < 40 → j ≠ 3 → j ≠ 19 → j ≠ 20 → K1 j = K j) (hm : mtg K1 A) : rp ad K1 G A B N f1 := by
  refine ⟨h.1, fun q hq => ?_, h.2.2.1.q k.kq (fun i hi => hn _ (by omega) (by omega) (by omega) (by omega)) (fun _ _ => rfl), h.2.2.2.1.q k.kq rfl, h.2.2.2.2.1.cg (fun j hj => hn j (by omega) (by omega) (by omega) (by omega)) (fun _ _ => rfl), h.2.2.2.2.2.1.cg (fun j _ _ => hn j (by omega) (by omega) (by omega) (by omega)) rfl rfl, h.2.2.2.2.2.2.1.cg (hn 6 (by omega) (by omega) (by omega) (by omega)) (hn 27 (by omega) (by omega) (by omega) (by omega)) rfl rfl, h.2.2.2.2.2.2.2.1.cg (hn 9 (by omega) (by omega) (by omega) (by omega)) (hn 10 (by omega) (by omega) (by omega) (by omega)) rfl, h.2.2.2.2.2.2.2.2.1.q k.kq rfl rfl, hm⟩
  rw [hn 11 (by omega) (by omega) (by omega) (by omega)]; exact h.2.1 q hq
theorem gl10 {A : MA} {ns : Nat} (h : ns ≤ 10) : (gl A 0 ns).length ≤ 120 := Nat.le_trans (gl_len A 0 ns) (cG_10 ns (by omega))
theorem gl12 {A : MA} {nt : Nat} (h : nt ≤ 12) : (gl A 10 nt).length ≤ 220 := Nat.le_trans (gl_len A 10 nt) (cG_12 nt (by omega))
theorem gl_z {A : MA} {o n k : Nat} (h : n ≤ k) : ∀ t, t ∈ gl A o n → okz t k := fun t ht => by have := gl_ok ht; exact ⟨by omega, by omega, by omega⟩
set_option maxHeartbeats 4000000 in
set_option maxRecDepth 100000 in
theorem c_X1_renew {l : Launch} {D : va_G} {cA : Nat → ClassId} {f : HF} {sz : Nat} {ad : Nat → Nat} {K : KK} {G : GG} {A : MA} {B : MB} {N : Nat} {ns nt : Nat}  (hc : co cA ad K G f) (hr9 : rp ad K G A B N f) (hns : A 0 0 = nI ns) (hnt : A 1 0 = nI nt) (hns2 : ns ≤ 10) (hnt2 : nt ≤ 12) : Met l yX1_renew wsX1_renew ({ frames := 5, cells := 440, slots := 3520, locals := 126 } : Room) (va_Pc [.ref (ad 3)] (hB D cA f sz)) (va_Qv (fun f1 => ∃ K1 G1, co cA ad K1 G1 f1 ∧ rp ad K1 G1 A B N f1 ∧ K1 3 1 = nI 1) (hE D f sz) (hA f sz)) 440 3520 (hA f sz) := by
  refine h_of (cc := cX1_renew) (maxL := 2) (ret := none) (by decide +kernel) rfl (Nat.le_of_ble_eq_true rfl) ?_
  intro p e s m below meth c ls C hr hlk hnm hw hl
  have hx := C.1.1
  have hb := C.1.2.1
  have hl : lv_has ls 2 [(0, .ref (ad 3))] := hl
  have lk0 : Cond.fieldLink RX1 46 "FallingLight$Matching" "fresh" "Z" ∈ wsX1_renew := by decide +kernel
  have lk1 : ∀ w ∈ u_ws RX1 TX1 10, w ∈ wsX1_renew := by decide +kernel
  have lk2 : Cond.fieldLink RX1 23 "FallingLight$Matching" "spotTriangles" "LFallingLight$Triangles;" ∈ wsX1_renew := by decide +kernel
  have lk3 : Cond.fieldLink RX1 9 "FallingLight$Matching" "spots" "LFallingLight$Points;" ∈ wsX1_renew := by decide +kernel
  have lk4 : Cond.fieldLink RX1 27 "FallingLight$Matching" "starTriangles" "LFallingLight$Triangles;" ∈ wsX1_renew := by decide +kernel
  have lk5 : Cond.fieldLink RX1 15 "FallingLight$Matching" "stars" "LFallingLight$Points;" ∈ wsX1_renew := by decide +kernel
  have lk6 : Cond.fieldLink RX1 60 "FallingLight$Points" "size" "I" ∈ wsX1_renew := by decide +kernel
  have lk7 : ∀ w ∈ u_ws RX4 TX4 4, w ∈ wsX1_renew := by decide +kernel
  have lk8 : Cond.fieldLink RX1 42 "FallingLight$Matching" "hasTable" "Z" ∈ wsX1_renew := by decide +kernel
  have lk9 : Cond.fieldLink RX1 35 "FallingLight$Matching" "partners" "[I" ∈ wsX1_renew := by decide +kernel
  obtain ⟨hI, hF, hS, hT, hP, hRw, hTp, hWd, hTr, hMt⟩ := id hr9
  obtain ⟨-, -, -, hrs, hso, hwy, hst, hdr, hpx, hpy⟩ := id hI
  refine lv_aload_n hx hb dX1_renew_0 rfl (lv_at hl 0 rfl) ?_
  refine h_get C hw bX1 (co.a3 hc) lk1 8 (by decide) lk0 (v := .int (K 3 1)) rfl dX1_renew_1 ?_
  refine lv_if_eq (tgt := 8) hx hb dX1_renew_4 (by decide) (fun cq1 => ?_) (fun cq1 => ?_)
  · have h31 : K 3 1 = nI 0 := cq1
    refine lv_aload_n hx hb dX1_renew_8 rfl (lv_at hl 0 rfl) ?_
    refine h_get C hw bX1 (co.a3 hc) lk1 2 (by decide) lk2 (v := .ref (ad 16)) rfl dX1_renew_9 ?_
    refine lv_aload_n hx hb dX1_renew_12 rfl (lv_at hl 0 rfl) ?_
    refine h_get C hw bX1 (co.a3 hc) lk1 0 (by decide) lk3 (v := .ref (ad 2)) rfl dX1_renew_13 ?_
    refine h_callv hw (h_runV (n := 1) (As := [.ref (ad 2)]) (rest := []) C hw (c_X9_gather (A := A) (o := 0) (co.a16 hc) (co.a21 hc) ((co.a2 hc).trans (by rw [(hP.2.1.trans hns)])) (co.a14 hc) (co.a15 hc) (by decide) hr9.2.2.2.2.2.2.2.2.1.2.1 (by decide) hns2 (uA_10 ns (by omega)) (hP.sp hpx hpy)) gX1_renew_X9_gather rfl rfl rfl (by decide +kernel) ⟨by decide, by decide⟩ bX9 (co.a16 hc) rfl hl.1 rfl (Nat.le_of_ble_eq_true rfl) dX1_renew_16 ⟨by first | decide | omega | (dsimp only; omega), by first | decide | omega | (dsimp only; omega)⟩) (fun  f2 H locs hp hw => ?_)
    obtain ⟨γ9, hga⟩ := hp
    have hzs := hga.2.2.2.1
    obtain ⟨K3, G4, hc, hr9, eK5, eG6⟩ := ga_rp (Or.inl ⟨rfl, rfl, rfl⟩) hc hr9 hga
    rw [show γ9 = G4 21 by rw [eG6, va_up_self]] at hzs
    have hzl : K3 16 0 = nI (gl A 0 ns).length := by rw [eK5, va_up_self]
    have h31 : K3 3 1 = nI 0 := by rw [eK5, va_up_ne _ _ (by decide)]; exact h31
    have hP := hr9.2.2.2.2.1
    refine lv_aload_n hx hb dX1_renew_19 rfl (lv_at hl 0 rfl) ?_
    refine h_get C hw bX1 (co.a3 hc) lk1 3 (by decide) lk4 (v := .ref (ad 17)) rfl dX1_renew_20 ?_
    refine lv_aload_n hx hb dX1_renew_23 rfl (lv_at hl 0 rfl) ?_
    refine h_get C hw bX1 (co.a3 hc) lk1 1 (by decide) lk5 (v := .ref (ad 1)) rfl dX1_renew_24 ?_
    refine h_callv hw (h_runV (n := 1) (As := [.ref (ad 1)]) (rest := []) C hw (c_X9_gather (A := A) (o := 10) (co.a17 hc) (co.a22 hc) ((co.a1 hc).trans (by rw [(hP.1.trans hnt)])) (co.a12 hc) (co.a13 hc) (by decide) hr9.2.2.2.2.2.2.2.2.1.2.2.1 (by decide) hnt2 (uA_12 nt (by omega)) (hP.st hpx hpy)) gX1_renew_X9_gather rfl rfl rfl (by decide +kernel) ⟨by decide, by decide⟩ bX9 (co.a17 hc) rfl hl.1 rfl (Nat.le_of_ble_eq_true rfl) dX1_renew_27 ⟨by first | decide | omega | (dsimp only; omega), by first | decide | omega | (dsimp only; omega)⟩) (fun  f7 H locs hp hw => ?_)
    obtain ⟨γ9, hga⟩ := hp
    have hzs := trH_ga hc hr9 hga hzs (gl10 hns2)
    have hgs := hga.2.2.2.1
    obtain ⟨K8, G9, hc, hr9, eK10, eG11⟩ := ga_rp (Or.inr ⟨rfl, rfl, rfl⟩) hc hr9 hga
    rw [show γ9 = G9 22 by rw [eG11, va_up_self]] at hgs
    rw [show G4 21 = G9 21 by rw [eG11, va_up_ne _ _ (by decide)]] at hzs
    have hgl : K8 17 0 = nI (gl A 10 nt).length := by rw [eK10, va_up_self]
    have hzl : K8 16 0 = nI (gl A 0 ns).length := by rw [eK10, va_up_ne _ _ (by decide)]; exact hzl
    have h31 : K8 3 1 = nI 0 := by rw [eK10, va_up_ne _ _ (by decide)]; exact h31
    have hP := hr9.2.2.2.2.1
    refine lv_aload_n hx hb dX1_renew_30 rfl (lv_at hl 0 rfl) ?_
    refine h_callv hw (h_runV (n := 0) (As := []) (rest := []) C hw (c_X1_countBallots hc hzl hzs hgl hgs (gl_z hns2) (gl_z hnt2) (gl12 hnt2) (gl10 hns2)) gX1_renew_X1_countBallots rfl rfl rfl (by decide +kernel) ⟨by decide, by decide⟩ bX1 (co.a3 hc) rfl hl.1 rfl (Nat.le_of_ble_eq_true rfl) dX1_renew_31 ⟨by first | decide | omega | (dsimp only; omega), by first | decide | omega | (dsimp only; omega)⟩) (fun  f12 H locs hp hw => ?_)
    obtain ⟨K13, hc, kp3, kn3, vb3⟩ := hp
    rw [hr9.2.2.2.2.2.2.2.2.2.1] at vb3
    have vb3 : vB K13 (vtA A ns nt) := vb3
    have hP : pts K13 A := hP.cg (fun k9 _ => kn3 k9 (by omega)) (fun _ _ => rfl)
    refine lv_iconst (v := nI 0) hx hb dX1_renew_34 (by decide) ?_
    refine lv_istore_n (lv' := [(1, _), (0, _)]) hx hb dX1_renew_35 rfl hl (by decide) rfl (fun ls hl => ?_)
    have lp36 : ∀ (n : Nat) (k : Nat) (f9 : HF) (K9 : Nat → Nat → Int32) (H1 : Heap) (locs1 : List Loc) (ls1 : Array Slot), hW D (hA f sz) s.heap f9 H1 locs1 → co cA ad K9 G9 f9 → lv_has ls1 2 [(0, .ref (ad 3)), (1, .int (nI k))] → (k ≤ ns) → (kp f12 f9) → (∀ j, j ≠ 19 → K9 j = K13 j) → (∀ p, p < k → K9 19 p = oI (mA A ns nt p)) → ns - k < n → W p l e ({ frames := 5, cells := 440, slots := 3520, locals := 126 } : Room) s m ([.ref (ad 3)]).toArray below meth c H1 locs1 440 3520 (MQ below (va_Qv (fun f1 => ∃ K1 G1, co cA ad K1 G1 f1 ∧ rp ad K1 G1 A B N f1 ∧ K1 3 1 = nI 1) (hE D f sz) (hA f sz)) ([.ref (ad 3)]).toArray s 440 3520 (hA f sz)) (F0 m 36 ls1 []) := by
      intro n
      induction n with
      | zero => intros; omega
      | succ n ih36 =>
        intro k f9 K9 H locs ls hw hc hl hk hkp hKn hM hmu
        have hP9 : pts K9 A := hP.cg (fun k9 _ => hKn k9 (by omega)) (fun _ _ => rfl)
        have hv9 : vB K9 (vtA A ns nt) := fun p2 s2 h1 h2 => by rw [hKn _ (by omega)]; exact vb3 p2 s2 h1 h2
        refine lv_iload_n hx hb dX1_renew_36 rfl (lv_at hl 1 rfl) ?_
        refine lv_aload_n hx hb dX1_renew_37 rfl (lv_at hl 0 rfl) ?_
        refine h_get C hw bX1 (co.a3 hc) lk1 0 (by decide) lk3 (v := .ref (ad 2)) rfl dX1_renew_38 ?_
        refine h_get C hw bX4 (co.a2 hc) lk7 3 (by decide) lk6 (v := .int (nI ns)) (congrArg (fun z => some (Value.int z)) (hP9.2.1.trans hns)) dX1_renew_41 ?_
        refine n_cge C (by omega) (by omega) (tgt := 64) dX1_renew_44 (by decide) (fun cq14 => ?_) (fun cq14 => ?_)
        · have hk9 : k = ns := by omega
          refine lv_aload_n hx hb dX1_renew_64 rfl (lv_at hl 0 rfl) ?_
          refine lv_aload_n hx hb dX1_renew_65 rfl (lv_at hl 0 rfl) ?_
          refine h_calli hw (h_runV (n := 0) (As := []) (rest := [.ref (ad 3)]) C hw (c_X1_findBase hc (hP9.2.1.trans hns) (hP9.1.trans hnt) (fun p9 hp => hM p9 (by omega)) hns2 hnt2 hP9 hpx hpy) gX1_renew_X1_findBase rfl rfl rfl (by decide +kernel) ⟨by decide, by decide⟩ bX1 (co.a3 hc) rfl hl.1 rfl (Nat.le_of_ble_eq_true rfl) dX1_renew_66 ⟨by first | decide | omega | (dsimp only; omega), by first | decide | omega | (dsimp only; omega)⟩) (fun r15 f16 H locs hp hw => ?_)
          obtain ⟨rfl, K17, hc, kpK17, knK17, ktK17⟩ := hp
          refine h_put1 C hw bX1 (co.a3 hc) lk1 7 (by decide) lk8 rfl (bI_z _) (bI_fit _) (Nat.le_of_ble_eq_true rfl) dX1_renew_69 (fun f18 H locs e19 hw => ?_)
          obtain ⟨K20, eK21, hc2⟩ := hc.upK 3 (κ := upd (K17 3) 0 (bI ((tbA A ns nt).isSome = true))) (e := eO 1 [.ref (ad 2), .ref (ad 1), .ref (ad 16), .ref (ad 17), .ref (ad 18), .ref (ad 19), .ref (ad 20), .int (bI ((tbA A ns nt).isSome = true)), .int (K17 3 1), .int (K17 3 2)]) (by omega) rfl
          have hc3 := hc
          have hc := hc2.of e19
          have kpK20 := kp_up hc3 3 (by omega) e19
          have kfK20 := kp.tr (kp.tr (kp_le (hle.rf _)) kpK17) kpK20
          refine lv_aload_n hx hb dX1_renew_72 rfl (lv_at hl 0 rfl) ?_
          refine lv_iconst (v := nI 1) hx hb dX1_renew_73 (by decide) ?_
          refine h_put1 C hw bX1 (co.a3 hc) lk1 8 (by decide) lk0 rfl (by first | rfl | decide) rfl (Nat.le_of_ble_eq_true rfl) dX1_renew_74 (fun f22 H locs e23 hw => ?_)
          obtain ⟨K24, eK25, hc2⟩ := hc.upK 3 (κ := upd (K20 3) 1 (nI 1)) (e := eO 1 [.ref (ad 2), .ref (ad 1), .ref (ad 16), .ref (ad 17), .ref (ad 18), .ref (ad 19), .ref (ad 20), .int (K20 3 0), .int (nI 1), .int (K20 3 2)]) (by omega) rfl
          have hc3 := hc
          have hc := hc2.of e23
          have kpK24 := kp_up hc3 3 (by omega) e23
          have kfK24 := kp.tr kfK20 kpK24
          have kn26 : K24 3 1 = nI 1 := by rw [eK25, va_up_self, pk_us]
          refine W.widen (k := 440) (n := 3520) (by first | decide | omega | (dsimp only; omega)) (by first | decide | omega | (dsimp only; omega)) ?_
          have hKx : ∀ jj, jj ≠ 3 → K24 jj = K17 jj := fun jj h3 => by rw [eK25, va_up_ne _ _ h3, eK21, va_up_ne _ _ h3]
          have hK9x : ∀ jj, jj ≠ 3 → jj ≠ 20 → jj ≠ 19 → K24 jj = K13 jj := fun jj h3 h20 h19 => by rw [hKx jj h3, knK17 jj h20]; exact hKn jj h19
          have hK30 : K24 3 0 = bI ((tbA A ns nt).isSome = true) := by rw [eK25, va_up_self, pk_un (by decide), eK21, va_up_self, pk_us]
          have hK31 : K24 3 1 = nI 1 := by rw [eK25, va_up_self, pk_us]
          have hK32 : K24 3 2 = A 4 0 := by rw [eK25, va_up_self, pk_un (by decide), eK21, va_up_self, pk_un (by decide), knK17 3 (by decide), hKn 3 (by decide), kn3 3 (by decide)]; exact hr9.2.2.2.2.2.2.2.2.2.1
          have hmd : mtd K24 A := fun ns9 nt9 q1 q2 q3 q4 => by
            have e1 : ns = ns9 := (nI_eq (by omega) (by omega)).mp (hns.symm.trans q1)
            have e2 : nt = nt9 := (nI_eq (by omega) (by omega)).mp (hnt.symm.trans q2)
            subst e1
            subst e2
            refine ⟨fun p9 s9 h1 h2 => ?_, fun p9 hp => ?_, hK30, fun t9 ht9 => ?_⟩
            · rw [hK9x _ (by omega) (by omega) (by omega)]; exact vb3 p9 s9 h1 h2
            · rw [hKx 19 (by decide), knK17 19 (by decide)]; exact hM p9 (by omega)
            · rw [hKx 20 (by decide)]; exact ktK17 t9 ht9
          have hkpf : kp f12 f22 := (hkp.tr kfK24)
          exact h_vret C hr hlk hw (⟨_, _, hc, rp_m hr9 (kp3.tr hkpf) (fun jj h1 h2 h3 h4 => (hK9x jj h2 h4 h3).trans (kn3 jj h1)) ⟨hK32, Or.inr ⟨hK31, hmd⟩⟩, hK31⟩) dX1_renew_77
        · refine lv_aload_n hx hb dX1_renew_47 rfl (lv_at hl 0 rfl) ?_
          refine h_get C hw bX1 (co.a3 hc) lk1 5 (by decide) lk9 (v := .ref (ad 19)) rfl dX1_renew_48 ?_
          refine lv_iload_n hx hb dX1_renew_51 rfl (lv_at hl 1 rfl) ?_
          refine lv_aload_n hx hb dX1_renew_52 rfl (lv_at hl 0 rfl) ?_
          refine lv_iload_n hx hb dX1_renew_53 rfl (lv_at hl 1 rfl) ?_
          refine h_calli hw (h_runV (n := 1) (As := [.int (nI k)]) (rest := [.int (nI k), .ref (ad 19)]) C hw (c_X1_partnerOf hc hv9 (hP9.2.1.trans hns) (hP9.1.trans hnt) hns2 hnt2 (by omega)) gX1_renew_X1_partnerOf rfl rfl rfl (by decide +kernel) ⟨by decide, by decide⟩ bX1 (co.a3 hc) rfl hl.1 rfl (Nat.le_of_ble_eq_true rfl) dX1_renew_54 ⟨by first | decide | omega | (dsimp only; omega), by first | decide | omega | (dsimp only; omega)⟩) (fun r27 f28 H locs hp hw => ?_)
          obtain ⟨rfl, rfl⟩ := hp
          refine h_iast1 C hw (co.a19 hc) (show k < 10 from (by omega)) (by first | omega | decide) dX1_renew_57 (fun f29 H locs e30 hw => ?_)
          obtain ⟨K31, eK32, hc2⟩ := hc.upK 19 (κ := upd (K9 19) k (oI (mA A ns nt k))) (e := eI cA 10 (upd (K9 19) k (oI (mA A ns nt k)))) (by omega) rfl
          have hc3 := hc
          have hc := hc2.of e30
          have kpK31 := kp_up hc3 19 (by omega) e30
          have kfK31 := kp.tr (kp_le (hle.rf _)) kpK31
          have kn33 : K31 1 0 = nI nt := by rw [eK32, va_up_ne _ _ (by first | decide | omega)]; exact (hP9.1.trans hnt)
          have kn34 : K31 2 0 = nI ns := by rw [eK32, va_up_ne _ _ (by first | decide | omega)]; exact (hP9.2.1.trans hns)
          refine n_iinc C (lv' := [(1, _), (0, _)]) dX1_renew_58 hl (k := 1) rfl (by decide) rfl (fun ls hl => ?_)
          refine lv_goto (tgt := 36) hx hb dX1_renew_61 (by decide) ?_
          exact ih36 (k + 1) f29 K31 _ _ _ hw hc (lv_sub hl [1, 0] rfl) (by omega) (hkp.tr kfK31) (fun jj hj => by rw [eK32, va_up_ne _ _ hj]; exact hKn jj hj) (fun p9 hp => by rw [eK32, va_up_self]; by_cases e9 : p9 = k; (subst e9; exact pk_us); (rw [pk_un e9]; exact hM p9 (by omega))) (by omega)
    exact lp36 _ 0 f12 K13 _ _ _ hw hc (lv_sub hl [1, 0] rfl) (by omega) (kp.rf _) (fun _ _ => rfl) (fun p hp => absurd hp (by omega)) (Nat.lt_succ_self _)
  · have hfr : K 3 1 = nI 1 := hMt.2.elim (fun h9 => absurd h9 cq1) (fun h9 => h9.1)
    refine W.widen (k := 440) (n := 3520) (by first | decide | omega | (dsimp only; omega)) (by first | decide | omega | (dsimp only; omega)) ?_
    exact h_vret C hr hlk hw (⟨K, G, hc, hr9, hfr⟩) dX1_renew_7
