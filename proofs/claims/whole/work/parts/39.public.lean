/-! ===== the class: its state beside the reference, first acts (laid by program) ===== -/
/-! the class's numbers beside the reference's -/
def fdg (K : KK) (B : MB) (N : Nat) : Prop := ∀ k, k < 6 → ∃ n, n ≤ N ∧ K 11 k = nI n ∧ B 15 k = lN n
def inA (A : MA) : Prop := (∃ n, n ≤ 10 ∧ A 0 0 = nI n) ∧ (∃ n, n ≤ 12 ∧ A 1 0 = nI n) ∧ (∃ n, n ≤ 9 ∧ A 13 0 = nI n) ∧ (∀ r, r < 2 → A 6 r = -1 ∨ ∃ n, n ≤ 24 ∧ A 6 r = nI n) ∧ (∀ j, j < 24 → ∃ c, c < 4 ∧ A 10 j = nI c) ∧ (∀ j, j < 216 → ib 9 (A 11 j)) ∧ (∀ j, j < 12 → ib 99 (A 7 j)) ∧ (∀ j, j < 20 → ib 9 (A 12 j)) ∧ (∀ j, j < 22 → ib 199 (A 2 j)) ∧ (∀ j, j < 22 → ib 199 (A 3 j))
def pts (K : KK) (A : MA) : Prop := K 1 0 = A 1 0 ∧ K 2 0 = A 0 0 ∧ (∀ j, j < 12 → K 12 j = A 2 (10 + j) ∧ K 13 j = A 3 (10 + j)) ∧ ∀ j, j < 10 → K 14 j = A 2 j ∧ K 15 j = A 3 j
def rws (K : KK) (A : MA) : Prop := ∀ r, r < 2 → K (23 + r) 0 = A 6 r ∧ ∀ i n, A 6 r = nI n → n ≤ 24 → i < n → K (25 + r) i = A 5 (24 * r + i)
def tpe (K : KK) (A : MA) : Prop := K 6 0 = A 13 0 ∧ ∀ j, j < 9 → K 27 j = A 14 j
def wnd (K : KK) (A : MA) : Prop := ∀ j, j < 10 → K 9 j = A 12 (2 * j) ∧ K 10 j = A 12 (2 * j + 1)
def t8 (f : HF) (a : Nat) : Prop := ∃ v0 v1 v2 v3 v4 v5 v6 v7, f a = some (eO 8 [v0, v1, v2, v3, v4, v5, v6, v7])
def trI (T : Nat) (γ : Nat → Option Nat) (f : HF) : Prop := (∀ k a, k < T → γ k = some a → t8 f a) ∧ ∀ i j a, i < T → j < T → γ i = some a → γ j = some a → i = j
def tri (ad : Nat → Nat) (G : GG) (f : HF) : Prop := t8 f (ad 4) ∧ trI 120 (G 21) f ∧ trI 220 (G 22) f ∧ ∀ i j a, i < 120 → j < 220 → G 21 i = some a → G 22 j ≠ some a
def mtd (K : KK) (A : MA) : Prop := ∀ ns nt, A 0 0 = nI ns → A 1 0 = nI nt → ns ≤ 10 → nt ≤ 12 → (∀ p s, p < 10 → s < 12 → K (40 + p) s = vtA A ns nt (12 * p + s)) ∧ (∀ p, p < ns → K 19 p = oI (mA A ns nt p)) ∧ K 3 0 = bI ((tbA A ns nt).isSome = true) ∧ ∀ t, tbA A ns nt = some t → K 20 0 = nI t.1 ∧ K 20 1 = nI t.2.1 ∧ K 20 2 = nI t.2.2
def mtg (K : KK) (A : MA) : Prop := K 3 2 = A 4 0 ∧ (K 3 1 = nI 0 ∨ (K 3 1 = nI 1 ∧ mtd K A))
def rp (ad : Nat → Nat) (K : KK) (G : GG) (A : MA) (B : MB) (N : Nat) (f : HF) : Prop := inA A ∧ fdg K B N ∧ sgs K G A f ∧ sts G A f ∧ pts K A ∧ rws K A ∧ tpe K A ∧ wnd K A ∧ tri ad G f ∧ mtg K A
section RP
variable {K K1 : KK} {G G1 : GG} {A A1 : MA} {B B1 : MB} {N : Nat} {f f1 : HF} {ad : Nat → Nat}
theorem fdg.cg (h : fdg K B N) (hK : K1 11 = K 11) (hB : B1 15 = B 15) : fdg K1 B1 (N + 1) := fun k hk => by
  obtain ⟨n, h1, h2, h3⟩ := h k hk
  exact ⟨n, by omega, by rw [hK]; exact h2, by rw [hB]; exact h3⟩
theorem fdg.fd (h : fdg K B N) (hN : N < 2 ^ 20) {k : Nat} (hk : k ≤ 5) (eK : K1 = va_up K 11 (upd (K 11) k (K 11 k + nI 1))) : fdg K1 (fnd B k) (N + 1) := fun j hj => by
  obtain ⟨n, h1, h2, h3⟩ := h j hj
  rw [eK, va_up_self, fnd, va_up_self]
  by_cases e : j = k
  · subst e
    rw [pk_us, pk_uLs, h2, h3]
    exact ⟨n + 1, by omega, nI_add n 1, lN_1 n⟩
  · rw [pk_un e, pk_uLn e]
    exact ⟨n, by omega, h2, h3⟩
theorem sgs.cg (h : sgs K G A f) (k : kp f f1) (hK : ∀ i, i < 6 → K1 (28 + i) = K (28 + i)) (hG : ∀ i, i < 6 → G1 (34 + i) = G (34 + i)) (hA : ∀ k, 8 ≤ k → k ≤ 11 → A1 k = A k) : sgs K1 G1 A1 f1 := fun i hi => by
  obtain ⟨n, h1, h2, h3, h4⟩ := h i hi
  refine ⟨n, h1, by rw [hA 8 (by omega) (by omega)]; exact h2, by rw [hK i hi]; exact h3, fun j hj => ?_⟩
  obtain ⟨b, h5, h6⟩ := h4 j hj
  exact ⟨b, by rw [hG i hi]; exact h5, (h6.up k).cg (by rw [hA 9 (by omega) (by omega)]) (by rw [hA 10 (by omega) (by omega)]) (fun _ _ _ => by rw [hA 11 (by omega) (by omega)])⟩
theorem sts.cg (h : sts G A f) (k : kp f f1) (hG : G1 7 = G 7) (hA : A1 7 = A 7) : sts G1 A1 f1 := fun s hs => by
  obtain ⟨w, h1, h2⟩ := h s hs
  exact ⟨w, by rw [hG]; exact h1, by rw [hA]; exact k _ _ _ (by omega) h2⟩
theorem pts.cg (h : pts K A) (hK : ∀ k, (k = 1 ∨ k = 2 ∨ k = 12 ∨ k = 13 ∨ k = 14 ∨ k = 15) → K1 k = K k) (hA : ∀ k, k ≤ 3 → A1 k = A k) : pts K1 A1 := by
  unfold pts
  rw [hK 1 (by omega), hK 2 (by omega), hK 12 (by omega), hK 13 (by omega), hK 14 (by omega), hK 15 (by omega), hA 0 (by omega), hA 1 (by omega), hA 2 (by omega), hA 3 (by omega)]
  exact h
theorem rws.cg (h : rws K A) (hK : ∀ k, 23 ≤ k → k ≤ 26 → K1 k = K k) (h5 : A1 5 = A 5) (h6 : A1 6 = A 6) : rws K1 A1 := fun r hr => by
  rw [hK (23 + r) (by omega) (by omega), hK (25 + r) (by omega) (by omega), h5, h6]
  exact h r hr
theorem tpe.cg (h : tpe K A) (h1 : K1 6 = K 6) (h2 : K1 27 = K 27) (h3 : A1 13 = A 13) (h4 : A1 14 = A 14) : tpe K1 A1 := by
  unfold tpe
  rw [h1, h2, h3, h4]
  exact h
theorem wnd.cg (h : wnd K A) (h1 : K1 9 = K 9) (h2 : K1 10 = K 10) (h3 : A1 12 = A 12) : wnd K1 A1 := by
  unfold wnd
  rw [h1, h2, h3]
  exact h
theorem t8.up {a : Nat} (h : t8 f a) (k : kp f f1) : t8 f1 a := by
  obtain ⟨v0, v1, v2, v3, v4, v5, v6, v7, h⟩ := h
  exact ⟨v0, v1, v2, v3, v4, v5, v6, v7, k _ _ _ (by omega) h⟩
theorem tri.cg (h : tri ad G f) (k : kp f f1) (h1 : G1 21 = G 21) (h2 : G1 22 = G 22) : tri ad G1 f1 := by
  unfold tri
  rw [h1, h2]
  exact ⟨h.1.up k, ⟨fun j a hj e => (h.2.1.1 j a hj e).up k, h.2.1.2⟩, ⟨fun j a hj e => (h.2.2.1.1 j a hj e).up k, h.2.2.1.2⟩, h.2.2.2⟩
theorem gl_cg {o n : Nat} (h2 : A1 2 = A 2) (h3 : A1 3 = A 3) : gl A1 o n = gl A o n := by
  unfold gl gA gB gC g1 rel
  simp only [tg_c h2 h3, tri_c h2 h3, tn_c h2 h3]
theorem vt_cg {ns nt : Nat} (h2 : A1 2 = A 2) (h3 : A1 3 = A 3) (h4 : A1 4 = A 4) : vtA A1 ns nt = vtA A ns nt := by
  unfold vtA vF
  rw [gl_cg h2 h3, gl_cg h2 h3, h4]
theorem m_cg {ns nt p : Nat} (h2 : A1 2 = A 2) (h3 : A1 3 = A 3) (h4 : A1 4 = A 4) : mA A1 ns nt p = mA A ns nt p := by
  unfold mA
  rw [vt_cg h2 h3 h4]
theorem tb_cg {ns nt : Nat} (h2 : A1 2 = A 2) (h3 : A1 3 = A 3) (h4 : A1 4 = A 4) : tbA A1 ns nt = tbA A ns nt := by
  unfold tbA tAA tB tC t1A tkA
  simp only [m_cg h2 h3 h4, cr_c h2 h3]
theorem mtg.cg (h : mtg K A) (hK : ∀ k, (k = 3 ∨ k = 19 ∨ k = 20 ∨ 40 ≤ k) → K1 k = K k) (hA : ∀ k, k ≤ 4 → A1 k = A k) : mtg K1 A1 := by
  have h2 := hA 2 (by omega)
  have h3 := hA 3 (by omega)
  have h4 := hA 4 (by omega)
  unfold mtg
  rw [hK 3 (by omega), h4]
  refine ⟨h.1, h.2.imp id (fun h5 => ⟨h5.1, fun ns nt e1 e2 l1 l2 => ?_⟩)⟩
  rw [hA 0 (by omega)] at e1
  rw [hA 1 (by omega)] at e2
  obtain ⟨g1, g2, g3, g4⟩ := h5.2 ns nt e1 e2 l1 l2
  rw [hK 19 (by omega), hK 20 (by omega), hK 3 (by omega), tb_cg h2 h3 h4, vt_cg h2 h3 h4]
  refine ⟨fun p s hp hs => ?_, fun p hp => ?_, g3, g4⟩
  · rw [hK (40 + p) (by omega)]; exact g1 p s hp hs
  · rw [g2 p hp, m_cg h2 h3 h4]
theorem rp_le (h : rp ad K G A B N f) (k : kp f f1) : rp ad K G A B (N + 1) f1 := ⟨h.1, h.2.1.cg rfl rfl, h.2.2.1.cg k (fun _ _ => rfl) (fun _ _ => rfl) (fun _ _ _ => rfl), h.2.2.2.1.cg k rfl rfl, h.2.2.2.2.1, h.2.2.2.2.2.1, h.2.2.2.2.2.2.1, h.2.2.2.2.2.2.2.1, h.2.2.2.2.2.2.2.2.1.cg k rfl rfl, h.2.2.2.2.2.2.2.2.2⟩
theorem rp_fnd {k : Nat} (h : rp ad K G A B N f) (eK : K1 = va_up K 11 (upd (K 11) k (K 11 k + nI 1))) (kf : kp f f1) (hk : k ≤ 5) (hN : N < 2 ^ 20) : rp ad K1 G A (fnd B k) (N + 1) f1 := by
  have hn : ∀ j, j ≠ 11 → K1 j = K j := fun j hj => by rw [eK, va_up_ne _ _ hj]
  exact ⟨h.1, h.2.1.fd hN hk eK, h.2.2.1.cg kf (fun i _ => hn _ (by omega)) (fun _ _ => rfl) (fun _ _ _ => rfl), h.2.2.2.1.cg kf rfl rfl, h.2.2.2.2.1.cg (fun j _ => hn j (by omega)) (fun _ _ => rfl), h.2.2.2.2.2.1.cg (fun j _ _ => hn j (by omega)) rfl rfl, h.2.2.2.2.2.2.1.cg (hn 6 (by omega)) (hn 27 (by omega)) rfl rfl, h.2.2.2.2.2.2.2.1.cg (hn 9 (by omega)) (hn 10 (by omega)) rfl, h.2.2.2.2.2.2.2.2.1.cg kf rfl rfl, h.2.2.2.2.2.2.2.2.2.cg (fun j _ => hn j (by omega)) (fun _ _ => rfl)⟩
end RP
theorem cop {cA : Nat → ClassId} {ad : Nat → Nat} {K1 : KK} {G1 : GG} {f1 : HF} {N : Nat} {o : OR} {r : Int64} {A1 : MA} {B1 : MB} (e : o = (r, A1, B1)) (hc : co cA ad K1 G1 f1) (hr : rp ad K1 G1 A1 B1 (N + 1) f1) : o.1 = r ∧ ∃ K1 G1, co cA ad K1 G1 f1 ∧ rp ad K1 G1 o.2.1 o.2.2 (N + 1) f1 := by
  subst e
  exact ⟨rfl, K1, G1, hc, hr⟩
theorem rg_of {v : Int32} {k : Nat} (h0 : ¬ v < 0) (h1 : v ≤ nI k) : rg (nI 0) (nI k) v := ⟨h0, Int32.not_lt.mpr h1⟩
theorem rg_of2 {v : Int32} {k : Nat} (hk : k < 2 ^ 30) (h0 : ¬ v < 0) (h1 : v < nI (k + 1)) : rg (nI 0) (nI k) v := ⟨h0, fun h => absurd h1 (Int32.not_lt.mpr ((ge_succ hk).mpr h))⟩
theorem rg_lo {v : Int32} {k : Nat} (h0 : v < 0) : ¬ rg (nI 0) (nI k) v := fun h => h.1 h0
theorem rg_hi {v : Int32} {k : Nat} (h1 : ¬ v ≤ nI k) : ¬ rg (nI 0) (nI k) v := fun h => h1 (Int32.not_lt.mp h.2)
theorem rg_hi2 {v : Int32} {k : Nat} (hk : k < 2 ^ 30) (h1 : nI (k + 1) ≤ v) : ¬ rg (nI 0) (nI k) v := fun h => h.2 ((ge_succ hk).mp h1)
theorem al_i {w : Nat → Int64} {u : Nat} (hu : u ≤ 2) : alW (w 0) (w 1) (w 2) (nI u) = w u := by
  have h : u = 0 ∨ u = 1 ∨ u = 2 := by omega
  unfold alW
  rcases h with rfl | rfl | rfl
  · rw [if_pos (by decide)]
  · rw [if_neg (by decide), if_pos rfl]
  · rw [if_neg (by decide), if_neg (by decide)]
set_option maxHeartbeats 4000000 in
set_option maxRecDepth 100000 in
theorem c_X11_as {l : Launch} {D : va_G} {cA : Nat → ClassId} {f : HF} {sz : Nat} {ad : Nat → Nat} {K : KK} {G : GG} {A : MA} {B : MB} {N : Nat} {t k w : Int32}  (hc : co cA ad K G f) (hr9 : rp ad K G A B N f) (hN : N < 2 ^ 20) : Met l yX11_as wsX11_as ({ frames := 2, cells := 0, slots := 0, locals := 43 } : Room) (va_Pc [.ref (ad 0), .int t, .int k, .int w] (hB D cA f sz)) (va_Ql (fun r f1 => (op_as A B t k w).1 = r ∧ ∃ K1 G1, co cA ad K1 G1 f1 ∧ rp ad K1 G1 (op_as A B t k w).2.1 (op_as A B t k w).2.2 (N + 1) f1) (hE D f sz) (hA f sz)) 0 0 (hA f sz) := by
  refine h_of (cc := cX11_as) (maxL := 5) (ret := (some .long)) (by decide +kernel) rfl (Nat.le_of_ble_eq_true rfl) ?_
  intro p e s m below meth c ls C hr hlk hnm hw hl
  have hx := C.1.1
  have hb := C.1.2.1
  have hl : lv_has ls 5 [(0, .ref (ad 0)), (1, .int t), (2, .int k), (3, .int w)] := hl
  have lk0 : Cond.fieldLink RX11 219 "FallingLight$Sight" "station" "I" ∈ wsX11_as := by decide +kernel
  have lk1 : ∀ w ∈ u_ws RX6 TX6 6, w ∈ wsX11_as := by decide +kernel
  have lk2 : Cond.fieldLink RX11 216 "FallingLight$Sight" "kind" "I" ∈ wsX11_as := by decide +kernel
  obtain ⟨hI, hF, hS, hT, hP, hRw, hTp, hWd, hTr, hMt⟩ := id hr9
  obtain ⟨-, -, -, hrs, hso, hwy, hst, hdr, hpx, hpy⟩ := id hI
  refine lv_aload_n hx hb dX11_as_0 rfl (lv_at hl 0 rfl) ?_
  refine lv_iload_n hx hb dX11_as_1 rfl (lv_at hl 1 rfl) ?_
  refine lv_iload_n hx hb dX11_as_2 rfl (lv_at hl 2 rfl) ?_
  refine h_callq hw (h_runV (n := 2) (As := [.int t, .int k]) (rest := []) C hw (c_X11_sightOf (A := A) hc hS) gX11_as_X11_sightOf rfl rfl rfl (by decide +kernel) ⟨by decide, by decide⟩ bX11 (co.a0 hc) rfl hl.1 rfl (Nat.le_of_ble_eq_true rfl) dX11_as_3 ⟨by first | decide | omega, by first | decide | omega⟩) (fun r1 f2 H locs hp hw => ?_)
  obtain ⟨hso3, rfl⟩ := hp
  refine lv_astoreQ (lv' := [(4, _), (0, _), (1, _), (2, _), (3, _)]) hx hb dX11_as_6 hl (by decide) rfl (fun ls hl => ?_)
  refine lv_aloadQ hx hb dX11_as_8 (lv_at hl 0 rfl) ?_
  refine n_ifnull C (tgt := 20) dX11_as_10 (by decide) (fun cq5 => ?_) (fun x4 cq5 => ?_)
  · subst cq5
    refine lv_aload_n hx hb dX11_as_20 rfl (lv_at hl 1 rfl) ?_
    refine lv_iconst (v := nI 1) hx hb dX11_as_21 (by decide) ?_
    refine h_calll hw (h_runV (n := 1) (As := [.int (nI 1)]) (rest := []) C hw (c_X11_finding hc (by omega)) gX11_as_X11_finding rfl rfl rfl (by decide +kernel) ⟨by decide, by decide⟩ bX11 (co.a0 hc) rfl hl.1 rfl (Nat.le_of_ble_eq_true rfl) dX11_as_22 ⟨by first | decide | omega, by first | decide | omega⟩) (fun r6 f7 H locs hp hw => ?_)
    obtain ⟨rfl, K8, hc, eK9, kp10⟩ := hp
    exact h_lret C hr hlk hw (cop (by simp only [op_as, if_neg (hso3.no hS.hsg)]) hc (rp_fnd hr9 eK9 (kp.tr (kp_le (hle.rf f)) kp10) (by decide) hN)) dX11_as_25
  · subst cq5
    have hsga := hso3.so
    obtain ⟨i, j, nk, hi, hj, hn, h8, rfl, rfl⟩ := sgN hS.hsg hsga
    have hat := atN hi (show j < 4 by omega)
    obtain ⟨b, hb0, hsb⟩ := hso3.1 i j nk hi hj hn h8 rfl rfl
    cases hb0
    obtain ⟨bg, en, md, pl, ho, hbg, hen, hmy, hmn, hpl⟩ := hsb
    refine lv_iload_n hx hb dX11_as_13 rfl (lv_at hl 4 rfl) ?_
    refine h_calli hw (h_runS (n := 1) (As := [.int w]) (rest := []) C hw c_X11_isKind gX11_as_X11_isKind rfl rfl rfl (by decide +kernel) ⟨by decide, by decide⟩ rfl hl.1 rfl (Nat.le_of_ble_eq_true rfl) dX11_as_14 ⟨by first | decide | omega, by first | decide | omega⟩) (fun r11 f12 H locs hp hw => ?_)
    obtain ⟨rfl, rfl⟩ := hp
    refine n_ifneB C (tgt := 26) dX11_as_17 (by decide) (fun cq13 => ?_) (fun cq13 => ?_)
    · refine lv_iload_n hx hb dX11_as_26 rfl (lv_at hl 4 rfl) ?_
      refine lv_if_eq (tgt := 45) hx hb dX11_as_27 (by decide) (fun cq14 => ?_) (fun cq14 => ?_)
      · refine lv_aload hx hb dX11_as_45 (lv_at hl 0 rfl) ?_
        refine h_get C hw bX6 ho lk1 1 (by decide) lk0 (v := .int (A 10 (4 * i + j))) rfl dX11_as_47 ?_
        refine lv_i2l hx hb dX11_as_50 rfl ?_
        exact h_lret C hr hlk hw (cop (by simp only [op_as, if_pos hsga, if_pos cq13, if_pos cq14, hat]) hc (rp_le hr9 (kp_le (hle.rf f)))) dX11_as_51
      · refine lv_iload_n hx hb dX11_as_30 rfl (lv_at hl 4 rfl) ?_
        refine lv_aload hx hb dX11_as_31 (lv_at hl 0 rfl) ?_
        refine h_get C hw bX6 ho lk1 0 (by decide) lk2 (v := .int (A 9 (4 * i + j))) rfl dX11_as_33 ?_
        refine lv_icmp_eq (tgt := 45) hx hb dX11_as_36 (by decide) (fun cq15 => ?_) (fun cq15 => ?_)
        · refine lv_aload hx hb dX11_as_45 (lv_at hl 0 rfl) ?_
          refine h_get C hw bX6 ho lk1 1 (by decide) lk0 (v := .int (A 10 (4 * i + j))) rfl dX11_as_47 ?_
          refine lv_i2l hx hb dX11_as_50 rfl ?_
          exact h_lret C hr hlk hw (cop (by simp only [op_as, if_pos hsga, if_pos cq13, if_neg cq14, hat, if_pos cq15.symm]) hc (rp_le hr9 (kp_le (hle.rf f)))) dX11_as_51
        · refine lv_aload_n hx hb dX11_as_39 rfl (lv_at hl 1 rfl) ?_
          refine lv_iconst (v := nI 3) hx hb dX11_as_40 (by decide) ?_
          refine h_calll hw (h_runV (n := 1) (As := [.int (nI 3)]) (rest := []) C hw (c_X11_finding hc (by omega)) gX11_as_X11_finding rfl rfl rfl (by decide +kernel) ⟨by decide, by decide⟩ bX11 (co.a0 hc) rfl hl.1 rfl (Nat.le_of_ble_eq_true rfl) dX11_as_41 ⟨by first | decide | omega, by first | decide | omega⟩) (fun r16 f17 H locs hp hw => ?_)
          obtain ⟨rfl, K18, hc, eK19, kp20⟩ := hp
          exact h_lret C hr hlk hw (cop (by simp only [op_as, if_pos hsga, if_pos cq13, if_neg cq14, hat, if_neg (Ne.symm cq15)]) hc (rp_fnd hr9 eK19 (kp.tr (kp_le (hle.rf f)) kp20) (by decide) hN)) dX11_as_44
    · refine lv_aload_n hx hb dX11_as_20 rfl (lv_at hl 1 rfl) ?_
      refine lv_iconst (v := nI 1) hx hb dX11_as_21 (by decide) ?_
      refine h_calll hw (h_runV (n := 1) (As := [.int (nI 1)]) (rest := []) C hw (c_X11_finding hc (by omega)) gX11_as_X11_finding rfl rfl rfl (by decide +kernel) ⟨by decide, by decide⟩ bX11 (co.a0 hc) rfl hl.1 rfl (Nat.le_of_ble_eq_true rfl) dX11_as_22 ⟨by first | decide | omega, by first | decide | omega⟩) (fun r21 f22 H locs hp hw => ?_)
      obtain ⟨rfl, K23, hc, eK24, kp25⟩ := hp
      exact h_lret C hr hlk hw (cop (by simp only [op_as, if_pos hsga, if_neg cq13]) hc (rp_fnd hr9 eK24 (kp.tr (kp_le (hle.rf f)) kp25) (by decide) hN)) dX11_as_25
set_option maxHeartbeats 4000000 in
set_option maxRecDepth 100000 in
theorem c_X11_about {l : Launch} {D : va_G} {cA : Nat → ClassId} {f : HF} {sz : Nat} {ad : Nat → Nat} {K : KK} {G : GG} {A : MA} {B : MB} {N : Nat} {t k w : Int32}  (hc : co cA ad K G f) (hr9 : rp ad K G A B N f) (hN : N < 2 ^ 20) : Met l yX11_about wsX11_about ({ frames := 2, cells := 0, slots := 0, locals := 43 } : Room) (va_Pc [.ref (ad 0), .int t, .int k, .int w] (hB D cA f sz)) (va_Ql (fun r f1 => (op_about A B t k w).1 = r ∧ ∃ K1 G1, co cA ad K1 G1 f1 ∧ rp ad K1 G1 (op_about A B t k w).2.1 (op_about A B t k w).2.2 (N + 1) f1) (hE D f sz) (hA f sz)) 0 0 (hA f sz) := by
  refine h_of (cc := cX11_about) (maxL := 5) (ret := (some .long)) (by decide +kernel) rfl (Nat.le_of_ble_eq_true rfl) ?_
  intro p e s m below meth c ls C hr hlk hnm hw hl
  have hx := C.1.1
  have hb := C.1.2.1
  have hl : lv_has ls 5 [(0, .ref (ad 0)), (1, .int t), (2, .int k), (3, .int w)] := hl
  have lk0 : Cond.fieldLink RX11 226 "FallingLight$Sight" "plane" "LFallingLight$Way;" ∈ wsX11_about := by decide +kernel
  have lk1 : ∀ w ∈ u_ws RX6 TX6 6, w ∈ wsX11_about := by decide +kernel
  have lk2 : Cond.fieldLink RX11 222 "FallingLight$Sight" "middle" "LFallingLight$Way;" ∈ wsX11_about := by decide +kernel
  have lk3 : Cond.fieldLink RX11 219 "FallingLight$Sight" "station" "I" ∈ wsX11_about := by decide +kernel
  have lk4 : Cond.fieldLink RX11 216 "FallingLight$Sight" "kind" "I" ∈ wsX11_about := by decide +kernel
  obtain ⟨hI, hF, hS, hT, hP, hRw, hTp, hWd, hTr, hMt⟩ := id hr9
  obtain ⟨-, -, -, hrs, hso, hwy, hst, hdr, hpx, hpy⟩ := id hI
  refine lv_aload_n hx hb dX11_about_0 rfl (lv_at hl 0 rfl) ?_
  refine lv_iload_n hx hb dX11_about_1 rfl (lv_at hl 1 rfl) ?_
  refine lv_iload_n hx hb dX11_about_2 rfl (lv_at hl 2 rfl) ?_
  refine h_callq hw (h_runV (n := 2) (As := [.int t, .int k]) (rest := []) C hw (c_X11_sightOf (A := A) hc hS) gX11_about_X11_sightOf rfl rfl rfl (by decide +kernel) ⟨by decide, by decide⟩ bX11 (co.a0 hc) rfl hl.1 rfl (Nat.le_of_ble_eq_true rfl) dX11_about_3 ⟨by first | decide | omega, by first | decide | omega⟩) (fun r1 f2 H locs hp hw => ?_)
  obtain ⟨hso3, rfl⟩ := hp
  refine lv_astoreQ (lv' := [(4, _), (0, _), (1, _), (2, _), (3, _)]) hx hb dX11_about_6 hl (by decide) rfl (fun ls hl => ?_)
  refine lv_aloadQ hx hb dX11_about_8 (lv_at hl 0 rfl) ?_
  refine n_ifnull C (tgt := 22) dX11_about_10 (by decide) (fun cq5 => ?_) (fun x4 cq5 => ?_)
  · subst cq5
    refine lv_aload_n hx hb dX11_about_22 rfl (lv_at hl 1 rfl) ?_
    refine lv_iconst (v := nI 1) hx hb dX11_about_23 (by decide) ?_
    refine h_calll hw (h_runV (n := 1) (As := [.int (nI 1)]) (rest := []) C hw (c_X11_finding hc (by omega)) gX11_about_X11_finding rfl rfl rfl (by decide +kernel) ⟨by decide, by decide⟩ bX11 (co.a0 hc) rfl hl.1 rfl (Nat.le_of_ble_eq_true rfl) dX11_about_24 ⟨by first | decide | omega, by first | decide | omega⟩) (fun r6 f7 H locs hp hw => ?_)
    obtain ⟨rfl, K8, hc, eK9, kp10⟩ := hp
    exact h_lret C hr hlk hw (cop (by simp only [op_about, if_neg (hso3.no hS.hsg)]) hc (rp_fnd hr9 eK9 (kp.tr (kp_le (hle.rf f)) kp10) (by decide) hN)) dX11_about_27
  · subst cq5
    have hsga := hso3.so
    obtain ⟨i, j, nk, hi, hj, hn, h8, rfl, rfl⟩ := sgN hS.hsg hsga
    have hat := atN hi (show j < 4 by omega)
    obtain ⟨b, hb0, hsb⟩ := hso3.1 i j nk hi hj hn h8 rfl rfl
    cases hb0
    obtain ⟨bg, en, md, pl, ho, hbg, hen, hmy, hmn, hpl⟩ := hsb
    refine lv_iload_n hx hb dX11_about_13 rfl (lv_at hl 4 rfl) ?_
    refine lv_if_lt (tgt := 22) hx hb dX11_about_14 (by decide) (fun cq11 => ?_) (fun cq11 => ?_)
    · refine lv_aload_n hx hb dX11_about_22 rfl (lv_at hl 1 rfl) ?_
      refine lv_iconst (v := nI 1) hx hb dX11_about_23 (by decide) ?_
      refine h_calll hw (h_runV (n := 1) (As := [.int (nI 1)]) (rest := []) C hw (c_X11_finding hc (by omega)) gX11_about_X11_finding rfl rfl rfl (by decide +kernel) ⟨by decide, by decide⟩ bX11 (co.a0 hc) rfl hl.1 rfl (Nat.le_of_ble_eq_true rfl) dX11_about_24 ⟨by first | decide | omega, by first | decide | omega⟩) (fun r12 f13 H locs hp hw => ?_)
      obtain ⟨rfl, K14, hc, eK15, kp16⟩ := hp
      exact h_lret C hr hlk hw (cop (by simp only [op_about, if_pos hsga, if_neg (rg_lo cq11)]) hc (rp_fnd hr9 eK15 (kp.tr (kp_le (hle.rf f)) kp16) (by decide) hN)) dX11_about_27
    · refine lv_iload_n hx hb dX11_about_17 rfl (lv_at hl 4 rfl) ?_
      refine lv_iconst (v := nI 5) hx hb dX11_about_18 (by decide) ?_
      refine lv_icmp_le (tgt := 28) hx hb dX11_about_19 (by decide) (fun cq17 => ?_) (fun cq17 => ?_)
      · have hrgw := rg_of cq11 cq17
        obtain ⟨u, hu, rfl⟩ := inN (by decide) hrgw
        refine lv_iload_n hx hb dX11_about_28 rfl (lv_at hl 4 rfl) ?_
        refine n_zne C (by omega) (tgt := 39) dX11_about_29 (by decide) (fun cq18 => ?_) (fun cq18 => ?_)
        · refine lv_iload_n hx hb dX11_about_39 rfl (lv_at hl 4 rfl) ?_
          refine lv_iconst (v := nI 1) hx hb dX11_about_40 (by decide) ?_
          refine n_cne C (by omega) (by omega) (tgt := 51) dX11_about_41 (by decide) (fun cq19 => ?_) (fun cq19 => ?_)
          · refine lv_iload_n hx hb dX11_about_51 rfl (lv_at hl 4 rfl) ?_
            refine lv_iconst (v := nI 5) hx hb dX11_about_52 (by decide) ?_
            refine n_cne C (by omega) (by omega) (tgt := 70) dX11_about_53 (by decide) (fun cq20 => ?_) (fun cq20 => ?_)
            · refine lv_aload hx hb dX11_about_70 (lv_at hl 0 rfl) ?_
              refine h_get C hw bX6 ho lk1 5 (by decide) lk0 (v := va_rf pl) rfl dX11_about_72 ?_
              refine n_ifnonnull C (tgt := 84) dX11_about_75 (by decide) (fun x21 cq22 => ?_) (fun cq22 => ?_)
              · subst cq22
                obtain ⟨hnp, hwp⟩ := hpl.so
                refine lv_iload_n hx hb dX11_about_84 rfl (lv_at hl 4 rfl) ?_
                refine lv_iconst (v := nI 5) hx hb dX11_about_85 (by decide) ?_
                refine n_cne C (by omega) (by omega) (tgt := 105) dX11_about_86 (by decide) (fun cq23 => ?_) (fun cq23 => ?_)
                · refine lv_aload hx hb dX11_about_105 (lv_at hl 0 rfl) ?_
                  refine h_get C hw bX6 ho lk1 5 (by decide) lk0 (v := .ref x21) rfl dX11_about_107 ?_
                  refine lv_iload_n hx hb dX11_about_110 rfl (lv_at hl 4 rfl) ?_
                  refine lv_iconst (v := nI 2) hx hb dX11_about_111 (by decide) ?_
                  refine n_isub C (by omega) dX11_about_112 ?_
                  refine h_calll hw (h_runV (n := 1) (As := [.int (nI (u - 2))]) (rest := []) C hw (c_X10_along hwp) gX11_about_X10_along rfl rfl rfl (by decide +kernel) ⟨by decide, by decide⟩ bX10 hwp rfl hl.1 rfl (Nat.le_of_ble_eq_true rfl) dX11_about_113 ⟨by first | decide | omega, by first | decide | omega⟩) (fun r24 f25 H locs hp hw => ?_)
                  obtain ⟨rfl, rfl⟩ := hp
                  exact h_lret C hr hlk hw (cop (by simp only [op_about, if_pos hsga, if_pos hrgw, nI_clamp (show u < 2 ^ 31 by omega), hat, if_pos (show 2 ≤ u by omega), if_neg cq20, ab2, if_pos hnp, if_neg (show ¬ 5 ≤ u by omega), ← al_i (w := plA A (4 * i + j)) (show u - 2 ≤ 2 by omega)]) hc (rp_le hr9 (kp_le (hle.rf f)))) dX11_about_116
                · exact absurd cq23 cq20
              · subst cq22
                refine lv_aload_n hx hb dX11_about_78 rfl (lv_at hl 1 rfl) ?_
                refine lv_iconst (v := nI 2) hx hb dX11_about_79 (by decide) ?_
                refine h_calll hw (h_runV (n := 1) (As := [.int (nI 2)]) (rest := []) C hw (c_X11_finding hc (by omega)) gX11_about_X11_finding rfl rfl rfl (by decide +kernel) ⟨by decide, by decide⟩ bX11 (co.a0 hc) rfl hl.1 rfl (Nat.le_of_ble_eq_true rfl) dX11_about_80 ⟨by first | decide | omega, by first | decide | omega⟩) (fun r26 f27 H locs hp hw => ?_)
                obtain ⟨rfl, K28, hc, eK29, kp30⟩ := hp
                exact h_lret C hr hlk hw (cop (by simp only [op_about, if_pos hsga, if_pos hrgw, nI_clamp (show u < 2 ^ 31 by omega), hat, if_pos (show 2 ≤ u by omega), if_neg cq20, ab2, if_neg hpl.no]) hc (rp_fnd hr9 eK29 (kp.tr (kp_le (hle.rf f)) kp30) (by decide) hN)) dX11_about_83
            · refine lv_aload hx hb dX11_about_56 (lv_at hl 0 rfl) ?_
              refine h_get C hw bX6 ho lk1 4 (by decide) lk2 (v := va_rf md) rfl dX11_about_58 ?_
              refine n_ifnonnull C (tgt := 70) dX11_about_61 (by decide) (fun x31 cq32 => ?_) (fun cq32 => ?_)
              · subst cq32
                have hk1 : A 9 (4 * i + j) = nI 1 := Decidable.not_not.mp (fun h9 => by have := hmn h9; cases this)
                obtain ⟨m9, hm9, hwm⟩ := hmy hk1
                cases hm9
                refine lv_aload hx hb dX11_about_70 (lv_at hl 0 rfl) ?_
                refine h_get C hw bX6 ho lk1 5 (by decide) lk0 (v := va_rf pl) rfl dX11_about_72 ?_
                refine n_ifnonnull C (tgt := 84) dX11_about_75 (by decide) (fun x33 cq34 => ?_) (fun cq34 => ?_)
                · subst cq34
                  obtain ⟨hnp, hwp⟩ := hpl.so
                  refine lv_iload_n hx hb dX11_about_84 rfl (lv_at hl 4 rfl) ?_
                  refine lv_iconst (v := nI 5) hx hb dX11_about_85 (by decide) ?_
                  refine n_cne C (by omega) (by omega) (tgt := 105) dX11_about_86 (by decide) (fun cq35 => ?_) (fun cq35 => ?_)
                  · exact absurd cq20 cq35
                  · refine lv_aload hx hb dX11_about_89 (lv_at hl 0 rfl) ?_
                    refine h_get C hw bX6 ho lk1 5 (by decide) lk0 (v := .ref x33) rfl dX11_about_91 ?_
                    refine lv_aload hx hb dX11_about_94 (lv_at hl 0 rfl) ?_
                    refine h_get C hw bX6 ho lk1 4 (by decide) lk2 (v := .ref x31) rfl dX11_about_96 ?_
                    refine h_calll hw (h_runV (n := 1) (As := [.ref x31]) (rest := []) C hw (c_X10_dot hwp hwm) gX11_about_X10_dot rfl rfl rfl (by decide +kernel) ⟨by decide, by decide⟩ bX10 hwp rfl hl.1 rfl (Nat.le_of_ble_eq_true rfl) dX11_about_99 ⟨by first | decide | omega, by first | decide | omega⟩) (fun r36 f37 H locs hp hw => ?_)
                    obtain ⟨rfl, rfl⟩ := hp
                    refine lv_goto (tgt := 116) hx hb dX11_about_102 (by decide) ?_
                    exact h_lret C hr hlk hw (cop (by simp only [op_about, if_pos hsga, if_pos hrgw, nI_clamp (show u < 2 ^ 31 by omega), hat, if_pos (show 2 ≤ u by omega), if_pos cq20, if_pos hk1, ab2, if_pos hnp, if_pos (show 5 ≤ u by omega), bdA]) hc (rp_le hr9 (kp_le (hle.rf f)))) dX11_about_116
                · subst cq34
                  refine lv_aload_n hx hb dX11_about_78 rfl (lv_at hl 1 rfl) ?_
                  refine lv_iconst (v := nI 2) hx hb dX11_about_79 (by decide) ?_
                  refine h_calll hw (h_runV (n := 1) (As := [.int (nI 2)]) (rest := []) C hw (c_X11_finding hc (by omega)) gX11_about_X11_finding rfl rfl rfl (by decide +kernel) ⟨by decide, by decide⟩ bX11 (co.a0 hc) rfl hl.1 rfl (Nat.le_of_ble_eq_true rfl) dX11_about_80 ⟨by first | decide | omega, by first | decide | omega⟩) (fun r38 f39 H locs hp hw => ?_)
                  obtain ⟨rfl, K40, hc, eK41, kp42⟩ := hp
                  exact h_lret C hr hlk hw (cop (by simp only [op_about, if_pos hsga, if_pos hrgw, nI_clamp (show u < 2 ^ 31 by omega), hat, if_pos (show 2 ≤ u by omega), if_pos cq20, if_pos hk1, ab2, if_neg hpl.no]) hc (rp_fnd hr9 eK41 (kp.tr (kp_le (hle.rf f)) kp42) (by decide) hN)) dX11_about_83
              · subst cq32
                have hk1 : ¬ A 9 (4 * i + j) = nI 1 := fun h9 => by obtain ⟨m9, hm9, -⟩ := hmy h9; cases hm9
                refine lv_aload_n hx hb dX11_about_64 rfl (lv_at hl 1 rfl) ?_
                refine lv_iconst (v := nI 3) hx hb dX11_about_65 (by decide) ?_
                refine h_calll hw (h_runV (n := 1) (As := [.int (nI 3)]) (rest := []) C hw (c_X11_finding hc (by omega)) gX11_about_X11_finding rfl rfl rfl (by decide +kernel) ⟨by decide, by decide⟩ bX11 (co.a0 hc) rfl hl.1 rfl (Nat.le_of_ble_eq_true rfl) dX11_about_66 ⟨by first | decide | omega, by first | decide | omega⟩) (fun r43 f44 H locs hp hw => ?_)
                obtain ⟨rfl, K45, hc, eK46, kp47⟩ := hp
                exact h_lret C hr hlk hw (cop (by simp only [op_about, if_pos hsga, if_pos hrgw, nI_clamp (show u < 2 ^ 31 by omega), hat, if_pos (show 2 ≤ u by omega), if_pos cq20, if_neg hk1]) hc (rp_fnd hr9 eK46 (kp.tr (kp_le (hle.rf f)) kp47) (by decide) hN)) dX11_about_69
          · refine lv_aload hx hb dX11_about_44 (lv_at hl 0 rfl) ?_
            refine h_get C hw bX6 ho lk1 1 (by decide) lk3 (v := .int (A 10 (4 * i + j))) rfl dX11_about_46 ?_
            refine lv_i2l hx hb dX11_about_49 rfl ?_
            exact h_lret C hr hlk hw (cop (by simp only [op_about, if_pos hsga, if_pos hrgw, nI_clamp (show u < 2 ^ 31 by omega), hat, if_neg (show ¬ 2 ≤ u by omega), if_neg cq18]) hc (rp_le hr9 (kp_le (hle.rf f)))) dX11_about_50
        · refine lv_aload hx hb dX11_about_32 (lv_at hl 0 rfl) ?_
          refine h_get C hw bX6 ho lk1 0 (by decide) lk4 (v := .int (A 9 (4 * i + j))) rfl dX11_about_34 ?_
          refine lv_i2l hx hb dX11_about_37 rfl ?_
          exact h_lret C hr hlk hw (cop (by simp only [op_about, if_pos hsga, if_pos hrgw, nI_clamp (show u < 2 ^ 31 by omega), hat, if_neg (show ¬ 2 ≤ u by omega), if_pos cq18]) hc (rp_le hr9 (kp_le (hle.rf f)))) dX11_about_38
      · refine lv_aload_n hx hb dX11_about_22 rfl (lv_at hl 1 rfl) ?_
        refine lv_iconst (v := nI 1) hx hb dX11_about_23 (by decide) ?_
        refine h_calll hw (h_runV (n := 1) (As := [.int (nI 1)]) (rest := []) C hw (c_X11_finding hc (by omega)) gX11_about_X11_finding rfl rfl rfl (by decide +kernel) ⟨by decide, by decide⟩ bX11 (co.a0 hc) rfl hl.1 rfl (Nat.le_of_ble_eq_true rfl) dX11_about_24 ⟨by first | decide | omega, by first | decide | omega⟩) (fun r48 f49 H locs hp hw => ?_)
        obtain ⟨rfl, K50, hc, eK51, kp52⟩ := hp
        exact h_lret C hr hlk hw (cop (by simp only [op_about, if_pos hsga, if_neg (rg_hi cq17)]) hc (rp_fnd hr9 eK51 (kp.tr (kp_le (hle.rf f)) kp52) (by decide) hN)) dX11_about_27
set_option maxHeartbeats 4000000 in
set_option maxRecDepth 100000 in
theorem c_X11_fall {l : Launch} {D : va_G} {cA : Nat → ClassId} {f : HF} {sz : Nat} {ad : Nat → Nat} {K : KK} {G : GG} {A : MA} {B : MB} {N : Nat} {t k k2 w : Int32}  (hc : co cA ad K G f) (hr9 : rp ad K G A B N f) (hN : N < 2 ^ 20) : Met l yX11_fall wsX11_fall ({ frames := 4, cells := 1, slots := 3, locals := 89 } : Room) (va_Pc [.ref (ad 0), .int t, .int k, .int k2, .int w] (hB D cA f sz)) (va_Ql (fun r f1 => (op_fall A B t k k2 w).1 = r ∧ ∃ K1 G1, co cA ad K1 G1 f1 ∧ rp ad K1 G1 (op_fall A B t k k2 w).2.1 (op_fall A B t k k2 w).2.2 (N + 1) f1) (hE D f sz) (hA f sz)) 1 3 (hA f sz) := by
  refine h_of (cc := cX11_fall) (maxL := 6) (ret := (some .long)) (by decide +kernel) rfl (Nat.le_of_ble_eq_true rfl) ?_
  intro p e s m below meth c ls C hr hlk hnm hw hl
  have hx := C.1.1
  have hb := C.1.2.1
  have hl : lv_has ls 6 [(0, .ref (ad 0)), (1, .int t), (2, .int k), (3, .int k2), (4, .int w)] := hl
  obtain ⟨hI, hF, hS, hT, hP, hRw, hTp, hWd, hTr, hMt⟩ := id hr9
  obtain ⟨-, -, -, hrs, hso, hwy, hst, hdr, hpx, hpy⟩ := id hI
  refine lv_aload_n hx hb dX11_fall_0 rfl (lv_at hl 0 rfl) ?_
  refine lv_iload_n hx hb dX11_fall_1 rfl (lv_at hl 1 rfl) ?_
  refine lv_iload_n hx hb dX11_fall_2 rfl (lv_at hl 2 rfl) ?_
  refine lv_iload_n hx hb dX11_fall_3 rfl (lv_at hl 3 rfl) ?_
  refine h_calli hw (h_runV (n := 3) (As := [.int t, .int k, .int k2]) (rest := []) C hw (c_X11_isPair (A := A) hc hS) gX11_fall_X11_isPair rfl rfl rfl (by decide +kernel) ⟨by decide, by decide⟩ bX11 (co.a0 hc) rfl hl.1 rfl (Nat.le_of_ble_eq_true rfl) dX11_fall_4 ⟨by first | decide | omega, by first | decide | omega⟩) (fun r1 f2 H locs hp hw => ?_)
  obtain ⟨rfl, rfl⟩ := hp
  refine n_ifeqB C (tgt := 18) dX11_fall_7 (by decide) (fun cq3 => ?_) (fun cq3 => ?_)
  · refine lv_aload_n hx hb dX11_fall_18 rfl (lv_at hl 0 rfl) ?_
    refine lv_iconst (v := nI 1) hx hb dX11_fall_19 (by decide) ?_
    refine h_calll hw (h_runV (n := 1) (As := [.int (nI 1)]) (rest := []) C hw (c_X11_finding hc (by omega)) gX11_fall_X11_finding rfl rfl rfl (by decide +kernel) ⟨by decide, by decide⟩ bX11 (co.a0 hc) rfl hl.1 rfl (Nat.le_of_ble_eq_true rfl) dX11_fall_20 ⟨by first | decide | omega, by first | decide | omega⟩) (fun r4 f5 H locs hp hw => ?_)
    obtain ⟨rfl, K6, hc, eK7, kp8⟩ := hp
    refine W.widen (k := 1) (n := 3) (by first | decide | omega | (dsimp only; omega)) (by first | decide | omega | (dsimp only; omega)) ?_
    exact h_lret C hr hlk hw (cop (by simp only [op_fall, if_neg cq3]) hc (rp_fnd hr9 eK7 (kp.tr (kp_le (hle.rf f)) kp8) (by decide) hN)) dX11_fall_23
  · obtain ⟨i, j, nk, hi, hj, hn, h8, rfl, rfl⟩ := sgN hS.hsg cq3.1
    obtain ⟨j2, hj2, rfl⟩ : ∃ j2, j2 < nk ∧ k2 = nI j2 := by obtain ⟨i9, j9, n9, q1, q2, q3, q4, q5, q6⟩ := sgN hS.hsg cq3.2.1; have e1 := (nI_eq (by omega) (by omega)).mp q5; subst e1; have e2 := (nI_eq (by omega) (by omega)).mp (h8.symm.trans q4); exact ⟨j9, by omega, q6⟩
    have hat := atN hi (show j < 4 by omega)
    have hat2 := atN hi (show j2 < 4 by omega)
    refine lv_iload hx hb dX11_fall_10 (lv_at hl 4 rfl) ?_
    refine h_calli hw (h_runS (n := 1) (As := [.int w]) (rest := []) C hw c_X11_isAxis gX11_fall_X11_isAxis rfl rfl rfl (by decide +kernel) ⟨by decide, by decide⟩ rfl hl.1 rfl (Nat.le_of_ble_eq_true rfl) dX11_fall_12 ⟨by first | decide | omega, by first | decide | omega⟩) (fun r9 f10 H locs hp hw => ?_)
    obtain ⟨rfl, rfl⟩ := hp
    refine n_ifneB C (tgt := 24) dX11_fall_15 (by decide) (fun cq11 => ?_) (fun cq11 => ?_)
    · obtain ⟨u, hu, rfl⟩ := inN (by decide) cq11
      refine lv_aload_n hx hb dX11_fall_24 rfl (lv_at hl 0 rfl) ?_
      refine lv_iload_n hx hb dX11_fall_25 rfl (lv_at hl 1 rfl) ?_
      refine lv_iload_n hx hb dX11_fall_26 rfl (lv_at hl 2 rfl) ?_
      refine h_callq hw (h_runV (n := 2) (As := [.int (nI i), .int (nI j)]) (rest := []) C hw (c_X11_planeOf (A := A) hc hS hi hj hn h8) gX11_fall_X11_planeOf rfl rfl rfl (by decide +kernel) ⟨by decide, by decide⟩ bX11 (co.a0 hc) rfl hl.1 rfl (Nat.le_of_ble_eq_true rfl) dX11_fall_27 ⟨by first | decide | omega, by first | decide | omega⟩) (fun r12 f13 H locs hp hw => ?_)
      obtain ⟨hcr14, rfl⟩ := hp
      refine lv_aload_n hx hb dX11_fall_30 rfl (lv_at hl 0 rfl) ?_
      refine lv_iload_n hx hb dX11_fall_31 rfl (lv_at hl 1 rfl) ?_
      refine lv_iload_n hx hb dX11_fall_32 rfl (lv_at hl 3 rfl) ?_
      refine h_callq hw (h_runV (n := 2) (As := [.int (nI i), .int (nI j2)]) (rest := [va_rf r12]) C hw (c_X11_planeOf (A := A) hc hS hi hj2 hn h8) gX11_fall_X11_planeOf rfl rfl rfl (by decide +kernel) ⟨by decide, by decide⟩ bX11 (co.a0 hc) rfl hl.1 rfl (by cases r12 <;> exact Nat.le_of_ble_eq_true rfl) dX11_fall_33 ⟨by first | decide | omega, by first | decide | omega⟩) (fun r15 f16 H locs hp hw => ?_)
      obtain ⟨hcr17, rfl⟩ := hp
      refine h_callq hw (h_runS (n := 2) (As := [va_rf r12, va_rf r15]) (rest := []) C hw (c_X11_crossing (u := plA A (4 * i + j)) (v := plA A (4 * i + j2)) hcr14 hcr17) gX11_fall_X11_crossing rfl rfl rfl (by decide +kernel) ⟨by decide, by decide⟩ rfl hl.1 rfl (Nat.le_of_ble_eq_true rfl) dX11_fall_36 ⟨by first | decide | omega, by first | decide | omega⟩) (fun r18 f19 H locs hp hw => ?_)
      obtain ⟨le20, hcr21⟩ := hp
      have le22 := hle.tr (hle.rf f) le20
      have hc := hc.mono le20
      have hS := hS.up (kp_le le20) (fun _ _ => rfl) (fun _ _ => rfl)
      have hT := hT.up (kp_le le20) rfl
      have hcr14 := hcr14.up (kp_le le20)
      have hcr17 := hcr17.up (kp_le le20)
      refine lv_astoreQ (lv' := [(5, _), (0, _), (1, _), (2, _), (3, _), (4, _)]) hx hb dX11_fall_39 hl (by decide) rfl (fun ls hl => ?_)
      refine lv_aloadQ hx hb dX11_fall_41 (lv_at hl 0 rfl) ?_
      refine n_ifnonnull C (tgt := 54) dX11_fall_43 (by decide) (fun x23 cq24 => ?_) (fun cq24 => ?_)
      · subst cq24
        obtain ⟨hnf0, hwf⟩ := hcr21.so
        have hnf : hfA A (4 * i + j) (4 * i + j2) := hnf0
        have hwf : wyO _ x23 (faA A (4 * i + j) (4 * i + j2)) := hwf
        refine lv_aload hx hb dX11_fall_54 (lv_at hl 0 rfl) ?_
        refine lv_iload hx hb dX11_fall_56 (lv_at hl 5 rfl) ?_
        refine h_calll hw (h_runV (n := 1) (As := [.int (nI u)]) (rest := []) C hw (c_X10_along hwf) gX11_fall_X10_along rfl rfl rfl (by decide +kernel) ⟨by decide, by decide⟩ bX10 hwf rfl hl.1 rfl (Nat.le_of_ble_eq_true rfl) dX11_fall_58 ⟨by first | decide | omega, by first | decide | omega⟩) (fun r25 f26 H locs hp hw => ?_)
        obtain ⟨rfl, rfl⟩ := hp
        refine W.widen (k := 1) (n := 3) (by first | decide | omega | (dsimp only; omega)) (by first | decide | omega | (dsimp only; omega)) ?_
        exact h_lret C hr hlk hw (cop (by simp only [op_fall, if_pos cq3, if_pos cq11, hat, hat2, if_pos hnf, nI_clamp (show u < 2 ^ 31 by omega), ← al_i (w := faA A (4 * i + j) (4 * i + j2)) hu]) hc (rp_le hr9 (kp_le le22))) dX11_fall_61
      · subst cq24
        have hnf : ¬ hfA A (4 * i + j) (4 * i + j2) := hcr21.no
        refine lv_aload_n hx hb dX11_fall_46 rfl (lv_at hl 1 rfl) ?_
        refine lv_iconst (v := nI 2) hx hb dX11_fall_47 (by decide) ?_
        refine h_calll hw (h_runV (n := 1) (As := [.int (nI 2)]) (rest := []) C hw (c_X11_finding hc (by omega)) gX11_fall_X11_finding rfl rfl rfl (by decide +kernel) ⟨by decide, by decide⟩ bX11 (co.a0 hc) rfl hl.1 rfl (Nat.le_of_ble_eq_true rfl) dX11_fall_48 ⟨by first | decide | omega, by first | decide | omega⟩) (fun r27 f28 H locs hp hw => ?_)
        obtain ⟨rfl, K29, hc, eK30, kp31⟩ := hp
        refine lv_goto (tgt := 61) hx hb dX11_fall_51 (by decide) ?_
        refine W.widen (k := 1) (n := 3) (by first | decide | omega | (dsimp only; omega)) (by first | decide | omega | (dsimp only; omega)) ?_
        exact h_lret C hr hlk hw (cop (by simp only [op_fall, if_pos cq3, if_pos cq11, hat, hat2, if_neg hnf]) hc (rp_fnd hr9 eK30 (kp.tr (kp_le le22) kp31) (by decide) hN)) dX11_fall_61
    · refine lv_aload_n hx hb dX11_fall_18 rfl (lv_at hl 0 rfl) ?_
      refine lv_iconst (v := nI 1) hx hb dX11_fall_19 (by decide) ?_
      refine h_calll hw (h_runV (n := 1) (As := [.int (nI 1)]) (rest := []) C hw (c_X11_finding hc (by omega)) gX11_fall_X11_finding rfl rfl rfl (by decide +kernel) ⟨by decide, by decide⟩ bX11 (co.a0 hc) rfl hl.1 rfl (Nat.le_of_ble_eq_true rfl) dX11_fall_20 ⟨by first | decide | omega, by first | decide | omega⟩) (fun r32 f33 H locs hp hw => ?_)
      obtain ⟨rfl, K34, hc, eK35, kp36⟩ := hp
      refine W.widen (k := 1) (n := 3) (by first | decide | omega | (dsimp only; omega)) (by first | decide | omega | (dsimp only; omega)) ?_
      exact h_lret C hr hlk hw (cop (by simp only [op_fall, if_pos cq3, if_neg cq11]) hc (rp_fnd hr9 eK35 (kp.tr (kp_le (hle.rf f)) kp36) (by decide) hN)) dX11_fall_23
