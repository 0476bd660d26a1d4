/-! ===== the class: its own cells by number (4, a triangle, is kept apart) ===== -/
def cell (cA : Nat → ClassId) (ad : Nat → Nat) (j : Nat) (κ : Nat → Int32) (γ : Nat → Option Nat) : va_E := match j with
  | 0 => eO 11 [.ref (ad 1), .ref (ad 2), .ref (ad 3), .ref (ad 4), .ref (ad 5), .ref (ad 6), .ref (ad 7), .ref (ad 8), .ref (ad 9), .ref (ad 10), .ref (ad 11)]
  | 1 => eO 4 [.int (nI 12), .ref (ad 12), .ref (ad 13), .int (κ 0)]
  | 2 => eO 4 [.int (nI 10), .ref (ad 14), .ref (ad 15), .int (κ 0)]
  | 3 => eO 1 [.ref (ad 2), .ref (ad 1), .ref (ad 16), .ref (ad 17), .ref (ad 18), .ref (ad 19), .ref (ad 20), .int (κ 0), .int (κ 1), .int (κ 2)]
  | 5 => eQ cA 3 2 (fun j => if j < 2 then some (ad (23 + j)) else none)
  | 6 => eO 7 [.ref (ad 27), .int (κ 0)]
  | 7 => eQ cA 4 4 γ
  | 8 => eQ cA 5 6 (fun j => if j < 6 then some (ad (28 + j)) else none)
  | 9 => eI cA 10 κ
  | 10 => eI cA 10 κ
  | 11 => eI cA 6 κ
  | 12 => eI cA 12 κ
  | 13 => eI cA 12 κ
  | 14 => eI cA 10 κ
  | 15 => eI cA 10 κ
  | 16 => eO 9 [.ref (ad 21), .int (κ 0)]
  | 17 => eO 9 [.ref (ad 22), .int (κ 0)]
  | 18 => eQ cA 8 10 (fun j => if j < 10 then some (ad (40 + j)) else none)
  | 19 => eI cA 10 κ
  | 20 => eI cA 3 κ
  | 21 => eQ cA 7 120 γ
  | 22 => eQ cA 7 220 γ
  | 23 => eO 5 [.ref (ad 25), .int (κ 0)]
  | 24 => eO 5 [.ref (ad 26), .int (κ 0)]
  | 25 => eS cA 24 κ
  | 26 => eS cA 24 κ
  | 27 => eI cA 9 κ
  | 28 => eO 3 [.ref (ad 34), .int (κ 0)]
  | 29 => eO 3 [.ref (ad 35), .int (κ 0)]
  | 30 => eO 3 [.ref (ad 36), .int (κ 0)]
  | 31 => eO 3 [.ref (ad 37), .int (κ 0)]
  | 32 => eO 3 [.ref (ad 38), .int (κ 0)]
  | 33 => eO 3 [.ref (ad 39), .int (κ 0)]
  | 34 => eQ cA 6 4 γ
  | 35 => eQ cA 6 4 γ
  | 36 => eQ cA 6 4 γ
  | 37 => eQ cA 6 4 γ
  | 38 => eQ cA 6 4 γ
  | 39 => eQ cA 6 4 γ
  | _ => eI cA 12 κ
abbrev KK : Type := Nat → Nat → Int32
abbrev GG : Type := Nat → Nat → Option Nat
def co (cA : Nat → ClassId) (ad : Nat → Nat) (K : KK) (G : GG) (f : HF) : Prop := (∀ j, j < 50 → j ≠ 4 → f (ad j) = some (cell cA ad j (K j) (G j))) ∧ ∀ i j, i < 50 → i ≠ 4 → j < 50 → j ≠ 4 → ad i = ad j → i = j
/-- triangles, sights, ways: what is none of the object's own cells -/
def kp (f f1 : HF) : Prop := ∀ a i fs, (i = 0 ∨ i = 2 ∨ i = 6 ∨ i = 8 ∨ i = 10) → f a = some (eO i fs) → f1 a = some (eO i fs)
theorem kp.rf (f : HF) : kp f f := fun _ _ _ _ h => h
theorem kp.tr {f g h : HF} (h1 : kp f g) (h2 : kp g h) : kp f h := fun a i fs hi h3 => h2 a i fs hi (h1 a i fs hi h3)
theorem kp_le {f g : HF} (h : hle f g) : kp f g := fun a i fs _ h3 => h a _ h3
theorem cell_kd {cA : Nat → ClassId} {ad : Nat → Nat} {κ : Nat → Int32} {γ : Nat → Option Nat} : ∀ j, kd (cell cA ad j κ γ) = 11 ∨ kd (cell cA ad j κ γ) = 4 ∨ kd (cell cA ad j κ γ) = 1 ∨ kd (cell cA ad j κ γ) = 7 ∨ kd (cell cA ad j κ γ) = 9 ∨ kd (cell cA ad j κ γ) = 5 ∨ kd (cell cA ad j κ γ) = 3 ∨ 20 ≤ kd (cell cA ad j κ γ) := by
  intro j
  unfold cell
  split <;> simp [kd]
section CO
variable {cA : Nat → ClassId} {ad : Nat → Nat} {K : KK} {G : GG} {f f1 : HF}
theorem co.mono (h : co cA ad K G f) (le : hle f f1) : co cA ad K G f1 := ⟨fun j hj h4 => le _ _ (h.1 j hj h4), h.2⟩
theorem co.of {g : HF} (h : co cA ad K G g) (e : f1 = g) : co cA ad K G f1 := by subst e; exact h
theorem co.upK (h : co cA ad K G f) (k : Nat) {κ : Nat → Int32} {e : va_E} (hk : k < 50 ∧ k ≠ 4) (he : cell cA ad k κ (G k) = e) : ∃ K1, K1 = va_up K k κ ∧ co cA ad K1 G (va_up f (ad k) (some e)) := by
  refine ⟨_, rfl, fun j hj h4 => ?_, h.2⟩
  by_cases hjk : j = k
  · subst hjk
    rw [va_up_self, va_up_self, he]
  · rw [va_up_ne _ _ hjk, va_up_ne _ _ (fun e9 => hjk (h.2 j k hj h4 hk.1 hk.2 e9))]
    exact h.1 j hj h4
theorem co.upG (h : co cA ad K G f) (k : Nat) {γ : Nat → Option Nat} {e : va_E} (hk : k < 50 ∧ k ≠ 4) (he : cell cA ad k (K k) γ = e) : ∃ G1, G1 = va_up G k γ ∧ co cA ad K G1 (va_up f (ad k) (some e)) := by
  refine ⟨_, rfl, fun j hj h4 => ?_, h.2⟩
  by_cases hjk : j = k
  · subst hjk
    rw [va_up_self, va_up_self, he]
  · rw [va_up_ne _ _ hjk, va_up_ne _ _ (fun e9 => hjk (h.2 j k hj h4 hk.1 hk.2 e9))]
    exact h.1 j hj h4
theorem co.ne8 (h : co cA ad K G f) {k : Nat} (hk : k < 50 ∧ k ≠ 4) {a i : Nat} {fs : List Value} (hi : i = 0 ∨ i = 2 ∨ i = 6 ∨ i = 8 ∨ i = 10) (ha : f a = some (eO i fs)) : a ≠ ad k := ne_kd ha (h.1 k hk.1 hk.2) (by
  have h1 := cell_kd (cA := cA) (ad := ad) (κ := K k) (γ := G k) k
  show i ≠ _
  omega)
theorem kp_up (h : co cA ad K G f) (k : Nat) (hk : k < 50 ∧ k ≠ 4) {x : Option va_E} (e1 : f1 = va_up f (ad k) x) : kp f f1 := fun a i fs hi ha => up_o e1 (h.ne8 hk hi ha) ha
/-- a write at a cell that is not the object's own -/
theorem co.wr8 (h : co cA ad K G f) {a i : Nat} {fs : List Value} (hi : i = 0 ∨ i = 2 ∨ i = 6 ∨ i = 8 ∨ i = 10) (ha : f a = some (eO i fs)) {x : Option va_E} (e1 : f1 = va_up f a x) : co cA ad K G f1 := ⟨fun j hj h4 => up_o e1 (Ne.symm (h.ne8 ⟨hj, h4⟩ hi ha)) (h.1 j hj h4), h.2⟩
theorem co.a0 (h : co cA ad K G f) : f (ad 0) = some (eO 11 [.ref (ad 1), .ref (ad 2), .ref (ad 3), .ref (ad 4), .ref (ad 5), .ref (ad 6), .ref (ad 7), .ref (ad 8), .ref (ad 9), .ref (ad 10), .ref (ad 11)]) := h.1 0 (by decide) (by decide)
theorem co.a1 (h : co cA ad K G f) : f (ad 1) = some (eO 4 [.int (nI 12), .ref (ad 12), .ref (ad 13), .int (K 1 0)]) := h.1 1 (by decide) (by decide)
theorem co.a2 (h : co cA ad K G f) : f (ad 2) = some (eO 4 [.int (nI 10), .ref (ad 14), .ref (ad 15), .int (K 2 0)]) := h.1 2 (by decide) (by decide)
theorem co.a3 (h : co cA ad K G f) : f (ad 3) = some (eO 1 [.ref (ad 2), .ref (ad 1), .ref (ad 16), .ref (ad 17), .ref (ad 18), .ref (ad 19), .ref (ad 20), .int (K 3 0), .int (K 3 1), .int (K 3 2)]) := h.1 3 (by decide) (by decide)
theorem co.a5 (h : co cA ad K G f) : f (ad 5) = some (eQ cA 3 2 (fun j => if j < 2 then some (ad (23 + j)) else none)) := h.1 5 (by decide) (by decide)
theorem co.a6 (h : co cA ad K G f) : f (ad 6) = some (eO 7 [.ref (ad 27), .int (K 6 0)]) := h.1 6 (by decide) (by decide)
theorem co.a7 (h : co cA ad K G f) : f (ad 7) = some (eQ cA 4 4 (G 7)) := h.1 7 (by decide) (by decide)
theorem co.a8 (h : co cA ad K G f) : f (ad 8) = some (eQ cA 5 6 (fun j => if j < 6 then some (ad (28 + j)) else none)) := h.1 8 (by decide) (by decide)
theorem co.a9 (h : co cA ad K G f) : f (ad 9) = some (eI cA 10 (K 9)) := h.1 9 (by decide) (by decide)
theorem co.a10 (h : co cA ad K G f) : f (ad 10) = some (eI cA 10 (K 10)) := h.1 10 (by decide) (by decide)
theorem co.a11 (h : co cA ad K G f) : f (ad 11) = some (eI cA 6 (K 11)) := h.1 11 (by decide) (by decide)
theorem co.a12 (h : co cA ad K G f) : f (ad 12) = some (eI cA 12 (K 12)) := h.1 12 (by decide) (by decide)
theorem co.a13 (h : co cA ad K G f) : f (ad 13) = some (eI cA 12 (K 13)) := h.1 13 (by decide) (by decide)
theorem co.a14 (h : co cA ad K G f) : f (ad 14) = some (eI cA 10 (K 14)) := h.1 14 (by decide) (by decide)
theorem co.a15 (h : co cA ad K G f) : f (ad 15) = some (eI cA 10 (K 15)) := h.1 15 (by decide) (by decide)
theorem co.a16 (h : co cA ad K G f) : f (ad 16) = some (eO 9 [.ref (ad 21), .int (K 16 0)]) := h.1 16 (by decide) (by decide)
theorem co.a17 (h : co cA ad K G f) : f (ad 17) = some (eO 9 [.ref (ad 22), .int (K 17 0)]) := h.1 17 (by decide) (by decide)
theorem co.a18 (h : co cA ad K G f) : f (ad 18) = some (eQ cA 8 10 (fun j => if j < 10 then some (ad (40 + j)) else none)) := h.1 18 (by decide) (by decide)
theorem co.a19 (h : co cA ad K G f) : f (ad 19) = some (eI cA 10 (K 19)) := h.1 19 (by decide) (by decide)
theorem co.a20 (h : co cA ad K G f) : f (ad 20) = some (eI cA 3 (K 20)) := h.1 20 (by decide) (by decide)
theorem co.a21 (h : co cA ad K G f) : f (ad 21) = some (eQ cA 7 120 (G 21)) := h.1 21 (by decide) (by decide)
theorem co.a22 (h : co cA ad K G f) : f (ad 22) = some (eQ cA 7 220 (G 22)) := h.1 22 (by decide) (by decide)
theorem co.a27 (h : co cA ad K G f) : f (ad 27) = some (eI cA 9 (K 27)) := h.1 27 (by decide) (by decide)
theorem cell_row {i : Nat} (hi : i < 2) {κ : Nat → Int32} {γ : Nat → Option Nat} : cell cA ad (23 + i) κ γ = eO 5 [.ref (ad (25 + i)), .int (κ 0)] := match i, hi with
  | 0, _ => rfl
  | 1, _ => rfl
theorem co.row (h : co cA ad K G f) {i : Nat} (hi : i < 2) : f (ad (23 + i)) = some (eO 5 [.ref (ad (25 + i)), .int (K (23 + i) 0)]) := (h.1 (23 + i) (by omega) (by omega)).trans (congrArg some (cell_row hi))
theorem cell_pla {i : Nat} (hi : i < 2) {κ : Nat → Int32} {γ : Nat → Option Nat} : cell cA ad (25 + i) κ γ = eS cA 24 κ := match i, hi with
  | 0, _ => rfl
  | 1, _ => rfl
theorem co.pla (h : co cA ad K G f) {i : Nat} (hi : i < 2) : f (ad (25 + i)) = some (eS cA 24 (K (25 + i))) := (h.1 (25 + i) (by omega) (by omega)).trans (congrArg some (cell_pla hi))
theorem cell_met {i : Nat} (hi : i < 6) {κ : Nat → Int32} {γ : Nat → Option Nat} : cell cA ad (28 + i) κ γ = eO 3 [.ref (ad (34 + i)), .int (κ 0)] := match i, hi with
  | 0, _ => rfl
  | 1, _ => rfl
  | 2, _ => rfl
  | 3, _ => rfl
  | 4, _ => rfl
  | 5, _ => rfl
theorem co.met (h : co cA ad K G f) {i : Nat} (hi : i < 6) : f (ad (28 + i)) = some (eO 3 [.ref (ad (34 + i)), .int (K (28 + i) 0)]) := (h.1 (28 + i) (by omega) (by omega)).trans (congrArg some (cell_met hi))
theorem cell_sgt {i : Nat} (hi : i < 6) {κ : Nat → Int32} {γ : Nat → Option Nat} : cell cA ad (34 + i) κ γ = eQ cA 6 4 γ := match i, hi with
  | 0, _ => rfl
  | 1, _ => rfl
  | 2, _ => rfl
  | 3, _ => rfl
  | 4, _ => rfl
  | 5, _ => rfl
theorem co.sgt (h : co cA ad K G f) {i : Nat} (hi : i < 6) : f (ad (34 + i)) = some (eQ cA 6 4 (G (34 + i))) := (h.1 (34 + i) (by omega) (by omega)).trans (congrArg some (cell_sgt hi))
theorem cell_bal {i : Nat} (hi : i < 10) {κ : Nat → Int32} {γ : Nat → Option Nat} : cell cA ad (40 + i) κ γ = eI cA 12 κ := match i, hi with
  | 0, _ => rfl
  | 1, _ => rfl
  | 2, _ => rfl
  | 3, _ => rfl
  | 4, _ => rfl
  | 5, _ => rfl
  | 6, _ => rfl
  | 7, _ => rfl
  | 8, _ => rfl
  | 9, _ => rfl
theorem co.bal (h : co cA ad K G f) {i : Nat} (hi : i < 10) : f (ad (40 + i)) = some (eI cA 12 (K (40 + i))) := (h.1 (40 + i) (by omega) (by omega)).trans (congrArg some (cell_bal hi))
theorem co.ap (h : co cA ad K G f) {i j : Nat} (hi : i < 50 ∧ i ≠ 4) (hj : j < 50 ∧ j ≠ 4) (hn : i ≠ j) : ad i ≠ ad j := fun e => hn (h.2 i j hi.1 hi.2 hj.1 hj.2 e)
end CO
