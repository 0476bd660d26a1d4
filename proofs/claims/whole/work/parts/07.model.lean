/-! ===== the reference's object: its cells by the fields' numbers ===== -/
def mLen (k : Nat) : Nat := match k with
  | 2 => 22 | 3 => 22 | 5 => 48 | 6 => 2 | 7 => 12 | 8 => 6 | 9 => 24 | 10 => 24 | 11 => 216 | 12 => 20 | 14 => 9 | 15 => 6 | 16 => 3 | 17 => 3 | 20 => 660 | 21 => 660 | 22 => 220 | 23 => 120 | 24 => 3 | 25 => 3 | _ => 0
def mI (k : Nat) : Bool := match k with
  | 2 => true | 3 => true | 5 => true | 6 => true | 7 => true | 8 => true | 9 => true | 10 => true | 11 => true | 12 => true | 14 => true | 16 => true | 20 => true | 22 => true | 23 => true | 24 => true | _ => false
def mL (k : Nat) : Bool := match k with
  | 15 => true | 17 => true | 21 => true | 25 => true | _ => false
def mF (k : Nat) : Bool := match k with
  | 0 => true | 1 => true | 4 => true | 13 => true | 18 => true | 19 => true | _ => false
def mU (k : Nat) : Bool := k == 0 || mI k || mL k
abbrev MA : Type := Nat → Nat → Int32
abbrev MB : Type := Nat → Nat → Int64
def mfs (q : Nat → Nat) (A : MA) (B : MB) : List Value := [.int (A 0 0), .int (A 1 0), .ref (q 2), .ref (q 3), .int (A 4 0), .ref (q 5), .ref (q 6), .ref (q 7), .ref (q 8), .ref (q 9), .ref (q 10), .ref (q 11), .ref (q 12), .int (A 13 0), .ref (q 14), .ref (q 15), .ref (q 16), .ref (q 17), .int (A 18 0), .int (A 19 0), .ref (q 20), .ref (q 21), .ref (q 22), .ref (q 23), .ref (q 24), .ref (q 25), .long (B 26 0)]
def mo (cA : Nat → ClassId) (q : Nat → Nat) (A : MA) (B : MB) (f : HF) : Prop := f (q 0) = some (eO 12 (mfs q A B)) ∧ (∀ k, mI k = true → f (q k) = some (eI cA (mLen k) (A k))) ∧ (∀ k, mL k = true → f (q k) = some (eL cA (mLen k) (B k))) ∧ ∀ i j, mU i = true → mU j = true → q i = q j → i = j
theorem mI_lt {k : Nat} (h : mI k = true) : k < 27 := by
  rcases Nat.lt_or_ge k 27 with g | g
  · exact g
  · obtain ⟨j, rfl⟩ : ∃ j, k = j + 27 := ⟨k - 27, by omega⟩
    cases h
theorem mI_ne {k : Nat} (h : mI k = true) : k ≠ 0 ∧ k ≠ 1 ∧ k ≠ 4 ∧ k ≠ 13 ∧ k ≠ 18 ∧ k ≠ 19 := by
  refine ⟨?_, ?_, ?_, ?_, ?_, ?_⟩ <;> (intro e; subst e; cases h)
theorem mU_I {k : Nat} (h : mI k = true) : mU k = true := by simp [mU, h]
theorem mU_L {k : Nat} (h : mL k = true) : mU k = true := by simp [mU, h]
theorem mIL {k j : Nat} (h : mI k = true) (h2 : mL j = true) : j ≠ k := by
  intro e
  subst e
  rcases Nat.lt_or_ge j 27 with g | g
  · revert h h2
    revert g
    revert j
    decide
  · obtain ⟨i, rfl⟩ : ∃ i, j = i + 27 := ⟨j - 27, by omega⟩
    cases h
section MO
variable {cA : Nat → ClassId} {q : Nat → Nat} {A : MA} {B : MB} {f : HF}
theorem mo.ap (h : mo cA q A B f) {i j : Nat} (hi : mU i = true) (hj : mU j = true) (hn : i ≠ j) : q i ≠ q j := fun e => hn (h.2.2.2 i j hi hj e)
theorem mfs_I {k : Nat} (hk : mI k = true) (g : Nat → Int32) : mfs q (va_up A k g) B = mfs q A B := by
  obtain ⟨h0, h1, h4, h13, h18, h19⟩ := mI_ne hk
  unfold mfs
  rw [va_up_ne _ _ (Ne.symm h0), va_up_ne _ _ (Ne.symm h1), va_up_ne _ _ (Ne.symm h4), va_up_ne _ _ (Ne.symm h13), va_up_ne _ _ (Ne.symm h18), va_up_ne _ _ (Ne.symm h19)]
theorem mfs_L {k : Nat} (hk : mL k = true) (g : Nat → Int64) : mfs q A (va_up B k g) = mfs q A B := by
  unfold mfs
  rw [va_up_ne _ _ (show (26 : Nat) ≠ k from fun e => by subst e; cases hk)]
theorem mo.setI (h : mo cA q A B f) {k : Nat} (hk : mI k = true) (g : Nat → Int32) : mo cA q (va_up A k g) B (va_up f (q k) (some (eI cA (mLen k) g))) := by
  refine ⟨?_, fun j hj => ?_, fun j hj => ?_, h.2.2.2⟩
  · rw [va_up_ne _ _ (h.ap rfl (mU_I hk) (Ne.symm (mI_ne hk).1)), mfs_I hk]
    exact h.1
  · by_cases e : j = k
    · subst e
      rw [va_up_self, va_up_self]
    · rw [va_up_ne _ _ (h.ap (mU_I hj) (mU_I hk) e), va_up_ne _ _ e]
      exact h.2.1 j hj
  · rw [va_up_ne _ _ (h.ap (mU_L hj) (mU_I hk) (mIL hk hj))]
    exact h.2.2.1 j hj
theorem mo.setL (h : mo cA q A B f) {k : Nat} (hk : mL k = true) (g : Nat → Int64) : mo cA q A (va_up B k g) (va_up f (q k) (some (eL cA (mLen k) g))) := by
  refine ⟨?_, fun j hj => ?_, fun j hj => ?_, h.2.2.2⟩
  · rw [va_up_ne _ _ (h.ap rfl (mU_L hk) (fun e => by subst e; cases hk)), mfs_L hk]
    exact h.1
  · rw [va_up_ne _ _ (h.ap (mU_I hj) (mU_L hk) (Ne.symm (mIL hj hk)))]
    exact h.2.1 j hj
  · by_cases e : j = k
    · subst e
      rw [va_up_self, va_up_self]
    · rw [va_up_ne _ _ (h.ap (mU_L hj) (mU_L hk) e), va_up_ne _ _ e]
      exact h.2.2.1 j hj
theorem mfs_F {k : Nat} (hk : mF k = true) (v : Int32) : (mfs q A B).set k (.int v) = mfs q (va_up A k (fun _ => v)) B :=
  match k, hk with
  | 0, _ => rfl
  | 1, _ => rfl
  | 4, _ => rfl
  | 13, _ => rfl
  | 18, _ => rfl
  | 19, _ => rfl
theorem mFI {k j : Nat} (h : mF k = true) (h2 : mI j = true) : j ≠ k := by
  obtain ⟨h0, h1, h4, h13, h18, h19⟩ := mI_ne h2
  match k, h with
  | 0, _ => exact h0
  | 1, _ => exact h1
  | 4, _ => exact h4
  | 13, _ => exact h13
  | 18, _ => exact h18
  | 19, _ => exact h19
theorem mo.putI (h : mo cA q A B f) {k : Nat} (hk : mF k = true) (v : Int32) : mo cA q (va_up A k (fun _ => v)) B (va_up f (q 0) (some (.inr (12, (mfs q A B).set k (.int v))))) := by
  refine ⟨?_, fun j hj => ?_, fun j hj => ?_, h.2.2.2⟩
  · rw [va_up_self, mfs_F hk]
  · rw [va_up_ne _ _ (h.ap (mU_I hj) rfl (mI_ne hj).1), va_up_ne _ _ (mFI hk hj)]
    exact h.2.1 j hj
  · rw [va_up_ne _ _ (h.ap (mU_L hj) rfl (fun e => by subst e; cases hj))]
    exact h.2.2.1 j hj
theorem mo.putL (h : mo cA q A B f) (v : Int64) : mo cA q A (va_up B 26 (fun _ => v)) (va_up f (q 0) (some (.inr (12, (mfs q A B).set 26 (.long v))))) := by
  refine ⟨?_, fun j hj => ?_, fun j hj => ?_, h.2.2.2⟩
  · rw [va_up_self]
    rfl
  · rw [va_up_ne _ _ (h.ap (mU_I hj) rfl (mI_ne hj).1)]
    exact h.2.1 j hj
  · rw [va_up_ne _ _ (h.ap (mU_L hj) rfl (fun e => by subst e; cases hj)), va_up_ne _ _ (show j ≠ 26 from fun e => by subst e; cases hj)]
    exact h.2.2.1 j hj
theorem mLen_lt (k : Nat) : mLen k < 2 ^ 31 := by
  rcases Nat.lt_or_ge k 27 with g | g
  · revert g
    revert k
    decide
  · obtain ⟨i, rfl⟩ : ∃ i, k = i + 27 := ⟨k - 27, by omega⟩
    exact (by decide : (0 : Nat) < 2 ^ 31)
end MO
section MR
variable {p : Program} {l : Launch} {e : Env} {R : Room} {s : State} {m : MethodId} {args : Array Value} {below : List Frame} {meth : Method} {c : Code} {H : Heap} {locs : List Loc} {cells slots : Nat} {Q : State → Prop}
variable {cc : ByteArray} {pc nL : Nat} {ls : Array Slot} {rest : List Value} {D : va_G} {cA : Nat → ClassId} {A0 : Nat → Prop} {H0 : Heap} {f : HF} {Ts : List Cond} {own : String} {q : Nat → Nat} {A : MA} {B : MB} {index : Nat}
theorem m_fld (C : cx p m c cc nL s args Ts own D cA) (h : hw D A0 H0 f H locs) (hm : mo cA q A B f) (hin : ∀ w ∈ u_ws RX12 TX12 27, w ∈ Ts) (k : Nat) (hk : k < 27) (hl : Cond.fieldLink own index (TX12 k).1 (TX12 k).2.1 (TX12 k).2.2.1 ∈ Ts) {v : Value} (hv : (mfs q A B)[k]? = some v) (hdg : decode cc pc = .ok (.getfield index, 3))
    (kk : W p l e R s m args below meth c H locs cells slots Q (F0 m (pc + 3) ls (v :: rest))) : W p l e R s m args below meth c H locs cells slots Q (F0 m pc ls (.ref (q 0) :: rest)) := h_get C h bX12 hm.1 hin k hk hl hv hdg kk
theorem m_iald (C : cx p m c cc nL s args Ts own D cA) (h : hw D A0 H0 f H locs) (hm : mo cA q A B f) (k : Nat) (hk : mI k = true) {j : Nat} {v : Int32} (hv : A k j = v) (hj : j < mLen k) (hdg : decode cc pc = .ok (.iaload, 1))
    (kk : W p l e R s m args below meth c H locs cells slots Q (F0 m (pc + 1) ls (.int v :: rest))) : W p l e R s m args below meth c H locs cells slots Q (F0 m pc ls (.int (nI j) :: .ref (q k) :: rest)) := h_iald C h (hm.2.1 k hk) hj (mLen_lt k) hdg (by rw [hv]; exact kk)
theorem m_lald (C : cx p m c cc nL s args Ts own D cA) (h : hw D A0 H0 f H locs) (hm : mo cA q A B f) (k : Nat) (hk : mL k = true) {j : Nat} {v : Int64} (hv : B k j = v) (hj : j < mLen k) (hdg : decode cc pc = .ok (.laload, 1))
    (kk : W p l e R s m args below meth c H locs cells slots Q (F0 m (pc + 1) ls (.long v :: rest))) : W p l e R s m args below meth c H locs cells slots Q (F0 m pc ls (.int (nI j) :: .ref (q k) :: rest)) := h_lald C h (hm.2.2.1 k hk) hj (mLen_lt k) hdg (by rw [hv]; exact kk)
theorem m_iast (C : cx p m c cc nL s args Ts own D cA) (h : hw D A0 H0 f H locs) (hm : mo cA q A B f) (k : Nat) (hk : mI k = true) {j : Nat} {v : Int32} (hj : j < mLen k) (hdg : decode cc pc = .ok (.iastore, 1))
    (kk : ∀ (A1 : MA) (f1 : HF) (H1 : Heap) (locs1 : List Loc), A1 = va_up A k (upd (A k) j v) → hw D A0 H0 f1 H1 locs1 → mo cA q A1 B f1 → W p l e R s m args below meth c H1 locs1 cells slots Q (F0 m (pc + 1) ls rest)) : W p l e R s m args below meth c H locs cells slots Q (F0 m pc ls (.int v :: .int (nI j) :: .ref (q k) :: rest)) := h_iast C h (hm.2.1 k hk) hj (mLen_lt k) hdg (fun H1 locs1 h1 => kk _ _ H1 locs1 rfl h1 (hm.setI hk _))
theorem m_last (C : cx p m c cc nL s args Ts own D cA) (h : hw D A0 H0 f H locs) (hm : mo cA q A B f) (k : Nat) (hk : mL k = true) {j : Nat} {v : Int64} (hj : j < mLen k) (hdg : decode cc pc = .ok (.lastore, 1))
    (kk : ∀ (B1 : MB) (f1 : HF) (H1 : Heap) (locs1 : List Loc), B1 = va_up B k (vp_updL (B k) j v) → hw D A0 H0 f1 H1 locs1 → mo cA q A B1 f1 → W p l e R s m args below meth c H1 locs1 cells slots Q (F0 m (pc + 1) ls rest)) : W p l e R s m args below meth c H locs cells slots Q (F0 m pc ls (.long v :: .int (nI j) :: .ref (q k) :: rest)) := h_last C h (hm.2.2.1 k hk) hj (mLen_lt k) hdg (fun H1 locs1 h1 => kk _ _ H1 locs1 rfl h1 (hm.setL hk _))
theorem m_puti (C : cx p m c cc nL s args Ts own D cA) (h : hw D A0 H0 f H locs) (hm : mo cA q A B f) (hin : ∀ w ∈ u_ws RX12 TX12 27, w ∈ Ts) (k : Nat) (hk : mF k = true) (hk2 : k < 27) (hty : tyX12 k = .int) (hfin : (TX12 k).2.2.2 = false) (hl : Cond.fieldLink own index (TX12 k).1 (TX12 k).2.1 (TX12 k).2.2.1 ∈ Ts) {v : Int32} (hdg : decode cc pc = .ok (.putfield index, 3))
    (kk : ∀ (A1 : MA) (f1 : HF) (H1 : Heap) (locs1 : List Loc), A1 = va_up A k (fun _ => v) → hw D A0 H0 f1 H1 locs1 → mo cA q A1 B f1 → W p l e R s m args below meth c H1 locs1 cells slots Q (F0 m (pc + 3) ls rest)) : W p l e R s m args below meth c H locs cells slots Q (F0 m pc ls (.int v :: .ref (q 0) :: rest)) := h_put C h bX12 hm.1 hin k hk2 hl hfin (by rw [hty]; rfl) (by rw [hty]; rfl) hk2 hdg (fun H1 locs1 h1 => kk _ _ H1 locs1 rfl h1 (hm.putI hk v))
theorem m_putl (C : cx p m c cc nL s args Ts own D cA) (h : hw D A0 H0 f H locs) (hm : mo cA q A B f) (hin : ∀ w ∈ u_ws RX12 TX12 27, w ∈ Ts) (hl : Cond.fieldLink own index "FallingLightModel" "line" "J" ∈ Ts) {v : Int64} (hdg : decode cc pc = .ok (.putfield index, 3))
    (kk : ∀ (B1 : MB) (f1 : HF) (H1 : Heap) (locs1 : List Loc), B1 = va_up B 26 (fun _ => v) → hw D A0 H0 f1 H1 locs1 → mo cA q A B1 f1 → W p l e R s m args below meth c H1 locs1 cells slots Q (F0 m (pc + 3) ls rest)) : W p l e R s m args below meth c H locs cells slots Q (F0 m pc ls (.long v :: .ref (q 0) :: rest)) := h_put C h bX12 hm.1 hin 26 (by decide) hl rfl rfl rfl (show 26 < (mfs q A B).length from (by decide : (26 : Nat) < 27)) hdg (fun H1 locs1 h1 => kk _ _ H1 locs1 rfl h1 (hm.putL v))
end MR
