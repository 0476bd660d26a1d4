/-! ===== the heap as a partial function: rows of my own over the kit's ===== -/
abbrev HF : Type := Nat → Option va_E
def bI (P : Prop) [Decidable P] : Int32 := if P then 1 else 0
abbrev eI (cA : Nat → ClassId) (n : Nat) (g : Nat → Int32) : va_E := .inl (cA 0, n, .inl g)
abbrev eL (cA : Nat → ClassId) (n : Nat) (g : Nat → Int64) : va_E := .inl (cA 1, n, .inr (.inl g))
abbrev eS (cA : Nat → ClassId) (n : Nat) (g : Nat → Int32) : va_E := .inl (cA 2, n, .inl g)
abbrev eQ (cA : Nat → ClassId) (k n : Nat) (g : Nat → Option Nat) : va_E := .inl (cA k, n, .inr (.inr (.inr (.inr g))))
abbrev eO (k : Nat) (fs : List Value) : va_E := .inr (k, fs)
def aTys (cA : Nat → ClassId) : List (ClassId × FieldType) := [(cA 0, .int), (cA 1, .long), (cA 2, .short), (cA 3, .object RX5), (cA 4, .object RX10), (cA 5, .object RX3), (cA 6, .object RX6), (cA 7, .object RX8), (cA 8, .array .int)]
def hH (D : va_G) (f : HF) (H : Heap) : Prop := ∀ (a : Nat) (e : va_E), f a = some e → va_at D vwCl (a, e) H
def hA (f : HF) (sz : Nat) : Nat → Prop := fun q => f q ≠ none ∨ sz ≤ q
def hw (D : va_G) (A : Nat → Prop) (H0 : Heap) (f : HF) (H : Heap) (locs : List Loc) : Prop := hH D f H ∧ (∀ a, f a ≠ none → A a) ∧ va_S A H0 H locs ∧ ∀ q, H0.size ≤ q → A q
/-- what holds of the tables: classes, array classes, the links of nest mates -/
def hK (D : va_G) (cA : Nat → ClassId) (U : State) : Prop := va_K D vwCl (aTys cA) U ∧ va_Nw (.methodLinkNest RX5 19 yX11_isOnPlate RX11) U ∧ va_Nw (.methodLinkNest RX6 26 yX11_crossing RX11) U ∧ va_Nw (.methodLinkNest RX7 19 yX11_within RX11) U
theorem hK.warm {D : va_G} {cA : Nat → ClassId} {s U : State} (hW : s.WarmedH U.vm) (h : hK D cA s) : hK D cA U := ⟨va_K.moved hW.alike h.1, va_Nw.warmM hW h.2.1, va_Nw.warmM hW h.2.2.1, va_Nw.warmM hW h.2.2.2⟩
theorem hK.same {D : va_G} {cA : Nat → ClassId} {s U : State} (hv : s.vm = U.vm) (h : hK D cA s) : hK D cA U := ⟨va_K.moved (by rw [hv]; exact Vm.Alike.refl U.vm) h.1, va_Nw.same rfl hv h.2.1, va_Nw.same rfl hv h.2.2.1, va_Nw.same rfl hv h.2.2.2⟩
def hcl (ci : Nat) (Cn : String) (T : u_T) (N : Nat) (ty : Nat → FieldType) : Prop := vwCl[ci]? = some (Cn, T, N) ∧ (∀ k, k < N → parseFieldDescriptor (T k).2.2.1 = some (ty k)) ∧ ∀ a, a < N → ∀ b, b < N → a ≠ b → (T a).2.1 ≠ (T b).2.1
theorem bX0 : hcl 0 RX0 TX0 2 tyX0 := ⟨rfl, tyX0_ok, nmX0⟩
theorem bX1 : hcl 1 RX1 TX1 10 tyX1 := ⟨rfl, tyX1_ok, nmX1⟩
theorem bX2 : hcl 2 RX2 TX2 2 tyX2 := ⟨rfl, tyX2_ok, nmX2⟩
theorem bX3 : hcl 3 RX3 TX3 2 tyX3 := ⟨rfl, tyX3_ok, nmX3⟩
theorem bX4 : hcl 4 RX4 TX4 4 tyX4 := ⟨rfl, tyX4_ok, nmX4⟩
theorem bX5 : hcl 5 RX5 TX5 2 tyX5 := ⟨rfl, tyX5_ok, nmX5⟩
theorem bX6 : hcl 6 RX6 TX6 6 tyX6 := ⟨rfl, tyX6_ok, nmX6⟩
theorem bX7 : hcl 7 RX7 TX7 2 tyX7 := ⟨rfl, tyX7_ok, nmX7⟩
theorem bX8 : hcl 8 RX8 TX8 8 tyX8 := ⟨rfl, tyX8_ok, nmX8⟩
theorem bX9 : hcl 9 RX9 TX9 2 tyX9 := ⟨rfl, tyX9_ok, nmX9⟩
theorem bX10 : hcl 10 RX10 TX10 3 tyX10 := ⟨rfl, tyX10_ok, nmX10⟩
theorem bX11 : hcl 11 RX11 TX11 11 tyX11 := ⟨rfl, tyX11_ok, nmX11⟩
theorem bX12 : hcl 12 RX12 TX12 27 tyX12 := ⟨rfl, tyX12_ok, nmX12⟩
theorem hP1 {D : va_G} {H : Heap} {q : Nat × va_E} (h : va_at D vwCl q H) : va_P D vwCl [q] H := by
  intro k x hk
  cases k with
  | zero => cases hk; exact h
  | succ n => simp at hk
theorem hw.sub {D : va_G} {A : Nat → Prop} {H0 H : Heap} {f : HF} {locs : List Loc} (h : hw D A H0 f H locs) : ∀ q, hA f H.size q → A q := fun q hq => hq.elim (h.2.1 q) (fun hz => h.2.2.2 q (Nat.le_trans h.2.2.1.1 hz))
/-- less is known -/
theorem hw.less {D : va_G} {A : Nat → Prop} {H0 H : Heap} {f g : HF} {locs : List Loc} (h : hw D A H0 f H locs) (hg : ∀ a e, g a = some e → f a = some e) : hw D A H0 g H locs :=
  ⟨fun a e ha => h.1 a e (hg a e ha), fun a ha => by
    cases hga : g a with
    | none => exact absurd hga ha
    | some e => exact h.2.1 a (by rw [hg a e hga]; exact fun q => by cases q), h.2.2.1, h.2.2.2⟩
/-- as a list of the kit's -/
theorem hw.ls {D : va_G} {A : Nat → Prop} {H0 H : Heap} {f : HF} {locs : List Loc} (h : hw D A H0 f H locs) : ∃ (L : List Nat) (g : Nat → va_E), (∀ a e, f a = some e → a ∈ L ∧ g a = e) ∧ (∀ a, a ∈ L → f a = some (g a)) ∧ va_P D vwCl ([] ++ va_pl L g) H ∧ va_D A ([] ++ va_pl L g) := by
  have key : ∀ a, a ∈ (List.range H.size).filter (fun x => (f x).isSome) → f a = some ((f a).getD (.inr (0, []))) := by
    intro a ha
    have h2 := (List.mem_filter.mp ha).2
    cases hfa : f a with
    | none => rw [hfa] at h2; cases h2
    | some e => rfl
  have at' : ∀ (k : Nat) (q : Nat × va_E), ([] ++ va_pl ((List.range H.size).filter (fun x => (f x).isSome)) (fun a => (f a).getD (.inr (0, []))))[k]? = some q → ((List.range H.size).filter (fun x => (f x).isSome))[k]? = some q.1 ∧ f q.1 = some q.2 := by
    intro k q hk
    simp only [List.nil_append, va_pl, List.getElem?_map] at hk
    cases hb : ((List.range H.size).filter (fun x => (f x).isSome))[k]? with
    | none => rw [hb] at hk; cases hk
    | some b =>
      rw [hb] at hk
      cases hk
      exact ⟨rfl, key b (List.mem_of_getElem? hb)⟩
  refine ⟨(List.range H.size).filter (fun x => (f x).isSome), fun a => (f a).getD (.inr (0, [])), ?_, key, ?_, ?_⟩
  · intro a e ha
    exact ⟨List.mem_filter.mpr ⟨List.mem_range.mpr (h.1 a e ha).lt, by rw [ha]; rfl⟩, by simp [ha]⟩
  · intro k q hk
    exact h.1 q.1 q.2 (at' k q hk).2
  · refine ⟨fun i j x y hi hj hxy => ?_, fun k q hk => h.2.1 q.1 (by rw [(at' k q hk).2]; exact fun z => by cases z)⟩
    have h1 := (at' i x hi).1
    have h2 := (at' j y hj).1
    rw [← hxy] at h2
    have hnd : ((List.range H.size).filter (fun x => (f x).isSome)).Nodup := List.Pairwise.filter _ List.nodup_range
    exact (List.getElem?_inj (List.getElem?_eq_some_iff.mp h1).1 hnd).mp (h1.trans h2.symm)
theorem hw.back {D : va_G} {A : Nat → Prop} {H0 H H1 : Heap} {f : HF} {locs locs1 : List Loc} (h : hw D A H0 f H locs) {L : List Nat} {g : Nat → va_E} (h1 : ∀ a e, f a = some e → a ∈ L ∧ g a = e) {a k : Nat} {e : va_E} (ha : a ∈ L) (hD : va_D A ([] ++ va_pl L g)) (hk : ([] ++ va_pl L g)[k]? = some (a, g a)) (hP : va_P D vwCl (([] ++ va_pl L g).set k (a, e)) H1) (hS : va_S A H0 H1 locs1) : hw D A H0 (va_up f a (some e)) H1 locs1 := by
  rw [va_pl_set hD ha hk] at hP
  refine ⟨fun b x hb => ?_, fun b hb => ?_, hS, h.2.2.2⟩
  · by_cases hba : b = a
    · subst hba
      rw [va_up_self] at hb
      cases hb
      obtain ⟨j, hj⟩ := va_pl_get (X := []) (f := va_up g b e) ha
      have := hP j _ hj
      rwa [va_up_self] at this
    · rw [va_up_ne _ _ hba] at hb
      obtain ⟨hm, hg⟩ := h1 b x hb
      obtain ⟨j, hj⟩ := va_pl_get (X := []) (f := va_up g a e) hm
      have := hP j _ hj
      rw [va_up_ne _ _ hba, hg] at this
      exact this
  · by_cases hba : b = a
    · subst hba
      exact hD.2 k _ hk
    · rw [va_up_ne _ _ hba] at hb
      exact h.2.1 b hb
theorem hw.born {D : va_G} {A : Nat → Prop} {H0 H H1 : Heap} {f : HF} {locs locs1 : List Loc} (h : hw D A H0 f H locs) {L : List Nat} {g : Nat → va_E} (h1 : ∀ a e, f a = some e → a ∈ L ∧ g a = e) {a : Nat} {e : va_E} (hP : va_P D vwCl (([] ++ va_pl L g) ++ [(a, e)]) H1) (hD : va_D A (([] ++ va_pl L g) ++ [(a, e)])) (hS : va_S A H0 H1 locs1) : hw D A H0 (va_up f a (some e)) H1 locs1 ∧ f a = none := by
  have hlast : (([] ++ va_pl L g) ++ [(a, e)])[([] ++ va_pl L g).length]? = some (a, e) := by
    rw [List.getElem?_append_right (Nat.le_refl _), Nat.sub_self]
    rfl
  have hold : ∀ b x, f b = some x → ∃ j, j < ([] ++ va_pl L g).length ∧ (([] ++ va_pl L g) ++ [(a, e)])[j]? = some (b, x) := by
    intro b x hb
    obtain ⟨hm, hg⟩ := h1 b x hb
    obtain ⟨j, hj⟩ := va_pl_get (X := []) (f := g) hm
    have hl := (List.getElem?_eq_some_iff.mp hj).1
    exact ⟨j, hl, by rw [List.getElem?_append_left hl, hj, hg]⟩
  have hfr : f a = none := by
    cases hfa : f a with
    | none => rfl
    | some x =>
      obtain ⟨j, hl, hj⟩ := hold a x hfa
      have := hD.1 j _ _ _ hj hlast rfl
      omega
  refine ⟨⟨fun b x hb => ?_, fun b hb => ?_, hS, h.2.2.2⟩, hfr⟩
  · by_cases hba : b = a
    · subst hba
      rw [va_up_self] at hb
      cases hb
      exact hP _ _ hlast
    · rw [va_up_ne _ _ hba] at hb
      obtain ⟨j, -, hj⟩ := hold b x hb
      exact hP _ _ hj
  · by_cases hba : b = a
    · subst hba
      exact hD.2 _ _ hlast
    · rw [va_up_ne _ _ hba] at hb
      exact h.2.1 b hb
abbrev cx (p : Program) (m : MethodId) (c : Code) (cc : ByteArray) (nL : Nat) (s : State) (args : Array Value) (Ts : List Cond) (own : String) (D : va_G) (cA : Nat → ClassId) : Prop := CallFix p m c cc nL s args Ts own ∧ hK D cA s
def hB (D : va_G) (cA : Nat → ClassId) (f : HF) (sz : Nat) (U : State) : Prop := U.heap.size = sz ∧ hH D f U.heap ∧ hK D cA U
def hE (D : va_G) (f : HF) (sz : Nat) (f1 : HF) (t : State) : Prop := hH D f1 t.heap ∧ ∀ a, f1 a ≠ none → hA f sz a
section HP
variable {p : Program} {l : Launch} {e : Env} {R : Room} {s : State} {m : MethodId} {args : Array Value} {below : List Frame} {meth : Method} {c : Code} {H : Heap} {locs : List Loc} {cells slots : Nat} {Q : State → Prop}
variable {cc : ByteArray} {pc nL : Nat} {ls : Array Slot} {rest : List Value} {D : va_G} {cA : Nat → ClassId} {A : Nat → Prop} {a : Nat} {H0 : Heap} {f : HF} {Ts : List Cond} {own : String}
variable {Cn : String} {T : u_T} {N ci index : Nat} {ty : Nat → FieldType} {fs : List Value}
theorem h_get (C : cx p m c cc nL s args Ts own D cA) (h : hw D A H0 f H locs) (b : hcl ci Cn T N ty) (hf : f a = some (.inr (ci, fs))) (hin : ∀ w ∈ u_ws Cn T N, w ∈ Ts) (k : Nat) (hk : k < N) (hl : Cond.fieldLink own index (T k).1 (T k).2.1 (T k).2.2.1 ∈ Ts) {v : Value} (hv : fs[k]? = some v) (hdg : decode cc pc = .ok (.getfield index, 3))
    (kk : W p l e R s m args below meth c H locs cells slots Q (F0 m (pc + 3) ls (v :: rest))) : W p l e R s m args below meth c H locs cells slots Q (F0 m pc ls (.ref a :: rest)) :=
  va_get (ws := [(a, .inr (ci, fs))]) C.1.1 C.1.2.1 C.1.2.2.2.2 hin C.1.2.2.2.1 C.2.1 (hP1 (h.1 a _ hf)) 0 rfl b.1 k hk (C.1.2.2.2.2 _ hl) (fun _ h9 => h9) hv hdg kk
theorem h_put (C : cx p m c cc nL s args Ts own D cA) (h : hw D A H0 f H locs) (b : hcl ci Cn T N ty) (hf : f a = some (.inr (ci, fs))) (hin : ∀ w ∈ u_ws Cn T N, w ∈ Ts) (k : Nat) (hk : k < N) (hl : Cond.fieldLink own index (T k).1 (T k).2.1 (T k).2.2.1 ∈ Ts) (hfin : (T k).2.2.2 = false) {v : Value} (hn : narrow (ty k) v = v) (hfit : fits (ty k) v = true) (hlen : k < fs.length) (hdg : decode cc pc = .ok (.putfield index, 3))
    (kk : ∀ (H1 : Heap) (locs1 : List Loc), hw D A H0 (va_up f a (some (.inr (ci, fs.set k v)))) H1 locs1 → W p l e R s m args below meth c H1 locs1 cells slots Q (F0 m (pc + 3) ls rest)) : W p l e R s m args below meth c H locs cells slots Q (F0 m pc ls (v :: .ref a :: rest)) := by
  obtain ⟨L, g, h1, h2, hP, hD⟩ := h.ls
  obtain ⟨hm, hg⟩ := h1 a _ hf
  obtain ⟨q0, hq⟩ := va_pl_get (X := []) (f := g) hm
  exact va_put C.1.1 C.1.2.1 C.1.2.2.2.2 hin ty b.2.1 b.2.2 C.1.2.2.2.1 C.2.1 hP hD h.2.2.1 q0 (by rw [hq, hg]) b.1 k hk (C.1.2.2.2.2 _ hl) (fun _ h9 => h9) hfin (b.2.1 k hk) hn hfit hlen hdg (fun H1 locs1 hP1 _ hS1 => kk H1 locs1 (h.back h1 hm hD hq hP1 hS1))
theorem h_putF (C : cx p m c cc nL s args Ts own D cA) (h : hw D A H0 f H locs) (b : hcl ci Cn T N ty) (hf : f a = some (.inr (ci, fs))) (hin : ∀ w ∈ u_ws Cn T N, w ∈ Ts) (k : Nat) (hk : k < N) (hl : Cond.fieldLink own index (T k).1 (T k).2.1 (T k).2.2.1 ∈ Ts) (hfin : (T k).2.2.2 = true) (hin2 : meth.name = "<init>") (hdecl : (T k).1 = own) {v : Value} (hn : narrow (ty k) v = v) (hfit : fits (ty k) v = true) (hlen : k < fs.length) (hdg : decode cc pc = .ok (.putfield index, 3))
    (kk : ∀ (H1 : Heap) (locs1 : List Loc), hw D A H0 (va_up f a (some (.inr (ci, fs.set k v)))) H1 locs1 → W p l e R s m args below meth c H1 locs1 cells slots Q (F0 m (pc + 3) ls rest)) : W p l e R s m args below meth c H locs cells slots Q (F0 m pc ls (v :: .ref a :: rest)) := by
  obtain ⟨L, g, h1, h2, hP, hD⟩ := h.ls
  obtain ⟨hm, hg⟩ := h1 a _ hf
  obtain ⟨q0, hq⟩ := va_pl_get (X := []) (f := g) hm
  exact va_putF C.1.1 C.1.2.1 C.1.2.2.2.2 hin ty b.2.1 b.2.2 C.1.2.2.2.1 C.2.1 hP hD h.2.2.1 q0 (by rw [hq, hg]) b.1 k hk (C.1.2.2.2.2 _ hl) (fun _ h9 => h9) hfin hin2 hdecl (b.2.1 k hk) hn hfit hlen hdg (fun H1 locs1 hP1 _ hS1 => kk H1 locs1 (h.back h1 hm hD hq hP1 hS1))
theorem h_new (C : cx p m c cc nL s args Ts own D cA) (h : hw D A H0 f H locs) (b : hcl ci Cn T N ty) (hin : ∀ w ∈ u_ws Cn T N, w ∈ Ts) (hc1 : Cond.classLink own index Cn ∈ Ts) (hc2 : Cond.instantiable Cn N ∈ Ts) (hc3 : Cond.initialized Cn ∈ Ts) (hfs : ∀ j, j < N → defaultValue (ty j) = vp_V fs j) (hcells : cells + 1 ≤ R.cells) (hslots : slots + N ≤ R.slots) (hdg : decode cc pc = .ok (.new index, 3))
    (kk : ∀ (q : Nat) (H1 : Heap), f q = none → hw D A H0 (va_up f q (some (.inr (ci, fs)))) H1 locs → W p l e R s m args below meth c H1 locs (cells + 1) (slots + N) Q (F0 m (pc + 3) ls (.ref q :: rest))) : W p l e R s m args below meth c H locs cells slots Q (F0 m pc ls rest) := by
  obtain ⟨L, g, h1, h2, hP, hD⟩ := h.ls
  have hts := C.1.2.2.2.2
  exact va_new C.1.1 C.1.2.1 hts hin ty b.2.1 C.1.2.2.2.1 (hts _ hc1) (hts _ hc2) (hts _ hc3) C.2.1 hP hD h.2.2.1 h.2.2.2 b.1 hfs hcells hslots hdg (fun q H1 hP1 hD1 hS1 => have hb := h.born h1 hP1 hD1 hS1; kk q H1 hb.2 hb.1)
/-- arrays of ints, read and written at a place that is a natural number -/
theorem h_iald (C : cx p m c cc nL s args Ts own D cA) (h : hw D A H0 f H locs) {n j : Nat} {g : Nat → Int32} (hf : f a = some (eI cA n g)) (hj : j < n) (hn : n < 2 ^ 31) (hdg : decode cc pc = .ok (.iaload, 1))
    (kk : W p l e R s m args below meth c H locs cells slots Q (F0 m (pc + 1) ls (.int (g j) :: rest))) : W p l e R s m args below meth c H locs cells slots Q (F0 m pc ls (.int (nI j) :: .ref a :: rest)) :=
  va_iald (ws := [(a, eI cA n g)]) C.1.1 C.1.2.1 C.2.1 (hP1 (h.1 a _ hf)) 0 0 rfl rfl (vp_in_nI hj hn) hdg (by rw [nI_clamp (Nat.lt_trans hj hn)]; exact kk)
theorem h_sald (C : cx p m c cc nL s args Ts own D cA) (h : hw D A H0 f H locs) {n j : Nat} {g : Nat → Int32} (hf : f a = some (eS cA n g)) (hj : j < n) (hn : n < 2 ^ 31) (hdg : decode cc pc = .ok (.saload, 1))
    (kk : W p l e R s m args below meth c H locs cells slots Q (F0 m (pc + 1) ls (.int (g j) :: rest))) : W p l e R s m args below meth c H locs cells slots Q (F0 m pc ls (.int (nI j) :: .ref a :: rest)) :=
  va_sald (ws := [(a, eS cA n g)]) C.1.1 C.1.2.1 C.2.1 (hP1 (h.1 a _ hf)) 0 2 rfl rfl (vp_in_nI hj hn) hdg (by rw [nI_clamp (Nat.lt_trans hj hn)]; exact kk)
theorem h_lald (C : cx p m c cc nL s args Ts own D cA) (h : hw D A H0 f H locs) {n j : Nat} {g : Nat → Int64} (hf : f a = some (eL cA n g)) (hj : j < n) (hn : n < 2 ^ 31) (hdg : decode cc pc = .ok (.laload, 1))
    (kk : W p l e R s m args below meth c H locs cells slots Q (F0 m (pc + 1) ls (.long (g j) :: rest))) : W p l e R s m args below meth c H locs cells slots Q (F0 m pc ls (.int (nI j) :: .ref a :: rest)) :=
  va_lald (ws := [(a, eL cA n g)]) C.1.1 C.1.2.1 C.2.1 (hP1 (h.1 a _ hf)) 0 1 rfl rfl (vp_in_nI hj hn) hdg (by rw [nI_clamp (Nat.lt_trans hj hn)]; exact kk)
theorem h_iast (C : cx p m c cc nL s args Ts own D cA) (h : hw D A H0 f H locs) {n j : Nat} {g : Nat → Int32} {x : Int32} (hf : f a = some (eI cA n g)) (hj : j < n) (hn : n < 2 ^ 31) (hdg : decode cc pc = .ok (.iastore, 1))
    (kk : ∀ (H1 : Heap) (locs1 : List Loc), hw D A H0 (va_up f a (some (eI cA n (upd g j x)))) H1 locs1 → W p l e R s m args below meth c H1 locs1 cells slots Q (F0 m (pc + 1) ls rest)) : W p l e R s m args below meth c H locs cells slots Q (F0 m pc ls (.int x :: .int (nI j) :: .ref a :: rest)) := by
  obtain ⟨L, z, h1, h2, hP, hD⟩ := h.ls
  obtain ⟨hm, hg⟩ := h1 a _ hf
  obtain ⟨q0, hq⟩ := va_pl_get (X := []) (f := z) hm
  refine va_iast C.1.1 C.1.2.1 C.2.1 hP hD h.2.2.1 q0 0 (by rw [hq, hg]) rfl (vp_in_nI hj hn) hdg (fun H1 locs1 hP1 _ hS1 => ?_)
  rw [nI_clamp (Nat.lt_trans hj hn)] at hP1
  exact kk H1 locs1 (h.back h1 hm hD hq hP1 hS1)
theorem h_sast (C : cx p m c cc nL s args Ts own D cA) (h : hw D A H0 f H locs) {n j : Nat} {g : Nat → Int32} {x : Int32} (hf : f a = some (eS cA n g)) (hj : j < n) (hn : n < 2 ^ 31) (hdg : decode cc pc = .ok (.sastore, 1))
    (kk : ∀ (H1 : Heap) (locs1 : List Loc), hw D A H0 (va_up f a (some (eS cA n (upd g j (vp_nar .short x))))) H1 locs1 → W p l e R s m args below meth c H1 locs1 cells slots Q (F0 m (pc + 1) ls rest)) : W p l e R s m args below meth c H locs cells slots Q (F0 m pc ls (.int x :: .int (nI j) :: .ref a :: rest)) := by
  obtain ⟨L, z, h1, h2, hP, hD⟩ := h.ls
  obtain ⟨hm, hg⟩ := h1 a _ hf
  obtain ⟨q0, hq⟩ := va_pl_get (X := []) (f := z) hm
  refine va_sast C.1.1 C.1.2.1 C.2.1 hP hD h.2.2.1 q0 2 (by rw [hq, hg]) rfl (vp_in_nI hj hn) hdg (fun H1 locs1 hP1 _ hS1 => ?_)
  rw [nI_clamp (Nat.lt_trans hj hn)] at hP1
  exact kk H1 locs1 (h.back h1 hm hD hq hP1 hS1)
theorem h_last (C : cx p m c cc nL s args Ts own D cA) (h : hw D A H0 f H locs) {n j : Nat} {g : Nat → Int64} {x : Int64} (hf : f a = some (eL cA n g)) (hj : j < n) (hn : n < 2 ^ 31) (hdg : decode cc pc = .ok (.lastore, 1))
    (kk : ∀ (H1 : Heap) (locs1 : List Loc), hw D A H0 (va_up f a (some (eL cA n (vp_updL g j x)))) H1 locs1 → W p l e R s m args below meth c H1 locs1 cells slots Q (F0 m (pc + 1) ls rest)) : W p l e R s m args below meth c H locs cells slots Q (F0 m pc ls (.long x :: .int (nI j) :: .ref a :: rest)) := by
  obtain ⟨L, z, h1, h2, hP, hD⟩ := h.ls
  obtain ⟨hm, hg⟩ := h1 a _ hf
  obtain ⟨q0, hq⟩ := va_pl_get (X := []) (f := z) hm
  refine va_last C.1.1 C.1.2.1 C.2.1 hP hD h.2.2.1 q0 1 (by rw [hq, hg]) rfl (vp_in_nI hj hn) hdg (fun H1 locs1 hP1 _ hS1 => ?_)
  rw [nI_clamp (Nat.lt_trans hj hn)] at hP1
  exact kk H1 locs1 (h.back h1 hm hD hq hP1 hS1)
/-- arrays of references: t0 is the kind of the array -/
theorem h_aldq (C : cx p m c cc nL s args Ts own D cA) (h : hw D A H0 f H locs) (t0 : Nat) {n j : Nat} {g : Nat → Option Nat} {Co : String} (hf : f a = some (eQ cA t0 n g)) (ht : (aTys cA)[t0]? = some (cA t0, .object Co)) (hj : j < n) (hn : n < 2 ^ 31) (hdg : decode cc pc = .ok (.aaload, 1))
    (kk : W p l e R s m args below meth c H locs cells slots Q (F0 m (pc + 1) ls (va_rf (g j) :: rest))) : W p l e R s m args below meth c H locs cells slots Q (F0 m pc ls (.int (nI j) :: .ref a :: rest)) :=
  va_aldq (ws := [(a, eQ cA t0 n g)]) C.1.1 C.1.2.1 C.2.1 (hP1 (h.1 a _ hf)) 0 t0 rfl ht (vp_in_nI hj hn) hdg (by rw [nI_clamp (Nat.lt_trans hj hn)]; exact kk)
theorem h_astq (C : cx p m c cc nL s args Ts own D cA) (h : hw D A H0 f H locs) (t0 : Nat) {n j v : Nat} {g : Nat → Option Nat} (b : hcl ci Cn T N ty) (hf : f a = some (eQ cA t0 n g)) (ht : (aTys cA)[t0]? = some (cA t0, .object Cn)) (hv : f v = some (.inr (ci, fs))) (hj : j < n) (hn : n < 2 ^ 31) (hdg : decode cc pc = .ok (.aastore, 1))
    (kk : ∀ (H1 : Heap) (locs1 : List Loc), hw D A H0 (va_up f a (some (eQ cA t0 n (va_up g j (some v))))) H1 locs1 → W p l e R s m args below meth c H1 locs1 cells slots Q (F0 m (pc + 1) ls rest)) : W p l e R s m args below meth c H locs cells slots Q (F0 m pc ls (.ref v :: .int (nI j) :: .ref a :: rest)) := by
  obtain ⟨L, z, h1, h2, hP, hD⟩ := h.ls
  obtain ⟨hm, hg⟩ := h1 a _ hf
  obtain ⟨q0, hq⟩ := va_pl_get (X := []) (f := z) hm
  obtain ⟨hm2, hg2⟩ := h1 v _ hv
  obtain ⟨q2, hq2⟩ := va_pl_get (X := []) (f := z) hm2
  refine va_astq C.1.1 C.1.2.1 C.2.1 hP hD h.2.2.1 q0 t0 q2 ci (r := (Cn, T, N)) (by rw [hq, hg]) ht (by rw [hq2, hg2]) b.1 (vp_in_nI hj hn) hdg (fun H1 locs1 hP1 _ hS1 => ?_)
  rw [nI_clamp (Nat.lt_trans hj hn)] at hP1
  exact kk H1 locs1 (h.back h1 hm hD hq hP1 hS1)
theorem h_alen (C : cx p m c cc nL s args Ts own D cA) (h : hw D A H0 f H locs) (t0 : Nat) {x : vp_A} {ty0 : FieldType} (hf : f a = some (.inl (cA t0, x))) (ht : (aTys cA)[t0]? = some (cA t0, ty0)) (hdg : decode cc pc = .ok (.arraylength, 1))
    (kk : W p l e R s m args below meth c H locs cells slots Q (F0 m (pc + 1) ls (.int (nI x.1) :: rest))) : W p l e R s m args below meth c H locs cells slots Q (F0 m pc ls (.ref a :: rest)) :=
  va_alen (ws := [(a, .inl (cA t0, x))]) C.1.1 C.1.2.1 C.2.1 (hP1 (h.1 a _ hf)) 0 t0 rfl ht rfl hdg kk
/-- calls: the callee gets the whole of what is known -/
theorem h_blind {av : List Value} {sz : Nat} : FrameBlind (va_Pc av (hB D cA f sz)) := fun _ U g mk q => by
  obtain ⟨q0, q1, q2, q3⟩ := q
  exact ⟨q0, q1, q2, hK.same (s := U) rfl q3⟩
variable {y : MethodName} {bytes : ByteArray} {maxL mc ms n : Nat} {ret : Option FieldType} {ws ws' : List Cond} {rm : Room} {Qc : Array Value → State → Outcome → State → Prop} {As st0 : List Value} {bo : Nat}
theorem h_runV (C : cx p m c cc nL s args Ts own D cA) (h : hw D A H0 f H locs) (hM : Met l y ws rm (va_Pc (.ref bo :: As) (hB D cA f H.size)) Qc mc ms (hA f H.size)) (hG : GoodIn Ts (wsV own index Cn y ws)) (hwd : ws = Cond.code y bytes maxL ret :: ws') (hrc : rm.cells = mc) (hrs : rm.slots = ms)
    (hd : y.cls = Cn ∧ y.cls ≠ "java/lang/invoke/MethodHandle" ∧ y.cls ≠ "java/lang/invoke/VarHandle" ∧ (parseMethodDescriptor y.desc).map (fun d => d.parameters.length) = some n) (hR : rm.frames + 1 ≤ R.frames ∧ 8 + (maxL + 11) + rm.locals ≤ R.locals) (b : hcl ci Cn T N ty) (hf : f bo = some (.inr (ci, fs)))
    (hn : As.length = n) (hsz : ls.size = nL) (hst : st0 = As.reverse ++ .ref bo :: rest) (hrest : (rest.map fun v => v.category).sum ≤ 8) (hdg : decode cc pc = .ok (.invokevirtual index, 3)) (hfit : cells + mc ≤ R.cells ∧ slots + ms ≤ R.slots) :
    va_Run p l e R s m args below meth c H locs cells slots mc ms (F0 m pc ls st0) rest (Qc (Value.ref bo :: As).toArray) (hA f H.size) :=
  va_runV C.1 hM (cwV n C.1.2.2.2.2 hG hwd hrc hrs hd hR) ⟨h_blind, va_recv C.2.1 (hP1 (h.1 bo _ hf)) (q0 := 0) b.1 rfl, fun U hU hW => ⟨rfl, by rw [hU], by rw [hU]; exact h.1, hK.warm hW C.2⟩⟩ rfl hn hsz hst (lv_room hrest) hdg hfit
theorem h_runS (C : cx p m c cc nL s args Ts own D cA) (h : hw D A H0 f H locs) (hM : Met l y ws rm (va_Pc As (hB D cA f H.size)) Qc mc ms (hA f H.size)) (hG : GoodIn Ts (va_wsS own index y ws)) (hwd : ws = Cond.code y bytes maxL ret :: ws') (hrc : rm.cells = mc) (hrs : rm.slots = ms)
    (hd : y.cls ≠ "java/lang/invoke/MethodHandle" ∧ y.cls ≠ "java/lang/invoke/VarHandle" ∧ (parseMethodDescriptor y.desc).map (fun d => d.parameters.length) = some n) (hR : rm.frames + 1 ≤ R.frames ∧ 8 + (maxL + 11) + rm.locals ≤ R.locals)
    (hn : As.length = n) (hsz : ls.size = nL) (hst : st0 = As.reverse ++ rest) (hrest : (rest.map fun v => v.category).sum ≤ 8) (hdg : decode cc pc = .ok (.invokestatic index, 3)) (hfit : cells + mc ≤ R.cells ∧ slots + ms ≤ R.slots) :
    va_Run p l e R s m args below meth c H locs cells slots mc ms (F0 m pc ls st0) rest (Qc As.toArray) (hA f H.size) :=
  va_runS C.1 hM (va_cwS n C.1.2.2.2.2 hG hwd hrc hrs hd hR) ⟨h_blind, fun U hU hW => ⟨rfl, by rw [hU], by rw [hU]; exact h.1, hK.warm hW C.2⟩⟩ rfl hn hsz hst (lv_room hrest) hdg hfit
theorem h_runSN (C : cx p m c cc nL s args Ts own D cA) (h : hw D A H0 f H locs) {host : String} (hM : Met l y ws rm (va_Pc As (hB D cA f H.size)) Qc mc ms (hA f H.size)) (hG : GoodIn Ts ws) (hwd : ws = Cond.code y bytes maxL ret :: ws') (hrc : rm.cells = mc) (hrs : rm.slots = ms) (hnl : va_Nw (.methodLinkNest own index y host) s) (hs1 : Cond.static y ∈ Ts) (hs2 : Cond.initialized y.cls ∈ Ts)
    (hd : y.cls ≠ "java/lang/invoke/MethodHandle" ∧ y.cls ≠ "java/lang/invoke/VarHandle" ∧ (parseMethodDescriptor y.desc).map (fun d => d.parameters.length) = some n) (hR : rm.frames + 1 ≤ R.frames ∧ 8 + (maxL + 11) + rm.locals ≤ R.locals)
    (hn : As.length = n) (hsz : ls.size = nL) (hst : st0 = As.reverse ++ rest) (hrest : (rest.map fun v => v.category).sum ≤ 8) (hdg : decode cc pc = .ok (.invokestatic index, 3)) (hfit : cells + mc ≤ R.cells ∧ slots + ms ≤ R.slots) :
    va_Run p l e R s m args below meth c H locs cells slots mc ms (F0 m pc ls st0) rest (Qc As.toArray) (hA f H.size) :=
  va_runSN C.1 hM ⟨va_cnB n C.1.2.2.2.2 hG hwd hrc hrs hnl (C.1.2.2.2.2 _ hs2) hd hR, C.1.2.2.2.2 _ hs1, trivial⟩ ⟨h_blind, fun U hU hW => ⟨rfl, by rw [hU], by rw [hU]; exact h.1, hK.warm hW C.2⟩⟩ rfl hn hsz hst (lv_room hrest) hdg hfit
theorem h_runI (C : cx p m c cc nL s args Ts own D cA) (h : hw D A H0 f H locs) (hM : Met l y ws rm (va_Pc (.ref bo :: As) (hB D cA f H.size)) Qc mc ms (hA f H.size)) (hG : GoodIn Ts ws) (hwd : ws = Cond.code y bytes maxL none :: ws') (hrc : rm.cells = mc) (hrs : rm.slots = ms) (hs1 : Cond.initialized y.cls ∈ Ts) (hs2 : Cond.methodLink own index y ∈ Ts) (hs3 : Cond.instanceMethod y ∈ Ts) (hy1 : y.name = "<init>")
    (hd : y.cls ≠ "java/lang/invoke/MethodHandle" ∧ y.cls ≠ "java/lang/invoke/VarHandle" ∧ (parseMethodDescriptor y.desc).map (fun d => d.parameters.length) = some n) (hR : rm.frames + 1 ≤ R.frames ∧ 8 + (maxL + 11) + rm.locals ≤ R.locals)
    (hn : As.length = n) (hsz : ls.size = nL) (hst : st0 = As.reverse ++ .ref bo :: rest) (hrest : (rest.map fun v => v.category).sum ≤ 8) (hdg : decode cc pc = .ok (.invokespecial index, 3)) (hfit : cells + mc ≤ R.cells ∧ slots + ms ≤ R.slots) :
    va_Run p l e R s m args below meth c H locs cells slots mc ms (F0 m pc ls st0) rest (Qc (Value.ref bo :: As).toArray) (hA f H.size) :=
  va_runI C.1 hM (cwI n C.1.2.2.2.2 hG hwd hrc hrs (C.1.2.2.2.2 _ hs1) (C.1.2.2.2.2 _ hs2) (C.1.2.2.2.2 _ hs3) hy1 hd hR) ⟨h_blind, fun U hU hW => ⟨rfl, by rw [hU], by rw [hU]; exact h.1, hK.warm hW C.2⟩⟩ rfl hn hsz hst (lv_room hrest) hdg hfit
variable {av : Array Value}
theorem h_calll {post : Int64 → HF → Prop} (h : hw D A H0 f H locs) (hr : va_Run p l e R s m args below meth c H locs cells slots mc ms (F0 m pc ls st0) rest (va_Ql post (hE D f H.size) (hA f H.size) av) (hA f H.size))
    (kk : ∀ (r : Int64) (f1 : HF) (H1 : Heap) (locs1 : List Loc), post r f1 → hw D A H0 f1 H1 locs1 → W p l e R s m args below meth c H1 locs1 (cells + mc) (slots + ms) Q (F0 m (pc + 3) ls (.long r :: rest))) : W p l e R s m args below meth c H locs cells slots Q (F0 m pc ls st0) :=
  va_calll hr h.2.2.1 (fun q _ hq => h.sub q hq) h.sub (fun r u t H1 locs1 ht _ hp hb _ _ hS => kk r u H1 locs1 hp ⟨by rw [← ht]; exact hb.1, fun x hx => h.sub x (hb.2 x hx), hS, h.2.2.2⟩)
theorem h_calli {post : Int32 → HF → Prop} (h : hw D A H0 f H locs) (hr : va_Run p l e R s m args below meth c H locs cells slots mc ms (F0 m pc ls st0) rest (va_Qi post (hE D f H.size) (hA f H.size) av) (hA f H.size))
    (kk : ∀ (r : Int32) (f1 : HF) (H1 : Heap) (locs1 : List Loc), post r f1 → hw D A H0 f1 H1 locs1 → W p l e R s m args below meth c H1 locs1 (cells + mc) (slots + ms) Q (F0 m (pc + 3) ls (.int r :: rest))) : W p l e R s m args below meth c H locs cells slots Q (F0 m pc ls st0) :=
  va_calli hr h.2.2.1 (fun q _ hq => h.sub q hq) h.sub (fun r u t H1 locs1 ht _ hp hb _ _ hS => kk r u H1 locs1 hp ⟨by rw [← ht]; exact hb.1, fun x hx => h.sub x (hb.2 x hx), hS, h.2.2.2⟩)
theorem h_callq {post : Option Nat → HF → Prop} (h : hw D A H0 f H locs) (hr : va_Run p l e R s m args below meth c H locs cells slots mc ms (F0 m pc ls st0) rest (va_Qq post (hE D f H.size) (hA f H.size) av) (hA f H.size))
    (kk : ∀ (r : Option Nat) (f1 : HF) (H1 : Heap) (locs1 : List Loc), post r f1 → hw D A H0 f1 H1 locs1 → W p l e R s m args below meth c H1 locs1 (cells + mc) (slots + ms) Q (F0 m (pc + 3) ls (va_rf r :: rest))) : W p l e R s m args below meth c H locs cells slots Q (F0 m pc ls st0) :=
  va_callq hr h.2.2.1 (fun q _ hq => h.sub q hq) h.sub (fun r u t H1 locs1 ht _ hp hb _ _ hS => kk r u H1 locs1 hp ⟨by rw [← ht]; exact hb.1, fun x hx => h.sub x (hb.2 x hx), hS, h.2.2.2⟩)
theorem h_callv {post : HF → Prop} (h : hw D A H0 f H locs) (hr : va_Run p l e R s m args below meth c H locs cells slots mc ms (F0 m pc ls st0) rest (va_Qv post (hE D f H.size) (hA f H.size) av) (hA f H.size))
    (kk : ∀ (f1 : HF) (H1 : Heap) (locs1 : List Loc), post f1 → hw D A H0 f1 H1 locs1 → W p l e R s m args below meth c H1 locs1 (cells + mc) (slots + ms) Q (F0 m (pc + 3) ls rest)) : W p l e R s m args below meth c H locs cells slots Q (F0 m pc ls st0) :=
  va_callv hr h.2.2.1 (fun q _ hq => h.sub q hq) h.sub (fun u t H1 locs1 ht _ hp hb _ _ hS => kk u H1 locs1 hp ⟨by rw [← ht]; exact hb.1, fun x hx => h.sub x (hb.2 x hx), hS, h.2.2.2⟩)
-- ends
variable {f0 f1 : HF} {sz : Nat}
theorem h_lret {post : Int64 → HF → Prop} {v : Int64} (C : cx p m c cc nL s args Ts own D cA) (hr : meth.sig.returnType = some .long) (hlk : meth.locks = false) (h : hw D (hA f0 sz) s.heap f1 H locs) (hp : post v f1) (hdg : decode cc pc = .ok (.lreturn, 1)) : W p l e R s m args below meth c H locs cells slots (MQ below (va_Ql post (hE D f0 sz) (hA f0 sz)) args s cells slots (hA f0 sz)) (F0 m pc ls [.long v]) :=
  W.lret C.1.1 C.1.2.1 hr (fun t ht _ => ⟨⟨v, f1, rfl, hp, by rw [ht]; exact h.1, h.2.1⟩, h.2.2.1.F ht⟩) h.2.2.1.2.2 hdg hlk
theorem h_iret {post : Int32 → HF → Prop} {v : Int32} (C : cx p m c cc nL s args Ts own D cA) (hr : meth.sig.returnType = some .int) (hlk : meth.locks = false) (h : hw D (hA f0 sz) s.heap f1 H locs) (hp : post v f1) (hdg : decode cc pc = .ok (.ireturn, 1)) : W p l e R s m args below meth c H locs cells slots (MQ below (va_Qi post (hE D f0 sz) (hA f0 sz)) args s cells slots (hA f0 sz)) (F0 m pc ls [.int v]) :=
  W.iret C.1.1 C.1.2.1 hr (fun t ht _ => ⟨⟨v, f1, rfl, hp, by rw [ht]; exact h.1, h.2.1⟩, h.2.2.1.F ht⟩) h.2.2.1.2.2 hdg hlk
theorem h_zret {post : Int32 → HF → Prop} {v : Int32} (C : cx p m c cc nL s args Ts own D cA) (hr : meth.sig.returnType = some .boolean) (hn : narrow .boolean (.int v) = .int v) (hlk : meth.locks = false) (h : hw D (hA f0 sz) s.heap f1 H locs) (hp : post v f1) (hdg : decode cc pc = .ok (.ireturn, 1)) : W p l e R s m args below meth c H locs cells slots (MQ below (va_Qi post (hE D f0 sz) (hA f0 sz)) args s cells slots (hA f0 sz)) (F0 m pc ls [.int v]) :=
  W.zret C.1.1 C.1.2.1 hr hn (fun t ht _ => ⟨⟨v, f1, rfl, hp, by rw [ht]; exact h.1, h.2.1⟩, h.2.2.1.F ht⟩) h.2.2.1.2.2 hdg hlk
theorem h_vret {post : HF → Prop} (C : cx p m c cc nL s args Ts own D cA) (hr : meth.sig.returnType = none) (hlk : meth.locks = false) (h : hw D (hA f0 sz) s.heap f1 H locs) (hp : post f1) (hdg : decode cc pc = .ok (.return_, 1)) : W p l e R s m args below meth c H locs cells slots (MQ below (va_Qv post (hE D f0 sz) (hA f0 sz)) args s cells slots (hA f0 sz)) (F0 m pc ls []) :=
  W.vret C.1.1 C.1.2.1 hr (fun t ht _ => ⟨⟨f1, rfl, hp, by rw [ht]; exact h.1, h.2.1⟩, h.2.2.1.F ht⟩) h.2.2.1.2.2 hdg hlk
theorem h_qret {post : Option Nat → HF → Prop} {v : Option Nat} {rt : String} (C : cx p m c cc nL s args Ts own D cA) (hr : meth.sig.returnType = some (.object rt)) (hlk : meth.locks = false) (h : hw D (hA f0 sz) s.heap f1 H locs) (hp : post v f1) (hdg : decode cc pc = .ok (.areturn, 1)) : W p l e R s m args below meth c H locs cells slots (MQ below (va_Qq post (hE D f0 sz) (hA f0 sz)) args s cells slots (hA f0 sz)) (F0 m pc ls [va_rf v]) :=
  W.aret C.1.1 C.1.2.1 hr (Or.inl ⟨_, rfl⟩) (by cases v with | none => exact Or.inl rfl | some x => exact Or.inr ⟨x, rfl⟩) (fun t ht _ => ⟨⟨v, f1, rfl, hp, by rw [ht]; exact h.1, h.2.1⟩, h.2.2.1.F ht⟩) h.2.2.1.2.2 hdg hlk
/-- a contract's start -/
theorem h_of {vs : List Value} (hy : plainName y.cls = true) (hwd : ws = Cond.code y cc maxL ret :: ws') (hlen : (lg_sl vs).length ≤ maxL)
    (body : ∀ (p : Program) (e : Env) (s : State) (m : MethodId) (below : List Frame) (meth : Method) (c : Code) (ls : Array Slot), cx p m c cc maxL s vs.toArray ws y.cls D cA → meth.sig.returnType = ret → meth.locks = false → meth.name = y.name → hw D (hA f sz) s.heap f s.heap [] → lv_has ls maxL (lv_args 0 vs) →
      W p l e rm s m vs.toArray below meth c s.heap [] 0 0 (MQ below Qc vs.toArray s mc ms (hA f sz)) (F0 m 0 ls [])) : Met l y ws rm (va_Pc vs (hB D cA f sz)) Qc mc ms (hA f sz) := by
  refine Met.ofW (cc := cc) (maxL := maxL) (ret := ret) hy hwd ?_
  intro p e s m args below meth c s₁ B hml hv
  obtain ⟨rfl, hsz, hPh, hKK⟩ := hv
  rw [lg_entry_eq]
  refine body p e s m below meth c _ ⟨⟨B.exec, B.bytes, hml, findClass_of_methodNamed B.named, atoms_spec (ws := ws) B.pre⟩, hKK⟩ B.returns B.notSynchronized (name_of_methodNamed B.named B.method).1 ⟨hPh, fun a ha => Or.inl ha, va_S.rf, fun q hq => Or.inr (by rw [← hsz]; exact hq)⟩ (lv_entry vs hlen)
/-- numbers that are natural -/
theorem n_iadd (C : cx p m c cc nL s args Ts own D cA) {i j : Nat} (hdg : decode cc pc = .ok (.iadd, 1)) (kk : W p l e R s m args below meth c H locs cells slots Q (F0 m (pc + 1) ls (.int (nI (i + j)) :: rest))) : W p l e R s m args below meth c H locs cells slots Q (F0 m pc ls (.int (nI j) :: .int (nI i) :: rest)) := lv_iadd C.1.1 C.1.2.1 hdg (by rw [nI_add]; exact kk)
theorem n_isub (C : cx p m c cc nL s args Ts own D cA) {i j : Nat} (hij : j ≤ i) (hdg : decode cc pc = .ok (.isub, 1)) (kk : W p l e R s m args below meth c H locs cells slots Q (F0 m (pc + 1) ls (.int (nI (i - j)) :: rest))) : W p l e R s m args below meth c H locs cells slots Q (F0 m pc ls (.int (nI j) :: .int (nI i) :: rest)) := lv_isub C.1.1 C.1.2.1 hdg (by rw [pk_sub hij]; exact kk)
theorem n_imul (C : cx p m c cc nL s args Ts own D cA) {i j : Nat} (hdg : decode cc pc = .ok (.imul, 1)) (kk : W p l e R s m args below meth c H locs cells slots Q (F0 m (pc + 1) ls (.int (nI (i * j)) :: rest))) : W p l e R s m args below meth c H locs cells slots Q (F0 m pc ls (.int (nI j) :: .int (nI i) :: rest)) := lv_imul C.1.1 C.1.2.1 hdg (by rw [pk_mul]; exact kk)
end HP
