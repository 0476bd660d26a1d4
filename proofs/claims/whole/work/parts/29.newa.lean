/-! ===== new arrays of numbers, into the known array classes ===== -/
section HNA
variable {p : Program} {l : Launch} {e : Env} {R : Room} {s : State} {m : MethodId} {args : Array Value} {below : List Frame} {meth : Method} {c : Code} {H : Heap} {locs : List Loc} {cells slots : Nat} {Q : State → Prop}
variable {cc : ByteArray} {pc nL : Nat} {ls : Array Slot} {rest : List Value} {D : va_G} {cA : Nat → ClassId} {A : Nat → Prop} {H0 : Heap} {f : HF} {Ts : List Cond} {own : String}
theorem h_newi (C : cx p m c cc nL s args Ts own D cA) (h : hw D A H0 f H locs) {N : Nat} (ha : Cond.arrayClass .int ∈ Ts) (hN : N ≤ 100000) (hcells : cells + 1 ≤ R.cells) (hslots : slots + N ≤ R.slots) (hdg : decode cc pc = .ok (.newarray .int, 2))
    (kk : ∀ (q : Nat) (H1 : Heap), f q = none → hw D A H0 (va_up f q (some (eI cA N (fun _ => 0)))) H1 locs → W p l e R s m args below meth c H1 locs (cells + 1) (slots + N) Q (F0 m (pc + 2) ls (.ref q :: rest))) : W p l e R s m args below meth c H locs cells slots Q (F0 m pc ls (.int (nI N) :: rest)) := by
  obtain ⟨L, g, h1, h2, hP, hD⟩ := h.ls
  refine va_newa (atype := .int) (ty := .int) (a0 := (N, .inl (fun _ => 0))) C.1.1 C.1.2.1 (C.1.2.2.2.2 _ ha) rfl C.2.1 hP hD h.2.2.1 h.2.2.2 (fun cX => vp_cell_i cX _ _) (nI_pos (by omega)) (nI_clamp (by omega)) (by show N * 4 ≤ _; omega) hcells hslots hdg (fun q cX H1 hK2 hP1 hD1 hS1 => ?_)
  have hc0 : s.vm.findClass ("[" ++ FieldType.int.toString) = some (cA 0) := (C.2.1.2 0 _ rfl).2
  have h9 : s.vm.findClass ("[" ++ FieldType.int.toString) = some cX := (hK2.2 9 (cX, .int) rfl).2
  have hcx : cX = cA 0 := Option.some.inj (h9.symm.trans hc0)
  subst hcx
  have hb := h.born h1 hP1 hD1 hS1
  exact kk q H1 hb.2 hb.1
theorem h_newl (C : cx p m c cc nL s args Ts own D cA) (h : hw D A H0 f H locs) {N : Nat} (ha : Cond.arrayClass .long ∈ Ts) (hN : N ≤ 100000) (hcells : cells + 1 ≤ R.cells) (hslots : slots + N ≤ R.slots) (hdg : decode cc pc = .ok (.newarray .long, 2))
    (kk : ∀ (q : Nat) (H1 : Heap), f q = none → hw D A H0 (va_up f q (some (eL cA N (fun _ => 0)))) H1 locs → W p l e R s m args below meth c H1 locs (cells + 1) (slots + N) Q (F0 m (pc + 2) ls (.ref q :: rest))) : W p l e R s m args below meth c H locs cells slots Q (F0 m pc ls (.int (nI N) :: rest)) := by
  obtain ⟨L, g, h1, h2, hP, hD⟩ := h.ls
  refine va_newa (atype := .long) (ty := .long) (a0 := (N, .inr (.inl (fun _ => 0)))) C.1.1 C.1.2.1 (C.1.2.2.2.2 _ ha) rfl C.2.1 hP hD h.2.2.1 h.2.2.2 (fun cX => vp_cell_l cX _ _) (nI_pos (by omega)) (nI_clamp (by omega)) (by show N * 8 ≤ _; omega) hcells hslots hdg (fun q cX H1 hK2 hP1 hD1 hS1 => ?_)
  have hc0 : s.vm.findClass ("[" ++ FieldType.long.toString) = some (cA 1) := (C.2.1.2 1 _ rfl).2
  have h9 : s.vm.findClass ("[" ++ FieldType.long.toString) = some cX := (hK2.2 9 (cX, .long) rfl).2
  have hcx : cX = cA 1 := Option.some.inj (h9.symm.trans hc0)
  subst hcx
  have hb := h.born h1 hP1 hD1 hS1
  exact kk q H1 hb.2 hb.1
theorem h_news (C : cx p m c cc nL s args Ts own D cA) (h : hw D A H0 f H locs) {N : Nat} (ha : Cond.arrayClass .short ∈ Ts) (hN : N ≤ 100000) (hcells : cells + 1 ≤ R.cells) (hslots : slots + N ≤ R.slots) (hdg : decode cc pc = .ok (.newarray .short, 2))
    (kk : ∀ (q : Nat) (H1 : Heap), f q = none → hw D A H0 (va_up f q (some (eS cA N (fun _ => 0)))) H1 locs → W p l e R s m args below meth c H1 locs (cells + 1) (slots + N) Q (F0 m (pc + 2) ls (.ref q :: rest))) : W p l e R s m args below meth c H locs cells slots Q (F0 m pc ls (.int (nI N) :: rest)) := by
  obtain ⟨L, g, h1, h2, hP, hD⟩ := h.ls
  refine va_newa (atype := .short) (ty := .short) (a0 := (N, .inl (fun _ => 0))) C.1.1 C.1.2.1 (C.1.2.2.2.2 _ ha) rfl C.2.1 hP hD h.2.2.1 h.2.2.2 (fun cX => vp_cell_i cX _ _) (nI_pos (by omega)) (nI_clamp (by omega)) (by show N * 2 ≤ _; omega) hcells hslots hdg (fun q cX H1 hK2 hP1 hD1 hS1 => ?_)
  have hc0 : s.vm.findClass ("[" ++ FieldType.short.toString) = some (cA 2) := (C.2.1.2 2 _ rfl).2
  have h9 : s.vm.findClass ("[" ++ FieldType.short.toString) = some cX := (hK2.2 9 (cX, .short) rfl).2
  have hcx : cX = cA 2 := Option.some.inj (h9.symm.trans hc0)
  subst hcx
  have hb := h.born h1 hP1 hD1 hS1
  exact kk q H1 hb.2 hb.1
end HNA
