/-! ===== new arrays of references ===== -/
section HNQ
variable {p : Program} {l : Launch} {e : Env} {R : Room} {s : State} {m : MethodId} {args : Array Value} {below : List Frame} {meth : Method} {c : Code} {H : Heap} {locs : List Loc} {cells slots : Nat} {Q : State → Prop}
variable {cc : ByteArray} {pc nL : Nat} {ls : Array Slot} {rest : List Value} {D : va_G} {cA : Nat → ClassId} {A : Nat → Prop} {H0 : Heap} {f : HF} {Ts : List Cond} {own : String} {index : Nat}
theorem h_newq (C : cx p m c cc nL s args Ts own D cA) (h : hw D A H0 f H locs) (t0 : Nat) {N : Nat} {Co : String} (ht : (aTys cA)[t0]? = some (cA t0, .object Co)) (hc1 : Cond.classLink own index Co ∈ Ts) (hov : Cond.arrayOver (.object Co) ∈ Ts) (hN : N ≤ 100000) (hcells : cells + 1 ≤ R.cells) (hslots : slots + N ≤ R.slots) (hdg : decode cc pc = .ok (.anewarray index, 3))
    (kk : ∀ (q : Nat) (H1 : Heap), f q = none → hw D A H0 (va_up f q (some (eQ cA t0 N (fun _ => none)))) H1 locs → W p l e R s m args below meth c H1 locs (cells + 1) (slots + N) Q (F0 m (pc + 3) ls (.ref q :: rest))) : W p l e R s m args below meth c H locs cells slots Q (F0 m pc ls (.int (nI N) :: rest)) := by
  obtain ⟨L, g, h1, h2, hP, hD⟩ := h.ls
  have hts := C.1.2.2.2.2
  refine va_newq C.1.1 C.1.2.1 C.1.2.2.2.1 (hts _ hc1) (va_AO.of (hts _ hov)) C.2.1 hP hD h.2.2.1 h.2.2.2 (nI_pos (by omega)) (nI_clamp (by omega)) (by omega) hcells hslots hdg (fun q cX H1 hK2 hP1 hD1 hS1 => ?_)
  obtain ⟨k1, c1, -, -, -, hc0⟩ := (C.2.1.2 t0 _ ht).2
  obtain ⟨k2, c2, -, -, -, h9⟩ := (hK2.2 9 (cX, .object Co) rfl).2
  have hcx : cX = cA t0 := Option.some.inj (h9.symm.trans hc0)
  subst hcx
  have hb := h.born h1 hP1 hD1 hS1
  exact kk q H1 hb.2 hb.1
end HNQ
