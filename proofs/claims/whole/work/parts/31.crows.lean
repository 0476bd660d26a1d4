/-! ===== the class: rows over known cells, one heap growing out of another ===== -/
def hle (f g : HF) : Prop := ∀ a e, f a = some e → g a = some e
theorem hle.rf (f : HF) : hle f f := fun _ _ h => h
theorem hle.tr {f g h : HF} (h1 : hle f g) (h2 : hle g h) : hle f h := fun a e h3 => h2 a e (h1 a e h3)
theorem up_s {f f1 : HF} {q : Nat} {x : Option va_E} (e1 : f1 = va_up f q x) : f1 q = x := by rw [e1, va_up_self]
theorem up_o {f f1 : HF} {q a : Nat} {x y : Option va_E} (e1 : f1 = va_up f q x) (hn : a ≠ q) (h : f a = y) : f1 a = y := by rw [e1, va_up_ne _ _ hn, h]
theorem ne_new {f : HF} {a q : Nat} {y : va_E} (h : f a = some y) (hq : f q = none) : a ≠ q := fun e => by rw [e, hq] at h; cases h
theorem up_n {f f1 : HF} {q a : Nat} {x : Option va_E} {y : va_E} (e1 : f1 = va_up f q x) (hq : f q = none) (h : f a = some y) : f1 a = some y := up_o e1 (ne_new h hq) h
theorem hle_new {f0 f f1 : HF} {q : Nat} {x : va_E} (h : hle f0 f) (hq : f q = none) (e1 : f1 = va_up f q (some x)) : hle f0 f1 := fun a e h1 => up_n e1 hq (h a e h1)
theorem hle_no {f0 f : HF} {q : Nat} (h : hle f0 f) (hq : f q = none) : f0 q = none := by
  cases h1 : f0 q with
  | none => rfl
  | some e => have := h q e h1; rw [hq] at this; cases this
theorem hle_up {f0 f f1 : HF} {q : Nat} {x : va_E} (h : hle f0 f) (hq : f0 q = none) (e1 : f1 = va_up f q (some x)) : hle f0 f1 := fun a e h1 => up_o e1 (ne_new h1 hq) (h a e h1)
def kd (e : va_E) : Nat := match e with
  | .inr (k, _) => k
  | .inl (_, _, .inl _) => 20
  | .inl (_, _, .inr (.inl _)) => 21
  | .inl (_, _, .inr (.inr _)) => 22
theorem ne_kd {f : HF} {a b : Nat} {x y : va_E} (h1 : f a = some x) (h2 : f b = some y) (h : kd x ≠ kd y) : a ≠ b := fun e => by
  rw [e, h2] at h1
  cases h1
  exact h rfl
section CR
variable {p : Program} {l : Launch} {e : Env} {R : Room} {s : State} {m : MethodId} {args : Array Value} {below : List Frame} {meth : Method} {c : Code} {H : Heap} {locs : List Loc} {cells slots : Nat} {Q : State → Prop}
variable {cc : ByteArray} {pc nL : Nat} {ls : Array Slot} {rest : List Value} {D : va_G} {cA : Nat → ClassId} {A : Nat → Prop} {a : Nat} {H0 : Heap} {f : HF} {Ts : List Cond} {own : String}
variable {Cn : String} {T : u_T} {N ci index : Nat} {ty : Nat → FieldType} {fs : List Value}
theorem h_put1 (C : cx p m c cc nL s args Ts own D cA) (h : hw D A H0 f H locs) (b : hcl ci Cn T N ty) (hf : f a = some (.inr (ci, fs))) (hin : ∀ w ∈ u_ws Cn T N, w ∈ Ts) (k : Nat) (hk : k < N) (hl : Cond.fieldLink own index (T k).1 (T k).2.1 (T k).2.2.1 ∈ Ts) (hfin : (T k).2.2.2 = false) {v : Value} (hn : narrow (ty k) v = v) (hfit : fits (ty k) v = true) (hlen : k < fs.length) (hdg : decode cc pc = .ok (.putfield index, 3))
    (kk : ∀ (f1 : HF) (H1 : Heap) (locs1 : List Loc), f1 = va_up f a (some (.inr (ci, fs.set k v))) → hw D A H0 f1 H1 locs1 → W p l e R s m args below meth c H1 locs1 cells slots Q (F0 m (pc + 3) ls rest)) : W p l e R s m args below meth c H locs cells slots Q (F0 m pc ls (v :: .ref a :: rest)) :=
  h_put C h b hf hin k hk hl hfin hn hfit hlen hdg (fun H1 locs1 h1 => kk _ H1 locs1 rfl h1)
theorem h_putF1 (C : cx p m c cc nL s args Ts own D cA) (h : hw D A H0 f H locs) (b : hcl ci Cn T N ty) (hf : f a = some (.inr (ci, fs))) (hin : ∀ w ∈ u_ws Cn T N, w ∈ Ts) (k : Nat) (hk : k < N) (hl : Cond.fieldLink own index (T k).1 (T k).2.1 (T k).2.2.1 ∈ Ts) (hfin : (T k).2.2.2 = true) (hin2 : meth.name = "<init>") (hdecl : (T k).1 = own) {v : Value} (hn : narrow (ty k) v = v) (hfit : fits (ty k) v = true) (hlen : k < fs.length) (hdg : decode cc pc = .ok (.putfield index, 3))
    (kk : ∀ (f1 : HF) (H1 : Heap) (locs1 : List Loc), f1 = va_up f a (some (.inr (ci, fs.set k v))) → hw D A H0 f1 H1 locs1 → W p l e R s m args below meth c H1 locs1 cells slots Q (F0 m (pc + 3) ls rest)) : W p l e R s m args below meth c H locs cells slots Q (F0 m pc ls (v :: .ref a :: rest)) :=
  h_putF C h b hf hin k hk hl hfin hin2 hdecl hn hfit hlen hdg (fun H1 locs1 h1 => kk _ H1 locs1 rfl h1)
theorem h_new1 (C : cx p m c cc nL s args Ts own D cA) (h : hw D A H0 f H locs) (b : hcl ci Cn T N ty) (hin : ∀ w ∈ u_ws Cn T N, w ∈ Ts) (hc1 : Cond.classLink own index Cn ∈ Ts) (hc2 : Cond.instantiable Cn N ∈ Ts) (hc3 : Cond.initialized Cn ∈ Ts) (hfs : ∀ j, j < N → defaultValue (ty j) = vp_V fs j) (hcells : cells + 1 ≤ R.cells) (hslots : slots + N ≤ R.slots) (hdg : decode cc pc = .ok (.new index, 3))
    (kk : ∀ (q : Nat) (f1 : HF) (H1 : Heap), f q = none → f1 = va_up f q (some (.inr (ci, fs))) → hw D A H0 f1 H1 locs → W p l e R s m args below meth c H1 locs (cells + 1) (slots + N) Q (F0 m (pc + 3) ls (.ref q :: rest))) : W p l e R s m args below meth c H locs cells slots Q (F0 m pc ls rest) :=
  h_new C h b hin hc1 hc2 hc3 hfs hcells hslots hdg (fun q H1 hq h1 => kk q _ H1 hq rfl h1)
theorem h_iald1 (C : cx p m c cc nL s args Ts own D cA) (h : hw D A H0 f H locs) {n j : Nat} {g : Nat → Int32} {v : Int32} (hf : f a = some (eI cA n g)) (hv : g j = v) (hj : j < n) (hn : n < 2 ^ 31) (hdg : decode cc pc = .ok (.iaload, 1))
    (kk : W p l e R s m args below meth c H locs cells slots Q (F0 m (pc + 1) ls (.int v :: rest))) : W p l e R s m args below meth c H locs cells slots Q (F0 m pc ls (.int (nI j) :: .ref a :: rest)) := h_iald C h hf hj hn hdg (by rw [hv]; exact kk)
theorem h_sald1 (C : cx p m c cc nL s args Ts own D cA) (h : hw D A H0 f H locs) {n j : Nat} {g : Nat → Int32} {v : Int32} (hf : f a = some (eS cA n g)) (hv : g j = v) (hj : j < n) (hn : n < 2 ^ 31) (hdg : decode cc pc = .ok (.saload, 1))
    (kk : W p l e R s m args below meth c H locs cells slots Q (F0 m (pc + 1) ls (.int v :: rest))) : W p l e R s m args below meth c H locs cells slots Q (F0 m pc ls (.int (nI j) :: .ref a :: rest)) := h_sald C h hf hj hn hdg (by rw [hv]; exact kk)
theorem h_iast1 (C : cx p m c cc nL s args Ts own D cA) (h : hw D A H0 f H locs) {n j : Nat} {g : Nat → Int32} {x : Int32} (hf : f a = some (eI cA n g)) (hj : j < n) (hn : n < 2 ^ 31) (hdg : decode cc pc = .ok (.iastore, 1))
    (kk : ∀ (f1 : HF) (H1 : Heap) (locs1 : List Loc), f1 = va_up f a (some (eI cA n (upd g j x))) → hw D A H0 f1 H1 locs1 → W p l e R s m args below meth c H1 locs1 cells slots Q (F0 m (pc + 1) ls rest)) : W p l e R s m args below meth c H locs cells slots Q (F0 m pc ls (.int x :: .int (nI j) :: .ref a :: rest)) := h_iast C h hf hj hn hdg (fun H1 locs1 h1 => kk _ H1 locs1 rfl h1)
theorem h_sast1 (C : cx p m c cc nL s args Ts own D cA) (h : hw D A H0 f H locs) {n j : Nat} {g : Nat → Int32} {x : Int32} (hf : f a = some (eS cA n g)) (hj : j < n) (hn : n < 2 ^ 31) (hdg : decode cc pc = .ok (.sastore, 1))
    (kk : ∀ (f1 : HF) (H1 : Heap) (locs1 : List Loc), f1 = va_up f a (some (eS cA n (upd g j (vp_nar .short x)))) → hw D A H0 f1 H1 locs1 → W p l e R s m args below meth c H1 locs1 cells slots Q (F0 m (pc + 1) ls rest)) : W p l e R s m args below meth c H locs cells slots Q (F0 m pc ls (.int x :: .int (nI j) :: .ref a :: rest)) := h_sast C h hf hj hn hdg (fun H1 locs1 h1 => kk _ H1 locs1 rfl h1)
theorem h_aldS (C : cx p m c cc nL s args Ts own D cA) (h : hw D A H0 f H locs) (t0 : Nat) {n j x : Nat} {g : Nat → Option Nat} {Co : String} (ht : (aTys cA)[t0]? = some (cA t0, .object Co)) (hf : f a = some (eQ cA t0 n g)) (hv : g j = some x) (hj : j < n) (hn : n < 2 ^ 31) (hdg : decode cc pc = .ok (.aaload, 1))
    (kk : W p l e R s m args below meth c H locs cells slots Q (F0 m (pc + 1) ls (.ref x :: rest))) : W p l e R s m args below meth c H locs cells slots Q (F0 m pc ls (.int (nI j) :: .ref a :: rest)) := h_aldq C h t0 hf ht hj hn hdg (by rw [hv]; exact kk)
theorem h_aldO (C : cx p m c cc nL s args Ts own D cA) (h : hw D A H0 f H locs) (t0 : Nat) {n j : Nat} {x : Option Nat} {g : Nat → Option Nat} {Co : String} (ht : (aTys cA)[t0]? = some (cA t0, .object Co)) (hf : f a = some (eQ cA t0 n g)) (hv : g j = x) (hj : j < n) (hn : n < 2 ^ 31) (hdg : decode cc pc = .ok (.aaload, 1))
    (kk : W p l e R s m args below meth c H locs cells slots Q (F0 m (pc + 1) ls (va_rf x :: rest))) : W p l e R s m args below meth c H locs cells slots Q (F0 m pc ls (.int (nI j) :: .ref a :: rest)) := h_aldq C h t0 hf ht hj hn hdg (by rw [hv]; exact kk)
/-- an array of arrays -/
theorem h_aldM (C : cx p m c cc nL s args Ts own D cA) (h : hw D A H0 f H locs) {n j x : Nat} {g : Nat → Option Nat} (hf : f a = some (eQ cA 8 n g)) (hv : g j = some x) (hj : j < n) (hn : n < 2 ^ 31) (hdg : decode cc pc = .ok (.aaload, 1))
    (kk : W p l e R s m args below meth c H locs cells slots Q (F0 m (pc + 1) ls (.ref x :: rest))) : W p l e R s m args below meth c H locs cells slots Q (F0 m pc ls (.int (nI j) :: .ref a :: rest)) := by
  have hin : vp_in (nI j) n := vp_in_nI hj hn
  have hlt : (nI j).toNatClampNeg < n := Nat.not_le.mp fun q => hin (Or.inr q)
  have h0 : va_rf (g (nI j).toNatClampNeg) = .ref x := by rw [nI_clamp (Nat.lt_trans hj hn), hv]; rfl
  refine W.aald (v := va_rf (g (nI j).toNatClampNeg)) (ty := .array .int) C.1.1 C.1.2.1 (h.1 a _ hf) ((C.2.1.2 8 (cA 8, .array .int) rfl).1 n (fun j => va_rf (g j))) rfl (fun q => by cases q) (by show ¬ (nI j < 0 ∨ (arrV _ _ _).slots.size ≤ _); rw [arrV_size]; exact hin) (by show (arrV _ _ _).slots[_]? = _; rw [arrV_read _ _ hlt]) rfl rfl hdg ?_
  rw [h0]
  exact kk
theorem h_astq1 (C : cx p m c cc nL s args Ts own D cA) (h : hw D A H0 f H locs) (t0 : Nat) {n j v : Nat} {g : Nat → Option Nat} (b : hcl ci Cn T N ty) (ht : (aTys cA)[t0]? = some (cA t0, .object Cn)) (hf : f a = some (eQ cA t0 n g)) (hv : f v = some (.inr (ci, fs))) (hj : j < n) (hn : n < 2 ^ 31) (hdg : decode cc pc = .ok (.aastore, 1))
    (kk : ∀ (f1 : HF) (H1 : Heap) (locs1 : List Loc), f1 = va_up f a (some (eQ cA t0 n (va_up g j (some v)))) → hw D A H0 f1 H1 locs1 → W p l e R s m args below meth c H1 locs1 cells slots Q (F0 m (pc + 1) ls rest)) : W p l e R s m args below meth c H locs cells slots Q (F0 m pc ls (.ref v :: .int (nI j) :: .ref a :: rest)) := h_astq C h t0 b hf ht hv hj hn hdg (fun H1 locs1 h1 => kk _ H1 locs1 rfl h1)
theorem n_ifnull (C : cx p m c cc nL s args Ts own D cA) {r : Option Nat} {off : Int} {tgt : Nat} (hdg : decode cc pc = .ok (.ifnull off, 3)) (ht : (pc : Int) + off = (tgt : Int)) (kt : r = none → W p l e R s m args below meth c H locs cells slots Q (F0 m tgt ls rest)) (kf : ∀ x, r = some x → W p l e R s m args below meth c H locs cells slots Q (F0 m (pc + 3) ls rest)) : W p l e R s m args below meth c H locs cells slots Q (F0 m pc ls (va_rf r :: rest)) := by
  cases r with
  | none => exact lv_ifnullN C.1.1 C.1.2.1 hdg ht (kt rfl)
  | some x => exact lv_ifnull C.1.1 C.1.2.1 hdg (kf x rfl)
theorem n_ifnonnull (C : cx p m c cc nL s args Ts own D cA) {r : Option Nat} {off : Int} {tgt : Nat} (hdg : decode cc pc = .ok (.ifnonnull off, 3)) (ht : (pc : Int) + off = (tgt : Int)) (kt : ∀ x, r = some x → W p l e R s m args below meth c H locs cells slots Q (F0 m tgt ls rest)) (kf : r = none → W p l e R s m args below meth c H locs cells slots Q (F0 m (pc + 3) ls rest)) : W p l e R s m args below meth c H locs cells slots Q (F0 m pc ls (va_rf r :: rest)) := by
  cases r with
  | none => exact lv_ifnonnullN C.1.1 C.1.2.1 hdg (kf rfl)
  | some x => exact lv_ifnonnull C.1.1 C.1.2.1 hdg ht (kt x rfl)
theorem lv_aload_nQ (hexec : p.tables.exec = Jvm.exec) (hb : c.code = cc) {k : Fin 4} {i : Nat} {r : Option Nat} (hdg : decode cc pc = .ok (.aload_n k, 1)) (hi : (k : Nat) = i) (hl : ls[i]? = some (.val (va_rf r)))
    (kk : W p l e R s m args below meth c H locs cells slots Q (F0 m (pc + 1) ls (va_rf r :: rest))) : W p l e R s m args below meth c H locs cells slots Q (F0 m pc ls rest) := by
  cases r with
  | none => exact lv_aload_nN hexec hb hdg hi hl kk
  | some x => exact lv_aload_n hexec hb hdg hi hl kk
theorem lv_aloadQ (hexec : p.tables.exec = Jvm.exec) (hb : c.code = cc) {i : Nat} {r : Option Nat} (hdg : decode cc pc = .ok (.aload i, 2)) (hl : ls[i]? = some (.val (va_rf r)))
    (kk : W p l e R s m args below meth c H locs cells slots Q (F0 m (pc + 2) ls (va_rf r :: rest))) : W p l e R s m args below meth c H locs cells slots Q (F0 m pc ls rest) := by
  cases r with
  | none => exact lv_aloadN hexec hb hdg hl kk
  | some x => exact lv_aload hexec hb hdg hl kk
theorem lv_astore_nQ (hexec : p.tables.exec = Jvm.exec) (hb : c.code = cc) {k : Fin 4} {i nL : Nat} {r : Option Nat} {lv lv' : List (Nat × Value)} (hdg : decode cc pc = .ok (.astore_n k, 1)) (hi : (k : Nat) = i) (h : lv_has ls nL lv) (hn : i < nL) (hl : (i, va_rf r) :: lv.filter (fun q => !(q.1 == i) && !(q.1 + 1 == i && q.2.category == 2)) = lv')
    (kk : ∀ ls' : Array Slot, lv_has ls' nL lv' → W p l e R s m args below meth c H locs cells slots Q (F0 m (pc + 1) ls' rest)) : W p l e R s m args below meth c H locs cells slots Q (F0 m pc ls (va_rf r :: rest)) := by
  cases r with
  | none => exact lv_astore_nN hexec hb hdg hi h hn hl kk
  | some x => exact lv_astore_n hexec hb hdg hi h hn hl kk
theorem lv_astoreQ (hexec : p.tables.exec = Jvm.exec) (hb : c.code = cc) {i nL : Nat} {r : Option Nat} {lv lv' : List (Nat × Value)} (hdg : decode cc pc = .ok (.astore i, 2)) (h : lv_has ls nL lv) (hn : i < nL) (hl : (i, va_rf r) :: lv.filter (fun q => !(q.1 == i) && !(q.1 + 1 == i && q.2.category == 2)) = lv')
    (kk : ∀ ls' : Array Slot, lv_has ls' nL lv' → W p l e R s m args below meth c H locs cells slots Q (F0 m (pc + 2) ls' rest)) : W p l e R s m args below meth c H locs cells slots Q (F0 m pc ls (va_rf r :: rest)) := by
  cases r with
  | none => exact lv_astoreN hexec hb hdg h hn hl kk
  | some x => exact lv_astore hexec hb hdg h hn hl kk
end CR
theorem rf_nar {t : String} (r : Option Nat) : narrow (.object t) (va_rf r) = va_rf r := by cases r <;> rfl
theorem rf_fit {t : String} (r : Option Nat) : fits (.object t) (va_rf r) = true := by cases r <;> rfl
theorem dfX0 : ∀ j, j < 2 → defaultValue (tyX0 j) = vp_V [.long 0, .long 0] j := fun j hj => match j, hj with
  | 0, _ => rfl
  | 1, _ => rfl
theorem dfX1 : ∀ j, j < 10 → defaultValue (tyX1 j) = vp_V [.null, .null, .null, .null, .null, .null, .null, .int 0, .int 0, .int 0] j := fun j hj => match j, hj with
  | 0, _ => rfl
  | 1, _ => rfl
  | 2, _ => rfl
  | 3, _ => rfl
  | 4, _ => rfl
  | 5, _ => rfl
  | 6, _ => rfl
  | 7, _ => rfl
  | 8, _ => rfl
  | 9, _ => rfl
theorem dfX2 : ∀ j, j < 2 → defaultValue (tyX2 j) = vp_V [.null, .long 0] j := fun j hj => match j, hj with
  | 0, _ => rfl
  | 1, _ => rfl
theorem dfX3 : ∀ j, j < 2 → defaultValue (tyX3 j) = vp_V [.null, .int 0] j := fun j hj => match j, hj with
  | 0, _ => rfl
  | 1, _ => rfl
theorem dfX4 : ∀ j, j < 4 → defaultValue (tyX4 j) = vp_V [.int 0, .null, .null, .int 0] j := fun j hj => match j, hj with
  | 0, _ => rfl
  | 1, _ => rfl
  | 2, _ => rfl
  | 3, _ => rfl
theorem dfX5 : ∀ j, j < 2 → defaultValue (tyX5 j) = vp_V [.null, .int 0] j := fun j hj => match j, hj with
  | 0, _ => rfl
  | 1, _ => rfl
theorem dfX6 : ∀ j, j < 6 → defaultValue (tyX6 j) = vp_V [.int 0, .int 0, .null, .null, .null, .null] j := fun j hj => match j, hj with
  | 0, _ => rfl
  | 1, _ => rfl
  | 2, _ => rfl
  | 3, _ => rfl
  | 4, _ => rfl
  | 5, _ => rfl
theorem dfX7 : ∀ j, j < 2 → defaultValue (tyX7 j) = vp_V [.null, .int 0] j := fun j hj => match j, hj with
  | 0, _ => rfl
  | 1, _ => rfl
theorem dfX8 : ∀ j, j < 8 → defaultValue (tyX8 j) = vp_V [.int 0, .int 0, .int 0, .int 0, .long 0, .long 0, .long 0, .int 0] j := fun j hj => match j, hj with
  | 0, _ => rfl
  | 1, _ => rfl
  | 2, _ => rfl
  | 3, _ => rfl
  | 4, _ => rfl
  | 5, _ => rfl
  | 6, _ => rfl
  | 7, _ => rfl
theorem dfX9 : ∀ j, j < 2 → defaultValue (tyX9 j) = vp_V [.null, .int 0] j := fun j hj => match j, hj with
  | 0, _ => rfl
  | 1, _ => rfl
theorem dfX10 : ∀ j, j < 3 → defaultValue (tyX10 j) = vp_V [.long 0, .long 0, .long 0] j := fun j hj => match j, hj with
  | 0, _ => rfl
  | 1, _ => rfl
  | 2, _ => rfl
theorem dfX11 : ∀ j, j < 11 → defaultValue (tyX11 j) = vp_V [.null, .null, .null, .null, .null, .null, .null, .null, .null, .null, .null] j := fun j hj => match j, hj with
  | 0, _ => rfl
  | 1, _ => rfl
  | 2, _ => rfl
  | 3, _ => rfl
  | 4, _ => rfl
  | 5, _ => rfl
  | 6, _ => rfl
  | 7, _ => rfl
  | 8, _ => rfl
  | 9, _ => rfl
  | 10, _ => rfl
