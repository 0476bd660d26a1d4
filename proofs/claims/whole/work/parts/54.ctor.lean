/-! ===== the class: small constructors (laid by program) ===== -/
theorem va_AOA.moved {u U : State} (hvm : u.vm.Alike U.vm) (h : va_AOA .int u) : va_AOA .int U := by
  obtain ⟨comp, c, k, h1, h2, h3, h4, h5⟩ : ∃ comp c k, u.vm.findClass (FieldType.array .int).toString = some comp ∧ (u.vm.classes.findIdx? fun (x : Class) => match x.kind with | .array component _ => component == comp | _ => false) = some c ∧ u.vm.classes[c]? = some k ∧ k.kind = .array comp (.array .int) ∧ u.vm.findClass ("[" ++ (FieldType.array .int).toString) = some c := by
    unfold va_AOA Cond.before at h
    simp only [Cond.holds, Cond.value, beq_iff_eq] at h
    cases hc : u.vm.findClass (FieldType.array .int).toString with
    | none => simp [hc] at h
    | some comp =>
      rw [hc, Option.bind_some] at h
      obtain ⟨c, hi, h⟩ := Option.bind_eq_some_iff.mp h
      obtain ⟨k, hk, h⟩ := Option.map_eq_some_iff.mp h
      obtain ⟨hlt, hp1, -⟩ := Array.findIdx?_eq_some_iff_getElem.mp hi
      have hke : u.vm.classes[c] = k := by
        have := Array.getElem?_eq_getElem hlt
        rw [hk] at this
        exact (Option.some.inj this).symm
      rw [hke] at hp1
      cases hkk : k.kind with
      | array comp2 ty2 =>
        rw [hkk] at h hp1
        simp at h hp1
        obtain ⟨h6, h7⟩ := h
        subst hp1
        subst h6
        exact ⟨comp2, c, k, rfl, hi, hk, hkk, h7⟩
      | _ => rw [hkk] at h; simp at h
  obtain ⟨k', hk', he⟩ := hvm.2.2 _ _ h3
  have hi : (U.vm.classes.findIdx? fun (x : Class) => match x.kind with | .array component _ => component == comp | _ => false) = some c := by
    have e3 : U.vm.bare = u.vm.bare := by first | exact hvm.bare_eq | exact hvm.bare_eq.symm
    have e4 : (U.vm.bare.classes.findIdx? fun (x : Class) => match x.kind with | .array component _ => component == comp | _ => false) = (u.vm.bare.classes.findIdx? fun (x : Class) => match x.kind with | .array component _ => component == comp | _ => false) := by rw [e3]
    exact Eq.trans (va_idx_bare U.vm comp).symm (Eq.trans e4 (Eq.trans (va_idx_bare u.vm comp) h2))
  have hkind : k'.kind = .array comp (.array .int) := by rw [he]; exact h4
  have f1 : U.vm.findClass (FieldType.array .int).toString = some comp := by rw [hvm.findClass]; exact h1
  have f2 : U.vm.findClass ("[" ++ (FieldType.array .int).toString) = some c := by rw [hvm.findClass]; exact h5
  unfold va_AOA Cond.before Cond.holds
  simp only [Cond.value]
  rw [f1, Option.bind_some]
  refine (congrArg (fun o : Option Nat => (o.bind (fun c => (U.vm.classes[c]?).map fun (k : Class) => match k.kind with | .array _ ty => decide (ty = FieldType.array .int) && decide (U.vm.findClass ("[" ++ (FieldType.array .int).toString) = some c) | _ => false) == some true)) hi).trans ?_
  simp [hk', hkind, f2]
section HMNB
variable {p : Program} {l : Launch} {e : Env} {R : Room} {s : State} {m : MethodId} {args : Array Value} {below : List Frame} {meth : Method} {c : Code} {H : Heap} {locs : List Loc} {cells slots : Nat} {Q : State → Prop}
variable {cc : ByteArray} {pc nL : Nat} {ls : Array Slot} {rest : List Value} {D : va_G} {cA : Nat → ClassId} {A : Nat → Prop} {H0 : Heap} {f : HF} {Ts : List Cond} {own : String} {index : Nat}
/-- new int[10][12] -/
theorem h_mnaA (C : cx p m c cc nL s args Ts own D cA) (h : hw D A H0 f H locs) (hc1 : Cond.classLink own index ("[" ++ (FieldType.array .int).toString) ∈ Ts) (hov : va_AOA .int s) (harr : Cond.arrayClass .int ∈ Ts) (hcells : cells + 11 ≤ R.cells) (hslots : slots + 130 ≤ R.slots) (hdg : decode cc pc = .ok (.multianewarray index 2, 4))
    (kk : ∀ (qa : Nat) (r : Nat → Nat) (f1 : HF) (H1 : Heap), (∀ i j : Nat, i < 10 → j < 10 → r i = r j → i = j) → (∀ i, i < 10 → f (r i) = none) → f qa = none → (∀ i, i < 10 → r i ≠ qa) → f1 qa = some (eQ cA 8 10 (fun i => if i < 10 then some (r i) else none)) → (∀ i, i < 10 → f1 (r i) = some (eI cA 12 (fun _ => 0))) → (∀ a, f a ≠ none → f1 a = f a) → hw D A H0 f1 H1 locs →
      W p l e R s m args below meth c H1 locs (cells + 1 + 10) (slots + 10 + 10 * 12) Q (F0 m (pc + 4) ls (.ref qa :: rest))) : W p l e R s m args below meth c H locs cells slots Q (F0 m pc ls (.int (nI 12) :: .int (nI 10) :: rest)) := by
  have hts := C.1.2.2.2.2
  have hK := C.2.1
  obtain ⟨L, g, h1, h2, hP, hD⟩ := h.ls
  have hc0 : s.vm.findClass (FieldType.array .int).toString = some (cA 0) := (hK.2 0 _ rfl).2
  have hc8 : s.vm.findClass ("[" ++ (FieldType.array .int).toString) = some (cA 8) := (hK.2 8 _ rfl).2
  refine va_mna (X := []) (ty := .int) (z := (12, .inl (fun _ => 0))) C.1.1 C.1.2.1 C.1.2.2.2.1 (hts _ hc1) hov (hts _ harr) hc0 hK hP hD h.2.2.1 h.2.2.2 (nI_pos (by decide)) (nI_pos (by decide)) (nI_clamp (by decide)) (nI_clamp (by decide)) (by decide) (by decide) (by decide) rfl rfl (by omega) (by omega) (fun c9 => ?_) hdg (fun qa r cX H1 hr1 hr2 hK2 hP1 hD1 hS1 => ?_)
  · rw [vp_cell_i]
    exact arrV_new _ _ _
  · have hcx : cX = cA 8 := by
      have h9 := (hK2.2 9 (cX, .array .int) rfl).2
      exact Option.some.inj (h9.symm.trans hc8)
    subst hcx
    have hq : ([] ++ [(qa, (eQ cA 8 10 (fun i => if i < 10 then some (r i) else none)))] : va_W)[0]? = some (qa, eQ cA 8 10 (fun i => if i < 10 then some (r i) else none)) := rfl
    have hpool : ∀ a, a ∈ L ++ (List.range 10).map r → ∃ k, ([] ++ [(qa, (eQ cA 8 10 (fun i => if i < 10 then some (r i) else none)))] ++ va_pl (L ++ (List.range 10).map r) (vr_up g ((List.range 10).map r) (.inl (cA 0, 12, .inl (fun _ => 0)))))[k]? = some (a, vr_up g ((List.range 10).map r) (.inl (cA 0, 12, .inl (fun _ => 0))) a) ∧ k ≠ 0 := by
      intro a ha
      obtain ⟨k, hk⟩ := List.getElem?_of_mem (show (a, vr_up g ((List.range 10).map r) (.inl (cA 0, 12, .inl (fun _ => 0))) a) ∈ va_pl (L ++ (List.range 10).map r) (vr_up g ((List.range 10).map r) (.inl (cA 0, 12, .inl (fun _ => 0)))) from List.mem_map.mpr ⟨a, ha, rfl⟩)
      exact ⟨k + 1, hk, by omega⟩
    have hmr : ∀ i, i < 10 → r i ∈ (List.range 10).map r := fun i hi => List.mem_map.mpr ⟨i, List.mem_range.mpr hi, rfl⟩
    have hfr : ∀ i, i < 10 → f (r i) = none := fun i hi => by
      cases hfa : f (r i) with
      | none => rfl
      | some x9 => exact absurd (h1 _ _ hfa).1 (hr2 i hi)
    have hnq : ∀ a, a ∈ L ++ (List.range 10).map r → a ≠ qa := by
      intro a ha e9
      obtain ⟨k, hk, hk0⟩ := hpool a ha
      exact hk0 (hD1.1 k 0 _ _ hk rfl e9)
    have hfq : f qa = none := by
      cases hfa : f qa with
      | none => rfl
      | some x9 => exact absurd rfl (hnq qa (List.mem_append_left _ (h1 _ _ hfa).1))
    refine kk qa r (fun a => if a = qa then some (eQ cA 8 10 (fun i => if i < 10 then some (r i) else none)) else if a ∈ (List.range 10).map r then some (eI cA 12 (fun _ => 0)) else f a) H1 hr1 hfr hfq (fun i hi => hnq _ (List.mem_append_right _ (hmr i hi))) (if_pos rfl) (fun i hi => by rw [if_neg (hnq _ (List.mem_append_right _ (hmr i hi))), if_pos (hmr i hi)]) (fun a ha => ?_) ⟨fun a x9 hx => ?_, fun a ha => ?_, hS1, h.2.2.2⟩
    · have ha1 : a ≠ qa := fun e9 => ha (by rw [e9]; exact hfq)
      have ha2 : a ∉ (List.range 10).map r := fun hm => by
        obtain ⟨i, hi, rfl⟩ := List.mem_map.mp hm
        exact ha (hfr i (List.mem_range.mp hi))
      rw [if_neg ha1, if_neg ha2]
    · dsimp only at hx
      by_cases ha1 : a = qa
      · subst ha1
        rw [if_pos rfl] at hx
        cases hx
        exact hP1 0 _ rfl
      · rw [if_neg ha1] at hx
        by_cases ha2 : a ∈ (List.range 10).map r
        · rw [if_pos ha2] at hx
          cases hx
          obtain ⟨k, hk, -⟩ := hpool a (List.mem_append_right _ ha2)
          rw [vr_up_in ha2] at hk
          exact hP1 k _ hk
        · rw [if_neg ha2] at hx
          obtain ⟨hm, hg⟩ := h1 a x9 hx
          obtain ⟨k, hk, -⟩ := hpool a (List.mem_append_left _ hm)
          rw [vr_up_ne ha2, hg] at hk
          exact hP1 k _ hk
    · dsimp only at ha
      by_cases ha1 : a = qa
      · subst ha1
        exact hD1.2 0 _ rfl
      · rw [if_neg ha1] at ha
        by_cases ha2 : a ∈ (List.range 10).map r
        · obtain ⟨k, hk, -⟩ := hpool a (List.mem_append_right _ ha2)
          exact hD1.2 k _ hk
        · rw [if_neg ha2] at ha
          exact h.2.1 a ha
end HMNB
/-! ===== new arrays of references ===== -/
section HNQB
variable {p : Program} {l : Launch} {e : Env} {R : Room} {s : State} {m : MethodId} {args : Array Value} {below : List Frame} {meth : Method} {c : Code} {H : Heap} {locs : List Loc} {cells slots : Nat} {Q : State → Prop}
variable {cc : ByteArray} {pc nL : Nat} {ls : Array Slot} {rest : List Value} {D : va_G} {cA : Nat → ClassId} {A : Nat → Prop} {H0 : Heap} {f : HF} {Ts : List Cond} {own : String} {index : Nat}
theorem h_newqA (C : cx p m c cc nL s args Ts own D cA) (h : hw D A H0 f H locs) (t0 : Nat) {N : Nat} {Co : String} (ht : (aTys cA)[t0]? = some (cA t0, .object Co)) (hc1 : Cond.classLink own index Co ∈ Ts) (hov : va_AO Co s) (hN : N ≤ 100000) (hcells : cells + 1 ≤ R.cells) (hslots : slots + N ≤ R.slots) (hdg : decode cc pc = .ok (.anewarray index, 3))
    (kk : ∀ (q : Nat) (H1 : Heap), f q = none → hw D A H0 (va_up f q (some (eQ cA t0 N (fun _ => none)))) H1 locs → W p l e R s m args below meth c H1 locs (cells + 1) (slots + N) Q (F0 m (pc + 3) ls (.ref q :: rest))) : W p l e R s m args below meth c H locs cells slots Q (F0 m pc ls (.int (nI N) :: rest)) := by
  obtain ⟨L, g, h1, h2, hP, hD⟩ := h.ls
  have hts := C.1.2.2.2.2
  refine va_newq C.1.1 C.1.2.1 C.1.2.2.2.1 (hts _ hc1) hov C.2.1 hP hD h.2.2.1 h.2.2.2 (nI_pos (by omega)) (nI_clamp (by omega)) (by omega) hcells hslots hdg (fun q cX H1 hK2 hP1 hD1 hS1 => ?_)
  obtain ⟨k1, c1, -, -, -, hc0⟩ := (C.2.1.2 t0 _ ht).2
  obtain ⟨k2, c2, -, -, -, h9⟩ := (hK2.2 9 (cX, .object Co) rfl).2
  have hcx : cX = cA t0 := Option.some.inj (h9.symm.trans hc0)
  subst hcx
  have hb := h.born h1 hP1 hD1 hS1
  exact kk q H1 hb.2 hb.1
end HNQB
def aoK (U : State) : Prop := va_AO RX5 U ∧ va_AO RX10 U ∧ va_AO RX3 U ∧ va_AO RX6 U ∧ va_AO RX8 U ∧ va_AOA .int U
theorem aoK.mv {s U : State} (hW : s.vm.Alike U.vm) (h : aoK s) : aoK U := ⟨h.1.moved hW, h.2.1.moved hW, h.2.2.1.moved hW, h.2.2.2.1.moved hW, h.2.2.2.2.1.moved hW, h.2.2.2.2.2.moved hW⟩
def hBA (D : va_G) (cA : Nat → ClassId) (f : HF) (sz : Nat) (U : State) : Prop := hB D cA f sz U ∧ aoK U
section HAO
variable {p : Program} {l : Launch} {e : Env} {R : Room} {s : State} {m : MethodId} {args : Array Value} {below : List Frame} {meth : Method} {c : Code} {H : Heap} {locs : List Loc} {cells slots : Nat} {Q : State → Prop}
variable {cc : ByteArray} {pc nL : Nat} {ls : Array Slot} {rest : List Value} {D : va_G} {cA : Nat → ClassId} {A : Nat → Prop} {H0 : Heap} {f : HF} {Ts : List Cond} {own : String} {index sz : Nat}
variable {y : MethodName} {bytes : ByteArray} {maxL mc ms n : Nat} {ret : Option FieldType} {ws ws' : List Cond} {rm : Room} {Qc : Array Value → State → Outcome → State → Prop} {As st0 : List Value} {bo : Nat}
theorem h_blindA {av : List Value} {sz : Nat} : FrameBlind (va_Pc av (hBA D cA f sz)) := fun _ U g mk q => by
  obtain ⟨q0, ⟨q1, q2, q3⟩, q4⟩ := q
  exact ⟨q0, ⟨q1, q2, hK.same (s := U) rfl q3⟩, q4.mv (Vm.Alike.refl U.vm)⟩
theorem h_runIA (C : cx p m c cc nL s args Ts own D cA) (hao : aoK s) (h : hw D A H0 f H locs) (hM : Met l y ws rm (va_Pc (.ref bo :: As) (hBA D cA f H.size)) Qc mc ms (hA f H.size)) (hG : GoodIn Ts ws) (hwd : ws = Cond.code y bytes maxL none :: ws') (hrc : rm.cells = mc) (hrs : rm.slots = ms) (hs1 : Cond.initialized y.cls ∈ Ts) (hs2 : Cond.methodLink own index y ∈ Ts) (hs3 : Cond.instanceMethod y ∈ Ts) (hy1 : y.name = "<init>")
    (hd : y.cls ≠ "java/lang/invoke/MethodHandle" ∧ y.cls ≠ "java/lang/invoke/VarHandle" ∧ (parseMethodDescriptor y.desc).map (fun d => d.parameters.length) = some n) (hR : rm.frames + 1 ≤ R.frames ∧ 8 + (maxL + 11) + rm.locals ≤ R.locals)
    (hn : As.length = n) (hsz : ls.size = nL) (hst : st0 = As.reverse ++ .ref bo :: rest) (hrest : (rest.map fun v => v.category).sum ≤ 8) (hdg : decode cc pc = .ok (.invokespecial index, 3)) (hfit : cells + mc ≤ R.cells ∧ slots + ms ≤ R.slots) :
    va_Run p l e R s m args below meth c H locs cells slots mc ms (F0 m pc ls st0) rest (Qc (Value.ref bo :: As).toArray) (hA f H.size) :=
  va_runI C.1 hM (cwI n C.1.2.2.2.2 hG hwd hrc hrs (C.1.2.2.2.2 _ hs1) (C.1.2.2.2.2 _ hs2) (C.1.2.2.2.2 _ hs3) hy1 hd hR) ⟨h_blindA, fun U hU hW => ⟨rfl, ⟨by rw [hU], by rw [hU]; exact h.1, hK.warm hW C.2⟩, hao.mv hW.alike⟩⟩ rfl hn hsz hst (lv_room hrest) hdg hfit
theorem h_ofA {vs : List Value} (hy : plainName y.cls = true) (hwd : ws = Cond.code y cc maxL ret :: ws') (hlen : (lg_sl vs).length ≤ maxL)
    (body : ∀ (p : Program) (e : Env) (s : State) (m : MethodId) (below : List Frame) (meth : Method) (c : Code) (ls : Array Slot), cx p m c cc maxL s vs.toArray ws y.cls D cA → aoK s → meth.sig.returnType = ret → meth.locks = false → meth.name = y.name → hw D (hA f sz) s.heap f s.heap [] → lv_has ls maxL (lv_args 0 vs) →
      W p l e rm s m vs.toArray below meth c s.heap [] 0 0 (MQ below Qc vs.toArray s mc ms (hA f sz)) (F0 m 0 ls [])) : Met l y ws rm (va_Pc vs (hBA D cA f sz)) Qc mc ms (hA f sz) := by
  refine Met.ofW (cc := cc) (maxL := maxL) (ret := ret) hy hwd ?_
  intro p e s m args below meth c s₁ B hml hv
  obtain ⟨rfl, ⟨hsz, hPh, hKK⟩, hao⟩ := hv
  rw [lg_entry_eq]
  refine body p e s m below meth c _ ⟨⟨B.exec, B.bytes, hml, findClass_of_methodNamed B.named, atoms_spec (ws := ws) B.pre⟩, hKK⟩ hao B.returns B.notSynchronized (name_of_methodNamed B.named B.method).1 ⟨hPh, fun a ha => Or.inl ha, va_S.rf, fun q hq => Or.inr (by rw [← hsz]; exact hq)⟩ (lv_entry vs hlen)
end HAO
/-! constructors: one object made whole, with all the cells that come with it -/
def lyO (f0 f : HF) (a : Nat) (e : va_E) (L : List (Nat × va_E)) : Prop := f a = some e ∧ (∀ x y, f0 x = some y → x ≠ a → f x = some y) ∧ (∀ (k : Nat) (p : Nat × va_E), L[k]? = some p → f p.1 = some p.2 ∧ f0 p.1 = none ∧ p.1 ≠ a) ∧ ∀ (i j : Nat) (p q : Nat × va_E), L[i]? = some p → L[j]? = some q → p.1 = q.1 → i = j
section LY
variable {f0 f f1 : HF} {a : Nat} {e : va_E} {L : List (Nat × va_E)}
theorem ly_0 (h : f0 a = some e) : lyO f0 f0 a e [] := ⟨h, fun _ _ hx _ => hx, fun k p hp => by simp at hp, fun i j p q hp => by simp at hp⟩
theorem ly_get (h : lyO f0 f a e L) (k : Nat) {x : Nat} {y : va_E} (hk : L[k]? = some (x, y)) : f x = some y := (h.2.2.1 k (x, y) hk).1
theorem ly_new (h : lyO f0 f a e L) {q : Nat} {x : va_E} (hq : f q = none) (e1 : f1 = va_up f q (some x)) : lyO f0 f1 a e (L ++ [(q, x)]) := by
  have hqa : a ≠ q := ne_new h.1 hq
  have hlast : ∀ (k : Nat) (p : Nat × va_E), (L ++ [(q, x)])[k]? = some p → (k < L.length ∧ L[k]? = some p) ∨ (k = L.length ∧ p = (q, x)) := fun k p hp => by
    rcases Nat.lt_or_ge k L.length with hk | hk
    · rw [List.getElem?_append_left hk] at hp; exact Or.inl ⟨hk, hp⟩
    · rw [List.getElem?_append_right hk] at hp
      have hk2 : k = L.length := by
        have := (List.getElem?_eq_some_iff.mp hp).1
        rw [List.length_singleton] at this
        omega
      subst hk2
      rw [Nat.sub_self] at hp
      cases hp
      exact Or.inr ⟨rfl, rfl⟩
  have h0q : f0 q = none := by
    cases h9 : f0 q with
    | none => rfl
    | some y => have := h.2.1 q y h9 (Ne.symm hqa); rw [hq] at this; cases this
  refine ⟨up_o e1 hqa h.1, fun z y hz hn => up_n e1 hq (h.2.1 z y hz hn), fun k p hp => ?_, fun i j p r hp hr hpr => ?_⟩
  · rcases hlast k p hp with ⟨-, h2⟩ | ⟨-, rfl⟩
    · obtain ⟨g1, g2, g3⟩ := h.2.2.1 k p h2
      exact ⟨up_n e1 hq g1, g2, g3⟩
    · exact ⟨up_s e1, h0q, Ne.symm hqa⟩
  · rcases hlast i p hp with ⟨hi, h2⟩ | ⟨hi, rfl⟩
    · rcases hlast j r hr with ⟨hj, h3⟩ | ⟨hj, rfl⟩
      · exact h.2.2.2 i j p r h2 h3 hpr
      · have := (h.2.2.1 i p h2).1; rw [hpr, hq] at this; cases this
    · rcases hlast j r hr with ⟨hj, h3⟩ | ⟨hj, rfl⟩
      · have := (h.2.2.1 j r h3).1; rw [← hpr, hq] at this; cases this
      · omega
theorem ly_seta (h : lyO f0 f a e L) {e2 : va_E} (e1 : f1 = va_up f a (some e2)) : lyO f0 f1 a e2 L := ⟨up_s e1, fun z y hz hn => up_o e1 hn (h.2.1 z y hz hn), fun k p hp => by
  obtain ⟨g1, g2, g3⟩ := h.2.2.1 k p hp
  exact ⟨up_o e1 g3 g1, g2, g3⟩, h.2.2.2⟩
theorem ly_set (h : lyO f0 f a e L) (k : Nat) {q : Nat} {x x2 : va_E} (hk : L[k]? = some (q, x)) (e1 : f1 = va_up f q (some x2)) : lyO f0 f1 a e (L.set k (q, x2)) := by
  obtain ⟨g1, g2, g3⟩ := h.2.2.1 k _ hk
  have hkl : k < L.length := (List.getElem?_eq_some_iff.mp hk).1
  have hs : ∀ (j : Nat) (p : Nat × va_E), (L.set k (q, x2))[j]? = some p → (j = k ∧ p = (q, x2)) ∨ (j ≠ k ∧ L[j]? = some p) := fun j p hp => by
    by_cases e9 : j = k
    · subst e9
      rw [List.getElem?_set_self hkl] at hp
      cases hp
      exact Or.inl ⟨rfl, rfl⟩
    · rw [List.getElem?_set_ne (Ne.symm e9)] at hp
      exact Or.inr ⟨e9, hp⟩
  refine ⟨up_o e1 (Ne.symm g3) h.1, fun z y hz hn => up_o e1 (ne_new hz g2) (h.2.1 z y hz hn), fun j p hp => ?_, fun i j p r hp hr hpr => ?_⟩
  · rcases hs j p hp with ⟨-, rfl⟩ | ⟨hn, h2⟩
    · exact ⟨up_s e1, g2, g3⟩
    · obtain ⟨k1, k2, k3⟩ := h.2.2.1 j p h2
      exact ⟨up_o e1 (fun e9 => hn (h.2.2.2 j k p _ h2 hk e9)) k1, k2, k3⟩
  · have hh : ∀ (j : Nat) (p : Nat × va_E), (L.set k (q, x2))[j]? = some p → ∃ y, L[j]? = some (p.1, y) := fun j p hp => by
      rcases hs j p hp with ⟨rfl, rfl⟩ | ⟨hn, h2⟩
      · exact ⟨x, hk⟩
      · exact ⟨p.2, h2⟩
    obtain ⟨y1, hy1⟩ := hh i p hp
    obtain ⟨y2, hy2⟩ := hh j r hr
    exact h.2.2.2 i j _ _ hy1 hy2 hpr
theorem ly_app (h : lyO f0 f a e L) {q : Nat} {x x2 : va_E} {M : List (Nat × va_E)} (k : Nat) (hk : L[k]? = some (q, x)) (hc : lyO f f1 q x2 M) : lyO f0 f1 a e (L.set k (q, x2) ++ M) := by
  obtain ⟨g1, g2, g3⟩ := h.2.2.1 k _ hk
  have hkl : k < L.length := (List.getElem?_eq_some_iff.mp hk).1
  have hs : ∀ (j : Nat) (p : Nat × va_E), (L.set k (q, x2) ++ M)[j]? = some p → (j = k ∧ p = (q, x2)) ∨ (j < L.length ∧ j ≠ k ∧ L[j]? = some p) ∨ (L.length ≤ j ∧ M[j - L.length]? = some p) := fun j p hp => by
    rcases Nat.lt_or_ge j L.length with hj | hj
    · rw [List.getElem?_append_left (by rw [List.length_set]; exact hj)] at hp
      by_cases e9 : j = k
      · subst e9
        rw [List.getElem?_set_self hkl] at hp
        cases hp
        exact Or.inl ⟨rfl, rfl⟩
      · rw [List.getElem?_set_ne (Ne.symm e9)] at hp
        exact Or.inr (Or.inl ⟨hj, e9, hp⟩)
    · rw [List.getElem?_append_right (by rw [List.length_set]; exact hj), List.length_set] at hp
      exact Or.inr (Or.inr ⟨hj, hp⟩)
  have hfn : ∀ p : Nat × va_E, f p.1 = none → f0 p.1 = none ∧ p.1 ≠ a := fun p hp => by
    have hpa : p.1 ≠ a := fun e9 => by rw [e9, h.1] at hp; cases hp
    refine ⟨?_, hpa⟩
    cases h9 : f0 p.1 with
    | none => rfl
    | some y => have := h.2.1 _ y h9 hpa; rw [hp] at this; cases this
  refine ⟨hc.2.1 a e h.1 (Ne.symm g3), fun z y hz hn => hc.2.1 z y (h.2.1 z y hz hn) (ne_new hz g2), fun j p hp => ?_, fun i j p r hp hr hpr => ?_⟩
  · rcases hs j p hp with ⟨-, rfl⟩ | ⟨hj, hn, h2⟩ | ⟨hj, h2⟩
    · exact ⟨hc.1, g2, g3⟩
    · obtain ⟨k1, k2, k3⟩ := h.2.2.1 j p h2
      exact ⟨hc.2.1 _ _ k1 (fun e9 => hn (h.2.2.2 j k p _ h2 hk e9)), k2, k3⟩
    · obtain ⟨k1, k2, k3⟩ := hc.2.2.1 _ p h2
      exact ⟨k1, (hfn p k2).1, (hfn p k2).2⟩
  · have hL : ∀ (j : Nat) (p : Nat × va_E), (L.set k (q, x2) ++ M)[j]? = some p → (j < L.length ∧ ∃ y, L[j]? = some (p.1, y)) ∨ (L.length ≤ j ∧ M[j - L.length]? = some p) := fun j p hp => by
      rcases hs j p hp with ⟨rfl, rfl⟩ | ⟨hj, hn, h2⟩ | ⟨hj, h2⟩
      · exact Or.inl ⟨hkl, x, hk⟩
      · exact Or.inl ⟨hj, p.2, h2⟩
      · exact Or.inr ⟨hj, h2⟩
    rcases hL i p hp with ⟨hi, y1, hy1⟩ | ⟨hi, hm1⟩
    · rcases hL j r hr with ⟨hj, y2, hy2⟩ | ⟨hj, hm2⟩
      · exact h.2.2.2 i j _ _ hy1 hy2 hpr
      · have k1 := (h.2.2.1 i _ hy1).1
        have k2 := (hc.2.2.1 _ r hm2).2.1
        rw [← hpr] at k2
        rw [k2] at k1; cases k1
    · rcases hL j r hr with ⟨hj, y2, hy2⟩ | ⟨hj, hm2⟩
      · have k1 := (h.2.2.1 j _ hy2).1
        have k2 := (hc.2.2.1 _ p hm1).2.1
        rw [hpr] at k2
        rw [k2] at k1; cases k1
      · have := hc.2.2.2 _ _ p r hm1 hm2 hpr
        omega
end LY
theorem thr_eq {n T : Nat} (h : (n = 10 ∧ T = 120) ∨ (n = 12 ∧ T = 220)) : nI n * (nI n - nI 1) * (nI n - nI 2) = nI (T * 6) ∧ (if nI 0 < nI T then nI T else nI 0) = nI T := by
  rcases h with ⟨rfl, rfl⟩ | ⟨rfl, rfl⟩ <;> decide
theorem ly_mna {cA : Nat → ClassId} {f0 f f1 : HF} {a : Nat} {e : va_E} {L : List (Nat × va_E)} (h : lyO f0 f a e L) {qa : Nat} {r : Nat → Nat} (h1 : ∀ i j : Nat, i < 10 → j < 10 → r i = r j → i = j) (h2 : ∀ i, i < 10 → f (r i) = none) (h3 : f qa = none) (h4 : ∀ i, i < 10 → r i ≠ qa) (h5 : f1 qa = some (eQ cA 8 10 (fun i => if i < 10 then some (r i) else none))) (h6 : ∀ i, i < 10 → f1 (r i) = some (eI cA 12 (fun _ => 0))) (h7 : ∀ a, f a ≠ none → f1 a = f a) : lyO f0 f1 a e (L ++ [(qa, eQ cA 8 10 (fun i => if i < 10 then some (r i) else none)), (r 0, eI cA 12 (fun _ => 0)), (r 1, eI cA 12 (fun _ => 0)), (r 2, eI cA 12 (fun _ => 0)), (r 3, eI cA 12 (fun _ => 0)), (r 4, eI cA 12 (fun _ => 0)), (r 5, eI cA 12 (fun _ => 0)), (r 6, eI cA 12 (fun _ => 0)), (r 7, eI cA 12 (fun _ => 0)), (r 8, eI cA 12 (fun _ => 0)), (r 9, eI cA 12 (fun _ => 0))]) := by
  have hp : ∀ x y, f x = some y → f1 x = some y := fun x y hx => by rw [h7 x (by rw [hx]; exact fun h9 => by cases h9), hx]
  have hfn : ∀ x, f x = none → f0 x = none ∧ x ≠ a := fun x hx => by
    have hpa : x ≠ a := fun e9 => by rw [e9, h.1] at hx; cases hx
    refine ⟨?_, hpa⟩
    cases h9 : f0 x with
    | none => rfl
    | some y => have := h.2.1 _ y h9 hpa; rw [hx] at this; cases this
  -- the new ones by their numbers
  have hN : ∀ (k : Nat) (p : Nat × va_E), ([(qa, eQ cA 8 10 (fun i => if i < 10 then some (r i) else none)), (r 0, eI cA 12 (fun _ => 0)), (r 1, eI cA 12 (fun _ => 0)), (r 2, eI cA 12 (fun _ => 0)), (r 3, eI cA 12 (fun _ => 0)), (r 4, eI cA 12 (fun _ => 0)), (r 5, eI cA 12 (fun _ => 0)), (r 6, eI cA 12 (fun _ => 0)), (r 7, eI cA 12 (fun _ => 0)), (r 8, eI cA 12 (fun _ => 0)), (r 9, eI cA 12 (fun _ => 0))] : List (Nat × va_E))[k]? = some p → (k = 0 ∧ p = (qa, eQ cA 8 10 (fun i => if i < 10 then some (r i) else none))) ∨ (∃ i, i < 10 ∧ k = i + 1 ∧ p = (r i, eI cA 12 (fun _ => 0))) := fun k p hk => by
    match k, hk with
    | 0, hk => cases hk; exact Or.inl ⟨rfl, rfl⟩
    | 1, hk => cases hk; exact Or.inr ⟨0, by decide, rfl, rfl⟩
    | 2, hk => cases hk; exact Or.inr ⟨1, by decide, rfl, rfl⟩
    | 3, hk => cases hk; exact Or.inr ⟨2, by decide, rfl, rfl⟩
    | 4, hk => cases hk; exact Or.inr ⟨3, by decide, rfl, rfl⟩
    | 5, hk => cases hk; exact Or.inr ⟨4, by decide, rfl, rfl⟩
    | 6, hk => cases hk; exact Or.inr ⟨5, by decide, rfl, rfl⟩
    | 7, hk => cases hk; exact Or.inr ⟨6, by decide, rfl, rfl⟩
    | 8, hk => cases hk; exact Or.inr ⟨7, by decide, rfl, rfl⟩
    | 9, hk => cases hk; exact Or.inr ⟨8, by decide, rfl, rfl⟩
    | 10, hk => cases hk; exact Or.inr ⟨9, by decide, rfl, rfl⟩
    | n + 11, hk => simp at hk
  generalize ([(qa, eQ cA 8 10 (fun i => if i < 10 then some (r i) else none)), (r 0, eI cA 12 (fun _ => 0)), (r 1, eI cA 12 (fun _ => 0)), (r 2, eI cA 12 (fun _ => 0)), (r 3, eI cA 12 (fun _ => 0)), (r 4, eI cA 12 (fun _ => 0)), (r 5, eI cA 12 (fun _ => 0)), (r 6, eI cA 12 (fun _ => 0)), (r 7, eI cA 12 (fun _ => 0)), (r 8, eI cA 12 (fun _ => 0)), (r 9, eI cA 12 (fun _ => 0))] : List (Nat × va_E)) = M at hN ⊢
  have hNn : ∀ (k : Nat) (p : Nat × va_E), M[k]? = some p → f p.1 = none ∧ f1 p.1 = some p.2 := fun k p hk => by
    rcases hN k p hk with ⟨-, rfl⟩ | ⟨i, hi, -, rfl⟩
    · exact ⟨h3, h5⟩
    · exact ⟨h2 i hi, h6 i hi⟩
  have hL : ∀ (j : Nat) (p : Nat × va_E), (L ++ M)[j]? = some p → (j < L.length ∧ L[j]? = some p) ∨ (L.length ≤ j ∧ M[j - L.length]? = some p) := fun j p hp => by
    rcases Nat.lt_or_ge j L.length with hj | hj
    · rw [List.getElem?_append_left hj] at hp; exact Or.inl ⟨hj, hp⟩
    · rw [List.getElem?_append_right hj] at hp; exact Or.inr ⟨hj, hp⟩
  refine ⟨hp a e h.1, fun z y hz hn => hp z y (h.2.1 z y hz hn), fun k p hk => ?_, fun i j p q hi hj hpq => ?_⟩
  · rcases hL k p hk with ⟨-, h8⟩ | ⟨-, h8⟩
    · obtain ⟨g1, g2, g3⟩ := h.2.2.1 k p h8
      exact ⟨hp _ _ g1, g2, g3⟩
    · obtain ⟨g1, g2⟩ := hNn _ p h8
      exact ⟨g2, (hfn _ g1).1, (hfn _ g1).2⟩
  · rcases hL i p hi with ⟨a1, h8⟩ | ⟨a1, h8⟩
    · rcases hL j q hj with ⟨a2, h9⟩ | ⟨a2, h9⟩
      · exact h.2.2.2 i j p q h8 h9 hpq
      · have k1 := (h.2.2.1 i p h8).1; have k2 := (hNn _ q h9).1; rw [← hpq] at k2; rw [k2] at k1; cases k1
    · rcases hL j q hj with ⟨a2, h9⟩ | ⟨a2, h9⟩
      · have k1 := (h.2.2.1 j q h9).1; have k2 := (hNn _ p h8).1; rw [hpq] at k2; rw [k2] at k1; cases k1
      · rcases hN _ p h8 with ⟨b1, rfl⟩ | ⟨i1, hi1, b1, rfl⟩
        · rcases hN _ q h9 with ⟨b2, rfl⟩ | ⟨i2, hi2, b2, rfl⟩
          · omega
          · exact absurd hpq.symm (h4 i2 hi2)
        · rcases hN _ q h9 with ⟨b2, rfl⟩ | ⟨i2, hi2, b2, rfl⟩
          · exact absurd hpq (h4 i1 hi1)
          · have := h1 i1 i2 hi1 hi2 hpq; omega
set_option maxHeartbeats 4000000 in
set_option maxRecDepth 100000 in
theorem c_X4_init {l : Launch} {D : va_G} {cA : Nat → ClassId} {f : HF} {sz : Nat} {a : Nat} {v0 v1 v2 v3 : Value} {lm : Nat}  (h0 : f a = some (eO 4 [v0, v1, v2, v3])) (hlm : lm ≤ 12) : Met l yX4_init wsX4_init ({ frames := 1, cells := 2, slots := 24, locals := 20 } : Room) (va_Pc [.ref a, .int (nI lm)] (hB D cA f sz)) (va_Qv (fun f1 => ∃ qx qy, lyO f f1 a (eO 4 [.int (nI lm), .ref qx, .ref qy, .int (nI 0)]) [(qx, eI cA lm (fun _ => 0)), (qy, eI cA lm (fun _ => 0))]) (hE D f sz) (hA f sz)) 2 24 (hA f sz) := by
  refine h_of (cc := cX4_init) (maxL := 2) (ret := none) (by decide +kernel) rfl (Nat.le_of_ble_eq_true rfl) ?_
  intro p e s m below meth c ls C hr hlk hnm hw hl
  have hx := C.1.1
  have hb := C.1.2.1
  have hl : lv_has ls 2 [(0, .ref a), (1, .int (nI lm))] := hl
  have lk0 : Cond.methodLink RX4 1 objectInit ∈ wsX4_init := by decide +kernel
  have lk1 : Cond.instanceMethod objectInit ∈ wsX4_init := by decide +kernel
  have lk2 : Cond.code objectInit ⟨#[0xb1]⟩ 1 none ∈ wsX4_init := by decide +kernel
  have lk3 : Cond.fieldLink RX4 7 "FallingLight$Points" "limit" "I" ∈ wsX4_init := by decide +kernel
  have lk4 : ∀ w ∈ u_ws RX4 TX4 4, w ∈ wsX4_init := by decide +kernel
  have lk5 : Cond.arrayClass .int ∈ wsX4_init := by decide +kernel
  have lk6 : Cond.fieldLink RX4 13 "FallingLight$Points" "x" "[I" ∈ wsX4_init := by decide +kernel
  have lk7 : Cond.fieldLink RX4 17 "FallingLight$Points" "y" "[I" ∈ wsX4_init := by decide +kernel
  have lk8 : Cond.fieldLink RX4 20 "FallingLight$Points" "size" "I" ∈ wsX4_init := by decide +kernel
  have hLy := ly_0 h0
  refine lv_aload_n hx hb dX4_init_0 rfl (lv_at hl 0 rfl) ?_
  refine W.objInit hx hb C.1.2.2.2.1 (C.1.2.2.2.2 _ lk0) (C.1.2.2.2.2 _ lk1) (C.1.2.2.2.2 _ lk2) rfl (hl.1.trans C.1.2.2.1.symm) rfl dX4_init_1 (Nat.le_of_ble_eq_true rfl) (Nat.le_of_ble_eq_true rfl) ?_
  refine W.eq (g2 := F0 m 4 ls []) rfl ?_
  refine lv_aload_n hx hb dX4_init_4 rfl (lv_at hl 0 rfl) ?_
  refine lv_iload_n hx hb dX4_init_5 rfl (lv_at hl 1 rfl) ?_
  refine h_putF1 C hw bX4 hLy.1 lk4 0 (by decide) lk3 rfl hnm rfl rfl rfl (Nat.le_of_ble_eq_true rfl) dX4_init_6 (fun f1 H locs e2 hw => ?_)
  have hLy : lyO f f1 a (eO 4 [.int (nI lm), v1, v2, v3]) [] := ly_seta hLy e2
  refine lv_aload_n hx hb dX4_init_9 rfl (lv_at hl 0 rfl) ?_
  refine lv_iload_n hx hb dX4_init_10 rfl (lv_at hl 1 rfl) ?_
  refine h_newi C hw lk5 (by first | decide | omega) (by first | decide | omega | (dsimp only; omega)) (by first | decide | omega | (dsimp only; omega)) dX4_init_11 (fun q3 H hq6 hw => ?_)
  generalize e5 : va_up _ q3 _ = f4 at hw
  replace e5 := Eq.symm e5
  have hLy : lyO f f4 a (eO 4 [.int (nI lm), v1, v2, v3]) [(q3, eI cA lm (fun _ => 0))] := ly_new hLy hq6 e5
  refine h_putF1 C hw bX4 hLy.1 lk4 1 (by decide) lk6 rfl hnm rfl rfl rfl (Nat.le_of_ble_eq_true rfl) dX4_init_13 (fun f7 H locs e8 hw => ?_)
  have hLy : lyO f f7 a (eO 4 [.int (nI lm), .ref q3, v2, v3]) [(q3, eI cA lm (fun _ => 0))] := ly_seta hLy e8
  refine lv_aload_n hx hb dX4_init_16 rfl (lv_at hl 0 rfl) ?_
  refine lv_iload_n hx hb dX4_init_17 rfl (lv_at hl 1 rfl) ?_
  refine h_newi C hw lk5 (by first | decide | omega) (by first | decide | omega | (dsimp only; omega)) (by first | decide | omega | (dsimp only; omega)) dX4_init_18 (fun q9 H hq12 hw => ?_)
  generalize e11 : va_up _ q9 _ = f10 at hw
  replace e11 := Eq.symm e11
  have hLy : lyO f f10 a (eO 4 [.int (nI lm), .ref q3, v2, v3]) [(q3, eI cA lm (fun _ => 0)), (q9, eI cA lm (fun _ => 0))] := ly_new hLy hq12 e11
  refine h_putF1 C hw bX4 hLy.1 lk4 2 (by decide) lk7 rfl hnm rfl rfl rfl (Nat.le_of_ble_eq_true rfl) dX4_init_20 (fun f13 H locs e14 hw => ?_)
  have hLy : lyO f f13 a (eO 4 [.int (nI lm), .ref q3, .ref q9, v3]) [(q3, eI cA lm (fun _ => 0)), (q9, eI cA lm (fun _ => 0))] := ly_seta hLy e14
  refine lv_aload_n hx hb dX4_init_23 rfl (lv_at hl 0 rfl) ?_
  refine lv_iconst (v := nI 0) hx hb dX4_init_24 (by decide) ?_
  refine h_put1 C hw bX4 hLy.1 lk4 3 (by decide) lk8 rfl rfl rfl (Nat.le_of_ble_eq_true rfl) dX4_init_25 (fun f15 H locs e16 hw => ?_)
  have hLy : lyO f f15 a (eO 4 [.int (nI lm), .ref q3, .ref q9, .int (nI 0)]) [(q3, eI cA lm (fun _ => 0)), (q9, eI cA lm (fun _ => 0))] := ly_seta hLy e16
  refine W.widen (k := 2) (n := 24) (by first | decide | omega | (dsimp only; omega)) (by first | decide | omega | (dsimp only; omega)) ?_
  exact h_vret C hr hlk hw (⟨_, _, hLy⟩) dX4_init_28
set_option maxHeartbeats 4000000 in
set_option maxRecDepth 100000 in
theorem c_X5_init {l : Launch} {D : va_G} {cA : Nat → ClassId} {f : HF} {sz : Nat} {a : Nat} {v0 v1 : Value}  (h0 : f a = some (eO 5 [v0, v1])) : Met l yX5_init wsX5_init ({ frames := 1, cells := 1, slots := 24, locals := 20 } : Room) (va_Pc [.ref a] (hB D cA f sz)) (va_Qv (fun f1 => ∃ qp, lyO f f1 a (eO 5 [.ref qp, .int (-1)]) [(qp, eS cA 24 (fun _ => 0))]) (hE D f sz) (hA f sz)) 1 24 (hA f sz) := by
  refine h_of (cc := cX5_init) (maxL := 1) (ret := none) (by decide +kernel) rfl (Nat.le_of_ble_eq_true rfl) ?_
  intro p e s m below meth c ls C hr hlk hnm hw hl
  have hx := C.1.1
  have hb := C.1.2.1
  have hl : lv_has ls 1 [(0, .ref a)] := hl
  have lk0 : Cond.methodLink RX5 3 objectInit ∈ wsX5_init := by decide +kernel
  have lk1 : Cond.instanceMethod objectInit ∈ wsX5_init := by decide +kernel
  have lk2 : Cond.code objectInit ⟨#[0xb1]⟩ 1 none ∈ wsX5_init := by decide +kernel
  have lk3 : Cond.arrayClass .short ∈ wsX5_init := by decide +kernel
  have lk4 : Cond.fieldLink RX5 9 "FallingLight$Row" "places" "[S" ∈ wsX5_init := by decide +kernel
  have lk5 : ∀ w ∈ u_ws RX5 TX5 2, w ∈ wsX5_init := by decide +kernel
  have lk6 : Cond.fieldLink RX5 15 "FallingLight$Row" "length" "I" ∈ wsX5_init := by decide +kernel
  have hLy := ly_0 h0
  refine lv_aload_n hx hb dX5_init_0 rfl (lv_at hl 0 rfl) ?_
  refine W.objInit hx hb C.1.2.2.2.1 (C.1.2.2.2.2 _ lk0) (C.1.2.2.2.2 _ lk1) (C.1.2.2.2.2 _ lk2) rfl (hl.1.trans C.1.2.2.1.symm) rfl dX5_init_1 (Nat.le_of_ble_eq_true rfl) (Nat.le_of_ble_eq_true rfl) ?_
  refine W.eq (g2 := F0 m 4 ls []) rfl ?_
  refine lv_aload_n hx hb dX5_init_4 rfl (lv_at hl 0 rfl) ?_
  refine lv_bipush (v := nI 24) hx hb dX5_init_5 (by decide) ?_
  refine h_news C hw lk3 (by first | decide | omega) (by first | decide | omega | (dsimp only; omega)) (by first | decide | omega | (dsimp only; omega)) dX5_init_7 (fun q1 H hq4 hw => ?_)
  generalize e3 : va_up _ q1 _ = f2 at hw
  replace e3 := Eq.symm e3
  have hLy : lyO f f2 a (eO 5 [v0, v1]) [(q1, eS cA 24 (fun _ => 0))] := ly_new hLy hq4 e3
  refine h_putF1 C hw bX5 hLy.1 lk5 0 (by decide) lk4 rfl hnm rfl rfl rfl (Nat.le_of_ble_eq_true rfl) dX5_init_9 (fun f5 H locs e6 hw => ?_)
  have hLy : lyO f f5 a (eO 5 [.ref q1, v1]) [(q1, eS cA 24 (fun _ => 0))] := ly_seta hLy e6
  refine lv_aload_n hx hb dX5_init_12 rfl (lv_at hl 0 rfl) ?_
  refine lv_iconst (v := (-1)) hx hb dX5_init_13 (by decide) ?_
  refine h_put1 C hw bX5 hLy.1 lk5 1 (by decide) lk6 rfl rfl rfl (Nat.le_of_ble_eq_true rfl) dX5_init_14 (fun f7 H locs e8 hw => ?_)
  have hLy : lyO f f7 a (eO 5 [.ref q1, .int (-1)]) [(q1, eS cA 24 (fun _ => 0))] := ly_seta hLy e8
  refine W.widen (k := 1) (n := 24) (by first | decide | omega | (dsimp only; omega)) (by first | decide | omega | (dsimp only; omega)) ?_
  exact h_vret C hr hlk hw (⟨_, hLy⟩) dX5_init_17
set_option maxHeartbeats 4000000 in
set_option maxRecDepth 100000 in
theorem c_X7_init {l : Launch} {D : va_G} {cA : Nat → ClassId} {f : HF} {sz : Nat} {a : Nat} {v0 v1 : Value}  (h0 : f a = some (eO 7 [v0, v1])) : Met l yX7_init wsX7_init ({ frames := 1, cells := 1, slots := 9, locals := 20 } : Room) (va_Pc [.ref a] (hB D cA f sz)) (va_Qv (fun f1 => ∃ qp, lyO f f1 a (eO 7 [.ref qp, .int (nI 0)]) [(qp, eI cA 9 (fun _ => 0))]) (hE D f sz) (hA f sz)) 1 9 (hA f sz) := by
  refine h_of (cc := cX7_init) (maxL := 1) (ret := none) (by decide +kernel) rfl (Nat.le_of_ble_eq_true rfl) ?_
  intro p e s m below meth c ls C hr hlk hnm hw hl
  have hx := C.1.1
  have hb := C.1.2.1
  have hl : lv_has ls 1 [(0, .ref a)] := hl
  have lk0 : Cond.methodLink RX7 3 objectInit ∈ wsX7_init := by decide +kernel
  have lk1 : Cond.instanceMethod objectInit ∈ wsX7_init := by decide +kernel
  have lk2 : Cond.code objectInit ⟨#[0xb1]⟩ 1 none ∈ wsX7_init := by decide +kernel
  have lk3 : Cond.arrayClass .int ∈ wsX7_init := by decide +kernel
  have lk4 : Cond.fieldLink RX7 9 "FallingLight$Tape" "numbers" "[I" ∈ wsX7_init := by decide +kernel
  have lk5 : ∀ w ∈ u_ws RX7 TX7 2, w ∈ wsX7_init := by decide +kernel
  have lk6 : Cond.fieldLink RX7 15 "FallingLight$Tape" "size" "I" ∈ wsX7_init := by decide +kernel
  have hLy := ly_0 h0
  refine lv_aload_n hx hb dX7_init_0 rfl (lv_at hl 0 rfl) ?_
  refine W.objInit hx hb C.1.2.2.2.1 (C.1.2.2.2.2 _ lk0) (C.1.2.2.2.2 _ lk1) (C.1.2.2.2.2 _ lk2) rfl (hl.1.trans C.1.2.2.1.symm) rfl dX7_init_1 (Nat.le_of_ble_eq_true rfl) (Nat.le_of_ble_eq_true rfl) ?_
  refine W.eq (g2 := F0 m 4 ls []) rfl ?_
  refine lv_aload_n hx hb dX7_init_4 rfl (lv_at hl 0 rfl) ?_
  refine lv_bipush (v := nI 9) hx hb dX7_init_5 (by decide) ?_
  refine h_newi C hw lk3 (by first | decide | omega) (by first | decide | omega | (dsimp only; omega)) (by first | decide | omega | (dsimp only; omega)) dX7_init_7 (fun q1 H hq4 hw => ?_)
  generalize e3 : va_up _ q1 _ = f2 at hw
  replace e3 := Eq.symm e3
  have hLy : lyO f f2 a (eO 7 [v0, v1]) [(q1, eI cA 9 (fun _ => 0))] := ly_new hLy hq4 e3
  refine h_putF1 C hw bX7 hLy.1 lk5 0 (by decide) lk4 rfl hnm rfl rfl rfl (Nat.le_of_ble_eq_true rfl) dX7_init_9 (fun f5 H locs e6 hw => ?_)
  have hLy : lyO f f5 a (eO 7 [.ref q1, v1]) [(q1, eI cA 9 (fun _ => 0))] := ly_seta hLy e6
  refine lv_aload_n hx hb dX7_init_12 rfl (lv_at hl 0 rfl) ?_
  refine lv_iconst (v := nI 0) hx hb dX7_init_13 (by decide) ?_
  refine h_put1 C hw bX7 hLy.1 lk5 1 (by decide) lk6 rfl rfl rfl (Nat.le_of_ble_eq_true rfl) dX7_init_14 (fun f7 H locs e8 hw => ?_)
  have hLy : lyO f f7 a (eO 7 [.ref q1, .int (nI 0)]) [(q1, eI cA 9 (fun _ => 0))] := ly_seta hLy e8
  refine W.widen (k := 1) (n := 9) (by first | decide | omega | (dsimp only; omega)) (by first | decide | omega | (dsimp only; omega)) ?_
  exact h_vret C hr hlk hw (⟨_, hLy⟩) dX7_init_17
set_option maxHeartbeats 4000000 in
set_option maxRecDepth 100000 in
theorem c_X3_init {l : Launch} {D : va_G} {cA : Nat → ClassId} {f : HF} {sz : Nat} {a : Nat} {v0 v1 : Value}  (h0 : f a = some (eO 3 [v0, v1])) : Met l yX3_init wsX3_init ({ frames := 1, cells := 1, slots := 4, locals := 20 } : Room) (va_Pc [.ref a] (hBA D cA f sz)) (va_Qv (fun f1 => ∃ qp, lyO f f1 a (eO 3 [.ref qp, .int (nI 0)]) [(qp, eQ cA 6 4 (fun _ => none))]) (hE D f sz) (hA f sz)) 1 4 (hA f sz) := by
  refine h_ofA (cc := cX3_init) (maxL := 1) (ret := none) (by decide +kernel) rfl (Nat.le_of_ble_eq_true rfl) ?_
  intro p e s m below meth c ls C hao hr hlk hnm hw hl
  have hx := C.1.1
  have hb := C.1.2.1
  have hl : lv_has ls 1 [(0, .ref a)] := hl
  have lk0 : Cond.methodLink RX3 3 objectInit ∈ wsX3_init := by decide +kernel
  have lk1 : Cond.instanceMethod objectInit ∈ wsX3_init := by decide +kernel
  have lk2 : Cond.code objectInit ⟨#[0xb1]⟩ 1 none ∈ wsX3_init := by decide +kernel
  have lk3 : Cond.classLink RX3 9 RX6 ∈ wsX3_init := by decide +kernel
  have lk4 : Cond.fieldLink RX3 11 "FallingLight$Meteor" "sights" "[LFallingLight$Sight;" ∈ wsX3_init := by decide +kernel
  have lk5 : ∀ w ∈ u_ws RX3 TX3 2, w ∈ wsX3_init := by decide +kernel
  have lk6 : Cond.fieldLink RX3 17 "FallingLight$Meteor" "size" "I" ∈ wsX3_init := by decide +kernel
  have hLy := ly_0 h0
  refine lv_aload_n hx hb dX3_init_0 rfl (lv_at hl 0 rfl) ?_
  refine W.objInit hx hb C.1.2.2.2.1 (C.1.2.2.2.2 _ lk0) (C.1.2.2.2.2 _ lk1) (C.1.2.2.2.2 _ lk2) rfl (hl.1.trans C.1.2.2.1.symm) rfl dX3_init_1 (Nat.le_of_ble_eq_true rfl) (Nat.le_of_ble_eq_true rfl) ?_
  refine W.eq (g2 := F0 m 4 ls []) rfl ?_
  refine lv_aload_n hx hb dX3_init_4 rfl (lv_at hl 0 rfl) ?_
  refine lv_iconst (v := nI 4) hx hb dX3_init_5 (by decide) ?_
  refine h_newqA C hw 6 rfl lk3 hao.2.2.2.1 (by first | decide | omega) (by first | decide | omega | (dsimp only; omega)) (by first | decide | omega | (dsimp only; omega)) dX3_init_6 (fun q1 H hq4 hw => ?_)
  generalize e3 : va_up _ q1 _ = f2 at hw
  replace e3 := Eq.symm e3
  have hLy : lyO f f2 a (eO 3 [v0, v1]) [(q1, eQ cA 6 4 (fun _ => none))] := ly_new hLy hq4 e3
  refine h_putF1 C hw bX3 hLy.1 lk5 0 (by decide) lk4 rfl hnm rfl rfl rfl (Nat.le_of_ble_eq_true rfl) dX3_init_9 (fun f5 H locs e6 hw => ?_)
  have hLy : lyO f f5 a (eO 3 [.ref q1, v1]) [(q1, eQ cA 6 4 (fun _ => none))] := ly_seta hLy e6
  refine lv_aload_n hx hb dX3_init_12 rfl (lv_at hl 0 rfl) ?_
  refine lv_iconst (v := nI 0) hx hb dX3_init_13 (by decide) ?_
  refine h_put1 C hw bX3 hLy.1 lk5 1 (by decide) lk6 rfl rfl rfl (Nat.le_of_ble_eq_true rfl) dX3_init_14 (fun f7 H locs e8 hw => ?_)
  have hLy : lyO f f7 a (eO 3 [.ref q1, .int (nI 0)]) [(q1, eQ cA 6 4 (fun _ => none))] := ly_seta hLy e8
  refine W.widen (k := 1) (n := 4) (by first | decide | omega | (dsimp only; omega)) (by first | decide | omega | (dsimp only; omega)) ?_
  exact h_vret C hr hlk hw (⟨_, hLy⟩) dX3_init_17
set_option maxHeartbeats 4000000 in
set_option maxRecDepth 100000 in
theorem c_X9_init {l : Launch} {D : va_G} {cA : Nat → ClassId} {f : HF} {sz : Nat} {a : Nat} {v0 v1 : Value} {n9 T : Nat}  (h0 : f a = some (eO 9 [v0, v1])) (hT : (n9 = 10 ∧ T = 120) ∨ (n9 = 12 ∧ T = 220)) : Met l yX9_init wsX9_init ({ frames := 1, cells := 1, slots := 220, locals := 24 } : Room) (va_Pc [.ref a, .int (nI n9)] (hBA D cA f sz)) (va_Qv (fun f1 => ∃ qp, lyO f f1 a (eO 9 [.ref qp, .int (nI 0)]) [(qp, eQ cA 7 T (fun _ => none))]) (hE D f sz) (hA f sz)) 1 220 (hA f sz) := by
  refine h_ofA (cc := cX9_init) (maxL := 3) (ret := none) (by decide +kernel) rfl (Nat.le_of_ble_eq_true rfl) ?_
  intro p e s m below meth c ls C hao hr hlk hnm hw hl
  have hx := C.1.1
  have hb := C.1.2.1
  have hl : lv_has ls 3 [(0, .ref a), (1, .int (nI n9))] := hl
  have lk0 : Cond.methodLink RX9 1 objectInit ∈ wsX9_init := by decide +kernel
  have lk1 : Cond.instanceMethod objectInit ∈ wsX9_init := by decide +kernel
  have lk2 : Cond.code objectInit ⟨#[0xb1]⟩ 1 none ∈ wsX9_init := by decide +kernel
  have lk3 : Cond.methodLink RX9 7 Lib.Math.max.name ∈ wsX9_init := by decide +kernel
  have lk4 : Cond.static Lib.Math.max.name ∈ wsX9_init := by decide +kernel
  have lk5 : Cond.initialized "java/lang/Math" ∈ wsX9_init := by decide +kernel
  have lk6 : Cond.code Lib.Math.max.name Lib.Math.max.code 2 (some .int) ∈ wsX9_init := by decide +kernel
  have lk7 : Cond.classLink RX9 13 RX8 ∈ wsX9_init := by decide +kernel
  have lk8 : Cond.fieldLink RX9 15 "FallingLight$Triangles" "row" "[LFallingLight$Triangle;" ∈ wsX9_init := by decide +kernel
  have lk9 : ∀ w ∈ u_ws RX9 TX9 2, w ∈ wsX9_init := by decide +kernel
  have lk10 : Cond.fieldLink RX9 21 "FallingLight$Triangles" "size" "I" ∈ wsX9_init := by decide +kernel
  have hLy := ly_0 h0
  refine lv_aload_n hx hb dX9_init_0 rfl (lv_at hl 0 rfl) ?_
  refine W.objInit hx hb C.1.2.2.2.1 (C.1.2.2.2.2 _ lk0) (C.1.2.2.2.2 _ lk1) (C.1.2.2.2.2 _ lk2) rfl (hl.1.trans C.1.2.2.1.symm) rfl dX9_init_1 (Nat.le_of_ble_eq_true rfl) (Nat.le_of_ble_eq_true rfl) ?_
  refine W.eq (g2 := F0 m 4 ls []) rfl ?_
  refine lv_iload_n hx hb dX9_init_4 rfl (lv_at hl 1 rfl) ?_
  refine lv_iload_n hx hb dX9_init_5 rfl (lv_at hl 1 rfl) ?_
  refine lv_iconst (v := nI 1) hx hb dX9_init_6 (by decide) ?_
  refine lv_isub hx hb dX9_init_7 ?_
  refine lv_imul hx hb dX9_init_8 ?_
  refine lv_iload_n hx hb dX9_init_9 rfl (lv_at hl 1 rfl) ?_
  refine lv_iconst (v := nI 2) hx hb dX9_init_10 (by decide) ?_
  refine lv_isub hx hb dX9_init_11 ?_
  refine lv_imul hx hb dX9_init_12 ?_
  refine lv_bipush (v := nI 6) hx hb dX9_init_13 (by decide) ?_
  refine W.eq (g2 := F0 m 15 ls [.int (nI 6), .int (nI (T * 6))]) (by rw [(thr_eq hT).1]) ?_
  refine n_idiv C (by omega) (by decide) (by decide) dX9_init_15 ?_
  refine W.eq (g2 := F0 m 16 ls [.int (nI T)]) (by rw [Nat.mul_div_cancel T (by decide)]) ?_
  refine lv_istore_n (lv' := [(2, _), (0, _), (1, _)]) hx hb dX9_init_16 rfl hl (by decide) rfl (fun ls hl => ?_)
  refine lv_aload_n hx hb dX9_init_17 rfl (lv_at hl 1 rfl) ?_
  refine lv_iconst (v := nI 0) hx hb dX9_init_18 (by decide) ?_
  refine lv_iload_n hx hb dX9_init_19 rfl (lv_at hl 0 rfl) ?_
  refine va_mmax hx hb (C.1.2.2.1.trans hl.1.symm) C.1.2.2.2.1 (C.1.2.2.2.2 _ lk3) (C.1.2.2.2.2 _ lk4) (C.1.2.2.2.2 _ lk5) (C.1.2.2.2.2 _ lk6) (Nat.le_of_ble_eq_true rfl) (Nat.le_of_ble_eq_true rfl) (by first | decide | omega) (by first | decide | omega) dX9_init_20 ?_
  refine W.eq (g2 := F0 m 23 ls [.int (nI T), _]) (by rw [(thr_eq hT).2]) ?_
  refine h_newqA C hw 7 rfl lk7 hao.2.2.2.2.1 (by first | decide | omega) (by first | decide | omega | (dsimp only; omega)) (by first | decide | omega | (dsimp only; omega)) dX9_init_23 (fun q1 H hq4 hw => ?_)
  generalize e3 : va_up _ q1 _ = f2 at hw
  replace e3 := Eq.symm e3
  have hLy : lyO f f2 a (eO 9 [v0, v1]) [(q1, eQ cA 7 T (fun _ => none))] := ly_new hLy hq4 e3
  refine h_putF1 C hw bX9 hLy.1 lk9 0 (by decide) lk8 rfl hnm rfl rfl rfl (Nat.le_of_ble_eq_true rfl) dX9_init_26 (fun f5 H locs e6 hw => ?_)
  have hLy : lyO f f5 a (eO 9 [.ref q1, v1]) [(q1, eQ cA 7 T (fun _ => none))] := ly_seta hLy e6
  refine lv_aload_n hx hb dX9_init_29 rfl (lv_at hl 1 rfl) ?_
  refine lv_iconst (v := nI 0) hx hb dX9_init_30 (by decide) ?_
  refine h_put1 C hw bX9 hLy.1 lk9 1 (by decide) lk10 rfl rfl rfl (Nat.le_of_ble_eq_true rfl) dX9_init_31 (fun f7 H locs e8 hw => ?_)
  have hLy : lyO f f7 a (eO 9 [.ref q1, .int (nI 0)]) [(q1, eQ cA 7 T (fun _ => none))] := ly_seta hLy e8
  refine W.widen (k := 1) (n := 220) (by first | decide | omega | (dsimp only; omega)) (by first | decide | omega | (dsimp only; omega)) ?_
  exact h_vret C hr hlk hw (⟨_, hLy⟩) dX9_init_34
set_option maxHeartbeats 4000000 in
set_option maxRecDepth 100000 in
theorem c_X1_init {l : Launch} {D : va_G} {cA : Nat → ClassId} {f : HF} {sz : Nat} {a : Nat} {v0 v1 v2 v3 v4 v5 v6 v7 v8 v9 : Value} {sp sr : Nat}  (h0 : f a = some (eO 1 [v0, v1, v2, v3, v4, v5, v6, v7, v8, v9])) : Met l yX1_init wsX1_init ({ frames := 2, cells := 17, slots := 587, locals := 46 } : Room) (va_Pc [.ref a, .ref sp, .ref sr] (hBA D cA f sz)) (va_Qv (fun f1 => ∃ (q1 q2 q3 q4 qa : Nat) (rr : Nat → Nat) (q5 q6 : Nat), lyO f f1 a (eO 1 [.ref sp, .ref sr, .ref q1, .ref q3, .ref qa, .ref q5, .ref q6, .int (nI 0), .int (nI 0), .int (nI 5)]) [(q1, eO 9 [.ref q2, .int (nI 0)]), (q2, eQ cA 7 120 (fun _ => none)), (q3, eO 9 [.ref q4, .int (nI 0)]), (q4, eQ cA 7 220 (fun _ => none)), (qa, eQ cA 8 10 (fun i => if i < 10 then some (rr i) else none)), (rr 0, eI cA 12 (fun _ => 0)), (rr 1, eI cA 12 (fun _ => 0)), (rr 2, eI cA 12 (fun _ => 0)), (rr 3, eI cA 12 (fun _ => 0)), (rr 4, eI cA 12 (fun _ => 0)), (rr 5, eI cA 12 (fun _ => 0)), (rr 6, eI cA 12 (fun _ => 0)), (rr 7, eI cA 12 (fun _ => 0)), (rr 8, eI cA 12 (fun _ => 0)), (rr 9, eI cA 12 (fun _ => 0)), (q5, eI cA 10 (fun _ => 0)), (q6, eI cA 3 (fun _ => 0))]) (hE D f sz) (hA f sz)) 17 587 (hA f sz) := by
  refine h_ofA (cc := cX1_init) (maxL := 3) (ret := none) (by decide +kernel) rfl (Nat.le_of_ble_eq_true rfl) ?_
  intro p e s m below meth c ls C hao hr hlk hnm hw hl
  have hx := C.1.1
  have hb := C.1.2.1
  have hl : lv_has ls 3 [(0, .ref a), (1, .ref sp), (2, .ref sr)] := hl
  have lk0 : Cond.methodLink RX1 3 objectInit ∈ wsX1_init := by decide +kernel
  have lk1 : Cond.instanceMethod objectInit ∈ wsX1_init := by decide +kernel
  have lk2 : Cond.code objectInit ⟨#[0xb1]⟩ 1 none ∈ wsX1_init := by decide +kernel
  have lk3 : Cond.fieldLink RX1 9 "FallingLight$Matching" "spots" "LFallingLight$Points;" ∈ wsX1_init := by decide +kernel
  have lk4 : ∀ w ∈ u_ws RX1 TX1 10, w ∈ wsX1_init := by decide +kernel
  have lk5 : Cond.fieldLink RX1 15 "FallingLight$Matching" "stars" "LFallingLight$Points;" ∈ wsX1_init := by decide +kernel
  have lk6 : ∀ w ∈ u_ws RX9 TX9 2, w ∈ wsX1_init := by decide +kernel
  have lk7 : Cond.classLink RX1 18 RX9 ∈ wsX1_init := by decide +kernel
  have lk8 : Cond.instantiable RX9 2 ∈ wsX1_init := by decide +kernel
  have lk9 : Cond.initialized RX9 ∈ wsX1_init := by decide +kernel
  have lk10 : Cond.methodLink RX1 20 yX9_init ∈ wsX1_init := by decide +kernel
  have lk11 : Cond.instanceMethod yX9_init ∈ wsX1_init := by decide +kernel
  have lk12 : Cond.fieldLink RX1 23 "FallingLight$Matching" "spotTriangles" "LFallingLight$Triangles;" ∈ wsX1_init := by decide +kernel
  have lk13 : Cond.fieldLink RX1 27 "FallingLight$Matching" "starTriangles" "LFallingLight$Triangles;" ∈ wsX1_init := by decide +kernel
  have lk14 : Cond.classLink RX1 30 ("[" ++ (FieldType.array .int).toString) ∈ wsX1_init := by decide +kernel
  have lk15 : Cond.arrayClass .int ∈ wsX1_init := by decide +kernel
  have lk16 : Cond.fieldLink RX1 32 "FallingLight$Matching" "ballots" "[[I" ∈ wsX1_init := by decide +kernel
  have lk17 : Cond.fieldLink RX1 35 "FallingLight$Matching" "partners" "[I" ∈ wsX1_init := by decide +kernel
  have lk18 : Cond.fieldLink RX1 39 "FallingLight$Matching" "base" "[I" ∈ wsX1_init := by decide +kernel
  have lk19 : Cond.fieldLink RX1 42 "FallingLight$Matching" "hasTable" "Z" ∈ wsX1_init := by decide +kernel
  have lk20 : Cond.fieldLink RX1 46 "FallingLight$Matching" "fresh" "Z" ∈ wsX1_init := by decide +kernel
  have lk21 : Cond.fieldLink RX1 49 "FallingLight$Matching" "nearness" "I" ∈ wsX1_init := by decide +kernel
  have hLy := ly_0 h0
  refine lv_aload_n hx hb dX1_init_0 rfl (lv_at hl 0 rfl) ?_
  refine W.objInit hx hb C.1.2.2.2.1 (C.1.2.2.2.2 _ lk0) (C.1.2.2.2.2 _ lk1) (C.1.2.2.2.2 _ lk2) rfl (hl.1.trans C.1.2.2.1.symm) rfl dX1_init_1 (Nat.le_of_ble_eq_true rfl) (Nat.le_of_ble_eq_true rfl) ?_
  refine W.eq (g2 := F0 m 4 ls []) rfl ?_
  refine lv_aload_n hx hb dX1_init_4 rfl (lv_at hl 0 rfl) ?_
  refine lv_aload_n hx hb dX1_init_5 rfl (lv_at hl 1 rfl) ?_
  refine h_putF1 C hw bX1 hLy.1 lk4 0 (by decide) lk3 rfl hnm rfl rfl rfl (Nat.le_of_ble_eq_true rfl) dX1_init_6 (fun f1 H locs e2 hw => ?_)
  have hLy : lyO f f1 a (eO 1 [.ref sp, v1, v2, v3, v4, v5, v6, v7, v8, v9]) [] := ly_seta hLy e2
  refine lv_aload_n hx hb dX1_init_9 rfl (lv_at hl 0 rfl) ?_
  refine lv_aload_n hx hb dX1_init_10 rfl (lv_at hl 2 rfl) ?_
  refine h_putF1 C hw bX1 hLy.1 lk4 1 (by decide) lk5 rfl hnm rfl rfl rfl (Nat.le_of_ble_eq_true rfl) dX1_init_11 (fun f3 H locs e4 hw => ?_)
  have hLy : lyO f f3 a (eO 1 [.ref sp, .ref sr, v2, v3, v4, v5, v6, v7, v8, v9]) [] := ly_seta hLy e4
  refine lv_aload_n hx hb dX1_init_14 rfl (lv_at hl 0 rfl) ?_
  refine h_new1 C hw bX9 lk6 lk7 lk8 lk9 dfX9 (by first | decide | omega | (dsimp only; omega)) (by first | decide | omega | (dsimp only; omega)) dX1_init_15 (fun q5 f6 H hq8 e7 hw => ?_)
  have hLy : lyO f f6 a (eO 1 [.ref sp, .ref sr, v2, v3, v4, v5, v6, v7, v8, v9]) [(q5, eO 9 [.null, .int 0])] := ly_new hLy hq8 e7
  refine lv_dup hx hb dX1_init_18 rfl ?_
  refine lv_bipush (v := nI 10) hx hb dX1_init_19 (by decide) ?_
  refine h_callv hw (h_runIA (n := 1) (As := [.int (nI 10)]) (rest := [.ref q5, .ref a]) C hao hw (c_X9_init (ly_get hLy 0 rfl) (Or.inl ⟨rfl, rfl⟩)) gX1_init_X9_init rfl rfl rfl lk9 lk10 lk11 rfl (by decide +kernel) ⟨by decide, by decide⟩ rfl hl.1 rfl (Nat.le_of_ble_eq_true rfl) dX1_init_21 ⟨by first | decide | omega | (dsimp only; omega), by first | decide | omega | (dsimp only; omega)⟩) (fun  f9 H locs hp hw => ?_)
  obtain ⟨q10, hcl11⟩ := hp
  have hLy : lyO f f9 a (eO 1 [.ref sp, .ref sr, v2, v3, v4, v5, v6, v7, v8, v9]) [(q5, eO 9 [.ref q10, .int (nI 0)]), (q10, eQ cA 7 120 (fun _ => none))] := ly_app hLy 0 rfl hcl11
  refine h_putF1 C hw bX1 hLy.1 lk4 2 (by decide) lk12 rfl hnm rfl rfl rfl (Nat.le_of_ble_eq_true rfl) dX1_init_24 (fun f12 H locs e13 hw => ?_)
  have hLy : lyO f f12 a (eO 1 [.ref sp, .ref sr, .ref q5, v3, v4, v5, v6, v7, v8, v9]) [(q5, eO 9 [.ref q10, .int (nI 0)]), (q10, eQ cA 7 120 (fun _ => none))] := ly_seta hLy e13
  refine lv_aload_n hx hb dX1_init_27 rfl (lv_at hl 0 rfl) ?_
  refine h_new1 C hw bX9 lk6 lk7 lk8 lk9 dfX9 (by first | decide | omega | (dsimp only; omega)) (by first | decide | omega | (dsimp only; omega)) dX1_init_28 (fun q14 f15 H hq17 e16 hw => ?_)
  have hLy : lyO f f15 a (eO 1 [.ref sp, .ref sr, .ref q5, v3, v4, v5, v6, v7, v8, v9]) [(q5, eO 9 [.ref q10, .int (nI 0)]), (q10, eQ cA 7 120 (fun _ => none)), (q14, eO 9 [.null, .int 0])] := ly_new hLy hq17 e16
  refine lv_dup hx hb dX1_init_31 rfl ?_
  refine lv_bipush (v := nI 12) hx hb dX1_init_32 (by decide) ?_
  refine h_callv hw (h_runIA (n := 1) (As := [.int (nI 12)]) (rest := [.ref q14, .ref a]) C hao hw (c_X9_init (ly_get hLy 2 rfl) (Or.inr ⟨rfl, rfl⟩)) gX1_init_X9_init rfl rfl rfl lk9 lk10 lk11 rfl (by decide +kernel) ⟨by decide, by decide⟩ rfl hl.1 rfl (Nat.le_of_ble_eq_true rfl) dX1_init_34 ⟨by first | decide | omega | (dsimp only; omega), by first | decide | omega | (dsimp only; omega)⟩) (fun  f18 H locs hp hw => ?_)
  obtain ⟨q19, hcl20⟩ := hp
  have hLy : lyO f f18 a (eO 1 [.ref sp, .ref sr, .ref q5, v3, v4, v5, v6, v7, v8, v9]) [(q5, eO 9 [.ref q10, .int (nI 0)]), (q10, eQ cA 7 120 (fun _ => none)), (q14, eO 9 [.ref q19, .int (nI 0)]), (q19, eQ cA 7 220 (fun _ => none))] := ly_app hLy 2 rfl hcl20
  refine h_putF1 C hw bX1 hLy.1 lk4 3 (by decide) lk13 rfl hnm rfl rfl rfl (Nat.le_of_ble_eq_true rfl) dX1_init_37 (fun f21 H locs e22 hw => ?_)
  have hLy : lyO f f21 a (eO 1 [.ref sp, .ref sr, .ref q5, .ref q14, v4, v5, v6, v7, v8, v9]) [(q5, eO 9 [.ref q10, .int (nI 0)]), (q10, eQ cA 7 120 (fun _ => none)), (q14, eO 9 [.ref q19, .int (nI 0)]), (q19, eQ cA 7 220 (fun _ => none))] := ly_seta hLy e22
  refine lv_aload_n hx hb dX1_init_40 rfl (lv_at hl 0 rfl) ?_
  refine lv_bipush (v := nI 10) hx hb dX1_init_41 (by decide) ?_
  refine lv_bipush (v := nI 12) hx hb dX1_init_43 (by decide) ?_
  refine h_mnaA C hw lk14 hao.2.2.2.2.2 lk15 (by first | decide | omega | (dsimp only; omega)) (by first | decide | omega | (dsimp only; omega)) dX1_init_45 (fun qa rr fm H hr1 hr2 hqa hr3 hm1 hm2 hm3 hw => ?_)
  have hLy := ly_mna hLy hr1 hr2 hqa hr3 hm1 hm2 hm3
  refine h_putF1 C hw bX1 hLy.1 lk4 4 (by decide) lk16 rfl hnm rfl rfl rfl (Nat.le_of_ble_eq_true rfl) dX1_init_49 (fun f23 H locs e24 hw => ?_)
  have hLy : lyO f f23 a (eO 1 [.ref sp, .ref sr, .ref q5, .ref q14, .ref qa, v5, v6, v7, v8, v9]) [(q5, eO 9 [.ref q10, .int (nI 0)]), (q10, eQ cA 7 120 (fun _ => none)), (q14, eO 9 [.ref q19, .int (nI 0)]), (q19, eQ cA 7 220 (fun _ => none)), (qa, eQ cA 8 10 (fun i => if i < 10 then some (rr i) else none)), (rr 0, eI cA 12 (fun _ => 0)), (rr 1, eI cA 12 (fun _ => 0)), (rr 2, eI cA 12 (fun _ => 0)), (rr 3, eI cA 12 (fun _ => 0)), (rr 4, eI cA 12 (fun _ => 0)), (rr 5, eI cA 12 (fun _ => 0)), (rr 6, eI cA 12 (fun _ => 0)), (rr 7, eI cA 12 (fun _ => 0)), (rr 8, eI cA 12 (fun _ => 0)), (rr 9, eI cA 12 (fun _ => 0))] := ly_seta hLy e24
  refine lv_aload_n hx hb dX1_init_52 rfl (lv_at hl 0 rfl) ?_
  refine lv_bipush (v := nI 10) hx hb dX1_init_53 (by decide) ?_
  refine h_newi C hw lk15 (by first | decide | omega) (by first | decide | omega | (dsimp only; omega)) (by first | decide | omega | (dsimp only; omega)) dX1_init_55 (fun q25 H hq28 hw => ?_)
  generalize e27 : va_up _ q25 _ = f26 at hw
  replace e27 := Eq.symm e27
  have hLy : lyO f f26 a (eO 1 [.ref sp, .ref sr, .ref q5, .ref q14, .ref qa, v5, v6, v7, v8, v9]) [(q5, eO 9 [.ref q10, .int (nI 0)]), (q10, eQ cA 7 120 (fun _ => none)), (q14, eO 9 [.ref q19, .int (nI 0)]), (q19, eQ cA 7 220 (fun _ => none)), (qa, eQ cA 8 10 (fun i => if i < 10 then some (rr i) else none)), (rr 0, eI cA 12 (fun _ => 0)), (rr 1, eI cA 12 (fun _ => 0)), (rr 2, eI cA 12 (fun _ => 0)), (rr 3, eI cA 12 (fun _ => 0)), (rr 4, eI cA 12 (fun _ => 0)), (rr 5, eI cA 12 (fun _ => 0)), (rr 6, eI cA 12 (fun _ => 0)), (rr 7, eI cA 12 (fun _ => 0)), (rr 8, eI cA 12 (fun _ => 0)), (rr 9, eI cA 12 (fun _ => 0)), (q25, eI cA 10 (fun _ => 0))] := ly_new hLy hq28 e27
  refine h_putF1 C hw bX1 hLy.1 lk4 5 (by decide) lk17 rfl hnm rfl rfl rfl (Nat.le_of_ble_eq_true rfl) dX1_init_57 (fun f29 H locs e30 hw => ?_)
  have hLy : lyO f f29 a (eO 1 [.ref sp, .ref sr, .ref q5, .ref q14, .ref qa, .ref q25, v6, v7, v8, v9]) [(q5, eO 9 [.ref q10, .int (nI 0)]), (q10, eQ cA 7 120 (fun _ => none)), (q14, eO 9 [.ref q19, .int (nI 0)]), (q19, eQ cA 7 220 (fun _ => none)), (qa, eQ cA 8 10 (fun i => if i < 10 then some (rr i) else none)), (rr 0, eI cA 12 (fun _ => 0)), (rr 1, eI cA 12 (fun _ => 0)), (rr 2, eI cA 12 (fun _ => 0)), (rr 3, eI cA 12 (fun _ => 0)), (rr 4, eI cA 12 (fun _ => 0)), (rr 5, eI cA 12 (fun _ => 0)), (rr 6, eI cA 12 (fun _ => 0)), (rr 7, eI cA 12 (fun _ => 0)), (rr 8, eI cA 12 (fun _ => 0)), (rr 9, eI cA 12 (fun _ => 0)), (q25, eI cA 10 (fun _ => 0))] := ly_seta hLy e30
  refine lv_aload_n hx hb dX1_init_60 rfl (lv_at hl 0 rfl) ?_
  refine lv_iconst (v := nI 3) hx hb dX1_init_61 (by decide) ?_
  refine h_newi C hw lk15 (by first | decide | omega) (by first | decide | omega | (dsimp only; omega)) (by first | decide | omega | (dsimp only; omega)) dX1_init_62 (fun q31 H hq34 hw => ?_)
  generalize e33 : va_up _ q31 _ = f32 at hw
  replace e33 := Eq.symm e33
  have hLy : lyO f f32 a (eO 1 [.ref sp, .ref sr, .ref q5, .ref q14, .ref qa, .ref q25, v6, v7, v8, v9]) [(q5, eO 9 [.ref q10, .int (nI 0)]), (q10, eQ cA 7 120 (fun _ => none)), (q14, eO 9 [.ref q19, .int (nI 0)]), (q19, eQ cA 7 220 (fun _ => none)), (qa, eQ cA 8 10 (fun i => if i < 10 then some (rr i) else none)), (rr 0, eI cA 12 (fun _ => 0)), (rr 1, eI cA 12 (fun _ => 0)), (rr 2, eI cA 12 (fun _ => 0)), (rr 3, eI cA 12 (fun _ => 0)), (rr 4, eI cA 12 (fun _ => 0)), (rr 5, eI cA 12 (fun _ => 0)), (rr 6, eI cA 12 (fun _ => 0)), (rr 7, eI cA 12 (fun _ => 0)), (rr 8, eI cA 12 (fun _ => 0)), (rr 9, eI cA 12 (fun _ => 0)), (q25, eI cA 10 (fun _ => 0)), (q31, eI cA 3 (fun _ => 0))] := ly_new hLy hq34 e33
  refine h_putF1 C hw bX1 hLy.1 lk4 6 (by decide) lk18 rfl hnm rfl rfl rfl (Nat.le_of_ble_eq_true rfl) dX1_init_64 (fun f35 H locs e36 hw => ?_)
  have hLy : lyO f f35 a (eO 1 [.ref sp, .ref sr, .ref q5, .ref q14, .ref qa, .ref q25, .ref q31, v7, v8, v9]) [(q5, eO 9 [.ref q10, .int (nI 0)]), (q10, eQ cA 7 120 (fun _ => none)), (q14, eO 9 [.ref q19, .int (nI 0)]), (q19, eQ cA 7 220 (fun _ => none)), (qa, eQ cA 8 10 (fun i => if i < 10 then some (rr i) else none)), (rr 0, eI cA 12 (fun _ => 0)), (rr 1, eI cA 12 (fun _ => 0)), (rr 2, eI cA 12 (fun _ => 0)), (rr 3, eI cA 12 (fun _ => 0)), (rr 4, eI cA 12 (fun _ => 0)), (rr 5, eI cA 12 (fun _ => 0)), (rr 6, eI cA 12 (fun _ => 0)), (rr 7, eI cA 12 (fun _ => 0)), (rr 8, eI cA 12 (fun _ => 0)), (rr 9, eI cA 12 (fun _ => 0)), (q25, eI cA 10 (fun _ => 0)), (q31, eI cA 3 (fun _ => 0))] := ly_seta hLy e36
  refine lv_aload_n hx hb dX1_init_67 rfl (lv_at hl 0 rfl) ?_
  refine lv_iconst (v := nI 0) hx hb dX1_init_68 (by decide) ?_
  refine h_put1 C hw bX1 hLy.1 lk4 7 (by decide) lk19 rfl (by first | rfl | decide) rfl (Nat.le_of_ble_eq_true rfl) dX1_init_69 (fun f37 H locs e38 hw => ?_)
  have hLy : lyO f f37 a (eO 1 [.ref sp, .ref sr, .ref q5, .ref q14, .ref qa, .ref q25, .ref q31, .int (nI 0), v8, v9]) [(q5, eO 9 [.ref q10, .int (nI 0)]), (q10, eQ cA 7 120 (fun _ => none)), (q14, eO 9 [.ref q19, .int (nI 0)]), (q19, eQ cA 7 220 (fun _ => none)), (qa, eQ cA 8 10 (fun i => if i < 10 then some (rr i) else none)), (rr 0, eI cA 12 (fun _ => 0)), (rr 1, eI cA 12 (fun _ => 0)), (rr 2, eI cA 12 (fun _ => 0)), (rr 3, eI cA 12 (fun _ => 0)), (rr 4, eI cA 12 (fun _ => 0)), (rr 5, eI cA 12 (fun _ => 0)), (rr 6, eI cA 12 (fun _ => 0)), (rr 7, eI cA 12 (fun _ => 0)), (rr 8, eI cA 12 (fun _ => 0)), (rr 9, eI cA 12 (fun _ => 0)), (q25, eI cA 10 (fun _ => 0)), (q31, eI cA 3 (fun _ => 0))] := ly_seta hLy e38
  refine lv_aload_n hx hb dX1_init_72 rfl (lv_at hl 0 rfl) ?_
  refine lv_iconst (v := nI 0) hx hb dX1_init_73 (by decide) ?_
  refine h_put1 C hw bX1 hLy.1 lk4 8 (by decide) lk20 rfl (by first | rfl | decide) rfl (Nat.le_of_ble_eq_true rfl) dX1_init_74 (fun f39 H locs e40 hw => ?_)
  have hLy : lyO f f39 a (eO 1 [.ref sp, .ref sr, .ref q5, .ref q14, .ref qa, .ref q25, .ref q31, .int (nI 0), .int (nI 0), v9]) [(q5, eO 9 [.ref q10, .int (nI 0)]), (q10, eQ cA 7 120 (fun _ => none)), (q14, eO 9 [.ref q19, .int (nI 0)]), (q19, eQ cA 7 220 (fun _ => none)), (qa, eQ cA 8 10 (fun i => if i < 10 then some (rr i) else none)), (rr 0, eI cA 12 (fun _ => 0)), (rr 1, eI cA 12 (fun _ => 0)), (rr 2, eI cA 12 (fun _ => 0)), (rr 3, eI cA 12 (fun _ => 0)), (rr 4, eI cA 12 (fun _ => 0)), (rr 5, eI cA 12 (fun _ => 0)), (rr 6, eI cA 12 (fun _ => 0)), (rr 7, eI cA 12 (fun _ => 0)), (rr 8, eI cA 12 (fun _ => 0)), (rr 9, eI cA 12 (fun _ => 0)), (q25, eI cA 10 (fun _ => 0)), (q31, eI cA 3 (fun _ => 0))] := ly_seta hLy e40
  refine lv_aload_n hx hb dX1_init_77 rfl (lv_at hl 0 rfl) ?_
  refine lv_iconst (v := nI 5) hx hb dX1_init_78 (by decide) ?_
  refine h_put1 C hw bX1 hLy.1 lk4 9 (by decide) lk21 rfl rfl rfl (Nat.le_of_ble_eq_true rfl) dX1_init_79 (fun f41 H locs e42 hw => ?_)
  have hLy : lyO f f41 a (eO 1 [.ref sp, .ref sr, .ref q5, .ref q14, .ref qa, .ref q25, .ref q31, .int (nI 0), .int (nI 0), .int (nI 5)]) [(q5, eO 9 [.ref q10, .int (nI 0)]), (q10, eQ cA 7 120 (fun _ => none)), (q14, eO 9 [.ref q19, .int (nI 0)]), (q19, eQ cA 7 220 (fun _ => none)), (qa, eQ cA 8 10 (fun i => if i < 10 then some (rr i) else none)), (rr 0, eI cA 12 (fun _ => 0)), (rr 1, eI cA 12 (fun _ => 0)), (rr 2, eI cA 12 (fun _ => 0)), (rr 3, eI cA 12 (fun _ => 0)), (rr 4, eI cA 12 (fun _ => 0)), (rr 5, eI cA 12 (fun _ => 0)), (rr 6, eI cA 12 (fun _ => 0)), (rr 7, eI cA 12 (fun _ => 0)), (rr 8, eI cA 12 (fun _ => 0)), (rr 9, eI cA 12 (fun _ => 0)), (q25, eI cA 10 (fun _ => 0)), (q31, eI cA 3 (fun _ => 0))] := ly_seta hLy e42
  refine W.widen (k := 17) (n := 587) (by first | decide | omega | (dsimp only; omega)) (by first | decide | omega | (dsimp only; omega)) ?_
  exact h_vret C hr hlk hw (⟨_, _, _, _, _, _, _, _, hLy⟩) dX1_init_82
