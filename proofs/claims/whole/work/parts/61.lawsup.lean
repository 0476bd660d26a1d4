/-! ===== the law: what stands under its walk ===== -/
theorem rp_veq {ad : Nat → Nat} {K : KK} {G : GG} {A A1 : MA} {B B1 : MB} {N : Nat} {f : HF} (h : rp ad K G A B N f) (hv : veq A B A1 B1) : rp ad K G A1 B1 N f := by
  obtain ⟨h1, h2, h3, h4, h5, h6, h7, h8, h9, h10⟩ := h
  have a := hv.1
  refine ⟨?_, ?_, h3.cg (kp.rf f) (fun _ _ => rfl) (fun _ _ => rfl) (fun k _ hk => a k (by omega)), h4.cg (kp.rf f) rfl (a 7 (by decide)), h5.cg (fun _ _ => rfl) (fun k hk => a k (by omega)), h6.cg (fun _ _ _ => rfl) (a 5 (by decide)) (a 6 (by decide)), h7.cg rfl rfl (a 13 (by decide)) (a 14 (by decide)), h8.cg rfl rfl (a 12 (by decide)), h9, h10.cg (fun _ _ => rfl) (fun k hk => a k (by omega))⟩
  · unfold inA
    rw [a 0 (by decide), a 1 (by decide), a 13 (by decide), a 6 (by decide), a 10 (by decide), a 11 (by decide), a 7 (by decide), a 12 (by decide), a 2 (by decide), a 3 (by decide)]
    exact h1
  · intro k hk
    rw [hv.2]
    exact h2 k hk
theorem rp.le {ad : Nat → Nat} {K : KK} {G : GG} {A : MA} {B : MB} {N M : Nat} {f : HF} (h : rp ad K G A B N f) (hv : N ≤ M) : rp ad K G A B M f := by
  refine ⟨h.1, fun k hk => ?_, h.2.2⟩
  obtain ⟨n, h1, h2⟩ := h.2.1 k hk
  exact ⟨n, Nat.le_trans h1 hv, h2⟩
def apart (f g : HF) : Prop := ∀ a, f a ≠ none → g a = none
theorem apart.sy {f g : HF} (h : apart f g) : apart g f := fun a ha => by
  cases hf : f a with
  | none => rfl
  | some x => exact absurd (h a (by rw [hf]; exact fun z => by cases z)) ha
def Aw (s : State) : Nat → Prop := fun q => s.heap.size ≤ q
section LW
variable {p : Program} {l : Launch} {e : Env} {R : Room} {s : State} {m : MethodId} {args : Array Value} {below : List Frame} {meth : Method} {c : Code} {H : Heap} {locs : List Loc} {cells slots : Nat} {Q : State → Prop}
variable {cc : ByteArray} {pc nL : Nat} {ls : Array Slot} {rest : List Value} {D : va_G} {cA : Nat → ClassId} {A : Nat → Prop} {H0 : Heap} {f g : HF} {Ts : List Cond} {own : String} {st0 : List Value} {mc ms : Nat} {av : Array Value}
theorem hw.side (h1 : hw D A H0 f H locs) (h2 : hw D A H0 g H locs) (hd : apart f g) {f1 : HF} {H1 : Heap} {locs1 : List Loc} (hk : ∀ q : Nat, q < H.size → ¬ hA f H.size q → H1[q]? = H[q]?) (hS : va_S A H0 H1 locs1) (hb : ∀ a, f1 a ≠ none → hA f H.size a) : hw D A H0 g H1 locs1 ∧ apart f1 g := by
  refine ⟨⟨fun a x ha => ?_, h2.2.1, hS, h2.2.2.2⟩, fun a ha => ?_⟩
  · have h3 := h2.1 a x ha
    have hl : a < H.size := h3.lt
    refine h3.kept (hk a hl (fun h4 => ?_))
    rcases h4 with h5 | h5
    · exact absurd (hd a h5) (by rw [ha]; exact fun z => by cases z)
    · omega
  · rcases hb a ha with h5 | h5
    · exact hd a h5
    · cases hg : g a with
      | none => rfl
      | some x => exact absurd (h2.1 a x hg).lt (by show ¬ a < _; omega)
theorem h_calllF {post : Int64 → HF → Prop} (h : hw D A H0 f H locs) (h2 : hw D A H0 g H locs) (hd : apart f g) (hr : va_Run p l e R s m args below meth c H locs cells slots mc ms (F0 m pc ls st0) rest (va_Ql post (hE D f H.size) (hA f H.size) av) (hA f H.size))
    (kk : ∀ (r : Int64) (f1 : HF) (H1 : Heap) (locs1 : List Loc), post r f1 → hw D A H0 f1 H1 locs1 → hw D A H0 g H1 locs1 → apart f1 g → W p l e R s m args below meth c H1 locs1 (cells + mc) (slots + ms) Q (F0 m (pc + 3) ls (.long r :: rest))) : W p l e R s m args below meth c H locs cells slots Q (F0 m pc ls st0) :=
  va_calll hr h.2.2.1 (fun q _ hq => h.sub q hq) h.sub (fun r u t H1 locs1 ht _ hp hb _ hk hS =>
    have z := h.side h2 hd hk hS hb.2
    kk r u H1 locs1 hp ⟨by rw [← ht]; exact hb.1, fun x hx => h.sub x (hb.2 x hx), hS, h.2.2.2⟩ z.1 z.2)
theorem h_callvF {post : HF → Prop} (h : hw D A H0 f H locs) (h2 : hw D A H0 g H locs) (hd : apart f g) (hr : va_Run p l e R s m args below meth c H locs cells slots mc ms (F0 m pc ls st0) rest (va_Qv post (hE D f H.size) (hA f H.size) av) (hA f H.size))
    (kk : ∀ (f1 : HF) (H1 : Heap) (locs1 : List Loc), post f1 → hw D A H0 f1 H1 locs1 → hw D A H0 g H1 locs1 → apart f1 g → W p l e R s m args below meth c H1 locs1 (cells + mc) (slots + ms) Q (F0 m (pc + 3) ls rest)) : W p l e R s m args below meth c H locs cells slots Q (F0 m pc ls st0) :=
  va_callv hr h.2.2.1 (fun q _ hq => h.sub q hq) h.sub (fun u t H1 locs1 ht _ hp hb _ hk hS =>
    have z := h.side h2 hd hk hS hb.2
    kk u H1 locs1 hp ⟨by rw [← ht]; exact hb.1, fun x hx => h.sub x (hb.2 x hx), hS, h.2.2.2⟩ z.1 z.2)
/-- a word of the script -/
theorem l_sld (C : cx p m c cc nL s args Ts own D cA) {b L : Nat} {xs : Nat → Int32} (hX : va_X b L xs s s.heap) (hbl : b < s.heap.size) (h : hw D (Aw s) s.heap f H locs) (hL : L ≤ 3584) {j : Nat} (hj : j < L) (hdg : decode cc pc = .ok (.iaload, 1))
    (kk : W p l e R s m args below meth c H locs cells slots Q (F0 m (pc + 1) ls (.int (xs j) :: rest))) : W p l e R s m args below meth c H locs cells slots Q (F0 m pc ls (.int (nI j) :: .ref b :: rest)) :=
  va_sld C.1.1 C.1.2.1 hX hbl (show ¬ Aw s b from Nat.not_le.mpr hbl) h.2.2.1 (vp_in_nI hj (by omega)) hdg (by rw [nI_clamp (by omega)]; exact kk)
theorem l_rd (j : Nat) {i : Nat} (C : cx p m c cc 4 s args Ts own D cA) {b L a1 a2 : Nat} {xs : Nat → Int32} (hX : va_X b L xs s s.heap) (hbl : b < s.heap.size) (h : hw D (Aw s) s.heap f H locs) (hL : L ≤ 3584) (hi : i + 7 ≤ L) (hl : lv_has ls 4 [(0, .ref b), (1, .ref a1), (2, .ref a2), (3, .int (nI i))])
    (d0 : decode cc pc = .ok (.aload_n 0, 1)) (d1 : decode cc (pc + 1) = .ok (.iload_n 3, 1)) {n : Int} (d2 : decode cc (pc + 2) = .ok (.iconst n, 1)) (hn : Int32.ofInt n = nI j) (hj : j < 7) (d3 : decode cc (pc + 3) = .ok (.iadd, 1)) (d4 : decode cc (pc + 4) = .ok (.iaload, 1))
    (kk : W p l e R s m args below meth c H locs cells slots Q (F0 m (pc + 5) ls (.int (xs (i + j)) :: rest))) : W p l e R s m args below meth c H locs cells slots Q (F0 m pc ls rest) := by
  refine lv_aload_n C.1.1 C.1.2.1 d0 rfl (lv_at hl 0 rfl) ?_
  refine lv_iload_n C.1.1 C.1.2.1 d1 rfl (lv_at hl 3 rfl) ?_
  refine lv_iconst (v := nI j) C.1.1 C.1.2.1 d2 hn ?_
  refine n_iadd C d3 ?_
  exact l_sld C hX hbl h hL (by omega) d4 kk
theorem l_rd6 {i : Nat} (C : cx p m c cc 4 s args Ts own D cA) {b L a1 a2 : Nat} {xs : Nat → Int32} (hX : va_X b L xs s s.heap) (hbl : b < s.heap.size) (h : hw D (Aw s) s.heap f H locs) (hL : L ≤ 3584) (hi : i + 7 ≤ L) (hl : lv_has ls 4 [(0, .ref b), (1, .ref a1), (2, .ref a2), (3, .int (nI i))])
    (d0 : decode cc pc = .ok (.aload_n 0, 1)) (d1 : decode cc (pc + 1) = .ok (.iload_n 3, 1)) (d2 : decode cc (pc + 2) = .ok (.bipush 6, 2)) (d3 : decode cc (pc + 4) = .ok (.iadd, 1)) (d4 : decode cc (pc + 5) = .ok (.iaload, 1))
    (kk : W p l e R s m args below meth c H locs cells slots Q (F0 m (pc + 6) ls (.int (xs (i + 6)) :: rest))) : W p l e R s m args below meth c H locs cells slots Q (F0 m pc ls rest) := by
  refine lv_aload_n C.1.1 C.1.2.1 d0 rfl (lv_at hl 0 rfl) ?_
  refine lv_iload_n C.1.1 C.1.2.1 d1 rfl (lv_at hl 3 rfl) ?_
  refine lv_bipush (v := nI 6) C.1.1 C.1.2.1 d2 (by decide) ?_
  refine n_iadd C d3 ?_
  exact l_sld C hX hbl h hL (by omega) d4 kk
def zb (x : Int32) : Int32 := if x = 0 then nI 0 else nI 1
theorem l_bl (C : cx p m c cc nL s args Ts own D cA) {x : Int32} (d0 : decode cc pc = .ok (.ifCond .eq 7, 3)) (d1 : decode cc (pc + 3) = .ok (.iconst 1, 1)) (d2 : decode cc (pc + 4) = .ok (.goto 4, 3)) (d3 : decode cc (pc + 7) = .ok (.iconst 0, 1))
    (kk : W p l e R s m args below meth c H locs cells slots Q (F0 m (pc + 8) ls (.int (zb x) :: rest))) : W p l e R s m args below meth c H locs cells slots Q (F0 m pc ls (.int x :: rest)) := by
  refine lv_if_eq (tgt := pc + 7) C.1.1 C.1.2.1 d0 (by omega) (fun h => ?_) (fun h => ?_)
  · refine lv_iconst (v := nI 0) C.1.1 C.1.2.1 d3 (by decide) ?_
    rw [zb, if_pos h] at kk
    exact kk
  · refine lv_iconst (v := nI 1) C.1.1 C.1.2.1 d1 (by decide) ?_
    refine lv_goto (tgt := pc + 8) C.1.1 C.1.2.1 d2 (by omega) ?_
    rw [zb, if_neg h] at kk
    exact kk
end LW
/-- a command's number -/
theorem and31 (x : Int32) : ∃ k, k < 32 ∧ x &&& nI 31 = nI k := by
  refine ⟨x.toBitVec.toNat % 32, Nat.mod_lt _ (by decide), ?_⟩
  apply Int32.toBitVec_inj.mp
  apply BitVec.eq_of_toNat_eq
  rw [Int32.toBitVec_and, BitVec.toNat_and]
  show x.toBitVec.toNat &&& 31 = (BitVec.ofNat 32 (x.toBitVec.toNat % 32)).toNat
  rw [BitVec.toNat_ofNat, show (31 : Nat) = 2 ^ 5 - 1 from rfl, Nat.and_two_pow_sub_one_eq_mod]
  omega
theorem nI_int {n : Nat} (h : n < 2 ^ 31) : (nI n).toInt = n := by
  show (Int32.ofNat n).toInt = n
  rw [Int32.toInt_ofNat_of_lt h]
theorem cmp7 {i L : Nat} (hi : i < 10000) (hL : L < 10000) : (Int32.ofNat L - nI 7 < nI i) ↔ L < i + 7 := by
  rw [Int32.lt_iff_toInt_lt, Int32.toInt_sub, nI_int (n := i) (by omega), nI_int (n := 7) (by omega), show (Int32.ofNat L).toInt = L from nI_int (n := L) (by omega)]
  rw [Int.bmod_eq_of_le (by omega) (by omega)]
  omega
/-- the array classes at the law's start -/
theorem at_prim {ty : FieldType} {A : Array Value} {s : State} (h : (Cond.arrayClass ty).before A s = true) : ∃ cA, ArrOfT s cA ty ∧ s.vm.findClass ("[" ++ ty.toString) = some cA := by
  obtain ⟨cA, k, comp, h1, h2, h3⟩ := Cond.arrayClass_spec h
  exact ⟨cA, fun n z => ⟨fun k h => (by cases h), k, h2, comp, h3⟩, h1⟩
theorem at_ref {C : String} {A : Array Value} {s : State} (h : (Cond.arrayOver (.object C)).before A s = true) : ∃ cA, ArrOfT s cA (.object C) ∧ va_RA s cA (.object C) := by
  obtain ⟨comp, cA, k, h1, h2, h3, h4, h5⟩ := Cond.arrayOver_spec h
  exact ⟨cA, fun n z => ⟨fun k h => (by cases h), k, h3, comp, h4⟩, k, comp, h3, h4, h1, h5⟩
theorem at_arr {t : FieldType} {A : Array Value} {s : State} (h : (Cond.arrayOver (.array t)).before A s = true) : ∃ cA, ArrOfT s cA (.array t) ∧ s.vm.findClass ("[" ++ (FieldType.array t).toString) = some cA := by
  obtain ⟨comp, cA, k, h1, h3, h4, h5⟩ := Cond.arrayOver_specA h
  exact ⟨cA, fun n z => ⟨fun k h => (by cases h), k, h3, comp, h4⟩, h5⟩
