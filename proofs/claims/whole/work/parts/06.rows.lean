/-! ===== rows for branches on answers, on natural numbers, on longs; the reference's state ===== -/
abbrev hW (D : va_G) (A : Nat → Prop) (H0 : Heap) (f : HF) (H : Heap) (locs : List Loc) : Prop := hw D A H0 f H locs
theorem c_int32 (a b : Int32) : a = b ↔ a.toInt = b.toInt := ⟨fun h => by rw [h], fun h => Int32.toInt_inj.mp h⟩
theorem c_int64 (a b : Int64) : a = b ↔ a.toInt = b.toInt := ⟨fun h => by rw [h], fun h => Int64.toInt_inj.mp h⟩
theorem lg_e0 (a b : Int64) : lg_cmp a b = 0 ↔ a = b := by
  unfold lg_cmp
  by_cases h1 : b < a
  · have h2 : ¬ a = b := fun h => by rw [h] at h1; exact absurd (Int64.lt_iff_toInt_lt.mp h1) (Int.lt_irrefl _)
    rw [if_pos h1]
    exact ⟨fun h => absurd h (by decide), fun h => absurd h h2⟩
  · rw [if_neg h1]
    by_cases h2 : a = b
    · rw [if_pos h2]; exact ⟨fun _ => h2, fun _ => rfl⟩
    · rw [if_neg h2]; exact ⟨fun h => absurd h (by decide), fun h => absurd h h2⟩
theorem lg_l0 (a b : Int64) : lg_cmp a b < 0 ↔ a < b := by
  unfold lg_cmp
  by_cases h1 : b < a
  · rw [if_pos h1]
    exact ⟨fun h => absurd h (by decide), fun h => absurd h (lg_lt_not h1)⟩
  · rw [if_neg h1]
    by_cases h2 : a = b
    · rw [if_pos h2]; exact ⟨fun h => absurd h (by decide), fun h => absurd (by rw [h2] at h; exact h) (fun h3 => absurd (Int64.lt_iff_toInt_lt.mp h3) (Int.lt_irrefl _))⟩
    · rw [if_neg h2]
      refine ⟨fun _ => ?_, fun _ => by decide⟩
      rw [Int64.lt_iff_toInt_lt] at h1 ⊢
      have h3 : ¬ a.toInt = b.toInt := fun h => h2 ((c_int64 a b).mpr h)
      omega
theorem lg_g0 (a b : Int64) : 0 < lg_cmp a b ↔ b < a := by
  unfold lg_cmp
  by_cases h1 : b < a
  · rw [if_pos h1]
    exact ⟨fun _ => h1, fun _ => by decide⟩
  · rw [if_neg h1]
    by_cases h2 : a = b
    · rw [if_pos h2]; exact ⟨fun h => absurd h (by decide), fun h => absurd h h1⟩
    · rw [if_neg h2]; exact ⟨fun h => absurd h (by decide), fun h => absurd h h1⟩
theorem c_nlt (x y : Int32) : y ≤ x ↔ ¬ x < y := by rw [Int32.le_iff_toInt_le, Int32.lt_iff_toInt_lt]; omega
section RW
variable {p : Program} {l : Launch} {e : Env} {R : Room} {s : State} {m : MethodId} {args : Array Value} {below : List Frame} {meth : Method} {c : Code} {H : Heap} {locs : List Loc} {cells slots : Nat} {Q : State → Prop}
variable {cc : ByteArray} {pc nL : Nat} {ls : Array Slot} {rest : List Value} {D : va_G} {cA : Nat → ClassId} {A0 : Nat → Prop} {H0 : Heap} {f : HF} {Ts : List Cond} {own : String} {off : Int} {tgt : Nat}
theorem n_ifeqB (C : cx p m c cc nL s args Ts own D cA) {P : Prop} [Decidable P] (hdg : decode cc pc = .ok (.ifCond .eq off, 3)) (ht : (pc : Int) + off = (tgt : Int)) (kt : ¬ P → W p l e R s m args below meth c H locs cells slots Q (F0 m tgt ls rest)) (kf : P → W p l e R s m args below meth c H locs cells slots Q (F0 m (pc + 3) ls rest)) : W p l e R s m args below meth c H locs cells slots Q (F0 m pc ls (.int (bI P) :: rest)) := by
  by_cases hp : P
  · exact lv_if_eq C.1.1 C.1.2.1 hdg ht (fun h => absurd h (by rw [bI, if_pos hp]; decide)) (fun _ => kf hp)
  · exact lv_if_eq C.1.1 C.1.2.1 hdg ht (fun _ => kt hp) (fun h => absurd (by rw [bI, if_neg hp]) h)
theorem n_ifneB (C : cx p m c cc nL s args Ts own D cA) {P : Prop} [Decidable P] (hdg : decode cc pc = .ok (.ifCond .ne off, 3)) (ht : (pc : Int) + off = (tgt : Int)) (kt : P → W p l e R s m args below meth c H locs cells slots Q (F0 m tgt ls rest)) (kf : ¬ P → W p l e R s m args below meth c H locs cells slots Q (F0 m (pc + 3) ls rest)) : W p l e R s m args below meth c H locs cells slots Q (F0 m pc ls (.int (bI P) :: rest)) := by
  by_cases hp : P
  · exact lv_if_ne C.1.1 C.1.2.1 hdg ht (fun _ => kt hp) (fun h => absurd h (by rw [bI, if_pos hp]; decide))
  · exact lv_if_ne C.1.1 C.1.2.1 hdg ht (fun h => absurd (by rw [bI, if_neg hp]) h) (fun _ => kf hp)
theorem l_ifeq (C : cx p m c cc nL s args Ts own D cA) {a b : Int64} (hdg : decode cc pc = .ok (.ifCond .eq off, 3)) (ht : (pc : Int) + off = (tgt : Int)) (kt : a = b → W p l e R s m args below meth c H locs cells slots Q (F0 m tgt ls rest)) (kf : ¬ a = b → W p l e R s m args below meth c H locs cells slots Q (F0 m (pc + 3) ls rest)) : W p l e R s m args below meth c H locs cells slots Q (F0 m pc ls (.int (lg_cmp a b) :: rest)) := lv_if_eq C.1.1 C.1.2.1 hdg ht (fun h => kt ((lg_e0 a b).mp h)) (fun h => kf (fun h2 => h ((lg_e0 a b).mpr h2)))
theorem l_ifne (C : cx p m c cc nL s args Ts own D cA) {a b : Int64} (hdg : decode cc pc = .ok (.ifCond .ne off, 3)) (ht : (pc : Int) + off = (tgt : Int)) (kt : ¬ a = b → W p l e R s m args below meth c H locs cells slots Q (F0 m tgt ls rest)) (kf : a = b → W p l e R s m args below meth c H locs cells slots Q (F0 m (pc + 3) ls rest)) : W p l e R s m args below meth c H locs cells slots Q (F0 m pc ls (.int (lg_cmp a b) :: rest)) := lv_if_ne C.1.1 C.1.2.1 hdg ht (fun h => kt (fun h2 => h ((lg_e0 a b).mpr h2))) (fun h => kf ((lg_e0 a b).mp h))
theorem l_iflt (C : cx p m c cc nL s args Ts own D cA) {a b : Int64} (hdg : decode cc pc = .ok (.ifCond .lt off, 3)) (ht : (pc : Int) + off = (tgt : Int)) (kt : a < b → W p l e R s m args below meth c H locs cells slots Q (F0 m tgt ls rest)) (kf : ¬ a < b → W p l e R s m args below meth c H locs cells slots Q (F0 m (pc + 3) ls rest)) : W p l e R s m args below meth c H locs cells slots Q (F0 m pc ls (.int (lg_cmp a b) :: rest)) := lv_if_lt C.1.1 C.1.2.1 hdg ht (fun h => kt ((lg_l0 a b).mp h)) (fun h => kf (fun h2 => h ((lg_l0 a b).mpr h2)))
theorem l_ifge (C : cx p m c cc nL s args Ts own D cA) {a b : Int64} (hdg : decode cc pc = .ok (.ifCond .ge off, 3)) (ht : (pc : Int) + off = (tgt : Int)) (kt : ¬ a < b → W p l e R s m args below meth c H locs cells slots Q (F0 m tgt ls rest)) (kf : a < b → W p l e R s m args below meth c H locs cells slots Q (F0 m (pc + 3) ls rest)) : W p l e R s m args below meth c H locs cells slots Q (F0 m pc ls (.int (lg_cmp a b) :: rest)) := lv_if_ge C.1.1 C.1.2.1 hdg ht (fun h => kt (fun h2 => (c_nlt _ _).mp h ((lg_l0 a b).mpr h2))) (fun h => kf ((lg_l0 a b).mp (Decidable.not_not.mp (fun h2 => h ((c_nlt _ _).mpr h2)))))
theorem l_ifgt (C : cx p m c cc nL s args Ts own D cA) {a b : Int64} (hdg : decode cc pc = .ok (.ifCond .gt off, 3)) (ht : (pc : Int) + off = (tgt : Int)) (kt : b < a → W p l e R s m args below meth c H locs cells slots Q (F0 m tgt ls rest)) (kf : ¬ b < a → W p l e R s m args below meth c H locs cells slots Q (F0 m (pc + 3) ls rest)) : W p l e R s m args below meth c H locs cells slots Q (F0 m pc ls (.int (lg_cmp a b) :: rest)) := lv_if_gt C.1.1 C.1.2.1 hdg ht (fun h => kt ((lg_g0 a b).mp h)) (fun h => kf (fun h2 => h ((lg_g0 a b).mpr h2)))
theorem l_ifle (C : cx p m c cc nL s args Ts own D cA) {a b : Int64} (hdg : decode cc pc = .ok (.ifCond .le off, 3)) (ht : (pc : Int) + off = (tgt : Int)) (kt : ¬ b < a → W p l e R s m args below meth c H locs cells slots Q (F0 m tgt ls rest)) (kf : b < a → W p l e R s m args below meth c H locs cells slots Q (F0 m (pc + 3) ls rest)) : W p l e R s m args below meth c H locs cells slots Q (F0 m pc ls (.int (lg_cmp a b) :: rest)) := lv_if_le C.1.1 C.1.2.1 hdg ht (fun h => kt (fun h2 => (c_nlt _ _).mp h ((lg_g0 a b).mpr h2))) (fun h => kf ((lg_g0 a b).mp (Decidable.not_not.mp (fun h2 => h ((c_nlt _ _).mpr h2)))))
-- natural numbers compared: i under j on the stack
theorem n_cge (C : cx p m c cc nL s args Ts own D cA) {i j : Nat} (hi : i < 2 ^ 31) (hj : j < 2 ^ 31) (hdg : decode cc pc = .ok (.if_icmp .ge off, 3)) (ht : (pc : Int) + off = (tgt : Int)) (kt : j ≤ i → W p l e R s m args below meth c H locs cells slots Q (F0 m tgt ls rest)) (kf : i < j → W p l e R s m args below meth c H locs cells slots Q (F0 m (pc + 3) ls rest)) : W p l e R s m args below meth c H locs cells slots Q (F0 m pc ls (.int (nI j) :: .int (nI i) :: rest)) := lv_icmp_ge C.1.1 C.1.2.1 hdg ht (fun h => kt ((nI_leI hj hi).mp h)) (fun h => kf (Nat.not_le.mp (fun h2 => h ((nI_leI hj hi).mpr h2))))
theorem n_clt (C : cx p m c cc nL s args Ts own D cA) {i j : Nat} (hi : i < 2 ^ 31) (hj : j < 2 ^ 31) (hdg : decode cc pc = .ok (.if_icmp .lt off, 3)) (ht : (pc : Int) + off = (tgt : Int)) (kt : i < j → W p l e R s m args below meth c H locs cells slots Q (F0 m tgt ls rest)) (kf : j ≤ i → W p l e R s m args below meth c H locs cells slots Q (F0 m (pc + 3) ls rest)) : W p l e R s m args below meth c H locs cells slots Q (F0 m pc ls (.int (nI j) :: .int (nI i) :: rest)) := lv_icmp_lt C.1.1 C.1.2.1 hdg ht (fun h => kt ((nI_ltI hi hj).mp h)) (fun h => kf (Nat.not_lt.mp (fun h2 => h ((nI_ltI hi hj).mpr h2))))
theorem n_cgt (C : cx p m c cc nL s args Ts own D cA) {i j : Nat} (hi : i < 2 ^ 31) (hj : j < 2 ^ 31) (hdg : decode cc pc = .ok (.if_icmp .gt off, 3)) (ht : (pc : Int) + off = (tgt : Int)) (kt : j < i → W p l e R s m args below meth c H locs cells slots Q (F0 m tgt ls rest)) (kf : i ≤ j → W p l e R s m args below meth c H locs cells slots Q (F0 m (pc + 3) ls rest)) : W p l e R s m args below meth c H locs cells slots Q (F0 m pc ls (.int (nI j) :: .int (nI i) :: rest)) := lv_icmp_gt C.1.1 C.1.2.1 hdg ht (fun h => kt ((nI_ltI hj hi).mp h)) (fun h => kf (Nat.not_lt.mp (fun h2 => h ((nI_ltI hj hi).mpr h2))))
theorem n_cle (C : cx p m c cc nL s args Ts own D cA) {i j : Nat} (hi : i < 2 ^ 31) (hj : j < 2 ^ 31) (hdg : decode cc pc = .ok (.if_icmp .le off, 3)) (ht : (pc : Int) + off = (tgt : Int)) (kt : i ≤ j → W p l e R s m args below meth c H locs cells slots Q (F0 m tgt ls rest)) (kf : j < i → W p l e R s m args below meth c H locs cells slots Q (F0 m (pc + 3) ls rest)) : W p l e R s m args below meth c H locs cells slots Q (F0 m pc ls (.int (nI j) :: .int (nI i) :: rest)) := lv_icmp_le C.1.1 C.1.2.1 hdg ht (fun h => kt ((nI_leI hi hj).mp h)) (fun h => kf (Nat.not_le.mp (fun h2 => h ((nI_leI hi hj).mpr h2))))
theorem n_ceq (C : cx p m c cc nL s args Ts own D cA) {i j : Nat} (hi : i < 2 ^ 31) (hj : j < 2 ^ 31) (hdg : decode cc pc = .ok (.if_icmp .eq off, 3)) (ht : (pc : Int) + off = (tgt : Int)) (kt : i = j → W p l e R s m args below meth c H locs cells slots Q (F0 m tgt ls rest)) (kf : ¬ i = j → W p l e R s m args below meth c H locs cells slots Q (F0 m (pc + 3) ls rest)) : W p l e R s m args below meth c H locs cells slots Q (F0 m pc ls (.int (nI j) :: .int (nI i) :: rest)) := lv_icmp_eq C.1.1 C.1.2.1 hdg ht (fun h => kt ((nI_eq hi hj).mp h)) (fun h => kf (fun h2 => h ((nI_eq hi hj).mpr h2)))
theorem n_cne (C : cx p m c cc nL s args Ts own D cA) {i j : Nat} (hi : i < 2 ^ 31) (hj : j < 2 ^ 31) (hdg : decode cc pc = .ok (.if_icmp .ne off, 3)) (ht : (pc : Int) + off = (tgt : Int)) (kt : ¬ i = j → W p l e R s m args below meth c H locs cells slots Q (F0 m tgt ls rest)) (kf : i = j → W p l e R s m args below meth c H locs cells slots Q (F0 m (pc + 3) ls rest)) : W p l e R s m args below meth c H locs cells slots Q (F0 m pc ls (.int (nI j) :: .int (nI i) :: rest)) := lv_icmp_ne C.1.1 C.1.2.1 hdg ht (fun h => kt (fun h2 => h ((nI_eq hi hj).mpr h2))) (fun h => kf ((nI_eq hi hj).mp h))
-- a natural number isn't below 0
theorem n_zlt (C : cx p m c cc nL s args Ts own D cA) {i : Nat} (hi : i < 2 ^ 31) (hdg : decode cc pc = .ok (.ifCond .lt off, 3)) (ht : (pc : Int) + off = (tgt : Int)) (kf : W p l e R s m args below meth c H locs cells slots Q (F0 m (pc + 3) ls rest)) : W p l e R s m args below meth c H locs cells slots Q (F0 m pc ls (.int (nI i) :: rest)) := lv_if_lt C.1.1 C.1.2.1 hdg ht (fun h => absurd h (nI_pos hi)) (fun _ => kf)
theorem n_zge (C : cx p m c cc nL s args Ts own D cA) {i : Nat} (hi : i < 2 ^ 31) (hdg : decode cc pc = .ok (.ifCond .ge off, 3)) (ht : (pc : Int) + off = (tgt : Int)) (kt : W p l e R s m args below meth c H locs cells slots Q (F0 m tgt ls rest)) : W p l e R s m args below meth c H locs cells slots Q (F0 m pc ls (.int (nI i) :: rest)) := lv_if_ge C.1.1 C.1.2.1 hdg ht (fun _ => kt) (fun h => absurd (nI_pos' hi) h)
theorem n_zeq (C : cx p m c cc nL s args Ts own D cA) {i : Nat} (hi : i < 2 ^ 31) (hdg : decode cc pc = .ok (.ifCond .eq off, 3)) (ht : (pc : Int) + off = (tgt : Int)) (kt : i = 0 → W p l e R s m args below meth c H locs cells slots Q (F0 m tgt ls rest)) (kf : ¬ i = 0 → W p l e R s m args below meth c H locs cells slots Q (F0 m (pc + 3) ls rest)) : W p l e R s m args below meth c H locs cells slots Q (F0 m pc ls (.int (nI i) :: rest)) := lv_if_eq C.1.1 C.1.2.1 hdg ht (fun h => kt ((nI_eq (b := 0) hi (by decide)).mp h)) (fun h => kf (fun h2 => h ((nI_eq (b := 0) hi (by decide)).mpr h2)))
theorem n_zne (C : cx p m c cc nL s args Ts own D cA) {i : Nat} (hi : i < 2 ^ 31) (hdg : decode cc pc = .ok (.ifCond .ne off, 3)) (ht : (pc : Int) + off = (tgt : Int)) (kt : ¬ i = 0 → W p l e R s m args below meth c H locs cells slots Q (F0 m tgt ls rest)) (kf : i = 0 → W p l e R s m args below meth c H locs cells slots Q (F0 m (pc + 3) ls rest)) : W p l e R s m args below meth c H locs cells slots Q (F0 m pc ls (.int (nI i) :: rest)) := lv_if_ne C.1.1 C.1.2.1 hdg ht (fun h => kt (fun h2 => h ((nI_eq (b := 0) hi (by decide)).mpr h2))) (fun h => kf ((nI_eq (b := 0) hi (by decide)).mp h))
theorem n_i2l (C : cx p m c cc nL s args Ts own D cA) {i : Nat} (hi : i < 2 ^ 31) (hdg : decode cc pc = .ok (.i2l, 1)) (kk : W p l e R s m args below meth c H locs cells slots Q (F0 m (pc + 1) ls (.long (lN i) :: rest))) : W p l e R s m args below meth c H locs cells slots Q (F0 m pc ls (.int (nI i) :: rest)) := lv_i2l C.1.1 C.1.2.1 hdg (nI_l hi) kk
theorem n_iinc (C : cx p m c cc nL s args Ts own D cA) {i k j : Nat} {lv lv' : List (Nat × Value)} (hdg : decode cc pc = .ok (.iinc i 1, 3)) (h : lv_has ls nL lv) (hk : lv[k]? = some (i, .int (nI j))) (hn : i < nL) (hl : (i, Value.int (nI (j + 1))) :: lv.filter (fun q => !(q.1 == i) && !(q.1 + 1 == i && q.2.category == 2)) = lv')
    (kk : ∀ ls' : Array Slot, lv_has ls' nL lv' → W p l e R s m args below meth c H locs cells slots Q (F0 m (pc + 3) ls' rest)) : W p l e R s m args below meth c H locs cells slots Q (F0 m pc ls rest) := lv_iinc C.1.1 C.1.2.1 hdg h hk (v := nI (j + 1)) (by rw [nI_succ]; rfl) hn hl kk
theorem n_irem (C : cx p m c cc nL s args Ts own D cA) {i j : Nat} (hi : i < 2 ^ 31) (h0 : 0 < j) (hj : j < 2 ^ 31) (hdg : decode cc pc = .ok (.irem, 1)) (kk : W p l e R s m args below meth c H locs cells slots Q (F0 m (pc + 1) ls (.int (nI (i % j)) :: rest))) : W p l e R s m args below meth c H locs cells slots Q (F0 m pc ls (.int (nI j) :: .int (nI i) :: rest)) := lv_irem C.1.1 C.1.2.1 hdg (nI_ne0 h0 hj) (by rw [pk_rem hi h0 hj]; exact kk)
theorem n_idiv (C : cx p m c cc nL s args Ts own D cA) {i j : Nat} (hi : i < 2 ^ 31) (h0 : 0 < j) (hj : j < 2 ^ 31) (hdg : decode cc pc = .ok (.idiv, 1)) (kk : W p l e R s m args below meth c H locs cells slots Q (F0 m (pc + 1) ls (.int (nI (i / j)) :: rest))) : W p l e R s m args below meth c H locs cells slots Q (F0 m pc ls (.int (nI j) :: .int (nI i) :: rest)) := lv_idiv C.1.1 C.1.2.1 hdg (nI_ne0 h0 hj) (by rw [pk_div hi h0 hj]; exact kk)
theorem n_lrem (C : cx p m c cc nL s args Ts own D cA) {i j : Nat} (hi : i < 2 ^ 63) (h0 : 0 < j) (hj : j < 2 ^ 63) (hdg : decode cc pc = .ok (.lrem, 1)) (kk : W p l e R s m args below meth c H locs cells slots Q (F0 m (pc + 1) ls (.long (lN (i % j)) :: rest))) : W p l e R s m args below meth c H locs cells slots Q (F0 m pc ls (.long (lN j) :: .long (lN i) :: rest)) := lv_lrem C.1.1 C.1.2.1 hdg (fun h => absurd ((pk_lEQ (b := 0) hj (by decide)).mp h) (Nat.ne_of_gt h0)) (by rw [pk_lRem hi h0 hj]; exact kk)
theorem n_ldiv (C : cx p m c cc nL s args Ts own D cA) {i j : Nat} (hi : i < 2 ^ 63) (h0 : 0 < j) (hj : j < 2 ^ 63) (hdg : decode cc pc = .ok (.ldiv, 1)) (kk : W p l e R s m args below meth c H locs cells slots Q (F0 m (pc + 1) ls (.long (lN (i / j)) :: rest))) : W p l e R s m args below meth c H locs cells slots Q (F0 m pc ls (.long (lN j) :: .long (lN i) :: rest)) := lv_ldiv C.1.1 C.1.2.1 hdg (fun h => absurd ((pk_lEQ (b := 0) hj (by decide)).mp h) (Nat.ne_of_gt h0)) (by rw [pk_lDiv hi h0 hj]; exact kk)
end RW
theorem bI_t {P : Prop} [Decidable P] (h : P) : bI P = nI 1 := by rw [bI, if_pos h]; rfl
theorem bI_f {P : Prop} [Decidable P] (h : ¬ P) : bI P = nI 0 := by rw [bI, if_neg h]; rfl
theorem bI_z (P : Prop) [Decidable P] : narrow .boolean (.int (bI P)) = .int (bI P) := by
  by_cases h : P
  · rw [bI_t h]; rfl
  · rw [bI_f h]; rfl
theorem bI_c {P Q : Prop} [Decidable P] [Decidable Q] (h : P ↔ Q) : bI P = bI Q := by
  by_cases hp : P
  · rw [bI_t hp, bI_t (h.mp hp)]
  · rw [bI_f hp, bI_f (fun hq => hp (h.mpr hq))]
