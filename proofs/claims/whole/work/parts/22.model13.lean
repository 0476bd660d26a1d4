/-! ===== the reference, thirteenth methods (laid by program) ===== -/
theorem bs_c {V W9 : Nat → Int32} {p : Nat} (h : ∀ j, j < 120 → V j = W9 j) (hp : p < 10) : ∀ k, k ≤ 12 → bsF V p k = bsF W9 p k
  | 0, _ => rfl
  | k + 1, hk => by
    have ih := bs_c h hp k (by omega)
    unfold bsF
    rw [ih]
    cases hb : bsF W9 p k with
    | none => rfl
    | some b =>
      have hbk := bs_lt hb
      dsimp only
      rw [h (12 * p + k) (by omega), h (12 * p + b) (by omega)]
theorem mt_c {V W9 : Nat → Int32} {ns nt p : Nat} (h : ∀ j, j < 120 → V j = W9 j) (hns : ns ≤ 10) (hnt : nt ≤ 12) (hp : p < ns) : mtF V ns nt p = mtF W9 ns nt p := by
  unfold mtF
  rw [bs_c h (by omega) nt hnt]
  cases hb : bsF W9 p nt with
  | none => rfl
  | some b =>
    have hbk := bs_lt hb
    dsimp only
    have hi : mtP V ns nt p b ↔ mtP W9 ns nt p b := by
      constructor
      · intro ⟨h1, h2, h3⟩
        refine ⟨by rw [← h _ (show 12 * p + b < 120 by omega)]; exact h1, fun j hj hne => ?_, fun j hj hne => ?_⟩
        · rw [← h _ (show 12 * p + j < 120 by omega), ← h _ (show 12 * p + b < 120 by omega)]; exact h2 j hj hne
        · rw [← h _ (show 12 * j + b < 120 by omega), ← h _ (show 12 * p + b < 120 by omega)]; exact h3 j hj hne
      · intro ⟨h1, h2, h3⟩
        refine ⟨by rw [h _ (show 12 * p + b < 120 by omega)]; exact h1, fun j hj hne => ?_, fun j hj hne => ?_⟩
        · rw [h _ (show 12 * p + j < 120 by omega), h _ (show 12 * p + b < 120 by omega)]; exact h2 j hj hne
        · rw [h _ (show 12 * j + b < 120 by omega), h _ (show 12 * p + b < 120 by omega)]; exact h3 j hj hne
    by_cases hm : mtP V ns nt p b
    · rw [if_pos hm, if_pos (hi.mp hm)]
    · rw [if_neg hm, if_neg (fun h9 => hm (hi.mpr h9))]
theorem mt_lt {V : Nat → Int32} {ns nt p b : Nat} (h : mtF V ns nt p = some b) : b < nt := by
  unfold mtF at h
  cases hb : bsF V p nt with
  | none => rw [hb] at h; cases h
  | some c =>
    rw [hb] at h
    dsimp only at h
    by_cases hm : mtP V ns nt p c
    · rw [if_pos hm] at h; cases h; exact bs_lt hb
    · rw [if_neg hm] at h; cases h
abbrev mA (A : MA) (ns nt p : Nat) : Option Nat := mtF (vtA A ns nt) ns nt p
theorem oI_ge {o : Option Nat} (h : 0 ≤ oI o) : ∃ b, o = some b ∧ oI o = nI b := by
  cases o with
  | none => exact absurd h (by decide)
  | some b => exact ⟨b, rfl, rfl⟩
theorem oI_ng {o : Option Nat} (hb : ∀ b, o = some b → b < 2 ^ 31) (h : ¬ 0 ≤ oI o) : o = none := by
  cases o with
  | none => rfl
  | some b => exact absurd (nI_pos' (hb b rfl)) h
def op_votes (A : MA) (B : MB) (ns nt : Nat) (a b : Int32) : OR := if rg (nI 0) (nI ns - nI 1) a then (if rg (nI 0) (nI nt - nI 1) b then ((vtA A ns nt (12 * a.toNatClampNeg + b.toNatClampNeg)).toInt64, A, B) else (lF 1, A, fnd B 1)) else (lF 1, A, fnd B 1)
def mtR (A : MA) (B : MB) (o : Option Nat) : OR := match o with
  | some b => (lN b, A, B)
  | none => (lF 2, A, fnd B 2)
def op_match (A : MA) (B : MB) (ns nt : Nat) (a : Int32) : OR := if rg (nI 0) (nI ns - nI 1) a then mtR A B (mA A ns nt a.toNatClampNeg) else (lF 1, A, fnd B 1)
def cM (A : MA) (ns nt : Nat) : Nat → Nat
  | 0 => 0
  | k + 1 => cM A ns nt k + (if (mA A ns nt k).isSome = true then 1 else 0)
theorem cM_le (A : MA) (ns nt : Nat) : ∀ k, cM A ns nt k ≤ k
  | 0 => Nat.le_refl 0
  | k + 1 => by
    have ih := cM_le A ns nt k
    unfold cM
    by_cases h : (mA A ns nt k).isSome = true
    · rw [if_pos h]; omega
    · rw [if_neg h]; omega
theorem cM_s {A : MA} {ns nt k b : Nat} (h : mA A ns nt k = some b) : cM A ns nt (k + 1) = cM A ns nt k + 1 := by rw [cM, if_pos (by rw [h]; rfl)]
theorem cM_n {A : MA} {ns nt k : Nat} (h : mA A ns nt k = none) : cM A ns nt (k + 1) = cM A ns nt k + 0 := by rw [cM, if_neg (by rw [h]; decide)]
def op_matched (A : MA) (B : MB) (ns nt : Nat) : OR := (lN (cM A ns nt ns), A, B)
set_option maxHeartbeats 4000000 in
set_option maxRecDepth 100000 in
theorem c_X12_votes {l : Launch} {D : va_G} {cA : Nat → ClassId} {f : HF} {sz : Nat} {q : Nat → Nat} {A : MA} {B : MB} {ns nt : Nat} {a b : Int32} (hm : mo cA q A B f) (hns : A 0 0 = nI ns) (hnt : A 1 0 = nI nt) (hns2 : ns ≤ 10) (hnt2 : nt ≤ 12) : Met l yX12_votes wsX12_votes ({ frames := 4, cells := 0, slots := 0, locals := 99 } : Room) (va_Pc [.ref (q 0), .int a, .int b] (hB D cA f sz)) (va_Ql (fun r f1 => (op_votes A B ns nt a b).1 = r ∧ ∃ A1 B1, mo cA q A1 B1 f1 ∧ veq (op_votes A B ns nt a b).2.1 (op_votes A B ns nt a b).2.2 A1 B1) (hE D f sz) (hA f sz)) 0 0 (hA f sz) := by
  refine h_of (cc := cX12_votes) (maxL := 3) (ret := (some .long)) (by decide +kernel) rfl (Nat.le_of_ble_eq_true rfl) ?_
  intro p e s m below meth c ls C hr hlk hnm hw hl
  have hx := C.1.1
  have hb := C.1.2.1
  have hl : lv_has ls 3 [(0, .ref (q 0)), (1, .int a), (2, .int b)] := hl
  have lk0 : Cond.fieldLink RX12 101 "FallingLightModel" "spots" "I" ∈ wsX12_votes := by decide +kernel
  have lk1 : ∀ w ∈ u_ws RX12 TX12 27, w ∈ wsX12_votes := by decide +kernel
  have lk2 : Cond.constantLong RX12 91 (lF 1) ∈ wsX12_votes := by decide +kernel
  have lk3 : Cond.fieldLink RX12 96 "FallingLightModel" "stars" "I" ∈ wsX12_votes := by decide +kernel
  have lk4 : Cond.fieldLink RX12 66 "FallingLightModel" "voteOf" "[I" ∈ wsX12_votes := by decide +kernel
  refine lv_iload_n hx hb dX12_votes_0 rfl (lv_at hl 1 rfl) ?_
  refine lv_iconst (v := nI 0) hx hb dX12_votes_1 (by decide) ?_
  refine lv_aload_n hx hb dX12_votes_2 rfl (lv_at hl 0 rfl) ?_
  refine m_fld C hw hm lk1 0 (by decide) lk0 (v := .int (nI ns)) (congrArg (fun z => some (Value.int z)) hns) dX12_votes_3 ?_
  refine lv_iconst (v := nI 1) hx hb dX12_votes_6 (by decide) ?_
  refine lv_isub hx hb dX12_votes_7 ?_
  refine h_calli hw (h_runS (n := 3) (As := [.int a, .int (nI 0), .int ((nI ns) - (nI 1))]) (rest := []) C hw c_X12_in gX12_votes_X12_in rfl rfl rfl (by decide +kernel) ⟨by decide, by decide⟩ rfl hl.1 rfl (Nat.le_of_ble_eq_true rfl) dX12_votes_8 ⟨by first | decide | omega, by first | decide | omega⟩) (fun r1 f2 H locs hp hw => ?_)
  obtain ⟨rfl, rfl⟩ := hp
  refine n_ifeqB C (tgt := 28) dX12_votes_11 (by decide) (fun cq3 => ?_) (fun cq3 => ?_)
  · refine lv_aload_n hx hb dX12_votes_28 rfl (lv_at hl 0 rfl) ?_
    refine lv_ldc2 hx hb C.1.2.2.2.1 (C.1.2.2.2.2 _ lk2) dX12_votes_29 ?_
    refine h_calll hw (h_runV (n := 1) (As := [.long (lF 1)]) (rest := []) C hw (c_X12_finding hm (by omega)) gX12_votes_X12_finding rfl rfl rfl (by decide +kernel) ⟨by decide, by decide⟩ bX12 hm.1 rfl hl.1 rfl (Nat.le_of_ble_eq_true rfl) dX12_votes_32 ⟨by first | decide | omega, by first | decide | omega⟩) (fun r4 f5 H locs hp hw => ?_)
    obtain ⟨rfl, B6, eB6, hm⟩ := hp
    exact h_lret C hr hlk hw (op_fin2 (A0 := A) (B0 := fnd B 1) (by simp only [op_votes, if_neg cq3]) hm ⟨fun _ _ => rfl, by rw [eB6]; exact fnd_15 (rfl)⟩) dX12_votes_35
  · obtain ⟨i, hi, rfl⟩ := in1N (by omega) cq3
    refine lv_iload_n hx hb dX12_votes_14 rfl (lv_at hl 2 rfl) ?_
    refine lv_iconst (v := nI 0) hx hb dX12_votes_15 (by decide) ?_
    refine lv_aload_n hx hb dX12_votes_16 rfl (lv_at hl 0 rfl) ?_
    refine m_fld C hw hm lk1 1 (by decide) lk3 (v := .int (nI nt)) (congrArg (fun z => some (Value.int z)) hnt) dX12_votes_17 ?_
    refine lv_iconst (v := nI 1) hx hb dX12_votes_20 (by decide) ?_
    refine lv_isub hx hb dX12_votes_21 ?_
    refine h_calli hw (h_runS (n := 3) (As := [.int b, .int (nI 0), .int ((nI nt) - (nI 1))]) (rest := []) C hw c_X12_in gX12_votes_X12_in rfl rfl rfl (by decide +kernel) ⟨by decide, by decide⟩ rfl hl.1 rfl (Nat.le_of_ble_eq_true rfl) dX12_votes_22 ⟨by first | decide | omega, by first | decide | omega⟩) (fun r7 f8 H locs hp hw => ?_)
    obtain ⟨rfl, rfl⟩ := hp
    refine n_ifneB C (tgt := 36) dX12_votes_25 (by decide) (fun cq9 => ?_) (fun cq9 => ?_)
    · obtain ⟨j, hj, rfl⟩ := in1N (by omega) cq9
      refine lv_aload_n hx hb dX12_votes_36 rfl (lv_at hl 0 rfl) ?_
      refine h_callv hw (h_runV (n := 0) (As := []) (rest := []) C hw (c_X12_findVotes hm hns hnt (by omega) (by omega)) gX12_votes_X12_findVotes rfl rfl rfl (by decide +kernel) ⟨by decide, by decide⟩ bX12 hm.1 rfl hl.1 rfl (Nat.le_of_ble_eq_true rfl) dX12_votes_37 ⟨by first | decide | omega, by first | decide | omega⟩) (fun  f10 H locs hp hw => ?_)
      obtain ⟨A11, B12, hm, hFAA11, hFBA11, hVA11⟩ := hp
      have hn13 : A11 0 0 = nI ns := by rw [hFAA11 0 (by decide) (by decide) (by decide) (by decide) (by decide) (by decide)]; exact hns
      have hn14 : A11 1 0 = nI nt := by rw [hFAA11 1 (by decide) (by decide) (by decide) (by decide) (by decide) (by decide)]; exact hnt
      refine lv_aload_n hx hb dX12_votes_40 rfl (lv_at hl 0 rfl) ?_
      refine m_fld C hw hm lk1 23 (by decide) lk4 (v := .ref (q 23)) rfl dX12_votes_41 ?_
      refine lv_bipush (v := nI 12) hx hb dX12_votes_44 (by decide) ?_
      refine lv_iload_n hx hb dX12_votes_46 rfl (lv_at hl 1 rfl) ?_
      refine n_imul C dX12_votes_47 ?_
      refine lv_iload_n hx hb dX12_votes_48 rfl (lv_at hl 2 rfl) ?_
      refine n_iadd C dX12_votes_49 ?_
      refine m_iald C hw hm 23 rfl (v := vtA A ns nt (12 * i + j)) (hVA11 _ (by omega)) (show 12 * i + j < 120 from (by omega)) dX12_votes_50 ?_
      refine lv_i2l hx hb dX12_votes_51 rfl ?_
      exact h_lret C hr hlk hw (op_fin2 (A0 := A) (B0 := B) (by simp only [op_votes, if_pos cq3, if_pos cq9, nI_clamp (show i < 2 ^ 31 by omega), nI_clamp (show j < 2 ^ 31 by omega)]) hm ⟨fun k hk => hFAA11 k (by omega) (by omega) (by omega) (by omega) (by omega) (by omega), hFBA11 15 (by decide) (by decide)⟩) dX12_votes_52
    · refine lv_aload_n hx hb dX12_votes_28 rfl (lv_at hl 0 rfl) ?_
      refine lv_ldc2 hx hb C.1.2.2.2.1 (C.1.2.2.2.2 _ lk2) dX12_votes_29 ?_
      refine h_calll hw (h_runV (n := 1) (As := [.long (lF 1)]) (rest := []) C hw (c_X12_finding hm (by omega)) gX12_votes_X12_finding rfl rfl rfl (by decide +kernel) ⟨by decide, by decide⟩ bX12 hm.1 rfl hl.1 rfl (Nat.le_of_ble_eq_true rfl) dX12_votes_32 ⟨by first | decide | omega, by first | decide | omega⟩) (fun r15 f16 H locs hp hw => ?_)
      obtain ⟨rfl, B17, eB17, hm⟩ := hp
      exact h_lret C hr hlk hw (op_fin2 (A0 := A) (B0 := fnd B 1) (by simp only [op_votes, if_pos cq3, if_neg cq9, nI_clamp (show i < 2 ^ 31 by omega)]) hm ⟨fun _ _ => rfl, by rw [eB17]; exact fnd_15 (rfl)⟩) dX12_votes_35
set_option maxHeartbeats 4000000 in
set_option maxRecDepth 100000 in
theorem c_X12_match {l : Launch} {D : va_G} {cA : Nat → ClassId} {f : HF} {sz : Nat} {q : Nat → Nat} {A : MA} {B : MB} {ns nt : Nat} {a : Int32} (hm : mo cA q A B f) (hns : A 0 0 = nI ns) (hnt : A 1 0 = nI nt) (hns2 : ns ≤ 10) (hnt2 : nt ≤ 12) : Met l yX12_match wsX12_match ({ frames := 4, cells := 0, slots := 0, locals := 99 } : Room) (va_Pc [.ref (q 0), .int a] (hB D cA f sz)) (va_Ql (fun r f1 => (op_match A B ns nt a).1 = r ∧ ∃ A1 B1, mo cA q A1 B1 f1 ∧ veq (op_match A B ns nt a).2.1 (op_match A B ns nt a).2.2 A1 B1) (hE D f sz) (hA f sz)) 0 0 (hA f sz) := by
  refine h_of (cc := cX12_match) (maxL := 3) (ret := (some .long)) (by decide +kernel) rfl (Nat.le_of_ble_eq_true rfl) ?_
  intro p e s m below meth c ls C hr hlk hnm hw hl
  have hx := C.1.1
  have hb := C.1.2.1
  have hl : lv_has ls 3 [(0, .ref (q 0)), (1, .int a)] := hl
  have lk0 : Cond.fieldLink RX12 101 "FallingLightModel" "spots" "I" ∈ wsX12_match := by decide +kernel
  have lk1 : ∀ w ∈ u_ws RX12 TX12 27, w ∈ wsX12_match := by decide +kernel
  have lk2 : Cond.constantLong RX12 106 (lF 2) ∈ wsX12_match := by decide +kernel
  have lk3 : Cond.constantLong RX12 91 (lF 1) ∈ wsX12_match := by decide +kernel
  refine lv_iload_n hx hb dX12_match_0 rfl (lv_at hl 1 rfl) ?_
  refine lv_iconst (v := nI 0) hx hb dX12_match_1 (by decide) ?_
  refine lv_aload_n hx hb dX12_match_2 rfl (lv_at hl 0 rfl) ?_
  refine m_fld C hw hm lk1 0 (by decide) lk0 (v := .int (nI ns)) (congrArg (fun z => some (Value.int z)) hns) dX12_match_3 ?_
  refine lv_iconst (v := nI 1) hx hb dX12_match_6 (by decide) ?_
  refine lv_isub hx hb dX12_match_7 ?_
  refine h_calli hw (h_runS (n := 3) (As := [.int a, .int (nI 0), .int ((nI ns) - (nI 1))]) (rest := []) C hw c_X12_in gX12_match_X12_in rfl rfl rfl (by decide +kernel) ⟨by decide, by decide⟩ rfl hl.1 rfl (Nat.le_of_ble_eq_true rfl) dX12_match_8 ⟨by first | decide | omega, by first | decide | omega⟩) (fun r1 f2 H locs hp hw => ?_)
  obtain ⟨rfl, rfl⟩ := hp
  refine n_ifneB C (tgt := 22) dX12_match_11 (by decide) (fun cq3 => ?_) (fun cq3 => ?_)
  · obtain ⟨i, hi, rfl⟩ := in1N (by omega) cq3
    refine lv_aload_n hx hb dX12_match_22 rfl (lv_at hl 0 rfl) ?_
    refine h_callv hw (h_runV (n := 0) (As := []) (rest := []) C hw (c_X12_findVotes hm hns hnt (by omega) (by omega)) gX12_match_X12_findVotes rfl rfl rfl (by decide +kernel) ⟨by decide, by decide⟩ bX12 hm.1 rfl hl.1 rfl (Nat.le_of_ble_eq_true rfl) dX12_match_23 ⟨by first | decide | omega, by first | decide | omega⟩) (fun  f4 H locs hp hw => ?_)
    obtain ⟨A5, B6, hm, hFAA5, hFBA5, hVA5⟩ := hp
    have hn7 : A5 0 0 = nI ns := by rw [hFAA5 0 (by decide) (by decide) (by decide) (by decide) (by decide) (by decide)]; exact hns
    have hn8 : A5 1 0 = nI nt := by rw [hFAA5 1 (by decide) (by decide) (by decide) (by decide) (by decide) (by decide)]; exact hnt
    refine lv_aload_n hx hb dX12_match_26 rfl (lv_at hl 0 rfl) ?_
    refine lv_iload_n hx hb dX12_match_27 rfl (lv_at hl 1 rfl) ?_
    refine h_calli hw (h_runV (n := 1) (As := [.int (nI i)]) (rest := []) C hw (c_X12_matchOf hm hn7 hn8 (by omega) (by omega) (by omega)) gX12_match_X12_matchOf rfl rfl rfl (by decide +kernel) ⟨by decide, by decide⟩ bX12 hm.1 rfl hl.1 rfl (Nat.le_of_ble_eq_true rfl) dX12_match_28 ⟨by first | decide | omega, by first | decide | omega⟩) (fun r9 f10 H locs hp hw => ?_)
    obtain ⟨rfl, rfl⟩ := hp
    refine W.eq (g2 := F0 m 31 ls [.int (oI (mA A ns nt i))]) (by rw [mt_c hVA5 hns2 hnt2 (show i < ns by omega)]) ?_
    refine lv_istore_n (lv' := [(2, _), (0, _), (1, _)]) hx hb dX12_match_31 rfl hl (by decide) rfl (fun ls hl => ?_)
    refine lv_iload_n hx hb dX12_match_32 rfl (lv_at hl 0 rfl) ?_
    refine lv_if_ge (tgt := 46) hx hb dX12_match_33 (by decide) (fun cq11 => ?_) (fun cq11 => ?_)
    · obtain ⟨b, hbb, hbI⟩ := oI_ge cq11
      have hbt := mt_lt hbb
      rw [hbI] at hl
      refine lv_iload_n hx hb dX12_match_46 rfl (lv_at hl 0 rfl) ?_
      refine n_i2l C (by omega) dX12_match_47 ?_
      exact h_lret C hr hlk hw (op_fin2 (A0 := A) (B0 := B) (by simp only [op_match, if_pos cq3, nI_clamp (show i < 2 ^ 31 by omega), mtR, hbb]) hm ⟨fun k hk => hFAA5 k (by omega) (by omega) (by omega) (by omega) (by omega) (by omega), hFBA5 15 (by decide) (by decide)⟩) dX12_match_48
    · have hbb := oI_ng (fun b h9 => by have := mt_lt h9; omega) cq11
      refine lv_aload_n hx hb dX12_match_36 rfl (lv_at hl 1 rfl) ?_
      refine lv_ldc2 hx hb C.1.2.2.2.1 (C.1.2.2.2.2 _ lk2) dX12_match_37 ?_
      refine h_calll hw (h_runV (n := 1) (As := [.long (lF 2)]) (rest := []) C hw (c_X12_finding hm (by omega)) gX12_match_X12_finding rfl rfl rfl (by decide +kernel) ⟨by decide, by decide⟩ bX12 hm.1 rfl hl.1 rfl (Nat.le_of_ble_eq_true rfl) dX12_match_40 ⟨by first | decide | omega, by first | decide | omega⟩) (fun r12 f13 H locs hp hw => ?_)
      obtain ⟨rfl, B14, eB14, hm⟩ := hp
      refine lv_goto (tgt := 48) hx hb dX12_match_43 (by decide) ?_
      exact h_lret C hr hlk hw (op_fin2 (A0 := A) (B0 := fnd B 2) (by simp only [op_match, if_pos cq3, nI_clamp (show i < 2 ^ 31 by omega), mtR, hbb]) hm ⟨fun k hk => hFAA5 k (by omega) (by omega) (by omega) (by omega) (by omega) (by omega), by rw [eB14]; exact fnd_15 (hFBA5 15 (by decide) (by decide))⟩) dX12_match_48
  · refine lv_aload_n hx hb dX12_match_14 rfl (lv_at hl 0 rfl) ?_
    refine lv_ldc2 hx hb C.1.2.2.2.1 (C.1.2.2.2.2 _ lk3) dX12_match_15 ?_
    refine h_calll hw (h_runV (n := 1) (As := [.long (lF 1)]) (rest := []) C hw (c_X12_finding hm (by omega)) gX12_match_X12_finding rfl rfl rfl (by decide +kernel) ⟨by decide, by decide⟩ bX12 hm.1 rfl hl.1 rfl (Nat.le_of_ble_eq_true rfl) dX12_match_18 ⟨by first | decide | omega, by first | decide | omega⟩) (fun r15 f16 H locs hp hw => ?_)
    obtain ⟨rfl, B17, eB17, hm⟩ := hp
    exact h_lret C hr hlk hw (op_fin2 (A0 := A) (B0 := fnd B 1) (by simp only [op_match, if_neg cq3]) hm ⟨fun _ _ => rfl, by rw [eB17]; exact fnd_15 (rfl)⟩) dX12_match_21
set_option maxHeartbeats 4000000 in
set_option maxRecDepth 100000 in
theorem c_X12_matched {l : Launch} {D : va_G} {cA : Nat → ClassId} {f : HF} {sz : Nat} {q : Nat → Nat} {A : MA} {B : MB} {ns nt : Nat} (hm : mo cA q A B f) (hns : A 0 0 = nI ns) (hnt : A 1 0 = nI nt) (hns2 : ns ≤ 10) (hnt2 : nt ≤ 12) : Met l yX12_matched wsX12_matched ({ frames := 4, cells := 0, slots := 0, locals := 99 } : Room) (va_Pc [.ref (q 0)] (hB D cA f sz)) (va_Ql (fun r f1 => (op_matched A B ns nt).1 = r ∧ ∃ A1 B1, mo cA q A1 B1 f1 ∧ veq (op_matched A B ns nt).2.1 (op_matched A B ns nt).2.2 A1 B1) (hE D f sz) (hA f sz)) 0 0 (hA f sz) := by
  refine h_of (cc := cX12_matched) (maxL := 3) (ret := (some .long)) (by decide +kernel) rfl (Nat.le_of_ble_eq_true rfl) ?_
  intro p e s m below meth c ls C hr hlk hnm hw hl
  have hx := C.1.1
  have hb := C.1.2.1
  have hl : lv_has ls 3 [(0, .ref (q 0))] := hl
  have lk0 : Cond.fieldLink RX12 101 "FallingLightModel" "spots" "I" ∈ wsX12_matched := by decide +kernel
  have lk1 : ∀ w ∈ u_ws RX12 TX12 27, w ∈ wsX12_matched := by decide +kernel
  refine lv_aload_n hx hb dX12_matched_0 rfl (lv_at hl 0 rfl) ?_
  refine h_callv hw (h_runV (n := 0) (As := []) (rest := []) C hw (c_X12_findVotes hm hns hnt (by omega) (by omega)) gX12_matched_X12_findVotes rfl rfl rfl (by decide +kernel) ⟨by decide, by decide⟩ bX12 hm.1 rfl hl.1 rfl (Nat.le_of_ble_eq_true rfl) dX12_matched_1 ⟨by first | decide | omega, by first | decide | omega⟩) (fun  f1 H locs hp hw => ?_)
  obtain ⟨A2, B3, hm, hFAA2, hFBA2, hVA2⟩ := hp
  have hn4 : A2 0 0 = nI ns := by rw [hFAA2 0 (by decide) (by decide) (by decide) (by decide) (by decide) (by decide)]; exact hns
  have hn5 : A2 1 0 = nI nt := by rw [hFAA2 1 (by decide) (by decide) (by decide) (by decide) (by decide) (by decide)]; exact hnt
  refine lv_iconst (v := nI 0) hx hb dX12_matched_4 (by decide) ?_
  refine lv_istore_n (lv' := [(1, _), (0, _)]) hx hb dX12_matched_5 rfl hl (by decide) rfl (fun ls hl => ?_)
  refine lv_iconst (v := nI 0) hx hb dX12_matched_6 (by decide) ?_
  refine lv_istore_n (lv' := [(2, _), (1, _), (0, _)]) hx hb dX12_matched_7 rfl hl (by decide) rfl (fun ls hl => ?_)
  have lp8 : ∀ (n : Nat) (k : Nat) (H1 : Heap) (locs1 : List Loc) (ls1 : Array Slot), hW D (hA f sz) s.heap f1 H1 locs1 → mo cA q A2 B3 f1 → lv_has ls1 3 [(0, .ref (q 0)), (1, .int (nI (cM A ns nt k))), (2, .int (nI k))] → (k ≤ ns) → (cM A ns nt k ≤ 10) → ns - k < n → W p l e ({ frames := 4, cells := 0, slots := 0, locals := 99 } : Room) s m ([.ref (q 0)]).toArray below meth c H1 locs1 0 0 (MQ below (va_Ql (fun r f1 => (op_matched A B ns nt).1 = r ∧ ∃ A1 B1, mo cA q A1 B1 f1 ∧ veq (op_matched A B ns nt).2.1 (op_matched A B ns nt).2.2 A1 B1) (hE D f sz) (hA f sz)) ([.ref (q 0)]).toArray s 0 0 (hA f sz)) (F0 m 8 ls1 []) := by
    intro n
    induction n with
    | zero => intros; omega
    | succ n ih8 =>
      intro k H locs ls hw hm hl hk hcm hmu
      refine lv_iload_n hx hb dX12_matched_8 rfl (lv_at hl 2 rfl) ?_
      refine lv_aload_n hx hb dX12_matched_9 rfl (lv_at hl 0 rfl) ?_
      refine m_fld C hw hm lk1 0 (by decide) lk0 (v := .int (nI ns)) (congrArg (fun z => some (Value.int z)) hn4) dX12_matched_10 ?_
      refine n_cge C (by omega) (by omega) (tgt := 38) dX12_matched_13 (by decide) (fun cq6 => ?_) (fun cq6 => ?_)
      · obtain rfl : ns = k := by omega
        refine lv_iload_n hx hb dX12_matched_38 rfl (lv_at hl 1 rfl) ?_
        refine n_i2l C (by omega) dX12_matched_39 ?_
        exact h_lret C hr hlk hw (op_fin2 (A0 := A) (B0 := B) (by simp only [op_matched]) hm ⟨fun k hk => hFAA2 k (by omega) (by omega) (by omega) (by omega) (by omega) (by omega), hFBA2 15 (by decide) (by decide)⟩) dX12_matched_40
      · refine lv_iload_n hx hb dX12_matched_16 rfl (lv_at hl 1 rfl) ?_
        refine lv_aload_n hx hb dX12_matched_17 rfl (lv_at hl 0 rfl) ?_
        refine lv_iload_n hx hb dX12_matched_18 rfl (lv_at hl 2 rfl) ?_
        refine h_calli hw (h_runV (n := 1) (As := [.int (nI k)]) (rest := [.int (nI (cM A ns nt k))]) C hw (c_X12_matchOf hm hn4 hn5 (by omega) (by omega) (by omega)) gX12_matched_X12_matchOf rfl rfl rfl (by decide +kernel) ⟨by decide, by decide⟩ bX12 hm.1 rfl hl.1 rfl (Nat.le_of_ble_eq_true rfl) dX12_matched_19 ⟨by first | decide | omega, by first | decide | omega⟩) (fun r7 f8 H locs hp hw => ?_)
        obtain ⟨rfl, rfl⟩ := hp
        refine W.eq (g2 := F0 m 22 ls [.int (oI (mA A ns nt k)), _]) (by rw [mt_c hVA2 hns2 hnt2 (show k < ns by omega)]) ?_
        refine lv_if_lt (tgt := 29) hx hb dX12_matched_22 (by decide) (fun cq9 => ?_) (fun cq9 => ?_)
        · have hbb := oI_lt (fun b h9 => by have := mt_lt h9; omega) cq9
          refine lv_iconst (v := nI 0) hx hb dX12_matched_29 (by decide) ?_
          refine n_iadd C dX12_matched_30 ?_
          refine W.eq (g2 := F0 m 31 ls [.int (nI (cM A ns nt (k + 1)))]) (by rw [cM_n hbb]) ?_
          refine lv_istore_n (lv' := [(1, _), (0, _), (2, _)]) hx hb dX12_matched_31 rfl hl (by decide) rfl (fun ls hl => ?_)
          refine n_iinc C (lv' := [(2, _), (1, _), (0, _)]) dX12_matched_32 hl (k := 2) rfl (by decide) rfl (fun ls hl => ?_)
          refine lv_goto (tgt := 8) hx hb dX12_matched_35 (by decide) ?_
          exact ih8 (k + 1) _ _ _ hw hm (lv_sub hl [2, 1, 0] rfl) (by omega) (by have := cM_le A ns nt (k + 1); omega) (by omega)
        · obtain ⟨b, hbb, hbI⟩ := oI_nn cq9
          refine lv_iconst (v := nI 1) hx hb dX12_matched_25 (by decide) ?_
          refine lv_goto (tgt := 30) hx hb dX12_matched_26 (by decide) ?_
          refine n_iadd C dX12_matched_30 ?_
          refine W.eq (g2 := F0 m 31 ls [.int (nI (cM A ns nt (k + 1)))]) (by rw [cM_s hbb]) ?_
          refine lv_istore_n (lv' := [(1, _), (0, _), (2, _)]) hx hb dX12_matched_31 rfl hl (by decide) rfl (fun ls hl => ?_)
          refine n_iinc C (lv' := [(2, _), (1, _), (0, _)]) dX12_matched_32 hl (k := 2) rfl (by decide) rfl (fun ls hl => ?_)
          refine lv_goto (tgt := 8) hx hb dX12_matched_35 (by decide) ?_
          exact ih8 (k + 1) _ _ _ hw hm (lv_sub hl [2, 1, 0] rfl) (by omega) (by have := cM_le A ns nt (k + 1); omega) (by omega)
  exact lp8 _ 0 _ _ _ hw hm (lv_sub hl [2, 1, 0] rfl) (by omega) (Nat.zero_le 10) (Nat.lt_succ_self _)
