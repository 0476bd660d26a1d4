/-! ===== the law: its loop, its start, the claim ===== -/
/-! THE CLAIM OUT OF ONE WALK OF THE LAW'S BODY. Your part is whole_start (and what it stands on); all else here is the same for every law, but numbers. -/
def R_law : String := "FallingLightLaw"
def lw_P (b : Addr) (xs : List Int32) (args : Array Value) (s : State) : Prop := args = #[.ref b] ∧ s.IntsAt b xs ∧ xs.length ≤ 3584 ∧ (Jvm.Cond.and given_1 narrow_1).before args s = true
def lw_Q (_ : Array Value) (s : State) (o : Outcome) (t : State) : Prop := o = .returned (some (.int 1)) ∧ Framed s o t [] 600000 7302250
def lw_Z (below : List Frame) (a : Array Value) (s : State) : State → Prop := fun t => ∃ o, t.status = .running ∧ Ended t below o ∧ lw_Q a s o t
/-- the law's own end, with 1 on the stack, nothing written that was there before, its room as the claim has it -/
theorem lw_ret {p : Program} {l : Launch} {e : Env} {s : State} {m : MethodId} {below : List Frame} {meth : Method} {c : Code} {b : Nat} (hx : p.tables.exec = Jvm.exec) (hb : c.code = code) (hr : meth.sig.returnType = ret) (hlocks : meth.locks = false) {pc : Nat} {H : Heap} {ls : Array Slot} (hdg : decode code pc = .ok (.ireturn, 1)) : W p l e room_1 s m #[Value.ref b] below meth c H [] 600000 7302250 (lw_Z below #[Value.ref b] s) (F0 m pc ls [.int 1]) := by
  intro T hT X
  obtain ⟨fs, hret, hrun, hended, hW, hframe⟩ := X.leave (v := some (.int 1)) (hlocks := hlocks) (fun h => by rw [hr] at h; cases h)
  have hmeth' : T.vm.method? m = some meth := X.method'
  refine ⟨T.setFrames fs, ?_, .returned (some (.int 1)), hrun, hended, rfl, ⟨_, rfl⟩, hW, hframe⟩
  jvm_step X.here [X.here.top, hx, hb, hdg, hmeth', hr, ret, narrow_b1]
  (try refine ⟨rfl, ?_⟩); (try refine ⟨rfl, ?_⟩)
  first | (intro acts; rw [hret _ acts rfl rfl rfl]) | rw [hret _ _ rfl rfl rfl]
  exact Steps.refl _
/-- what holds at the law's entry: the machine, the code, the tables' words (any of lw_tbl by 'hts w (by decide +kernel)'), the script of L ints xs at the cell b, what the Statement gives of the start (any of its parts by flat_of_before) -/
def lw_At (p : Program) (s : State) (m : MethodId) (meth : Method) (c : Code) (b L : Nat) (xs : Nat → Int32) : Prop :=
  p.tables.exec = Jvm.exec ∧ c.code = code ∧ meth.sig.returnType = ret ∧ c.maxLocals = 4 ∧ s.vm.findClass R_law = some m.cls ∧ (∀ w ∈ lw_tbl, w.before #[Value.ref b] s = true) ∧ va_X b L xs s s.heap ∧ b < s.heap.size ∧ meth.locks = false ∧ (Jvm.Cond.and given_1 narrow_1).before #[Value.ref b] s = true
set_option maxHeartbeats 4000000 in
/-- the law's loop: at its head, behind t commands, both sides hold the same -/
theorem law_loop {p : Program} {l : Launch} {e : Env} {s : State} {m : MethodId} {below : List Frame} {meth : Method} {c : Code} {D : va_G} {cA : Nat → ClassId} {b L : Nat} {xs : Nat → Int32} {ad q : Nat → Nat} (hL : L ≤ 3584) (C : cx p m c cL_law 4 s #[Value.ref b] wsL_law RL D cA) (hr : meth.sig.returnType = ret) (hlocks : meth.locks = false) (hX : va_X b L xs s s.heap) (hbl : b < s.heap.size) :
    ∀ (n t : Nat), 7 * t ≤ L → 513 ≤ t + n → ∀ (fc fr : HF) (K : KK) (G : GG) (A : MA) (B : MB) (N : Nat) (H : Heap) (locs : List Loc) (cells slots : Nat) (ls : Array Slot), lwS D cA s H locs fc fr ad q K G A B N → N ≤ t → cells ≤ 200 + 441 * t → slots ≤ 5000 + 3522 * t → lv_has ls 4 [(0, .ref b), (1, .ref (ad 0)), (2, .ref (q 0)), (3, .int (nI (7 * t)))] → W p l e room_1 s m #[Value.ref b] below meth c H locs cells slots (lw_Z below #[Value.ref b] s) (F0 m 18 ls []) := by
  intro n
  induction n with
  | zero =>
    intro t h1 h2
    exact absurd h2 (by omega)
  | succ n ih =>
    intro t ht hn fc fr K G A B N H locs cells slots ls S hNt hce hsl hl
    refine lv_iload_n C.1.1 C.1.2.1 dL_law_18 rfl (lv_at hl 3 rfl) ?_
    refine lv_aload_n C.1.1 C.1.2.1 dL_law_19 rfl (lv_at hl 0 rfl) ?_
    refine va_slen C.1.1 C.1.2.1 hX hbl (show ¬ Aw s b from Nat.not_le.mpr hbl) S.h1.2.2.1 dL_law_20 ?_
    refine lv_bipush (v := nI 7) C.1.1 C.1.2.1 dL_law_21 (by decide) ?_
    refine lv_isub C.1.1 C.1.2.1 dL_law_23 ?_
    refine lv_icmp_gt (tgt := 1586) C.1.1 C.1.2.1 dL_law_24 (by decide) (fun cq => ?_) (fun cq => ?_)
    · refine lv_iconst (v := 1) C.1.1 C.1.2.1 dL_law_1586 (by decide) ?_
      refine va_forget (fun q hq => S.h1.2.2.1.2.2 q hq) ?_
      refine W.widen (k := 600000) (n := 7302250) (by omega) (by omega) ?_
      exact lw_ret C.1.1 C.1.2.1 hr hlocks dL_law_1587
    · have hi : 7 * t + 7 ≤ L := by
        rcases Nat.lt_or_ge L (7 * t + 7) with g | g
        · exact absurd ((cmp7 (i := 7 * t) (L := L) (by omega) (by omega)).mpr g) cq
        · exact g
      refine lv_aload_n C.1.1 C.1.2.1 dL_law_27 rfl (lv_at hl 0 rfl) ?_
      refine lv_iload_n C.1.1 C.1.2.1 dL_law_28 rfl (lv_at hl 3 rfl) ?_
      refine l_sld C hX hbl S.h1 hL (by omega) dL_law_29 ?_
      refine lv_bipush (v := nI 31) C.1.1 C.1.2.1 dL_law_30 (by decide) ?_
      refine lv_iand C.1.1 C.1.2.1 dL_law_32 ?_
      obtain ⟨k, hk, ek⟩ := and31 (xs (7 * t))
      rw [ek]
      have hgo : ∀ (fc1 fr1 : HF) (K1 : KK) (G1 : GG) (A1 : MA) (B1 : MB) (H1 : Heap) (locs1 : List Loc) (N1 ce1 sl1 : Nat), lwS D cA s H1 locs1 fc1 fr1 ad q K1 G1 A1 B1 N1 → N1 ≤ t + 1 → ce1 ≤ 200 + 441 * (t + 1) → sl1 ≤ 5000 + 3522 * (t + 1) → W p l e room_1 s m #[Value.ref b] below meth c H1 locs1 ce1 sl1 (lw_Z below #[Value.ref b] s) (F0 m 1580 ls []) := by
        intro fc1 fr1 K1 G1 A1 B1 H1 locs1 N1 ce1 sl1 S1 hN1 hce1 hsl1
        refine lv_iinc (v := nI (7 * (t + 1))) (lv' := [(3, _), (0, _), (1, _), (2, _)]) C.1.1 C.1.2.1 dL_law_1580 hl (k := 3) rfl (by rw [show 7 * (t + 1) = 7 * t + 7 by omega, ← nI_add]; rfl) (by decide) rfl (fun ls hl => ?_)
        refine lv_goto (tgt := 18) C.1.1 C.1.2.1 dL_law_1583 (by decide) ?_
        exact ih (t + 1) (by omega) (by omega) fc1 fr1 K1 G1 A1 B1 N1 H1 locs1 ce1 sl1 ls S1 hN1 hce1 hsl1 (lv_sub hl [1, 2, 3, 0] rfl)
      have kk : lwK p l e s m below meth c ls b cells slots (lw_Z below #[Value.ref b] s) D cA ad q N := fun fc1 fr1 K1 G1 A1 B1 H1 locs1 a1 a2 a3 a4 a5 a6 => hgo _ _ _ _ _ _ _ _ (N + 1) _ _ ⟨a1, a2, a3, a4, a5, a6, by omega⟩ (by omega) (by omega) (by omega)
      match k, hk with
      | 0, _ =>
        refine lv_tableIn (off := 139) (tgt := 172) C.1.1 C.1.2.1 dL_law_33 (by decide +kernel) (by decide +kernel) (by decide +kernel) (by decide) ?_
        exact la_star C hX hbl hL hi hl S (by omega) (by omega) kk
      | 1, _ =>
        refine lv_tableIn (off := 173) (tgt := 206) C.1.1 C.1.2.1 dL_law_33 (by decide +kernel) (by decide +kernel) (by decide +kernel) (by decide) ?_
        exact la_spot C hX hbl hL hi hl S (by omega) (by omega) kk
      | 2, _ =>
        refine lv_tableIn (off := 207) (tgt := 240) C.1.1 C.1.2.1 dL_law_33 (by decide +kernel) (by decide +kernel) (by decide +kernel) (by decide) ?_
        exact la_row C hX hbl hL hi hl S (by omega) (by omega) kk
      | 3, _ =>
        refine lv_tableIn (off := 241) (tgt := 274) C.1.1 C.1.2.1 dL_law_33 (by decide +kernel) (by decide +kernel) (by decide +kernel) (by decide) ?_
        exact la_put C hX hbl hL hi hl S (by omega) (by omega) kk
      | 4, _ =>
        refine lv_tableIn (off := 285) (tgt := 318) C.1.1 C.1.2.1 dL_law_33 (by decide +kernel) (by decide +kernel) (by decide +kernel) (by decide) ?_
        exact la_load C hX hbl hL hi hl S (by omega) (by omega) kk
      | 5, _ =>
        refine lv_tableIn (off := 355) (tgt := 388) C.1.1 C.1.2.1 dL_law_33 (by decide +kernel) (by decide +kernel) (by decide +kernel) (by decide) ?_
        exact la_clear C hX hbl hL hi hl S (by omega) (by omega) kk
      | 6, _ =>
        refine lv_tableIn (off := 395) (tgt := 428) C.1.1 C.1.2.1 dL_law_33 (by decide +kernel) (by decide +kernel) (by decide +kernel) (by decide) ?_
        exact la_near C hX hbl hL hi hl S (by omega) (by omega) kk
      | 7, _ =>
        refine lv_tableIn (off := 419) (tgt := 452) C.1.1 C.1.2.1 dL_law_33 (by decide +kernel) (by decide +kernel) (by decide +kernel) (by decide) ?_
        exact la_corner C hX hbl hL hi hl S (by omega) (by omega) kk
      | 8, _ =>
        refine lv_tableIn (off := 499) (tgt := 532) C.1.1 C.1.2.1 dL_law_33 (by decide +kernel) (by decide +kernel) (by decide +kernel) (by decide) ?_
        exact la_votes C hX hbl hL hi hl S (by omega) (by omega) kk
      | 9, _ =>
        refine lv_tableIn (off := 533) (tgt := 566) C.1.1 C.1.2.1 dL_law_33 (by decide +kernel) (by decide +kernel) (by decide +kernel) (by decide) ?_
        exact la_match C hX hbl hL hi hl S (by omega) (by omega) kk
      | 10, _ =>
        refine lv_tableIn (off := 557) (tgt := 590) C.1.1 C.1.2.1 dL_law_33 (by decide +kernel) (by decide +kernel) (by decide +kernel) (by decide) ?_
        exact la_matched C hX hbl hL hi hl S (by omega) (by omega) kk
      | 11, _ =>
        refine lv_tableIn (off := 571) (tgt := 604) C.1.1 C.1.2.1 dL_law_33 (by decide +kernel) (by decide +kernel) (by decide +kernel) (by decide) ?_
        exact la_table C hX hbl hL hi hl S (by omega) (by omega) kk
      | 12, _ =>
        refine lv_tableIn (off := 595) (tgt := 628) C.1.1 C.1.2.1 dL_law_33 (by decide +kernel) (by decide +kernel) (by decide +kernel) (by decide) ?_
        exact la_place C hX hbl hL hi hl S (by omega) (by omega) kk
      | 13, _ =>
        refine lv_tableIn (off := 681) (tgt := 714) C.1.1 C.1.2.1 dL_law_33 (by decide +kernel) (by decide +kernel) (by decide +kernel) (by decide) ?_
        exact la_station C hX hbl hL hi hl S (by omega) (by omega) kk
      | 14, _ =>
        refine lv_tableIn (off := 735) (tgt := 768) C.1.1 C.1.2.1 dL_law_33 (by decide +kernel) (by decide +kernel) (by decide +kernel) (by decide) ?_
        exact la_tell C hX hbl hL hi hl S (by omega) (by omega) kk
      | 15, _ =>
        refine lv_tableIn (off := 759) (tgt := 792) C.1.1 C.1.2.1 dL_law_33 (by decide +kernel) (by decide +kernel) (by decide +kernel) (by decide) ?_
        exact la_sight C hX hbl hL hi hl S (by omega) (by omega) kk
      | 16, _ =>
        refine lv_tableIn (off := 803) (tgt := 836) C.1.1 C.1.2.1 dL_law_33 (by decide +kernel) (by decide +kernel) (by decide +kernel) (by decide) ?_
        exact la_drop C hX hbl hL hi hl S (by omega) (by omega) kk
      | 17, _ =>
        refine lv_tableIn (off := 827) (tgt := 860) C.1.1 C.1.2.1 dL_law_33 (by decide +kernel) (by decide +kernel) (by decide +kernel) (by decide) ?_
        exact la_about C hX hbl hL hi hl S (by omega) (by omega) kk
      | 18, _ =>
        refine lv_tableIn (off := 871) (tgt := 904) C.1.1 C.1.2.1 dL_law_33 (by decide +kernel) (by decide +kernel) (by decide +kernel) (by decide) ?_
        exact la_as C hX hbl hL hi hl S (by omega) (by omega) kk
      | 19, _ =>
        refine lv_tableIn (off := 915) (tgt := 948) C.1.1 C.1.2.1 dL_law_33 (by decide +kernel) (by decide +kernel) (by decide +kernel) (by decide) ?_
        exact la_point C hX hbl hL hi hl S (by omega) (by omega) kk
      | 20, _ =>
        refine lv_tableIn (off := 1023) (tgt := 1056) C.1.1 C.1.2.1 dL_law_33 (by decide +kernel) (by decide +kernel) (by decide +kernel) (by decide) ?_
        exact la_fall C hX hbl hL hi hl S (by omega) (by omega) kk
      | 21, _ =>
        refine lv_tableIn (off := 1077) (tgt := 1110) C.1.1 C.1.2.1 dL_law_33 (by decide +kernel) (by decide +kernel) (by decide +kernel) (by decide) ?_
        exact la_angle C hX hbl hL hi hl S (by omega) (by omega) kk
      | 22, _ =>
        refine lv_tableIn (off := 1147) (tgt := 1180) C.1.1 C.1.2.1 dL_law_33 (by decide +kernel) (by decide +kernel) (by decide +kernel) (by decide) ?_
        exact la_best C hX hbl hL hi hl S (by omega) (by omega) kk
      | 23, _ =>
        refine lv_tableIn (off := 1171) (tgt := 1204) C.1.1 C.1.2.1 dL_law_33 (by decide +kernel) (by decide +kernel) (by decide +kernel) (by decide) ?_
        exact la_land C hX hbl hL hi hl S (by omega) (by omega) kk
      | 24, _ =>
        refine lv_tableIn (off := 1267) (tgt := 1300) C.1.1 C.1.2.1 dL_law_33 (by decide +kernel) (by decide +kernel) (by decide +kernel) (by decide) ?_
        exact la_wind C hX hbl hL hi hl S (by omega) (by omega) kk
      | 25, _ =>
        refine lv_tableIn (off := 1311) (tgt := 1344) C.1.1 C.1.2.1 dL_law_33 (by decide +kernel) (by decide +kernel) (by decide +kernel) (by decide) ?_
        exact la_drift C hX hbl hL hi hl S (by omega) (by omega) kk
      | 26, _ =>
        refine lv_tableIn (off := 1407) (tgt := 1440) C.1.1 C.1.2.1 dL_law_33 (by decide +kernel) (by decide +kernel) (by decide +kernel) (by decide) ?_
        exact la_radiant C hX hbl hL hi hl S (by omega) (by omega) kk
      | 27, _ =>
        refine lv_tableIn (off := 1451) (tgt := 1484) C.1.1 C.1.2.1 dL_law_33 (by decide +kernel) (by decide +kernel) (by decide +kernel) (by decide) ?_
        exact la_shower C hX hbl hL hi hl S (by omega) (by omega) kk
      | 28, _ =>
        refine lv_tableIn (off := 1485) (tgt := 1518) C.1.1 C.1.2.1 dL_law_33 (by decide +kernel) (by decide +kernel) (by decide +kernel) (by decide) ?_
        exact la_check C hX hbl hL hi hl S (by omega) (by omega) kk
      | 29, _ =>
        refine lv_tableIn (off := 1499) (tgt := 1532) C.1.1 C.1.2.1 dL_law_33 (by decide +kernel) (by decide +kernel) (by decide +kernel) (by decide) ?_
        exact la_count C hX hbl hL hi hl S (by omega) (by omega) kk
      | 30, _ =>
        refine lv_tableIn (off := 1523) (tgt := 1556) C.1.1 C.1.2.1 dL_law_33 (by decide +kernel) (by decide +kernel) (by decide +kernel) (by decide) ?_
        exact la_found C hX hbl hL hi hl S (by omega) (by omega) kk
      | 31, _ =>
        refine lv_tableOut (tgt := 1580) C.1.1 C.1.2.1 dL_law_33 (by decide +kernel) (by decide) ?_
        exact hgo _ _ _ _ _ _ _ _ _ _ _ S (by omega) (by omega) (by omega)
      | k + 32, h => exact absurd h (by omega)
set_option maxHeartbeats 4000000 in
theorem law_known {s : State} {b : Nat} (hts : ∀ w ∈ lw_tbl, w.before #[Value.ref b] s = true) : ∃ (D : va_G) (cA : Nat → ClassId), hK D cA s ∧ aoK s := by
  obtain ⟨c0, i0, k0⟩ := u_known (C := RX0) (T := TX0) (N := 2) (n := 2) hts inX0 (hts _ lwt_0)
  obtain ⟨c1, i1, k1⟩ := u_known (C := RX1) (T := TX1) (N := 10) (n := 10) hts inX1 (hts _ lwt_1)
  obtain ⟨c2, i2, k2⟩ := u_known (C := RX2) (T := TX2) (N := 2) (n := 2) hts inX2 (hts _ lwt_2)
  obtain ⟨c3, i3, k3⟩ := u_known (C := RX3) (T := TX3) (N := 2) (n := 2) hts inX3 (hts _ lwt_3)
  obtain ⟨c4, i4, k4⟩ := u_known (C := RX4) (T := TX4) (N := 4) (n := 4) hts inX4 (hts _ lwt_4)
  obtain ⟨c5, i5, k5⟩ := u_known (C := RX5) (T := TX5) (N := 2) (n := 2) hts inX5 (hts _ lwt_5)
  obtain ⟨c6, i6, k6⟩ := u_known (C := RX6) (T := TX6) (N := 6) (n := 6) hts inX6 (hts _ lwt_6)
  obtain ⟨c7, i7, k7⟩ := u_known (C := RX7) (T := TX7) (N := 2) (n := 2) hts inX7 (hts _ lwt_7)
  obtain ⟨c8, i8, k8⟩ := u_known (C := RX8) (T := TX8) (N := 8) (n := 8) hts inX8 (hts _ lwt_8)
  obtain ⟨c9, i9, k9⟩ := u_known (C := RX9) (T := TX9) (N := 2) (n := 2) hts inX9 (hts _ lwt_9)
  obtain ⟨c10, i10, k10⟩ := u_known (C := RX10) (T := TX10) (N := 3) (n := 3) hts inX10 (hts _ lwt_10)
  obtain ⟨c11, i11, k11⟩ := u_known (C := RX11) (T := TX11) (N := 11) (n := 11) hts inX11 (hts _ lwt_11)
  obtain ⟨c12, i12, k12⟩ := u_known (C := RX12) (T := TX12) (N := 27) (n := 27) hts inX12 (hts _ lwt_12)
  obtain ⟨a0, x0, y0⟩ := at_prim (hts _ lwt_20)
  obtain ⟨a1, x1, y1⟩ := at_prim (hts _ lwt_21)
  obtain ⟨a2, x2, y2⟩ := at_prim (hts _ lwt_22)
  obtain ⟨a3, x3, y3⟩ := at_ref (hts _ lwt_23)
  obtain ⟨a4, x4, y4⟩ := at_ref (hts _ lwt_24)
  obtain ⟨a5, x5, y5⟩ := at_ref (hts _ lwt_25)
  obtain ⟨a6, x6, y6⟩ := at_ref (hts _ lwt_26)
  obtain ⟨a7, x7, y7⟩ := at_ref (hts _ lwt_27)
  obtain ⟨a8, x8, y8⟩ := at_arr (hts _ lwt_28)
  refine ⟨(fun k => match k with | 0 => c0 | 1 => c1 | 2 => c2 | 3 => c3 | 4 => c4 | 5 => c5 | 6 => c6 | 7 => c7 | 8 => c8 | 9 => c9 | 10 => c10 | 11 => c11 | _ => c12, fun k => match k with | 0 => i0 | 1 => i1 | 2 => i2 | 3 => i3 | 4 => i4 | 5 => i5 | 6 => i6 | 7 => i7 | 8 => i8 | 9 => i9 | 10 => i10 | 11 => i11 | _ => i12), (fun k => match k with | 0 => a0 | 1 => a1 | 2 => a2 | 3 => a3 | 4 => a4 | 5 => a5 | 6 => a6 | 7 => a7 | _ => a8), ⟨⟨fun k x hx => ?_, fun k x hx => ?_⟩, va_Nw.of rfl (hts _ lwt_30), va_Nw.of rfl (hts _ lwt_31), va_Nw.of rfl (hts _ lwt_32)⟩, hts _ lwt_23, hts _ lwt_24, hts _ lwt_25, hts _ lwt_26, hts _ lwt_27, hts _ lwt_28⟩
  · match k, hx with
    | 0, hx => cases hx; exact k0
    | 1, hx => cases hx; exact k1
    | 2, hx => cases hx; exact k2
    | 3, hx => cases hx; exact k3
    | 4, hx => cases hx; exact k4
    | 5, hx => cases hx; exact k5
    | 6, hx => cases hx; exact k6
    | 7, hx => cases hx; exact k7
    | 8, hx => cases hx; exact k8
    | 9, hx => cases hx; exact k9
    | 10, hx => cases hx; exact k10
    | 11, hx => cases hx; exact k11
    | 12, hx => cases hx; exact k12
    | k + 13, hx => simp [vwCl] at hx
  · match k, hx with
    | 0, hx => cases hx; exact ⟨x0, y0⟩
    | 1, hx => cases hx; exact ⟨x1, y1⟩
    | 2, hx => cases hx; exact ⟨x2, y2⟩
    | 3, hx => cases hx; exact ⟨x3, y3⟩
    | 4, hx => cases hx; exact ⟨x4, y4⟩
    | 5, hx => cases hx; exact ⟨x5, y5⟩
    | 6, hx => cases hx; exact ⟨x6, y6⟩
    | 7, hx => cases hx; exact ⟨x7, y7⟩
    | 8, hx => cases hx; exact ⟨x8, y8⟩
    | k + 9, hx => simp [aTys] at hx
set_option maxHeartbeats 4000000 in
/-- from the entry, for every script of at most 3584 ints, the law comes to its end with true -/
theorem whole_start {p : Program} {e : Env} {s : State} {m : MethodId} {below : List Frame} {meth : Method} {c : Code} (l : Launch) {b L : Nat} {xs : Nat → Int32} (hL : L ≤ 3584) (C0 : lw_At p s m meth c b L xs) : W p l e room_1 s m #[Value.ref b] below meth c s.heap [] 0 0 (lw_Z below #[Value.ref b] s) (entryFrame m ([Value.ref b] : List Value).toArray 4) := by
  obtain ⟨hx, hb, hr, hml, hown, hts, hX, hbl, hlocks, hgv⟩ := C0
  obtain ⟨D, cA, hK9, hao⟩ := law_known hts
  have C : cx p m c cL_law 4 s #[Value.ref b] wsL_law RL D cA := ⟨⟨hx, hb, hml, hown, fun w hw => hts w (wsL_law_in w hw)⟩, hK9⟩
  have h0 : hw D (Aw s) s.heap (fun _ => none) s.heap [] := ⟨fun a x h => (by cases h), fun a h => absurd rfl h, va_S.rf, fun q hq => hq⟩
  have hl := lv_entry ([.ref b]) (n := 4) (Nat.le_of_ble_eq_true rfl)
  rw [lg_entry_eq]
  generalize (lg_sl ([.ref b]) ++ List.replicate (4 - (lg_sl ([.ref b])).length) Slot.unset).toArray = ls at hl ⊢
  have hl : lv_has ls 4 [(0, .ref b)] := hl
  refine h_new (fs := [.null, .null, .null, .null, .null, .null, .null, .null, .null, .null, .null]) C h0 bX11 inlX11 lwm_1 lwm_2 lwm_3 dfX11 (Nat.le_of_ble_eq_true rfl) (Nat.le_of_ble_eq_true rfl) dL_law_0 (fun q0 H1 hn1 hw1 => ?_)
  refine lv_dup hx hb dL_law_3 rfl ?_
  refine h_callv hw1 (h_runIA (n := 0) (As := []) (rest := [.ref q0]) C hao hw1 (c_X11_init (va_up_self _ _ _)) gL_law_X11_init rfl rfl rfl lwm_3 lwm_7 lwm_8 rfl (by decide +kernel) ⟨Nat.le_of_ble_eq_true rfl, Nat.le_of_ble_eq_true rfl⟩ rfl hl.1 rfl (Nat.le_of_ble_eq_true rfl) dL_law_4 ⟨Nat.le_of_ble_eq_true rfl, Nat.le_of_ble_eq_true rfl⟩) (fun fc H2 locs2 hp hw2 => ?_)
  obtain ⟨ad, K, G, ead, hc, hrp⟩ := hp
  refine lv_astore_n (lv' := [(1, .ref q0), (0, .ref b)]) hx hb dL_law_7 rfl hl (by decide) rfl (fun ls hl => ?_)
  refine h_new (fs := [.int 0, .int 0, .null, .null, .int 0, .null, .null, .null, .null, .null, .null, .null, .null, .int 0, .null, .null, .null, .null, .int 0, .int 0, .null, .null, .null, .null, .null, .null, .long 0]) C hw2 bX12 inlX12 lwm_4 lwm_5 lwm_6 dfX12 (Nat.le_of_ble_eq_true rfl) (Nat.le_of_ble_eq_true rfl) dL_law_8 (fun q1 H3 hn2 hw3 => ?_)
  have h1 : hw D (Aw s) s.heap fc H3 locs2 := hw3.less (fun a x h => by
    by_cases e1 : a = q1
    · subst e1; rw [hn2] at h; cases h
    · rw [va_up_ne _ _ e1]; exact h)
  have h2 : hw D (Aw s) s.heap (va_up (fun _ => none) q1 (some (.inr (12, [.int 0, .int 0, .null, .null, .int 0, .null, .null, .null, .null, .null, .null, .null, .null, .int 0, .null, .null, .null, .null, .int 0, .int 0, .null, .null, .null, .null, .null, .null, .long 0])))) H3 locs2 := hw3.less (fun a x h => by
    by_cases e1 : a = q1
    · subst e1; rw [va_up_self] at h ⊢; exact h
    · rw [va_up_ne _ _ e1] at h; cases h)
  have hd : apart (va_up (fun _ => none) q1 (some (.inr (12, [.int 0, .int 0, .null, .null, .int 0, .null, .null, .null, .null, .null, .null, .null, .null, .int 0, .null, .null, .null, .null, .int 0, .int 0, .null, .null, .null, .null, .null, .null, .long 0])))) fc := fun a ha => by
    by_cases e1 : a = q1
    · subst e1; exact hn2
    · rw [va_up_ne _ _ e1] at ha; exact absurd rfl ha
  refine lv_dup hx hb dL_law_11 rfl ?_
  refine h_callvF h2 h1 hd (h_runI (n := 0) (As := []) (rest := [.ref q1]) C h2 (c_X12_init (va_up_self _ _ _)) gL_law_X12_init rfl rfl rfl lwm_6 lwm_9 lwm_10 rfl (by decide +kernel) ⟨Nat.le_of_ble_eq_true rfl, Nat.le_of_ble_eq_true rfl⟩ rfl hl.1 rfl (Nat.le_of_ble_eq_true rfl) dL_law_12 ⟨Nat.le_of_ble_eq_true rfl, Nat.le_of_ble_eq_true rfl⟩) (fun fr H4 locs4 hp k2 k1 kd => ?_)
  obtain ⟨q, eq0, hmo⟩ := hp
  refine lv_astore_n (lv' := [(2, .ref q1), (1, .ref q0), (0, .ref b)]) hx hb dL_law_15 rfl hl (by decide) rfl (fun ls hl => ?_)
  refine lv_iconst (v := nI 0) hx hb dL_law_16 (by decide) ?_
  refine lv_istore_n (lv' := [(3, .int (nI 0)), (2, .ref q1), (1, .ref q0), (0, .ref b)]) hx hb dL_law_17 rfl hl (by decide) rfl (fun ls hl => ?_)
  subst ead
  subst eq0
  exact law_loop hL C hr hlocks hX hbl 513 0 (Nat.zero_le _) (by omega) fc fr K G A00 B00 0 H4 locs4 _ _ ls ⟨k1, k2, kd.sy, hc, hrp, hmo, by decide⟩ (Nat.le_refl _) (Nat.le_of_ble_eq_true rfl) (Nat.le_of_ble_eq_true rfl) (lv_sub hl [3, 2, 1, 0] rfl)
set_option maxHeartbeats 4000000 in
theorem lw_walk (l : Launch) (b : Addr) (xs : List Int32) : MetFree l x (headSpec (Jvm.Cond.code x code maxLocals ret :: tables_1) room_1) (lw_P b xs) (fun _ _ _ _ _ => True) lw_Q := by
  refine MetFree.of_bodyS (code := code) (maxLocals := maxLocals) (ret := ret) (by decide) ?_ ?_
  · intro args s m h hn
    obtain ⟨meth, c, h1, h2, h3, h4, h5, h6, -, -⟩ := Cond.code_spec hn (atoms_spec (ws := Jvm.Cond.code x code maxLocals ret :: tables_1) h _ List.mem_cons_self)
    exact ⟨meth, c, h1, h2, h3, h4, h5, h6⟩
  · intro p e s m args below meth c s₁ B hml0 hP _
    obtain ⟨rfl, hx, hbd, hgv⟩ := hP
    obtain ⟨scr, harrAt, hlist, hof, hsmall⟩ := hx
    obtain ⟨hcb, hkn, -, -⟩ := State.arrayAt?_spec harrAt
    have hown : s.vm.findClass R_law = some m.cls := findClass_of_methodNamed B.named
    have hts0 : ∀ c ∈ (Jvm.Cond.code x code maxLocals ret :: tables_1), c.before #[Value.ref b] s = true := atoms_spec (ws := Jvm.Cond.code x code maxLocals ret :: tables_1) B.pre
    have hts : ∀ w ∈ lw_tbl, w.before #[Value.ref b] s = true := k2_hts_sels lw_privs (fun w hw => hts0 w (List.mem_cons_of_mem _ hw)) lw_privs_ok
    have hml : c.maxLocals = 4 := B.maxLocals_eq (hts0 _ List.mem_cons_self)
    have X₀ : Stand p l e room_1 s m #[Value.ref b] below meth c s₁ [] 0 0 := Stand.of_body B
    have hh0 : s₁.heap = s.heap := by rw [B.state]; rfl
    have hsz : scr.slots.size = xs.length := by rw [← Array.length_toList, hlist, List.length_map]
    have hval : ∀ j : Nat, j < xs.length → scr.slots[j]? = some (.int (xs.getD j 0)) := fun j hj => by
      rw [← Array.getElem?_toList, hlist]
      simp [hj]
    have hbl : b < s.heap.size := (Array.getElem?_eq_some_iff.mp hcb).1
    have hX : va_X b xs.length (fun j => xs.getD j 0) s s.heap := ⟨scr, hcb, hof, hkn, hsz, hval⟩
    have K : W p l e room_1 s m #[Value.ref b] below meth c s₁.heap [] 0 0 (lw_Z below #[Value.ref b] s) (entryFrame m ([Value.ref b] : List Value).toArray 4) := by
      rw [hh0]
      exact whole_start l hbd ⟨B.exec, B.bytes, B.returns, hml, hown, hts, hX, hbl, B.notSynchronized, hgv⟩
    obtain ⟨t, a1, o, b1, b2, b3⟩ := K s₁ rfl X₀
    exact ⟨t, o, a1, b1, b2, b3⟩
theorem lw_pre_spec {args : Array Value} {s : State} (h : (Jvm.Cond.and given_1 narrow_1).before args s = true) (hr : rest_1_c.before args s = true) : ∃ (b : Addr) (xs : List Int32), lw_P b xs args s := by
  have hs := flat_of_before _ h
  have hq := flat_of_before _ hr
  have hc : (Cond.count 1).before args s = true := hs _ (by decide +kernel)
  have harr : (Cond.arrayOf (.arg 0) .int).before args s = true := hs _ (by decide +kernel)
  have hle : (Cond.le (.length (.arg 0)) (.int 3584)).before args s = true := hs _ (by decide +kernel)
  have hlen : (Cond.isInt (.length (.arg 0))).before args s = true := hq _ (by decide +kernel)
  have hall : (Cond.all (.arg 0) (.isInt (.elem (.arg 0) (.index 0)))).before args s = true := hq _ (by decide +kernel)
  obtain ⟨b, xs, hb, hx⟩ := State.ints_of_pre rfl harr hlen hall
  have hsm : xs.length < 2 ^ 31 := hx.choose_spec.2.2.2
  have hev : (Term.length (.arg 0)).eval args s none [] s = some (.int xs.length.toInt32) := hx.length_eval hb
  have hv := Cond.le_ints hev (show (Term.int 3584).eval args s none [] s = some (.int 3584) from rfl)
  have hd : xs.length.toInt32 ≤ 3584 := by
    simpa [Cond.before, Cond.holds, hv] using hle
  have hN : xs.length ≤ 3584 := (Int32.ofNat_le_ofNat hsm (by decide)).mp (show Int32.ofNat xs.length ≤ Int32.ofNat 3584 from hd)
  exact ⟨b, xs, Cond.one_arg hc (show args[0]? = some (.ref b) from hb), hx, hN, h⟩
theorem lw_comes (l : Launch) : Comes l x (Jvm.Cond.code x code maxLocals ret :: tables_1) room_1 (fun tb e args s => Calls_1 tb e args s ∧ rest_1 tb e args s ∧ Pre_1 tb e args s)
    (fun _ _ args s o t => lw_Q args s o t) := by
  intro p e ha hc hk s m args below hf hfit hheap happ hpre
  obtain ⟨b, xs, hP⟩ := lw_pre_spec hpre.2.2 hpre.2.1
  obtain ⟨k, o, h1, h2, h3, hQ⟩ := lw_walk l b xs p e ha hc hk s m args below hf ((Spec.applies_iff_loose hf).mp happ).1 hP trivial
  exact ⟨k, o, h1, h2, h3, hQ⟩
theorem lw_frame {s t : State} {o : Outcome} {args : Array Value} (h : Framed s o t [] 600000 7302250) :
    Framed s o t (fieldLocs frame_1_writes args s ++ arrayLocs frame_1_arrays args s ++ staticLocs frame_1_statics s) 600000 7302250 := h
theorem lw_limb (L : Cond) (hL : ∀ (args : Array Value) (s t : State), L.after args s (.returned (some (.int 1))) t = true) :
    ArmFor flags0 classFile x code maxLocals ret World_1 tables_1 room_1 Calls_1 rest_1 Pre_1
      (fun tb e a s o t => postC L tb e a s o t ∧ Framed s o t (fieldLocs frame_1_writes a s ++ arrayLocs frame_1_arrays a s ++ staticLocs frame_1_statics s) 600000 7302250) := by
  intro l _ _ _ p e ha hc hk s m args below hf hfit hheap happ hpre
  obtain ⟨k, o, h1, h2, h3, rfl, hF⟩ := lw_comes l p e ha hc hk s m args below hf hfit hheap happ hpre
  exact ⟨k, _, h1, h2, h3, hL args s _, lw_frame hF⟩
theorem i_vc : Claimed_1_1 ∧ Claimed_1_2 := ⟨lw_limb limb_1_1 (fun args s t => by simp [limb_1_1, Cond.after, Cond.holds, Cond.value]), lw_limb limb_1_2 (fun args s t => Cond.after_iff.mpr (by
  first | (rw [show limb_1_2 = Cond.eq .result (.int 1) from rfl, Cond.eq_ints (x := 1) (y := 1) rfl rfl]; simp; done) | (simp [limb_1_2, Cond.value, Term.eval]; done)))⟩
