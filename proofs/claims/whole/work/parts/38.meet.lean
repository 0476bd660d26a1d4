/-! ===== the class: where rays meet planes (laid by program) ===== -/
theorem pt_eq {A : MA} {u t w n : Nat} (hn : n < 4) (h : A 10 u = nI n) (a : Nat) : ptA A u t w a = lnA A u t w * (A 7 (3 * n + a)).toInt64 + frA A u t * wyA A u w a := by
  unfold ptA
  rw [st_i hn h, Int64.mul_comm]
def muC (x y : Int64) (k : Nat) : Int64 := if (if x - lN k * (10 * y) < 0 then 0 else x - lN k * (10 * y)) < 10 * y then (if x - lN k * (10 * y) < 0 then 0 else x - lN k * (10 * y)) else 10 * y
def dfK (g : Nat → Int32) (x y : Int64) : Nat → Int64
  | 0 => 0
  | k + 1 => dfK g x y k + (g k).toInt64 * muC x y k
def rkO (A : MA) (f : HF) (r : Option Nat) (i u t : Nat) : Prop := (¬ cdA A i u t → r = none) ∧ (cdA A i u t → ∃ x, r = some x ∧ f x = some (eO 0 [.long (prL (lN (nuA A (4 * i + u) (4 * i + t))) (lN (deA A (4 * i + u) (4 * i + t))) 0), .long (prL (lN (nuA A (4 * i + u) (4 * i + t))) (lN (deA A (4 * i + u) (4 * i + t))) 1)]))
theorem rkO.up {A : MA} {f f1 : HF} {r : Option Nat} {i u t : Nat} (h : rkO A f r i u t) (k : kp f f1) : rkO A f1 r i u t := ⟨h.1, fun h1 => by
  obtain ⟨x, h3, h4⟩ := h.2 h1
  exact ⟨x, h3, k _ _ _ (by omega) h4⟩⟩
theorem sc_dt (A : MA) (u t : Nat) : dt3 (plA A u) (plA A t) = scA A u t := rfl
theorem an_a {A : MA} (hwy : ∀ j, j < 216 → ib 9 (A 11 j)) {u t : Nat} (hu : u < 24) (ht : t < 24) : lA (dt3 (plA A u) (plA A t) * dt3 (plA A u) (plA A t)) < 2 ^ 48 := Nat.lt_of_le_of_lt (bd_mul (sc_bd hwy hu ht) (sc_bd hwy hu ht) (by decide)).2 (by decide)
theorem an_b {A : MA} (hwy : ∀ j, j < 216 → ib 9 (A 11 j)) {u t : Nat} (hu : u < 24) (ht : t < 24) : lA (dt3 (plA A u) (plA A u) * dt3 (plA A t) (plA A t)) < 2 ^ 48 := Nat.lt_of_le_of_lt (bd_mul (sc_bd hwy hu hu) (sc_bd hwy ht ht) (by decide)).2 (by decide)
theorem tw_i {A : MA} {i u t nk : Nat} (hi : i < 6) (hu : u < nk) (ht : t < nk) (hn : nk ≤ 4) (h8 : A 8 i = nI nk) : twA A (nI i) (nI u) (nI t) ↔ ¬ u = t := by
  have hs : ∀ v, v < nk → sgA A (nI i) (nI v) := fun v hv => by
    refine ⟨⟨nI_pos (by omega), fun h => ?_⟩, ?_⟩
    · have := (nI_ltI (by decide) (by omega)).mp h
      omega
    · rw [nI_clamp (by omega), h8]
      exact (hs_eq (by omega)).mp ⟨nI_pos (by omega), (nI_ltI (by omega) (by omega)).mpr hv⟩
  constructor
  · intro h e
    exact h.2.2 (by rw [e])
  · intro h
    exact ⟨hs u hu, hs t ht, fun e => h ((nI_eq (by omega) (by omega)).mp e)⟩
set_option maxHeartbeats 4000000 in
set_option maxRecDepth 100000 in
theorem c_X11_meetingOf {l : Launch} {D : va_G} {cA : Nat → ClassId} {f : HF} {sz : Nat} {ad : Nat → Nat} {K : KK} {G : GG} {A : MA} {ra ob u t : Nat} {e1 : Int32}  (hc : co cA ad K G f) (hT : sts G A f) (hra : sgO A f ra u) (hob : sgO A f ob t) (hu : u < 24) (ht : t < 24) (hso : ∀ j, j < 24 → ∃ c, c < 4 ∧ A 10 j = nI c) (hst : ∀ j, j < 12 → ib 99 (A 7 j)) : Met l yX11_meetingOf wsX11_meetingOf ({ frames := 3, cells := 5, slots := 14, locals := 68 } : Room) (va_Pc [.ref (ad 0), .ref ra, .ref ob, .int e1] (hB D cA f sz)) (va_Qq (fun r f1 => hle f f1 ∧ meO A f1 r u t (yA e1)) (hE D f sz) (hA f sz)) 5 14 (hA f sz) := by
  refine h_of (cc := cX11_meetingOf) (maxL := 10) (ret := (some (.object "FallingLight$Meeting"))) (by decide +kernel) rfl (Nat.le_of_ble_eq_true rfl) ?_
  intro p e s m below meth c ls C hr hlk hnm hw hl
  have hx := C.1.1
  have hb := C.1.2.1
  have hl : lv_has ls 10 [(0, .ref (ad 0)), (1, .ref ra), (2, .ref ob), (3, .int e1)] := hl
  have lk0 : Cond.fieldLink RX11 226 "FallingLight$Sight" "plane" "LFallingLight$Way;" ∈ wsX11_meetingOf := by decide +kernel
  have lk1 : ∀ w ∈ u_ws RX6 TX6 6, w ∈ wsX11_meetingOf := by decide +kernel
  have lk2 : Cond.fieldLink RX11 53 "FallingLight" "stationPlaces" "[LFallingLight$Way;" ∈ wsX11_meetingOf := by decide +kernel
  have lk3 : ∀ w ∈ u_ws RX11 TX11 11, w ∈ wsX11_meetingOf := by decide +kernel
  have lk4 : Cond.fieldLink RX11 219 "FallingLight$Sight" "station" "I" ∈ wsX11_meetingOf := by decide +kernel
  have lk5 : Cond.fieldLink RX11 331 "FallingLight$Sight" "begin" "LFallingLight$Way;" ∈ wsX11_meetingOf := by decide +kernel
  have lk6 : ∀ w ∈ u_ws RX2 TX2 2, w ∈ wsX11_meetingOf := by decide +kernel
  have lk7 : Cond.classLink RX11 252 RX2 ∈ wsX11_meetingOf := by decide +kernel
  have lk8 : Cond.instantiable RX2 2 ∈ wsX11_meetingOf := by decide +kernel
  have lk9 : Cond.initialized RX2 ∈ wsX11_meetingOf := by decide +kernel
  have lk10 : Cond.methodLink RX11 344 yX2_init ∈ wsX11_meetingOf := by decide +kernel
  have lk11 : Cond.instanceMethod yX2_init ∈ wsX11_meetingOf := by decide +kernel
  have lk12 : Cond.fieldLink RX11 328 "FallingLight$Sight" "end" "LFallingLight$Way;" ∈ wsX11_meetingOf := by decide +kernel
  obtain ⟨n1, hn1, h10u⟩ := hso u hu
  obtain ⟨n2, hn2, h10t⟩ := hso t ht
  obtain ⟨w1, hg1, hw1⟩ := hT n1 hn1
  obtain ⟨w2, hg2, hw2⟩ := hT n2 hn2
  obtain ⟨bg1, en1, md1, pl1, ho1, hbg1, hen1, hmy1, hmn1, hpl1⟩ := hra
  obtain ⟨bg2, en2, md2, pl2, ho2, hbg2, hen2, hmy2, hmn2, hpl2⟩ := hob
  refine lv_aload_n hx hb dX11_meetingOf_0 rfl (lv_at hl 1 rfl) ?_
  refine lv_ifnull hx hb dX11_meetingOf_1 ?_
  refine lv_aload_n hx hb dX11_meetingOf_4 rfl (lv_at hl 2 rfl) ?_
  refine lv_ifnull hx hb dX11_meetingOf_5 ?_
  refine lv_aload_n hx hb dX11_meetingOf_8 rfl (lv_at hl 2 rfl) ?_
  refine h_get C hw bX6 ho2 lk1 5 (by decide) lk0 (v := va_rf pl2) rfl dX11_meetingOf_9 ?_
  refine n_ifnonnull C (tgt := 17) dX11_meetingOf_12 (by decide) (fun x1 cq2 => ?_) (fun cq2 => ?_)
  · subst cq2
    obtain ⟨hnp, hwp⟩ := hpl2.so
    refine lv_aload_n hx hb dX11_meetingOf_17 rfl (lv_at hl 0 rfl) ?_
    refine h_get C hw bX11 (co.a0 hc) lk3 6 (by decide) lk2 (v := .ref (ad 7)) rfl dX11_meetingOf_18 ?_
    refine lv_aload_n hx hb dX11_meetingOf_21 rfl (lv_at hl 1 rfl) ?_
    refine h_get C hw bX6 ho1 lk1 1 (by decide) lk4 (v := .int (nI n1)) (congrArg (fun z => some (Value.int z)) h10u) dX11_meetingOf_22 ?_
    refine h_aldS C hw 4 rfl (co.a7 hc) hg1 (show n1 < 4 from (by omega)) (by first | omega | decide) dX11_meetingOf_25 ?_
    refine lv_astore (lv' := [(4, _), (0, _), (1, _), (2, _), (3, _)]) hx hb dX11_meetingOf_26 hl (by decide) rfl (fun ls hl => ?_)
    refine lv_iload_n hx hb dX11_meetingOf_28 rfl (lv_at hl 4 rfl) ?_
    refine lv_if_eq (tgt := 39) hx hb dX11_meetingOf_29 (by decide) (fun cq3 => ?_) (fun cq3 => ?_)
    · refine lv_aload_n hx hb dX11_meetingOf_39 rfl (lv_at hl 2 rfl) ?_
      refine h_get C hw bX6 ho1 lk1 2 (by decide) lk5 (v := .ref bg1) rfl dX11_meetingOf_40 ?_
      refine lv_astore (lv' := [(5, _), (4, _), (0, _), (1, _), (2, _), (3, _)]) hx hb dX11_meetingOf_43 hl (by decide) rfl (fun ls hl => ?_)
      refine lv_aload_n hx hb dX11_meetingOf_45 rfl (lv_at hl 4 rfl) ?_
      refine h_get C hw bX6 ho2 lk1 5 (by decide) lk0 (v := .ref x1) rfl dX11_meetingOf_46 ?_
      refine lv_aload hx hb dX11_meetingOf_49 (lv_at hl 0 rfl) ?_
      refine h_calll hw (h_runV (n := 1) (As := [.ref bg1]) (rest := []) C hw (c_X10_dot hwp hbg1) gX11_meetingOf_X10_dot rfl rfl rfl (by decide +kernel) ⟨by decide, by decide⟩ bX10 hwp rfl hl.1 rfl (Nat.le_of_ble_eq_true rfl) dX11_meetingOf_51 ⟨by first | decide | omega, by first | decide | omega⟩) (fun r4 f5 H locs hp hw => ?_)
      obtain ⟨rfl, rfl⟩ := hp
      refine W.eq (g2 := F0 m 54 ls [.long (lnA A u t 0)]) (by rw [ln_eq]) ?_
      refine lv_lstore (lv' := [(6, _), (5, _), (4, _), (0, _), (1, _), (2, _), (3, _)]) hx hb dX11_meetingOf_54 hl (by decide) rfl (fun ls hl => ?_)
      refine lv_lload hx hb dX11_meetingOf_56 (lv_at hl 0 rfl) ?_
      refine lv_lconst (v := 0) hx hb dX11_meetingOf_58 (by decide) ?_
      refine W.lcmp hx hb dX11_meetingOf_59 ?_
      refine l_ifne C (tgt := 65) dX11_meetingOf_60 (by decide) (fun cq6 => ?_) (fun cq6 => ?_)
      · refine lv_aload_n hx hb dX11_meetingOf_65 rfl (lv_at hl 5 rfl) ?_
        refine h_get C hw bX6 ho2 lk1 5 (by decide) lk0 (v := .ref x1) rfl dX11_meetingOf_66 ?_
        refine lv_aload_n hx hb dX11_meetingOf_69 rfl (lv_at hl 3 rfl) ?_
        refine h_get C hw bX11 (co.a0 hc) lk3 6 (by decide) lk2 (v := .ref (ad 7)) rfl dX11_meetingOf_70 ?_
        refine lv_aload_n hx hb dX11_meetingOf_73 rfl (lv_at hl 5 rfl) ?_
        refine h_get C hw bX6 ho2 lk1 1 (by decide) lk4 (v := .int (nI n2)) (congrArg (fun z => some (Value.int z)) h10t) dX11_meetingOf_74 ?_
        refine h_aldS C hw 4 rfl (co.a7 hc) hg2 (show n2 < 4 from (by omega)) (by first | omega | decide) dX11_meetingOf_77 ?_
        refine lv_aload hx hb dX11_meetingOf_78 (lv_at hl 2 rfl) ?_
        refine h_callq hw (h_runV (n := 1) (As := [.ref w1]) (rest := [.ref x1]) C hw (c_X10_minus hw2 hw1) gX11_meetingOf_X10_minus rfl rfl rfl (by decide +kernel) ⟨by decide, by decide⟩ bX10 hw2 rfl hl.1 rfl (Nat.le_of_ble_eq_true rfl) dX11_meetingOf_80 ⟨by first | decide | omega, by first | decide | omega⟩) (fun r7 f8 H locs hp hw => ?_)
        obtain ⟨le9, q10, rfl, k11, hq12⟩ := hp
        have n13 := ne_new hbg1 hq12
        have n14 := ne_new hen1 hq12
        have n15 := ne_new hbg2 hq12
        have n16 := ne_new hen2 hq12
        have n17 := ne_new hw1 hq12
        have n18 := ne_new hw2 hq12
        have n19 := ne_new hwp hq12
        have fr20 := hle_no (hle.rf f) hq12
        have k21 := le9 _ _ ho1
        have k22 := le9 _ _ hbg1
        have k23 := le9 _ _ hen1
        have k24 := le9 _ _ ho2
        have k25 := le9 _ _ hbg2
        have k26 := le9 _ _ hen2
        have k27 := le9 _ _ hw1
        have k28 := le9 _ _ hw2
        have k29 := le9 _ _ hwp
        have le30 := hle.tr (hle.rf f) le9
        have hc := hc.mono le9
        have hT := hT.up (kp_le le9) rfl
        have hpl2 := hpl2.up (kp_le le9)
        refine h_calll hw (h_runV (n := 1) (As := [.ref q10]) (rest := []) C hw (c_X10_dot k29 k11) gX11_meetingOf_X10_dot rfl rfl rfl (by decide +kernel) ⟨by decide, by decide⟩ bX10 k29 rfl hl.1 rfl (Nat.le_of_ble_eq_true rfl) dX11_meetingOf_83 ⟨by first | decide | omega, by first | decide | omega⟩) (fun r31 f32 H locs hp hw => ?_)
        obtain ⟨rfl, rfl⟩ := hp
        refine W.eq (g2 := F0 m 86 ls [.long (frA A u t)]) (by rw [fr_eq hst hn1 h10u hn2 h10t]) ?_
        refine lv_lstore (lv' := [(8, _), (6, _), (5, _), (4, _), (0, _), (1, _), (2, _), (3, _)]) hx hb dX11_meetingOf_86 hl (by decide) rfl (fun ls hl => ?_)
        refine h_new1 C hw bX2 lk6 lk7 lk8 lk9 dfX2 (by first | decide | omega | (dsimp only; omega)) (by first | decide | omega | (dsimp only; omega)) dX11_meetingOf_88 (fun q33 f34 H hq36 e35 hw => ?_)
        have k37 := up_n e35 hq36 k21
        have k38 := up_n e35 hq36 k22
        have k39 := up_n e35 hq36 k23
        have k40 := up_n e35 hq36 k24
        have k41 := up_n e35 hq36 k25
        have k42 := up_n e35 hq36 k26
        have k43 := up_n e35 hq36 k27
        have k44 := up_n e35 hq36 k28
        have k45 := up_n e35 hq36 k29
        have k46 := up_n e35 hq36 k11
        have k47 : f34 q33 = some (eO 2 [.null, .long 0]) := up_s e35
        have hc := hc.mono (hle_new (hle.rf _) hq36 e35)
        have hT := hT.up (kp_le (hle_new (hle.rf _) hq36 e35)) rfl
        have hpl2 := hpl2.up (kp_le (hle_new (hle.rf _) hq36 e35))
        have fr48 := hle_no le30 hq36
        have le49 := hle_new le30 hq36 e35
        refine lv_dup hx hb dX11_meetingOf_91 rfl ?_
        refine lv_aload hx hb dX11_meetingOf_92 (lv_at hl 3 rfl) ?_
        refine lv_lload hx hb dX11_meetingOf_94 (lv_at hl 1 rfl) ?_
        refine h_callq hw (h_runV (n := 1) (As := [.long (lnA A u t 0)]) (rest := [.ref q33, .ref q33]) C hw (c_X10_times k43) gX11_meetingOf_X10_times rfl rfl rfl (by decide +kernel) ⟨by decide, by decide⟩ bX10 k43 rfl hl.1 rfl (Nat.le_of_ble_eq_true rfl) dX11_meetingOf_96 ⟨by first | decide | omega, by first | decide | omega⟩) (fun r50 f51 H locs hp hw => ?_)
        obtain ⟨le52, q53, rfl, k54, hq55⟩ := hp
        have n56 := ne_new k38 hq55
        have n57 := ne_new k39 hq55
        have n58 := ne_new k41 hq55
        have n59 := ne_new k42 hq55
        have n60 := ne_new k43 hq55
        have n61 := ne_new k44 hq55
        have n62 := ne_new k45 hq55
        have n63 := ne_new k46 hq55
        have fr64 := hle_no le49 hq55
        have k65 := le52 _ _ k37
        have k66 := le52 _ _ k38
        have k67 := le52 _ _ k39
        have k68 := le52 _ _ k40
        have k69 := le52 _ _ k41
        have k70 := le52 _ _ k42
        have k71 := le52 _ _ k43
        have k72 := le52 _ _ k44
        have k73 := le52 _ _ k45
        have k74 := le52 _ _ k46
        have k75 := le52 _ _ k47
        have le76 := hle.tr le49 le52
        have hc := hc.mono le52
        have hT := hT.up (kp_le le52) rfl
        have hpl2 := hpl2.up (kp_le le52)
        refine lv_aload hx hb dX11_meetingOf_99 (lv_at hl 2 rfl) ?_
        refine lv_lload hx hb dX11_meetingOf_101 (lv_at hl 0 rfl) ?_
        refine h_callq hw (h_runV (n := 1) (As := [.long (frA A u t)]) (rest := [.ref q53, .ref q33, .ref q33]) C hw (c_X10_times k66) gX11_meetingOf_X10_times rfl rfl rfl (by decide +kernel) ⟨by decide, by decide⟩ bX10 k66 rfl hl.1 rfl (Nat.le_of_ble_eq_true rfl) dX11_meetingOf_103 ⟨by first | decide | omega, by first | decide | omega⟩) (fun r77 f78 H locs hp hw => ?_)
        obtain ⟨le79, q80, rfl, k81, hq82⟩ := hp
        have n83 := ne_new k66 hq82
        have n84 := ne_new k67 hq82
        have n85 := ne_new k69 hq82
        have n86 := ne_new k70 hq82
        have n87 := ne_new k71 hq82
        have n88 := ne_new k72 hq82
        have n89 := ne_new k73 hq82
        have n90 := ne_new k74 hq82
        have n91 := ne_new k54 hq82
        have fr92 := hle_no le76 hq82
        have k93 := le79 _ _ k65
        have k94 := le79 _ _ k66
        have k95 := le79 _ _ k67
        have k96 := le79 _ _ k68
        have k97 := le79 _ _ k69
        have k98 := le79 _ _ k70
        have k99 := le79 _ _ k71
        have k100 := le79 _ _ k72
        have k101 := le79 _ _ k73
        have k102 := le79 _ _ k74
        have k103 := le79 _ _ k75
        have k104 := le79 _ _ k54
        have le105 := hle.tr le76 le79
        have hc := hc.mono le79
        have hT := hT.up (kp_le le79) rfl
        have hpl2 := hpl2.up (kp_le le79)
        refine h_callq hw (h_runV (n := 1) (As := [.ref q80]) (rest := [.ref q33, .ref q33]) C hw (c_X10_plus k104 k81) gX11_meetingOf_X10_plus rfl rfl rfl (by decide +kernel) ⟨by decide, by decide⟩ bX10 k104 rfl hl.1 rfl (Nat.le_of_ble_eq_true rfl) dX11_meetingOf_106 ⟨by first | decide | omega, by first | decide | omega⟩) (fun r106 f107 H locs hp hw => ?_)
        obtain ⟨le108, q109, rfl, k110, hq111⟩ := hp
        have n112 := ne_new k94 hq111
        have n113 := ne_new k95 hq111
        have n114 := ne_new k97 hq111
        have n115 := ne_new k98 hq111
        have n116 := ne_new k99 hq111
        have n117 := ne_new k100 hq111
        have n118 := ne_new k101 hq111
        have n119 := ne_new k102 hq111
        have n120 := ne_new k104 hq111
        have n121 := ne_new k81 hq111
        have fr122 := hle_no le105 hq111
        have k123 := le108 _ _ k93
        have k124 := le108 _ _ k94
        have k125 := le108 _ _ k95
        have k126 := le108 _ _ k96
        have k127 := le108 _ _ k97
        have k128 := le108 _ _ k98
        have k129 := le108 _ _ k99
        have k130 := le108 _ _ k100
        have k131 := le108 _ _ k101
        have k132 := le108 _ _ k102
        have k133 := le108 _ _ k103
        have k134 := le108 _ _ k104
        have k135 := le108 _ _ k81
        have le136 := hle.tr le105 le108
        have hc := hc.mono le108
        have hT := hT.up (kp_le le108) rfl
        have hpl2 := hpl2.up (kp_le le108)
        refine lv_lload hx hb dX11_meetingOf_109 (lv_at hl 1 rfl) ?_
        refine h_callv hw (h_runI (n := 2) (As := [.ref q109, .long (lnA A u t 0)]) (rest := [.ref q33]) C hw (c_X2_init k133) gX11_meetingOf_X2_init rfl rfl rfl lk9 lk10 lk11 rfl (by decide +kernel) ⟨by decide, by decide⟩ rfl hl.1 rfl (Nat.le_of_ble_eq_true rfl) dX11_meetingOf_111 ⟨by first | decide | omega, by first | decide | omega⟩) (fun  f137 H locs hp hw => ?_)
        have e138 := hp
        have k139 := up_o e138 (ne_kd k123 k133 (Nat.ne_of_beq_eq_false rfl)) k123
        have k140 := up_o e138 (ne_kd k124 k133 (Nat.ne_of_beq_eq_false rfl)) k124
        have k141 := up_o e138 (ne_kd k125 k133 (Nat.ne_of_beq_eq_false rfl)) k125
        have k142 := up_o e138 (ne_kd k126 k133 (Nat.ne_of_beq_eq_false rfl)) k126
        have k143 := up_o e138 (ne_kd k127 k133 (Nat.ne_of_beq_eq_false rfl)) k127
        have k144 := up_o e138 (ne_kd k128 k133 (Nat.ne_of_beq_eq_false rfl)) k128
        have k145 := up_o e138 (ne_kd k129 k133 (Nat.ne_of_beq_eq_false rfl)) k129
        have k146 := up_o e138 (ne_kd k130 k133 (Nat.ne_of_beq_eq_false rfl)) k130
        have k147 := up_o e138 (ne_kd k131 k133 (Nat.ne_of_beq_eq_false rfl)) k131
        have k148 := up_o e138 (ne_kd k132 k133 (Nat.ne_of_beq_eq_false rfl)) k132
        have k149 := up_o e138 (ne_kd k134 k133 (Nat.ne_of_beq_eq_false rfl)) k134
        have k150 := up_o e138 (ne_kd k135 k133 (Nat.ne_of_beq_eq_false rfl)) k135
        have k151 := up_o e138 (ne_kd k110 k133 (Nat.ne_of_beq_eq_false rfl)) k110
        have k152 : f137 q33 = some (eO 2 [.ref q109, .long (lnA A u t 0)]) := up_s e138
        have le153 := hle_up le136 fr48 e138
        have hc := hc.wr8 (by omega) k133 e138
        refine W.widen (k := 5) (n := 14) (by first | decide | omega | (dsimp only; omega)) (by first | decide | omega | (dsimp only; omega)) ?_
        exact h_qret (v := some q33) C hr hlk hw (⟨le153, by rw [yA, if_pos cq3]; exact ⟨fun h9 => absurd ⟨hnp, cq6⟩ h9, fun _ => ⟨_, _, rfl, k152, by unfold wyO; rw [pt_eq hn1 h10u, pt_eq hn1 h10u, pt_eq hn1 h10u]; exact k151⟩⟩⟩) dX11_meetingOf_114
      · refine lv_null hx hb dX11_meetingOf_63 ?_
        refine W.widen (k := 5) (n := 14) (by first | decide | omega | (dsimp only; omega)) (by first | decide | omega | (dsimp only; omega)) ?_
        exact h_qret (v := none) C hr hlk hw (⟨(hle.rf f), by rw [yA, if_pos cq3]; exact ⟨fun _ => rfl, fun h9 => absurd cq6 h9.2⟩⟩) dX11_meetingOf_64
    · refine lv_aload_n hx hb dX11_meetingOf_32 rfl (lv_at hl 2 rfl) ?_
      refine h_get C hw bX6 ho1 lk1 3 (by decide) lk12 (v := .ref en1) rfl dX11_meetingOf_33 ?_
      refine lv_goto (tgt := 43) hx hb dX11_meetingOf_36 (by decide) ?_
      refine lv_astore (lv' := [(5, _), (4, _), (0, _), (1, _), (2, _), (3, _)]) hx hb dX11_meetingOf_43 hl (by decide) rfl (fun ls hl => ?_)
      refine lv_aload_n hx hb dX11_meetingOf_45 rfl (lv_at hl 4 rfl) ?_
      refine h_get C hw bX6 ho2 lk1 5 (by decide) lk0 (v := .ref x1) rfl dX11_meetingOf_46 ?_
      refine lv_aload hx hb dX11_meetingOf_49 (lv_at hl 0 rfl) ?_
      refine h_calll hw (h_runV (n := 1) (As := [.ref en1]) (rest := []) C hw (c_X10_dot hwp hen1) gX11_meetingOf_X10_dot rfl rfl rfl (by decide +kernel) ⟨by decide, by decide⟩ bX10 hwp rfl hl.1 rfl (Nat.le_of_ble_eq_true rfl) dX11_meetingOf_51 ⟨by first | decide | omega, by first | decide | omega⟩) (fun r154 f155 H locs hp hw => ?_)
      obtain ⟨rfl, rfl⟩ := hp
      refine W.eq (g2 := F0 m 54 ls [.long (lnA A u t 1)]) (by rw [ln_eq]) ?_
      refine lv_lstore (lv' := [(6, _), (5, _), (4, _), (0, _), (1, _), (2, _), (3, _)]) hx hb dX11_meetingOf_54 hl (by decide) rfl (fun ls hl => ?_)
      refine lv_lload hx hb dX11_meetingOf_56 (lv_at hl 0 rfl) ?_
      refine lv_lconst (v := 0) hx hb dX11_meetingOf_58 (by decide) ?_
      refine W.lcmp hx hb dX11_meetingOf_59 ?_
      refine l_ifne C (tgt := 65) dX11_meetingOf_60 (by decide) (fun cq156 => ?_) (fun cq156 => ?_)
      · refine lv_aload_n hx hb dX11_meetingOf_65 rfl (lv_at hl 5 rfl) ?_
        refine h_get C hw bX6 ho2 lk1 5 (by decide) lk0 (v := .ref x1) rfl dX11_meetingOf_66 ?_
        refine lv_aload_n hx hb dX11_meetingOf_69 rfl (lv_at hl 3 rfl) ?_
        refine h_get C hw bX11 (co.a0 hc) lk3 6 (by decide) lk2 (v := .ref (ad 7)) rfl dX11_meetingOf_70 ?_
        refine lv_aload_n hx hb dX11_meetingOf_73 rfl (lv_at hl 5 rfl) ?_
        refine h_get C hw bX6 ho2 lk1 1 (by decide) lk4 (v := .int (nI n2)) (congrArg (fun z => some (Value.int z)) h10t) dX11_meetingOf_74 ?_
        refine h_aldS C hw 4 rfl (co.a7 hc) hg2 (show n2 < 4 from (by omega)) (by first | omega | decide) dX11_meetingOf_77 ?_
        refine lv_aload hx hb dX11_meetingOf_78 (lv_at hl 2 rfl) ?_
        refine h_callq hw (h_runV (n := 1) (As := [.ref w1]) (rest := [.ref x1]) C hw (c_X10_minus hw2 hw1) gX11_meetingOf_X10_minus rfl rfl rfl (by decide +kernel) ⟨by decide, by decide⟩ bX10 hw2 rfl hl.1 rfl (Nat.le_of_ble_eq_true rfl) dX11_meetingOf_80 ⟨by first | decide | omega, by first | decide | omega⟩) (fun r157 f158 H locs hp hw => ?_)
        obtain ⟨le159, q160, rfl, k161, hq162⟩ := hp
        have n163 := ne_new hbg1 hq162
        have n164 := ne_new hen1 hq162
        have n165 := ne_new hbg2 hq162
        have n166 := ne_new hen2 hq162
        have n167 := ne_new hw1 hq162
        have n168 := ne_new hw2 hq162
        have n169 := ne_new hwp hq162
        have fr170 := hle_no (hle.rf f) hq162
        have k171 := le159 _ _ ho1
        have k172 := le159 _ _ hbg1
        have k173 := le159 _ _ hen1
        have k174 := le159 _ _ ho2
        have k175 := le159 _ _ hbg2
        have k176 := le159 _ _ hen2
        have k177 := le159 _ _ hw1
        have k178 := le159 _ _ hw2
        have k179 := le159 _ _ hwp
        have le180 := hle.tr (hle.rf f) le159
        have hc := hc.mono le159
        have hT := hT.up (kp_le le159) rfl
        have hpl2 := hpl2.up (kp_le le159)
        refine h_calll hw (h_runV (n := 1) (As := [.ref q160]) (rest := []) C hw (c_X10_dot k179 k161) gX11_meetingOf_X10_dot rfl rfl rfl (by decide +kernel) ⟨by decide, by decide⟩ bX10 k179 rfl hl.1 rfl (Nat.le_of_ble_eq_true rfl) dX11_meetingOf_83 ⟨by first | decide | omega, by first | decide | omega⟩) (fun r181 f182 H locs hp hw => ?_)
        obtain ⟨rfl, rfl⟩ := hp
        refine W.eq (g2 := F0 m 86 ls [.long (frA A u t)]) (by rw [fr_eq hst hn1 h10u hn2 h10t]) ?_
        refine lv_lstore (lv' := [(8, _), (6, _), (5, _), (4, _), (0, _), (1, _), (2, _), (3, _)]) hx hb dX11_meetingOf_86 hl (by decide) rfl (fun ls hl => ?_)
        refine h_new1 C hw bX2 lk6 lk7 lk8 lk9 dfX2 (by first | decide | omega | (dsimp only; omega)) (by first | decide | omega | (dsimp only; omega)) dX11_meetingOf_88 (fun q183 f184 H hq186 e185 hw => ?_)
        have k187 := up_n e185 hq186 k171
        have k188 := up_n e185 hq186 k172
        have k189 := up_n e185 hq186 k173
        have k190 := up_n e185 hq186 k174
        have k191 := up_n e185 hq186 k175
        have k192 := up_n e185 hq186 k176
        have k193 := up_n e185 hq186 k177
        have k194 := up_n e185 hq186 k178
        have k195 := up_n e185 hq186 k179
        have k196 := up_n e185 hq186 k161
        have k197 : f184 q183 = some (eO 2 [.null, .long 0]) := up_s e185
        have hc := hc.mono (hle_new (hle.rf _) hq186 e185)
        have hT := hT.up (kp_le (hle_new (hle.rf _) hq186 e185)) rfl
        have hpl2 := hpl2.up (kp_le (hle_new (hle.rf _) hq186 e185))
        have fr198 := hle_no le180 hq186
        have le199 := hle_new le180 hq186 e185
        refine lv_dup hx hb dX11_meetingOf_91 rfl ?_
        refine lv_aload hx hb dX11_meetingOf_92 (lv_at hl 3 rfl) ?_
        refine lv_lload hx hb dX11_meetingOf_94 (lv_at hl 1 rfl) ?_
        refine h_callq hw (h_runV (n := 1) (As := [.long (lnA A u t 1)]) (rest := [.ref q183, .ref q183]) C hw (c_X10_times k193) gX11_meetingOf_X10_times rfl rfl rfl (by decide +kernel) ⟨by decide, by decide⟩ bX10 k193 rfl hl.1 rfl (Nat.le_of_ble_eq_true rfl) dX11_meetingOf_96 ⟨by first | decide | omega, by first | decide | omega⟩) (fun r200 f201 H locs hp hw => ?_)
        obtain ⟨le202, q203, rfl, k204, hq205⟩ := hp
        have n206 := ne_new k188 hq205
        have n207 := ne_new k189 hq205
        have n208 := ne_new k191 hq205
        have n209 := ne_new k192 hq205
        have n210 := ne_new k193 hq205
        have n211 := ne_new k194 hq205
        have n212 := ne_new k195 hq205
        have n213 := ne_new k196 hq205
        have fr214 := hle_no le199 hq205
        have k215 := le202 _ _ k187
        have k216 := le202 _ _ k188
        have k217 := le202 _ _ k189
        have k218 := le202 _ _ k190
        have k219 := le202 _ _ k191
        have k220 := le202 _ _ k192
        have k221 := le202 _ _ k193
        have k222 := le202 _ _ k194
        have k223 := le202 _ _ k195
        have k224 := le202 _ _ k196
        have k225 := le202 _ _ k197
        have le226 := hle.tr le199 le202
        have hc := hc.mono le202
        have hT := hT.up (kp_le le202) rfl
        have hpl2 := hpl2.up (kp_le le202)
        refine lv_aload hx hb dX11_meetingOf_99 (lv_at hl 2 rfl) ?_
        refine lv_lload hx hb dX11_meetingOf_101 (lv_at hl 0 rfl) ?_
        refine h_callq hw (h_runV (n := 1) (As := [.long (frA A u t)]) (rest := [.ref q203, .ref q183, .ref q183]) C hw (c_X10_times k217) gX11_meetingOf_X10_times rfl rfl rfl (by decide +kernel) ⟨by decide, by decide⟩ bX10 k217 rfl hl.1 rfl (Nat.le_of_ble_eq_true rfl) dX11_meetingOf_103 ⟨by first | decide | omega, by first | decide | omega⟩) (fun r227 f228 H locs hp hw => ?_)
        obtain ⟨le229, q230, rfl, k231, hq232⟩ := hp
        have n233 := ne_new k216 hq232
        have n234 := ne_new k217 hq232
        have n235 := ne_new k219 hq232
        have n236 := ne_new k220 hq232
        have n237 := ne_new k221 hq232
        have n238 := ne_new k222 hq232
        have n239 := ne_new k223 hq232
        have n240 := ne_new k224 hq232
        have n241 := ne_new k204 hq232
        have fr242 := hle_no le226 hq232
        have k243 := le229 _ _ k215
        have k244 := le229 _ _ k216
        have k245 := le229 _ _ k217
        have k246 := le229 _ _ k218
        have k247 := le229 _ _ k219
        have k248 := le229 _ _ k220
        have k249 := le229 _ _ k221
        have k250 := le229 _ _ k222
        have k251 := le229 _ _ k223
        have k252 := le229 _ _ k224
        have k253 := le229 _ _ k225
        have k254 := le229 _ _ k204
        have le255 := hle.tr le226 le229
        have hc := hc.mono le229
        have hT := hT.up (kp_le le229) rfl
        have hpl2 := hpl2.up (kp_le le229)
        refine h_callq hw (h_runV (n := 1) (As := [.ref q230]) (rest := [.ref q183, .ref q183]) C hw (c_X10_plus k254 k231) gX11_meetingOf_X10_plus rfl rfl rfl (by decide +kernel) ⟨by decide, by decide⟩ bX10 k254 rfl hl.1 rfl (Nat.le_of_ble_eq_true rfl) dX11_meetingOf_106 ⟨by first | decide | omega, by first | decide | omega⟩) (fun r256 f257 H locs hp hw => ?_)
        obtain ⟨le258, q259, rfl, k260, hq261⟩ := hp
        have n262 := ne_new k244 hq261
        have n263 := ne_new k245 hq261
        have n264 := ne_new k247 hq261
        have n265 := ne_new k248 hq261
        have n266 := ne_new k249 hq261
        have n267 := ne_new k250 hq261
        have n268 := ne_new k251 hq261
        have n269 := ne_new k252 hq261
        have n270 := ne_new k254 hq261
        have n271 := ne_new k231 hq261
        have fr272 := hle_no le255 hq261
        have k273 := le258 _ _ k243
        have k274 := le258 _ _ k244
        have k275 := le258 _ _ k245
        have k276 := le258 _ _ k246
        have k277 := le258 _ _ k247
        have k278 := le258 _ _ k248
        have k279 := le258 _ _ k249
        have k280 := le258 _ _ k250
        have k281 := le258 _ _ k251
        have k282 := le258 _ _ k252
        have k283 := le258 _ _ k253
        have k284 := le258 _ _ k254
        have k285 := le258 _ _ k231
        have le286 := hle.tr le255 le258
        have hc := hc.mono le258
        have hT := hT.up (kp_le le258) rfl
        have hpl2 := hpl2.up (kp_le le258)
        refine lv_lload hx hb dX11_meetingOf_109 (lv_at hl 1 rfl) ?_
        refine h_callv hw (h_runI (n := 2) (As := [.ref q259, .long (lnA A u t 1)]) (rest := [.ref q183]) C hw (c_X2_init k283) gX11_meetingOf_X2_init rfl rfl rfl lk9 lk10 lk11 rfl (by decide +kernel) ⟨by decide, by decide⟩ rfl hl.1 rfl (Nat.le_of_ble_eq_true rfl) dX11_meetingOf_111 ⟨by first | decide | omega, by first | decide | omega⟩) (fun  f287 H locs hp hw => ?_)
        have e288 := hp
        have k289 := up_o e288 (ne_kd k273 k283 (Nat.ne_of_beq_eq_false rfl)) k273
        have k290 := up_o e288 (ne_kd k274 k283 (Nat.ne_of_beq_eq_false rfl)) k274
        have k291 := up_o e288 (ne_kd k275 k283 (Nat.ne_of_beq_eq_false rfl)) k275
        have k292 := up_o e288 (ne_kd k276 k283 (Nat.ne_of_beq_eq_false rfl)) k276
        have k293 := up_o e288 (ne_kd k277 k283 (Nat.ne_of_beq_eq_false rfl)) k277
        have k294 := up_o e288 (ne_kd k278 k283 (Nat.ne_of_beq_eq_false rfl)) k278
        have k295 := up_o e288 (ne_kd k279 k283 (Nat.ne_of_beq_eq_false rfl)) k279
        have k296 := up_o e288 (ne_kd k280 k283 (Nat.ne_of_beq_eq_false rfl)) k280
        have k297 := up_o e288 (ne_kd k281 k283 (Nat.ne_of_beq_eq_false rfl)) k281
        have k298 := up_o e288 (ne_kd k282 k283 (Nat.ne_of_beq_eq_false rfl)) k282
        have k299 := up_o e288 (ne_kd k284 k283 (Nat.ne_of_beq_eq_false rfl)) k284
        have k300 := up_o e288 (ne_kd k285 k283 (Nat.ne_of_beq_eq_false rfl)) k285
        have k301 := up_o e288 (ne_kd k260 k283 (Nat.ne_of_beq_eq_false rfl)) k260
        have k302 : f287 q183 = some (eO 2 [.ref q259, .long (lnA A u t 1)]) := up_s e288
        have le303 := hle_up le286 fr198 e288
        have hc := hc.wr8 (by omega) k283 e288
        refine W.widen (k := 5) (n := 14) (by first | decide | omega | (dsimp only; omega)) (by first | decide | omega | (dsimp only; omega)) ?_
        exact h_qret (v := some q183) C hr hlk hw (⟨le303, by rw [yA, if_neg cq3]; exact ⟨fun h9 => absurd ⟨hnp, cq156⟩ h9, fun _ => ⟨_, _, rfl, k302, by unfold wyO; rw [pt_eq hn1 h10u, pt_eq hn1 h10u, pt_eq hn1 h10u]; exact k301⟩⟩⟩) dX11_meetingOf_114
      · refine lv_null hx hb dX11_meetingOf_63 ?_
        refine W.widen (k := 5) (n := 14) (by first | decide | omega | (dsimp only; omega)) (by first | decide | omega | (dsimp only; omega)) ?_
        exact h_qret (v := none) C hr hlk hw (⟨(hle.rf f), by rw [yA, if_neg cq3]; exact ⟨fun _ => rfl, fun h9 => absurd cq156 h9.2⟩⟩) dX11_meetingOf_64
  · subst cq2
    refine lv_null hx hb dX11_meetingOf_15 ?_
    refine W.widen (k := 5) (n := 14) (by first | decide | omega | (dsimp only; omega)) (by first | decide | omega | (dsimp only; omega)) ?_
    exact h_qret (v := none) C hr hlk hw (⟨(hle.rf f), fun _ => rfl, fun h9 => absurd h9.1 hpl2.no⟩) dX11_meetingOf_16
set_option maxHeartbeats 4000000 in
set_option maxRecDepth 100000 in
theorem c_X11_landing {l : Launch} {D : va_G} {cA : Nat → ClassId} {f : HF} {sz : Nat} {m1 y1 w1 : Nat} {x y z d x2 y2 z2 : Int64} {k : Int32}  (h0 : f m1 = some (eO 2 [.ref y1, .long d])) (h1 : f y1 = some (eO 10 [.long x, .long y, .long z])) (h2 : f w1 = some (eO 10 [.long x2, .long y2, .long z2])) (ha : lA (alW x y z k * z2 - z * alW x2 y2 z2 k) < 2 ^ 48) (hb2 : lA (d * z2) < 2 ^ 48) (hu : ¬ d * z2 = 0) : Met l yX11_landing wsX11_landing ({ frames := 2, cells := 1, slots := 2, locals := 58 } : Room) (va_Pc [.ref m1, .ref w1, .int k] (hB D cA f sz)) (va_Qq (fun r f1 => hle f f1 ∧ ∃ q, r = some q ∧ f1 q = some (eO 0 [.long (prL (alW x y z k * z2 - z * alW x2 y2 z2 k) (d * z2) 0), .long (prL (alW x y z k * z2 - z * alW x2 y2 z2 k) (d * z2) 1)]) ∧ f q = none) (hE D f sz) (hA f sz)) 1 2 (hA f sz) := by
  refine h_of (cc := cX11_landing) (maxL := 5) (ret := (some (.object "FallingLight$Fraction"))) (by decide +kernel) rfl (Nat.le_of_ble_eq_true rfl) ?_
  intro p e s m below meth c ls C hr hlk hnm hw hl
  have hx := C.1.1
  have hb := C.1.2.1
  have hl : lv_has ls 5 [(0, .ref m1), (1, .ref w1), (2, .int k)] := hl
  have lk0 : Cond.fieldLink RX11 287 "FallingLight$Meeting" "above" "LFallingLight$Way;" ∈ wsX11_landing := by decide +kernel
  have lk1 : ∀ w ∈ u_ws RX2 TX2 2, w ∈ wsX11_landing := by decide +kernel
  have lk2 : Cond.fieldLink RX11 279 "FallingLight$Way" "z" "J" ∈ wsX11_landing := by decide +kernel
  have lk3 : ∀ w ∈ u_ws RX10 TX10 3, w ∈ wsX11_landing := by decide +kernel
  have lk4 : ∀ w ∈ u_ws RX0 TX0 2, w ∈ wsX11_landing := by decide +kernel
  have lk5 : Cond.classLink RX11 171 RX0 ∈ wsX11_landing := by decide +kernel
  have lk6 : Cond.instantiable RX0 2 ∈ wsX11_landing := by decide +kernel
  have lk7 : Cond.initialized RX0 ∈ wsX11_landing := by decide +kernel
  have lk8 : Cond.fieldLink RX11 290 "FallingLight$Meeting" "below" "J" ∈ wsX11_landing := by decide +kernel
  have lk9 : Cond.methodLink RX11 293 yX0_init ∈ wsX11_landing := by decide +kernel
  have lk10 : Cond.instanceMethod yX0_init ∈ wsX11_landing := by decide +kernel
  refine lv_aload_n hx hb dX11_landing_0 rfl (lv_at hl 0 rfl) ?_
  refine h_get C hw bX2 h0 lk1 0 (by decide) lk0 (v := .ref y1) rfl dX11_landing_1 ?_
  refine lv_iload_n hx hb dX11_landing_4 rfl (lv_at hl 2 rfl) ?_
  refine h_calll hw (h_runV (n := 1) (As := [.int k]) (rest := []) C hw (c_X10_along h1) gX11_landing_X10_along rfl rfl rfl (by decide +kernel) ⟨by decide, by decide⟩ bX10 h1 rfl hl.1 rfl (Nat.le_of_ble_eq_true rfl) dX11_landing_5 ⟨by first | decide | omega, by first | decide | omega⟩) (fun r1 f2 H locs hp hw => ?_)
  obtain ⟨rfl, rfl⟩ := hp
  refine lv_aload_n hx hb dX11_landing_8 rfl (lv_at hl 1 rfl) ?_
  refine h_get C hw bX10 h2 lk3 2 (by decide) lk2 (v := .long z2) rfl dX11_landing_9 ?_
  refine lv_lmul hx hb dX11_landing_12 ?_
  refine lv_aload_n hx hb dX11_landing_13 rfl (lv_at hl 0 rfl) ?_
  refine h_get C hw bX2 h0 lk1 0 (by decide) lk0 (v := .ref y1) rfl dX11_landing_14 ?_
  refine h_get C hw bX10 h1 lk3 2 (by decide) lk2 (v := .long z) rfl dX11_landing_17 ?_
  refine lv_aload_n hx hb dX11_landing_20 rfl (lv_at hl 1 rfl) ?_
  refine lv_iload_n hx hb dX11_landing_21 rfl (lv_at hl 2 rfl) ?_
  refine h_calll hw (h_runV (n := 1) (As := [.int k]) (rest := [.long z, .long ((alW x y z k) * z2)]) C hw (c_X10_along h2) gX11_landing_X10_along rfl rfl rfl (by decide +kernel) ⟨by decide, by decide⟩ bX10 h2 rfl hl.1 rfl (Nat.le_of_ble_eq_true rfl) dX11_landing_22 ⟨by first | decide | omega, by first | decide | omega⟩) (fun r3 f4 H locs hp hw => ?_)
  obtain ⟨rfl, rfl⟩ := hp
  refine lv_lmul hx hb dX11_landing_25 ?_
  refine lv_lsub hx hb dX11_landing_26 ?_
  refine lv_lstore_n (lv' := [(3, _), (0, _), (1, _), (2, _)]) hx hb dX11_landing_27 rfl hl (by decide) rfl (fun ls hl => ?_)
  refine h_new1 C hw bX0 lk4 lk5 lk6 lk7 dfX0 (by first | decide | omega | (dsimp only; omega)) (by first | decide | omega | (dsimp only; omega)) dX11_landing_28 (fun q5 f6 H hq8 e7 hw => ?_)
  have k9 := up_n e7 hq8 h0
  have k10 := up_n e7 hq8 h1
  have k11 := up_n e7 hq8 h2
  have k12 : f6 q5 = some (eO 0 [.long 0, .long 0]) := up_s e7
  have fr13 := hle_no (hle.rf f) hq8
  have le14 := hle_new (hle.rf f) hq8 e7
  refine lv_dup hx hb dX11_landing_31 rfl ?_
  refine lv_lload_n hx hb dX11_landing_32 rfl (lv_at hl 0 rfl) ?_
  refine lv_aload_n hx hb dX11_landing_33 rfl (lv_at hl 1 rfl) ?_
  refine h_get C hw bX2 k9 lk1 1 (by decide) lk8 (v := .long d) rfl dX11_landing_34 ?_
  refine lv_aload_n hx hb dX11_landing_37 rfl (lv_at hl 2 rfl) ?_
  refine h_get C hw bX10 k11 lk3 2 (by decide) lk2 (v := .long z2) rfl dX11_landing_38 ?_
  refine lv_lmul hx hb dX11_landing_41 ?_
  refine h_callv hw (h_runI (n := 2) (As := [.long (((alW x y z k) * z2) - (z * (alW x2 y2 z2 k))), .long (d * z2)]) (rest := [.ref q5]) C hw (c_X0_init k12 ha hb2 hu) gX11_landing_X0_init rfl rfl rfl lk7 lk9 lk10 rfl (by decide +kernel) ⟨by decide, by decide⟩ rfl hl.1 rfl (Nat.le_of_ble_eq_true rfl) dX11_landing_42 ⟨by first | decide | omega, by first | decide | omega⟩) (fun  f15 H locs hp hw => ?_)
  have e16 := hp
  have k17 := up_o e16 (ne_kd k9 k12 (Nat.ne_of_beq_eq_false rfl)) k9
  have k18 := up_o e16 (ne_kd k10 k12 (Nat.ne_of_beq_eq_false rfl)) k10
  have k19 := up_o e16 (ne_kd k11 k12 (Nat.ne_of_beq_eq_false rfl)) k11
  have k20 : f15 q5 = some (eO 0 [.long (prL (((alW x y z k) * z2) - (z * (alW x2 y2 z2 k))) (d * z2) 0), .long (prL (((alW x y z k) * z2) - (z * (alW x2 y2 z2 k))) (d * z2) 1)]) := up_s e16
  have le21 := hle_up le14 fr13 e16
  refine W.widen (k := 1) (n := 2) (by first | decide | omega | (dsimp only; omega)) (by first | decide | omega | (dsimp only; omega)) ?_
  exact h_qret (v := some q5) C hr hlk hw (⟨le21, q5, rfl, k20, fr13⟩) dX11_landing_45
set_option maxHeartbeats 4000000 in
set_option maxRecDepth 100000 in
theorem c_X11_driftFrom {l : Launch} {D : va_G} {cA : Nat → ClassId} {f : HF} {sz : Nat} {h1 wa : Nat} {x y : Int64} {g : Nat → Int32}  (h0 : f h1 = some (eO 0 [.long x, .long y])) (h2 : f wa = some (eI cA 10 g)) (ha : lA (dfK g x y 10) < 2 ^ 48) (hb2 : lA y < 2 ^ 48) (hu : ¬ y = 0) : Met l yX11_driftFrom wsX11_driftFrom ({ frames := 2, cells := 1, slots := 2, locals := 58 } : Room) (va_Pc [.ref h1, .ref wa] (hB D cA f sz)) (va_Qq (fun r f1 => hle f f1 ∧ ∃ q, r = some q ∧ f1 q = some (eO 0 [.long (prL (dfK g x y 10) y 0), .long (prL (dfK g x y 10) y 1)]) ∧ f q = none) (hE D f sz) (hA f sz)) 1 2 (hA f sz) := by
  refine h_of (cc := cX11_driftFrom) (maxL := 9) (ret := (some (.object "FallingLight$Fraction"))) (by decide +kernel) rfl (Nat.le_of_ble_eq_true rfl) ?_
  intro p e s m below meth c ls C hr hlk hnm hw hl
  have hx := C.1.1
  have hb := C.1.2.1
  have hl : lv_has ls 9 [(0, .ref h1), (1, .ref wa)] := hl
  have lk0 : Cond.constantLong RX11 277 (10) ∈ wsX11_driftFrom := by decide +kernel
  have lk1 : Cond.fieldLink RX11 298 "FallingLight$Fraction" "below" "J" ∈ wsX11_driftFrom := by decide +kernel
  have lk2 : ∀ w ∈ u_ws RX0 TX0 2, w ∈ wsX11_driftFrom := by decide +kernel
  have lk3 : Cond.classLink RX11 171 RX0 ∈ wsX11_driftFrom := by decide +kernel
  have lk4 : Cond.instantiable RX0 2 ∈ wsX11_driftFrom := by decide +kernel
  have lk5 : Cond.initialized RX0 ∈ wsX11_driftFrom := by decide +kernel
  have lk6 : Cond.methodLink RX11 293 yX0_init ∈ wsX11_driftFrom := by decide +kernel
  have lk7 : Cond.instanceMethod yX0_init ∈ wsX11_driftFrom := by decide +kernel
  have lk8 : Cond.fieldLink RX11 296 "FallingLight$Fraction" "above" "J" ∈ wsX11_driftFrom := by decide +kernel
  have lk9 : Cond.methodLink RX11 303 Lib.MathLoose.max_long.x ∈ wsX11_driftFrom := by decide +kernel
  have lk10 : Cond.static Lib.MathLoose.max_long.x ∈ wsX11_driftFrom := by decide +kernel
  have lk11 : Cond.initialized "java/lang/Math" ∈ wsX11_driftFrom := by decide +kernel
  have lk12 : Cond.code Lib.MathLoose.max_long.x Lib.MathLoose.max_long.code 4 (some .long) ∈ wsX11_driftFrom := by decide +kernel
  have lk13 : Cond.methodLink RX11 309 Lib.MathLoose.min_long.x ∈ wsX11_driftFrom := by decide +kernel
  have lk14 : Cond.static Lib.MathLoose.min_long.x ∈ wsX11_driftFrom := by decide +kernel
  have lk15 : Cond.code Lib.MathLoose.min_long.x Lib.MathLoose.min_long.code 4 (some .long) ∈ wsX11_driftFrom := by decide +kernel
  refine lv_ldc2 hx hb C.1.2.2.2.1 (C.1.2.2.2.2 _ lk0) dX11_driftFrom_0 ?_
  refine lv_aload_n hx hb dX11_driftFrom_3 rfl (lv_at hl 0 rfl) ?_
  refine h_get C hw bX0 h0 lk2 1 (by decide) lk1 (v := .long y) rfl dX11_driftFrom_4 ?_
  refine lv_lmul hx hb dX11_driftFrom_7 ?_
  refine lv_lstore_n (lv' := [(2, _), (0, _), (1, _)]) hx hb dX11_driftFrom_8 rfl hl (by decide) rfl (fun ls hl => ?_)
  refine lv_lconst (v := 0) hx hb dX11_driftFrom_9 (by decide) ?_
  refine lv_lstore (lv' := [(4, _), (2, _), (0, _), (1, _)]) hx hb dX11_driftFrom_10 hl (by decide) rfl (fun ls hl => ?_)
  refine lv_iconst (v := nI 0) hx hb dX11_driftFrom_12 (by decide) ?_
  refine lv_istore (lv' := [(6, _), (4, _), (2, _), (0, _), (1, _)]) hx hb dX11_driftFrom_13 hl (by decide) rfl (fun ls hl => ?_)
  have lp15 : ∀ (n : Nat) (k : Nat) (H1 : Heap) (locs1 : List Loc) (ls1 : Array Slot), hW D (hA f sz) s.heap f H1 locs1 → lv_has ls1 9 [(0, .ref h1), (1, .ref wa), (2, .long ((10 : Int64) * y)), (4, .long (dfK g x y k)), (6, .int (nI k))] → (k ≤ 10) → 10 - k < n → W p l e ({ frames := 2, cells := 1, slots := 2, locals := 58 } : Room) s m ([.ref h1, .ref wa]).toArray below meth c H1 locs1 0 0 (MQ below (va_Qq (fun r f1 => hle f f1 ∧ ∃ q, r = some q ∧ f1 q = some (eO 0 [.long (prL (dfK g x y 10) y 0), .long (prL (dfK g x y 10) y 1)]) ∧ f q = none) (hE D f sz) (hA f sz)) ([.ref h1, .ref wa]).toArray s 1 2 (hA f sz)) (F0 m 15 ls1 []) := by
    intro n
    induction n with
    | zero => intros; omega
    | succ n ih15 =>
      intro k H locs ls hw hl hk hmu
      refine lv_iload hx hb dX11_driftFrom_15 (lv_at hl 4 rfl) ?_
      refine lv_aload_n hx hb dX11_driftFrom_17 rfl (lv_at hl 1 rfl) ?_
      refine h_alen C hw 0 h2 rfl dX11_driftFrom_18 ?_
      refine n_cge C (by omega) (by omega) (tgt := 61) dX11_driftFrom_19 (by decide) (fun cq1 => ?_) (fun cq1 => ?_)
      · have hk10 : k = 10 := by omega
        rw [hk10] at hl
        refine h_new1 C hw bX0 lk2 lk3 lk4 lk5 dfX0 (by first | decide | omega | (dsimp only; omega)) (by first | decide | omega | (dsimp only; omega)) dX11_driftFrom_61 (fun q2 f3 H hq5 e4 hw => ?_)
        have n6 := ne_new h0 hq5
        have k7 := up_n e4 hq5 h0
        have k8 := up_n e4 hq5 h2
        have k9 : f3 q2 = some (eO 0 [.long 0, .long 0]) := up_s e4
        have fr10 := hle_no (hle.rf f) hq5
        have le11 := hle_new (hle.rf f) hq5 e4
        refine lv_dup hx hb dX11_driftFrom_64 rfl ?_
        refine lv_lload hx hb dX11_driftFrom_65 (lv_at hl 3 rfl) ?_
        refine lv_aload_n hx hb dX11_driftFrom_67 rfl (lv_at hl 0 rfl) ?_
        refine h_get C hw bX0 k7 lk2 1 (by decide) lk1 (v := .long y) rfl dX11_driftFrom_68 ?_
        refine h_callv hw (h_runI (n := 2) (As := [.long (dfK g x y 10), .long y]) (rest := [.ref q2]) C hw (c_X0_init k9 ha hb2 hu) gX11_driftFrom_X0_init rfl rfl rfl lk5 lk6 lk7 rfl (by decide +kernel) ⟨by decide, by decide⟩ rfl hl.1 rfl (Nat.le_of_ble_eq_true rfl) dX11_driftFrom_71 ⟨by first | decide | omega, by first | decide | omega⟩) (fun  f12 H locs hp hw => ?_)
        have e13 := hp
        have k14 := up_o e13 n6 k7
        have k15 := up_o e13 (ne_kd k8 k9 (Nat.ne_of_beq_eq_false rfl)) k8
        have k16 : f12 q2 = some (eO 0 [.long (prL (dfK g x y 10) y 0), .long (prL (dfK g x y 10) y 1)]) := up_s e13
        have le17 := hle_up le11 fr10 e13
        refine W.widen (k := 1) (n := 2) (by first | decide | omega | (dsimp only; omega)) (by first | decide | omega | (dsimp only; omega)) ?_
        exact h_qret (v := some q2) C hr hlk hw (⟨le17, q2, rfl, k16, fr10⟩) dX11_driftFrom_74
      · refine lv_lload_n hx hb dX11_driftFrom_22 rfl (lv_at hl 2 rfl) ?_
        refine lv_lconst (v := 0) hx hb dX11_driftFrom_23 (by decide) ?_
        refine lv_aload_n hx hb dX11_driftFrom_24 rfl (lv_at hl 0 rfl) ?_
        refine h_get C hw bX0 h0 lk2 0 (by decide) lk8 (v := .long x) rfl dX11_driftFrom_25 ?_
        refine lv_iload hx hb dX11_driftFrom_28 (lv_at hl 4 rfl) ?_
        refine n_i2l C (by omega) dX11_driftFrom_30 ?_
        refine lv_lload_n hx hb dX11_driftFrom_31 rfl (lv_at hl 2 rfl) ?_
        refine lv_lmul hx hb dX11_driftFrom_32 ?_
        refine lv_lsub hx hb dX11_driftFrom_33 ?_
        refine va_mmax_long hx hb (C.1.2.2.1.trans hl.1.symm) C.1.2.2.2.1 (C.1.2.2.2.2 _ lk9) (C.1.2.2.2.2 _ lk10) (C.1.2.2.2.2 _ lk11) (C.1.2.2.2.2 _ lk12) (Nat.le_of_ble_eq_true rfl) (Nat.le_of_ble_eq_true rfl) (by first | decide | omega) (by first | decide | omega) dX11_driftFrom_34 ?_
        refine va_mmin_long hx hb (C.1.2.2.1.trans hl.1.symm) C.1.2.2.2.1 (C.1.2.2.2.2 _ lk13) (C.1.2.2.2.2 _ lk14) (C.1.2.2.2.2 _ lk11) (C.1.2.2.2.2 _ lk15) (Nat.le_of_ble_eq_true rfl) (Nat.le_of_ble_eq_true rfl) (by first | decide | omega) (by first | decide | omega) dX11_driftFrom_37 ?_
        refine lv_lstore (lv' := [(7, _), (0, _), (1, _), (2, _), (4, _), (6, _)]) hx hb dX11_driftFrom_40 hl (by decide) rfl (fun ls hl => ?_)
        refine lv_lload hx hb dX11_driftFrom_42 (lv_at hl 4 rfl) ?_
        refine lv_aload_n hx hb dX11_driftFrom_44 rfl (lv_at hl 2 rfl) ?_
        refine lv_iload hx hb dX11_driftFrom_45 (lv_at hl 5 rfl) ?_
        refine h_iald1 C hw (v := g k) h2 rfl (show k < 10 from (by omega)) (by first | omega | decide) dX11_driftFrom_47 ?_
        refine lv_i2l hx hb dX11_driftFrom_48 rfl ?_
        refine lv_lload hx hb dX11_driftFrom_49 (lv_at hl 0 rfl) ?_
        refine lv_lmul hx hb dX11_driftFrom_51 ?_
        refine lv_ladd hx hb dX11_driftFrom_52 ?_
        refine W.eq (g2 := F0 m 53 ls [.long (dfK g x y (k + 1))]) (by rw [dfK, muC]) ?_
        refine lv_lstore (lv' := [(4, _), (7, _), (0, _), (1, _), (2, _), (6, _)]) hx hb dX11_driftFrom_53 hl (by decide) rfl (fun ls hl => ?_)
        refine n_iinc C (lv' := [(6, _), (4, _), (7, _), (0, _), (1, _), (2, _)]) dX11_driftFrom_55 hl (k := 5) rfl (by decide) rfl (fun ls hl => ?_)
        refine lv_goto (tgt := 15) hx hb dX11_driftFrom_58 (by decide) ?_
        exact ih15 (k + 1) _ _ _ hw (lv_sub hl [3, 4, 5, 1, 0] rfl) (by omega) (by omega)
  exact lp15 _ 0 _ _ _ hw (lv_sub hl [3, 4, 2, 1, 0] rfl) (by omega) (Nat.lt_succ_self _)
set_option maxHeartbeats 4000000 in
set_option maxRecDepth 100000 in
theorem c_X11_rank {l : Launch} {D : va_G} {cA : Nat → ClassId} {f : HF} {sz : Nat} {ad : Nat → Nat} {K : KK} {G : GG} {A : MA} {i u t nk : Nat}  (hc : co cA ad K G f) (hS : sgs K G A f) (hT : sts G A f) (hi : i < 6) (hu2 : u < nk) (ht2 : t < nk) (hn : nk ≤ 4) (h8 : A 8 i = nI nk) (hso : ∀ j, j < 24 → ∃ c, c < 4 ∧ A 10 j = nI c) (hst : ∀ j, j < 12 → ib 99 (A 7 j)) (hwy : ∀ j, j < 216 → ib 9 (A 11 j)) : Met l yX11_rank wsX11_rank ({ frames := 4, cells := 7, slots := 19, locals := 97 } : Room) (va_Pc [.ref (ad 0), .int (nI i), .int (nI u), .int (nI t)] (hB D cA f sz)) (va_Qq (fun r f1 => hle f f1 ∧ rkO A f1 r i u t) (hE D f sz) (hA f sz)) 7 19 (hA f sz) := by
  refine h_of (cc := cX11_rank) (maxL := 8) (ret := (some (.object "FallingLight$Fraction"))) (by decide +kernel) rfl (Nat.le_of_ble_eq_true rfl) ?_
  intro p e s m below meth c ls C hr hlk hnm hw hl
  have hx := C.1.1
  have hb := C.1.2.1
  have hl : lv_has ls 8 [(0, .ref (ad 0)), (1, .int (nI i)), (2, .int (nI u)), (3, .int (nI t))] := hl
  refine lv_aload_n hx hb dX11_rank_0 rfl (lv_at hl 0 rfl) ?_
  refine lv_iload_n hx hb dX11_rank_1 rfl (lv_at hl 1 rfl) ?_
  refine lv_iload_n hx hb dX11_rank_2 rfl (lv_at hl 2 rfl) ?_
  refine lv_iload_n hx hb dX11_rank_3 rfl (lv_at hl 3 rfl) ?_
  refine h_calli hw (h_runV (n := 3) (As := [.int (nI i), .int (nI u), .int (nI t)]) (rest := []) C hw (c_X11_isPair (A := A) hc hS) gX11_rank_X11_isPair rfl rfl rfl (by decide +kernel) ⟨by decide, by decide⟩ bX11 (co.a0 hc) rfl hl.1 rfl (Nat.le_of_ble_eq_true rfl) dX11_rank_4 ⟨by first | decide | omega, by first | decide | omega⟩) (fun r1 f2 H locs hp hw => ?_)
  obtain ⟨rfl, rfl⟩ := hp
  refine n_ifneB C (tgt := 12) dX11_rank_7 (by decide) (fun cq3 => ?_) (fun cq3 => ?_)
  · refine lv_aload_n hx hb dX11_rank_12 rfl (lv_at hl 0 rfl) ?_
    refine lv_iload_n hx hb dX11_rank_13 rfl (lv_at hl 1 rfl) ?_
    refine lv_iload_n hx hb dX11_rank_14 rfl (lv_at hl 2 rfl) ?_
    refine h_callq hw (h_runV (n := 2) (As := [.int (nI i), .int (nI u)]) (rest := []) C hw (c_X11_sightOf (A := A) hc hS) gX11_rank_X11_sightOf rfl rfl rfl (by decide +kernel) ⟨by decide, by decide⟩ bX11 (co.a0 hc) rfl hl.1 rfl (Nat.le_of_ble_eq_true rfl) dX11_rank_15 ⟨by first | decide | omega, by first | decide | omega⟩) (fun r4 f5 H locs hp hw => ?_)
    obtain ⟨hso6, rfl⟩ := hp
    obtain ⟨s1, hb0, hss1⟩ := hso6.1 i u nk hi (by omega) hn h8 rfl rfl
    subst hb0
    refine lv_astore (lv' := [(4, _), (0, _), (1, _), (2, _), (3, _)]) hx hb dX11_rank_18 hl (by decide) rfl (fun ls hl => ?_)
    refine lv_aload_n hx hb dX11_rank_20 rfl (lv_at hl 1 rfl) ?_
    refine lv_iload_n hx hb dX11_rank_21 rfl (lv_at hl 2 rfl) ?_
    refine lv_iload_n hx hb dX11_rank_22 rfl (lv_at hl 4 rfl) ?_
    refine h_callq hw (h_runV (n := 2) (As := [.int (nI i), .int (nI t)]) (rest := []) C hw (c_X11_sightOf (A := A) hc hS) gX11_rank_X11_sightOf rfl rfl rfl (by decide +kernel) ⟨by decide, by decide⟩ bX11 (co.a0 hc) rfl hl.1 rfl (Nat.le_of_ble_eq_true rfl) dX11_rank_23 ⟨by first | decide | omega, by first | decide | omega⟩) (fun r7 f8 H locs hp hw => ?_)
    obtain ⟨hso9, rfl⟩ := hp
    obtain ⟨s2, hb0, hss2⟩ := hso9.1 i t nk hi (by omega) hn h8 rfl rfl
    subst hb0
    refine lv_astore (lv' := [(5, _), (4, _), (0, _), (1, _), (2, _), (3, _)]) hx hb dX11_rank_26 hl (by decide) rfl (fun ls hl => ?_)
    refine lv_aload hx hb dX11_rank_28 (lv_at hl 1 rfl) ?_
    obtain ⟨bg1, en1, md1, pl1, ho1, -⟩ := id hss1
    refine h_calli hw (h_runS (n := 1) (As := [.ref s1]) (rest := []) C hw (c_X11_isBlurred ho1) gX11_rank_X11_isBlurred rfl rfl rfl (by decide +kernel) ⟨by decide, by decide⟩ rfl hl.1 rfl (Nat.le_of_ble_eq_true rfl) dX11_rank_30 ⟨by first | decide | omega, by first | decide | omega⟩) (fun r10 f11 H locs hp hw => ?_)
    obtain ⟨rfl, rfl⟩ := hp
    refine n_ifneB C (tgt := 48) dX11_rank_33 (by decide) (fun cq12 => ?_) (fun cq12 => ?_)
    · refine lv_null hx hb dX11_rank_48 ?_
      refine W.widen (k := 7) (n := 19) (by first | decide | omega | (dsimp only; omega)) (by first | decide | omega | (dsimp only; omega)) ?_
      exact h_qret (v := none) C hr hlk hw (⟨(hle.rf f), fun _ => rfl, fun h9 => absurd cq12 h9.2.1⟩) dX11_rank_49
    · refine lv_aload_n hx hb dX11_rank_36 rfl (lv_at hl 2 rfl) ?_
      refine lv_aload hx hb dX11_rank_37 (lv_at hl 1 rfl) ?_
      refine lv_aload hx hb dX11_rank_39 (lv_at hl 0 rfl) ?_
      refine lv_iconst (v := nI 0) hx hb dX11_rank_41 (by decide) ?_
      refine h_callq hw (h_runV (n := 3) (As := [.ref s1, .ref s2, .int (nI 0)]) (rest := []) C hw (c_X11_meetingOf (A := A) (u := (4 * i + u)) (t := (4 * i + t)) hc hT hss1 hss2 (by omega) (by omega) hso hst) gX11_rank_X11_meetingOf rfl rfl rfl (by decide +kernel) ⟨by decide, by decide⟩ bX11 (co.a0 hc) rfl hl.1 rfl (Nat.le_of_ble_eq_true rfl) dX11_rank_42 ⟨by first | decide | omega, by first | decide | omega⟩) (fun r13 f14 H locs hp hw => ?_)
      obtain ⟨le15, hme16⟩ := hp
      have k17 := le15 _ _ ho1
      have le18 := hle.tr (hle.rf f) le15
      have hc := hc.mono le15
      have hS := hS.up (kp_le le15) (fun _ _ => rfl) (fun _ _ => rfl)
      have hT := hT.up (kp_le le15) rfl
      have hss1 := hss1.up (kp_le le15)
      have hss2 := hss2.up (kp_le le15)
      have hme16 : meO A _ _ _ _ 0 := hme16
      refine n_ifnonnull C (tgt := 50) dX11_rank_45 (by decide) (fun x19 cq20 => ?_) (fun cq20 => ?_)
      · subst cq20
        have hmt : mtA A (4 * i + u) (4 * i + t) 0 := Decidable.not_not.mp (fun h9 => by have := (show meO A _ (some x19) _ _ _ from hme16).1 h9; cases this)
        refine lv_aload_n hx hb dX11_rank_50 rfl (lv_at hl 2 rfl) ?_
        refine lv_iload_n hx hb dX11_rank_51 rfl (lv_at hl 3 rfl) ?_
        refine lv_iload_n hx hb dX11_rank_52 rfl (lv_at hl 4 rfl) ?_
        refine h_callq hw (h_runV (n := 2) (As := [.int (nI i), .int (nI u)]) (rest := []) C hw (c_X11_planeOf (A := A) hc hS (by omega) hu2 (by omega) (by omega)) gX11_rank_X11_planeOf rfl rfl rfl (by decide +kernel) ⟨by decide, by decide⟩ bX11 (co.a0 hc) rfl hl.1 rfl (Nat.le_of_ble_eq_true rfl) dX11_rank_53 ⟨by first | decide | omega, by first | decide | omega⟩) (fun r21 f22 H locs hp hw => ?_)
        obtain ⟨hcr23, rfl⟩ := hp
        refine lv_astoreQ (lv' := [(6, _), (5, _), (4, _), (0, _), (1, _), (2, _), (3, _)]) hx hb dX11_rank_56 hl (by decide) rfl (fun ls hl => ?_)
        refine lv_aload_n hx hb dX11_rank_58 rfl (lv_at hl 3 rfl) ?_
        refine lv_iload_n hx hb dX11_rank_59 rfl (lv_at hl 4 rfl) ?_
        refine lv_iload_n hx hb dX11_rank_60 rfl (lv_at hl 6 rfl) ?_
        refine h_callq hw (h_runV (n := 2) (As := [.int (nI i), .int (nI t)]) (rest := []) C hw (c_X11_planeOf (A := A) hc hS (by omega) ht2 (by omega) (by omega)) gX11_rank_X11_planeOf rfl rfl rfl (by decide +kernel) ⟨by decide, by decide⟩ bX11 (co.a0 hc) rfl hl.1 rfl (Nat.le_of_ble_eq_true rfl) dX11_rank_61 ⟨by first | decide | omega, by first | decide | omega⟩) (fun r24 f25 H locs hp hw => ?_)
        obtain ⟨hcr26, rfl⟩ := hp
        refine lv_astoreQ (lv' := [(7, va_rf r24), (6, va_rf r21), (5, .ref s2), (4, .ref s1), (0, .ref (ad 0)), (1, .int (nI i)), (2, .int (nI u)), (3, .int (nI t))]) hx hb dX11_rank_64 hl (by decide) (by cases r21 <;> rfl) (fun ls hl => ?_)
        refine lv_aloadQ hx hb dX11_rank_66 (lv_at hl 1 rfl) ?_
        refine lv_aloadQ hx hb dX11_rank_68 (lv_at hl 0 rfl) ?_
        refine h_callq hw (h_runS (n := 2) (As := [va_rf r21, va_rf r24]) (rest := []) C hw (c_X11_crossing (u := plA A (4 * i + u)) (v := plA A (4 * i + t)) hcr23 hcr26) gX11_rank_X11_crossing rfl rfl rfl (by decide +kernel) ⟨by decide, by decide⟩ rfl hl.1 rfl (Nat.le_of_ble_eq_true rfl) dX11_rank_70 ⟨by first | decide | omega, by first | decide | omega⟩) (fun r27 f28 H locs hp hw => ?_)
        obtain ⟨le29, hcr30⟩ := hp
        have k31 := le29 _ _ k17
        have le32 := hle.tr le18 le29
        have hc := hc.mono le29
        have hS := hS.up (kp_le le29) (fun _ _ => rfl) (fun _ _ => rfl)
        have hT := hT.up (kp_le le29) rfl
        have hss1 := hss1.up (kp_le le29)
        have hss2 := hss2.up (kp_le le29)
        have hme16 := hme16.up (kp_le le29)
        have hcr23 := hcr23.up (kp_le le29)
        have hcr26 := hcr26.up (kp_le le29)
        refine n_ifnonnull C (tgt := 80) dX11_rank_73 (by decide) (fun x33 cq34 => ?_) (fun cq34 => ?_)
        · subst cq34
          obtain ⟨hfa, -⟩ := hcr30.so
          refine lv_aloadQ hx hb dX11_rank_80 (lv_at hl 1 rfl) ?_
          refine lv_aloadQ hx hb dX11_rank_82 (lv_at hl 0 rfl) ?_
          refine h_callq hw (h_runS (n := 2) (As := [va_rf r21, va_rf r24]) (rest := []) C hw (c_X11_angleOf (u := plA A (4 * i + u)) (v := plA A (4 * i + t)) hcr23 hcr26 (an_a hwy (by omega) (by omega)) (an_b hwy (by omega) (by omega)) (fun h8 h9 => sc_ne hwy (by omega) (by omega) h8 h9)) gX11_rank_X11_angleOf rfl rfl rfl (by decide +kernel) ⟨by decide, by decide⟩ rfl hl.1 rfl (Nat.le_of_ble_eq_true rfl) dX11_rank_84 ⟨by first | decide | omega, by first | decide | omega⟩) (fun r35 f36 H locs hp hw => ?_)
          obtain ⟨le37, hag38⟩ := hp
          have k39 := le37 _ _ k31
          have le40 := hle.tr le32 le37
          have hc := hc.mono le37
          have hS := hS.up (kp_le le37) (fun _ _ => rfl) (fun _ _ => rfl)
          have hT := hT.up (kp_le le37) rfl
          have hss1 := hss1.up (kp_le le37)
          have hss2 := hss2.up (kp_le le37)
          have hme16 := hme16.up (kp_le le37)
          have hcr23 := hcr23.up (kp_le le37)
          have hcr26 := hcr26.up (kp_le le37)
          have hcr30 := hcr30.up (kp_le le37)
          refine W.widen (k := 7) (n := 19) (by first | decide | omega | (dsimp only; omega)) (by first | decide | omega | (dsimp only; omega)) ?_
          have hfa2 : hfA A (4 * i + u) (4 * i + t) := hfa
          obtain ⟨hp1, hp2⟩ := hf_hp hfa2
          obtain ⟨x9, hx9, hv9⟩ := hag38.2 hp1 hp2
          rw [sc_dt, sc_dt, sc_dt, nu_eq hwy (by omega) (by omega), de_eq hwy (by omega) (by omega) hp1 hp2] at hv9
          exact h_qret (v := r35) C hr hlk hw (⟨le40, fun h9 => absurd ⟨(tw_i hi hu2 ht2 hn h8).mp cq3, cq12, hfa2, hmt⟩ h9, fun _ => ⟨x9, hx9, hv9⟩⟩) dX11_rank_87
        · subst cq34
          refine lv_null hx hb dX11_rank_76 ?_
          refine lv_goto (tgt := 87) hx hb dX11_rank_77 (by decide) ?_
          refine W.widen (k := 7) (n := 19) (by first | decide | omega | (dsimp only; omega)) (by first | decide | omega | (dsimp only; omega)) ?_
          exact h_qret (v := none) C hr hlk hw (⟨le32, fun _ => rfl, fun h9 => absurd h9.2.2.1 hcr30.no⟩) dX11_rank_87
      · subst cq20
        refine lv_null hx hb dX11_rank_48 ?_
        refine W.widen (k := 7) (n := 19) (by first | decide | omega | (dsimp only; omega)) (by first | decide | omega | (dsimp only; omega)) ?_
        exact h_qret (v := none) C hr hlk hw (⟨le18, fun _ => rfl, fun h9 => (by obtain ⟨x9, y9, h7, -⟩ := hme16.2 h9.2.2.2; cases h7)⟩) dX11_rank_49
  · refine lv_null hx hb dX11_rank_10 ?_
    refine W.widen (k := 7) (n := 19) (by first | decide | omega | (dsimp only; omega)) (by first | decide | omega | (dsimp only; omega)) ?_
    exact h_qret (v := none) C hr hlk hw (⟨(hle.rf f), fun _ => rfl, fun h9 => absurd ((tw_i hi hu2 ht2 hn h8).mpr h9.1) cq3⟩) dX11_rank_11
