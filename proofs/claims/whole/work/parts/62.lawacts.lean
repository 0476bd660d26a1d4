/-! ===== the law: one row for each act (laid by program) ===== -/
def lwS (D : va_G) (cA : Nat → ClassId) (s : State) (H : Heap) (locs : List Loc) (fc fr : HF) (ad q : Nat → Nat) (K : KK) (G : GG) (A : MA) (B : MB) (N : Nat) : Prop := hw D (Aw s) s.heap fc H locs ∧ hw D (Aw s) s.heap fr H locs ∧ apart fc fr ∧ co cA ad K G fc ∧ rp ad K G A B N fc ∧ mo cA q A B fr ∧ N < 2 ^ 20
theorem lwS.h1 {D : va_G} {cA : Nat → ClassId} {s : State} {H : Heap} {locs : List Loc} {fc fr : HF} {ad q : Nat → Nat} {K : KK} {G : GG} {A : MA} {B : MB} {N : Nat} (h : lwS D cA s H locs fc fr ad q K G A B N) : hw D (Aw s) s.heap fc H locs := h.1
theorem lwS.h2 {D : va_G} {cA : Nat → ClassId} {s : State} {H : Heap} {locs : List Loc} {fc fr : HF} {ad q : Nat → Nat} {K : KK} {G : GG} {A : MA} {B : MB} {N : Nat} (h : lwS D cA s H locs fc fr ad q K G A B N) : hw D (Aw s) s.heap fr H locs := h.2.1
theorem lwS.hd {D : va_G} {cA : Nat → ClassId} {s : State} {H : Heap} {locs : List Loc} {fc fr : HF} {ad q : Nat → Nat} {K : KK} {G : GG} {A : MA} {B : MB} {N : Nat} (h : lwS D cA s H locs fc fr ad q K G A B N) : apart fc fr := h.2.2.1
theorem lwS.hc {D : va_G} {cA : Nat → ClassId} {s : State} {H : Heap} {locs : List Loc} {fc fr : HF} {ad q : Nat → Nat} {K : KK} {G : GG} {A : MA} {B : MB} {N : Nat} (h : lwS D cA s H locs fc fr ad q K G A B N) : co cA ad K G fc := h.2.2.2.1
theorem lwS.hr {D : va_G} {cA : Nat → ClassId} {s : State} {H : Heap} {locs : List Loc} {fc fr : HF} {ad q : Nat → Nat} {K : KK} {G : GG} {A : MA} {B : MB} {N : Nat} (h : lwS D cA s H locs fc fr ad q K G A B N) : rp ad K G A B N fc := h.2.2.2.2.1
theorem lwS.hm {D : va_G} {cA : Nat → ClassId} {s : State} {H : Heap} {locs : List Loc} {fc fr : HF} {ad q : Nat → Nat} {K : KK} {G : GG} {A : MA} {B : MB} {N : Nat} (h : lwS D cA s H locs fc fr ad q K G A B N) : mo cA q A B fr := h.2.2.2.2.2.1
theorem lwS.hN {D : va_G} {cA : Nat → ClassId} {s : State} {H : Heap} {locs : List Loc} {fc fr : HF} {ad q : Nat → Nat} {K : KK} {G : GG} {A : MA} {B : MB} {N : Nat} (h : lwS D cA s H locs fc fr ad q K G A B N) : N < 2 ^ 20 := h.2.2.2.2.2.2
def lwK (p : Program) (l : Launch) (e : Env) (s : State) (m : MethodId) (below : List Frame) (meth : Method) (c : Code) (ls : Array Slot) (b cells slots : Nat) (Q : State → Prop) (D : va_G) (cA : Nat → ClassId) (ad q : Nat → Nat) (N : Nat) : Prop := ∀ (fc1 fr1 : HF) (K1 : KK) (G1 : GG) (A1 : MA) (B1 : MB) (H1 : Heap) (locs1 : List Loc), hw D (Aw s) s.heap fc1 H1 locs1 → hw D (Aw s) s.heap fr1 H1 locs1 → apart fc1 fr1 → co cA ad K1 G1 fc1 → rp ad K1 G1 A1 B1 (N + 1) fc1 → mo cA q A1 B1 fr1 → W p l e room_1 s m #[Value.ref b] below meth c H1 locs1 (cells + 441) (slots + 3522) Q (F0 m 1580 ls [])
section LA
variable {p : Program} {l : Launch} {e : Env} {s : State} {m : MethodId} {below : List Frame} {meth : Method} {c : Code} {H : Heap} {locs : List Loc} {cells slots : Nat} {Q : State → Prop} {ls : Array Slot} {D : va_G} {cA : Nat → ClassId} {fc fr : HF} {b L i : Nat} {xs : Nat → Int32} {ad q : Nat → Nat} {K : KK} {G : GG} {A : MA} {B : MB} {N : Nat}
set_option maxHeartbeats 4000000 in
theorem la_star (C : cx p m c cL_law 4 s #[Value.ref b] wsL_law RL D cA) (hX : va_X b L xs s s.heap) (hbl : b < s.heap.size) (hL : L ≤ 3584) (hi : i + 7 ≤ L) (hl : lv_has ls 4 [(0, .ref b), (1, .ref (ad 0)), (2, .ref (q 0)), (3, .int (nI i))]) (S : lwS D cA s H locs fc fr ad q K G A B N) (hce : cells + 441 ≤ 600000) (hsl : slots + 3522 ≤ 7302250)
    (kk : lwK p l e s m below meth c ls b cells slots Q D cA ad q N) : W p l e room_1 s m #[Value.ref b] below meth c H locs cells slots Q (F0 m 172 ls []) := by
  obtain ⟨⟨ns, hns2, hns⟩, ⟨nt, hnt2, hnt⟩, ⟨tn, htn2, htn⟩, hrs, hso, hwy, hst, hdr, hpx, hpy⟩ := S.hr.1
  have hsg := S.hr.2.2.1.hsg
  refine lv_aload_n C.1.1 C.1.2.1 dL_law_172 rfl (lv_at hl 1 rfl) ?_
  refine l_rd 1 C hX hbl S.h1 hL hi hl dL_law_173 dL_law_174 dL_law_175 (by decide) (by decide) dL_law_176 dL_law_177 ?_
  refine l_rd 2 C hX hbl S.h1 hL hi hl dL_law_178 dL_law_179 dL_law_180 (by decide) (by decide) dL_law_181 dL_law_182 ?_
  refine h_calllF S.h1 S.h2 S.hd (h_runV (n := 2) (As := [.int (xs (i + 1)), .int (xs (i + 2))]) (rest := []) C S.h1 (c_X11_star S.hc S.hr S.hN hnt hnt2) gL_law_X11_star rfl rfl rfl (by decide +kernel) ⟨Nat.le_of_ble_eq_true rfl, Nat.le_of_ble_eq_true rfl⟩ bX11 (co.a0 S.hc) rfl hl.1 rfl (Nat.le_of_ble_eq_true rfl) dL_law_183 ⟨by show cells + 0 ≤ 600000; omega, by show slots + 0 ≤ 7302250; omega⟩) (fun r1 fc1 H1 locs1 hp g1 g2 gd => ?_)
  obtain ⟨er, K1, G1, hc1, hr1⟩ := hp
  refine lv_aload_n C.1.1 C.1.2.1 dL_law_186 rfl (lv_at hl 2 rfl) ?_
  refine l_rd 1 C hX hbl g1 hL hi hl dL_law_187 dL_law_188 dL_law_189 (by decide) (by decide) dL_law_190 dL_law_191 ?_
  refine l_rd 2 C hX hbl g1 hL hi hl dL_law_192 dL_law_193 dL_law_194 (by decide) (by decide) dL_law_195 dL_law_196 ?_
  refine h_calllF g2 g1 gd.sy (h_runV (n := 2) (As := [.int (xs (i + 1)), .int (xs (i + 2))]) (rest := [.long r1]) C g2 (c_X12_star S.hm hnt hnt2) gL_law_X12_star rfl rfl rfl (by decide +kernel) ⟨Nat.le_of_ble_eq_true rfl, Nat.le_of_ble_eq_true rfl⟩ bX12 S.hm.1 rfl hl.1 rfl (Nat.le_of_ble_eq_true rfl) dL_law_197 ⟨by show cells + 0 + 0 ≤ 600000; omega, by show slots + 0 + 0 ≤ 7302250; omega⟩) (fun r2 fr1 H2 locs2 hp2 q2 q1 qd => ?_)
  obtain ⟨er2, hm2⟩ := hp2
  refine W.lcmp C.1.1 C.1.2.1 dL_law_200 ?_
  refine l_ifeq C (tgt := 1580) dL_law_201 (by decide) (fun _ => ?_) (fun hne => absurd (er.symm.trans er2) hne)
  refine W.widen (k := cells + 441) (n := slots + 3522) (by omega) (by omega) ?_
  exact kk _ _ _ _ _ _ _ _ q1 q2 qd.sy hc1 hr1 hm2
set_option maxHeartbeats 4000000 in
theorem la_spot (C : cx p m c cL_law 4 s #[Value.ref b] wsL_law RL D cA) (hX : va_X b L xs s s.heap) (hbl : b < s.heap.size) (hL : L ≤ 3584) (hi : i + 7 ≤ L) (hl : lv_has ls 4 [(0, .ref b), (1, .ref (ad 0)), (2, .ref (q 0)), (3, .int (nI i))]) (S : lwS D cA s H locs fc fr ad q K G A B N) (hce : cells + 441 ≤ 600000) (hsl : slots + 3522 ≤ 7302250)
    (kk : lwK p l e s m below meth c ls b cells slots Q D cA ad q N) : W p l e room_1 s m #[Value.ref b] below meth c H locs cells slots Q (F0 m 206 ls []) := by
  obtain ⟨⟨ns, hns2, hns⟩, ⟨nt, hnt2, hnt⟩, ⟨tn, htn2, htn⟩, hrs, hso, hwy, hst, hdr, hpx, hpy⟩ := S.hr.1
  have hsg := S.hr.2.2.1.hsg
  refine lv_aload_n C.1.1 C.1.2.1 dL_law_206 rfl (lv_at hl 1 rfl) ?_
  refine l_rd 1 C hX hbl S.h1 hL hi hl dL_law_207 dL_law_208 dL_law_209 (by decide) (by decide) dL_law_210 dL_law_211 ?_
  refine l_rd 2 C hX hbl S.h1 hL hi hl dL_law_212 dL_law_213 dL_law_214 (by decide) (by decide) dL_law_215 dL_law_216 ?_
  refine h_calllF S.h1 S.h2 S.hd (h_runV (n := 2) (As := [.int (xs (i + 1)), .int (xs (i + 2))]) (rest := []) C S.h1 (c_X11_spot S.hc S.hr S.hN hns hns2) gL_law_X11_spot rfl rfl rfl (by decide +kernel) ⟨Nat.le_of_ble_eq_true rfl, Nat.le_of_ble_eq_true rfl⟩ bX11 (co.a0 S.hc) rfl hl.1 rfl (Nat.le_of_ble_eq_true rfl) dL_law_217 ⟨by show cells + 0 ≤ 600000; omega, by show slots + 0 ≤ 7302250; omega⟩) (fun r1 fc1 H1 locs1 hp g1 g2 gd => ?_)
  obtain ⟨er, K1, G1, hc1, hr1⟩ := hp
  refine lv_aload_n C.1.1 C.1.2.1 dL_law_220 rfl (lv_at hl 2 rfl) ?_
  refine l_rd 1 C hX hbl g1 hL hi hl dL_law_221 dL_law_222 dL_law_223 (by decide) (by decide) dL_law_224 dL_law_225 ?_
  refine l_rd 2 C hX hbl g1 hL hi hl dL_law_226 dL_law_227 dL_law_228 (by decide) (by decide) dL_law_229 dL_law_230 ?_
  refine h_calllF g2 g1 gd.sy (h_runV (n := 2) (As := [.int (xs (i + 1)), .int (xs (i + 2))]) (rest := [.long r1]) C g2 (c_X12_spot S.hm hns hns2) gL_law_X12_spot rfl rfl rfl (by decide +kernel) ⟨Nat.le_of_ble_eq_true rfl, Nat.le_of_ble_eq_true rfl⟩ bX12 S.hm.1 rfl hl.1 rfl (Nat.le_of_ble_eq_true rfl) dL_law_231 ⟨by show cells + 0 + 0 ≤ 600000; omega, by show slots + 0 + 0 ≤ 7302250; omega⟩) (fun r2 fr1 H2 locs2 hp2 q2 q1 qd => ?_)
  obtain ⟨er2, hm2⟩ := hp2
  refine W.lcmp C.1.1 C.1.2.1 dL_law_234 ?_
  refine l_ifeq C (tgt := 1580) dL_law_235 (by decide) (fun _ => ?_) (fun hne => absurd (er.symm.trans er2) hne)
  refine W.widen (k := cells + 441) (n := slots + 3522) (by omega) (by omega) ?_
  exact kk _ _ _ _ _ _ _ _ q1 q2 qd.sy hc1 hr1 hm2
set_option maxHeartbeats 4000000 in
theorem la_row (C : cx p m c cL_law 4 s #[Value.ref b] wsL_law RL D cA) (hX : va_X b L xs s s.heap) (hbl : b < s.heap.size) (hL : L ≤ 3584) (hi : i + 7 ≤ L) (hl : lv_has ls 4 [(0, .ref b), (1, .ref (ad 0)), (2, .ref (q 0)), (3, .int (nI i))]) (S : lwS D cA s H locs fc fr ad q K G A B N) (hce : cells + 441 ≤ 600000) (hsl : slots + 3522 ≤ 7302250)
    (kk : lwK p l e s m below meth c ls b cells slots Q D cA ad q N) : W p l e room_1 s m #[Value.ref b] below meth c H locs cells slots Q (F0 m 240 ls []) := by
  obtain ⟨⟨ns, hns2, hns⟩, ⟨nt, hnt2, hnt⟩, ⟨tn, htn2, htn⟩, hrs, hso, hwy, hst, hdr, hpx, hpy⟩ := S.hr.1
  have hsg := S.hr.2.2.1.hsg
  refine lv_aload_n C.1.1 C.1.2.1 dL_law_240 rfl (lv_at hl 1 rfl) ?_
  refine l_rd 1 C hX hbl S.h1 hL hi hl dL_law_241 dL_law_242 dL_law_243 (by decide) (by decide) dL_law_244 dL_law_245 ?_
  refine l_rd 2 C hX hbl S.h1 hL hi hl dL_law_246 dL_law_247 dL_law_248 (by decide) (by decide) dL_law_249 dL_law_250 ?_
  refine h_calllF S.h1 S.h2 S.hd (h_runV (n := 2) (As := [.int (xs (i + 1)), .int (xs (i + 2))]) (rest := []) C S.h1 (c_X11_row S.hc S.hr S.hN) gL_law_X11_row rfl rfl rfl (by decide +kernel) ⟨Nat.le_of_ble_eq_true rfl, Nat.le_of_ble_eq_true rfl⟩ bX11 (co.a0 S.hc) rfl hl.1 rfl (Nat.le_of_ble_eq_true rfl) dL_law_251 ⟨by show cells + 0 ≤ 600000; omega, by show slots + 0 ≤ 7302250; omega⟩) (fun r1 fc1 H1 locs1 hp g1 g2 gd => ?_)
  obtain ⟨er, K1, G1, hc1, hr1⟩ := hp
  refine lv_aload_n C.1.1 C.1.2.1 dL_law_254 rfl (lv_at hl 2 rfl) ?_
  refine l_rd 1 C hX hbl g1 hL hi hl dL_law_255 dL_law_256 dL_law_257 (by decide) (by decide) dL_law_258 dL_law_259 ?_
  refine l_rd 2 C hX hbl g1 hL hi hl dL_law_260 dL_law_261 dL_law_262 (by decide) (by decide) dL_law_263 dL_law_264 ?_
  refine h_calllF g2 g1 gd.sy (h_runV (n := 2) (As := [.int (xs (i + 1)), .int (xs (i + 2))]) (rest := [.long r1]) C g2 (c_X12_row S.hm) gL_law_X12_row rfl rfl rfl (by decide +kernel) ⟨Nat.le_of_ble_eq_true rfl, Nat.le_of_ble_eq_true rfl⟩ bX12 S.hm.1 rfl hl.1 rfl (Nat.le_of_ble_eq_true rfl) dL_law_265 ⟨by show cells + 0 + 0 ≤ 600000; omega, by show slots + 0 + 0 ≤ 7302250; omega⟩) (fun r2 fr1 H2 locs2 hp2 q2 q1 qd => ?_)
  obtain ⟨er2, hm2⟩ := hp2
  refine W.lcmp C.1.1 C.1.2.1 dL_law_268 ?_
  refine l_ifeq C (tgt := 1580) dL_law_269 (by decide) (fun _ => ?_) (fun hne => absurd (er.symm.trans er2) hne)
  refine W.widen (k := cells + 441) (n := slots + 3522) (by omega) (by omega) ?_
  exact kk _ _ _ _ _ _ _ _ q1 q2 qd.sy hc1 hr1 hm2
set_option maxHeartbeats 4000000 in
theorem la_put (C : cx p m c cL_law 4 s #[Value.ref b] wsL_law RL D cA) (hX : va_X b L xs s s.heap) (hbl : b < s.heap.size) (hL : L ≤ 3584) (hi : i + 7 ≤ L) (hl : lv_has ls 4 [(0, .ref b), (1, .ref (ad 0)), (2, .ref (q 0)), (3, .int (nI i))]) (S : lwS D cA s H locs fc fr ad q K G A B N) (hce : cells + 441 ≤ 600000) (hsl : slots + 3522 ≤ 7302250)
    (kk : lwK p l e s m below meth c ls b cells slots Q D cA ad q N) : W p l e room_1 s m #[Value.ref b] below meth c H locs cells slots Q (F0 m 274 ls []) := by
  obtain ⟨⟨ns, hns2, hns⟩, ⟨nt, hnt2, hnt⟩, ⟨tn, htn2, htn⟩, hrs, hso, hwy, hst, hdr, hpx, hpy⟩ := S.hr.1
  have hsg := S.hr.2.2.1.hsg
  refine lv_aload_n C.1.1 C.1.2.1 dL_law_274 rfl (lv_at hl 1 rfl) ?_
  refine l_rd 1 C hX hbl S.h1 hL hi hl dL_law_275 dL_law_276 dL_law_277 (by decide) (by decide) dL_law_278 dL_law_279 ?_
  refine l_rd 2 C hX hbl S.h1 hL hi hl dL_law_280 dL_law_281 dL_law_282 (by decide) (by decide) dL_law_283 dL_law_284 ?_
  refine l_rd 3 C hX hbl S.h1 hL hi hl dL_law_285 dL_law_286 dL_law_287 (by decide) (by decide) dL_law_288 dL_law_289 ?_
  refine h_calllF S.h1 S.h2 S.hd (h_runV (n := 3) (As := [.int (xs (i + 1)), .int (xs (i + 2)), .int (xs (i + 3))]) (rest := []) C S.h1 (c_X11_put S.hc S.hr S.hN) gL_law_X11_put rfl rfl rfl (by decide +kernel) ⟨Nat.le_of_ble_eq_true rfl, Nat.le_of_ble_eq_true rfl⟩ bX11 (co.a0 S.hc) rfl hl.1 rfl (Nat.le_of_ble_eq_true rfl) dL_law_290 ⟨by show cells + 0 ≤ 600000; omega, by show slots + 0 ≤ 7302250; omega⟩) (fun r1 fc1 H1 locs1 hp g1 g2 gd => ?_)
  obtain ⟨er, K1, G1, hc1, hr1⟩ := hp
  refine lv_aload_n C.1.1 C.1.2.1 dL_law_293 rfl (lv_at hl 2 rfl) ?_
  refine l_rd 1 C hX hbl g1 hL hi hl dL_law_294 dL_law_295 dL_law_296 (by decide) (by decide) dL_law_297 dL_law_298 ?_
  refine l_rd 2 C hX hbl g1 hL hi hl dL_law_299 dL_law_300 dL_law_301 (by decide) (by decide) dL_law_302 dL_law_303 ?_
  refine l_rd 3 C hX hbl g1 hL hi hl dL_law_304 dL_law_305 dL_law_306 (by decide) (by decide) dL_law_307 dL_law_308 ?_
  refine h_calllF g2 g1 gd.sy (h_runV (n := 3) (As := [.int (xs (i + 1)), .int (xs (i + 2)), .int (xs (i + 3))]) (rest := [.long r1]) C g2 (c_X12_put S.hm hrs) gL_law_X12_put rfl rfl rfl (by decide +kernel) ⟨Nat.le_of_ble_eq_true rfl, Nat.le_of_ble_eq_true rfl⟩ bX12 S.hm.1 rfl hl.1 rfl (Nat.le_of_ble_eq_true rfl) dL_law_309 ⟨by show cells + 0 + 0 ≤ 600000; omega, by show slots + 0 + 0 ≤ 7302250; omega⟩) (fun r2 fr1 H2 locs2 hp2 q2 q1 qd => ?_)
  obtain ⟨er2, hm2⟩ := hp2
  refine W.lcmp C.1.1 C.1.2.1 dL_law_312 ?_
  refine l_ifeq C (tgt := 1580) dL_law_313 (by decide) (fun _ => ?_) (fun hne => absurd (er.symm.trans er2) hne)
  refine W.widen (k := cells + 441) (n := slots + 3522) (by omega) (by omega) ?_
  exact kk _ _ _ _ _ _ _ _ q1 q2 qd.sy hc1 hr1 hm2
set_option maxHeartbeats 4000000 in
theorem la_load (C : cx p m c cL_law 4 s #[Value.ref b] wsL_law RL D cA) (hX : va_X b L xs s s.heap) (hbl : b < s.heap.size) (hL : L ≤ 3584) (hi : i + 7 ≤ L) (hl : lv_has ls 4 [(0, .ref b), (1, .ref (ad 0)), (2, .ref (q 0)), (3, .int (nI i))]) (S : lwS D cA s H locs fc fr ad q K G A B N) (hce : cells + 441 ≤ 600000) (hsl : slots + 3522 ≤ 7302250)
    (kk : lwK p l e s m below meth c ls b cells slots Q D cA ad q N) : W p l e room_1 s m #[Value.ref b] below meth c H locs cells slots Q (F0 m 318 ls []) := by
  obtain ⟨⟨ns, hns2, hns⟩, ⟨nt, hnt2, hnt⟩, ⟨tn, htn2, htn⟩, hrs, hso, hwy, hst, hdr, hpx, hpy⟩ := S.hr.1
  have hsg := S.hr.2.2.1.hsg
  refine lv_aload_n C.1.1 C.1.2.1 dL_law_318 rfl (lv_at hl 1 rfl) ?_
  refine l_rd 1 C hX hbl S.h1 hL hi hl dL_law_319 dL_law_320 dL_law_321 (by decide) (by decide) dL_law_322 dL_law_323 ?_
  refine l_rd 2 C hX hbl S.h1 hL hi hl dL_law_324 dL_law_325 dL_law_326 (by decide) (by decide) dL_law_327 dL_law_328 ?_
  refine l_rd 3 C hX hbl S.h1 hL hi hl dL_law_329 dL_law_330 dL_law_331 (by decide) (by decide) dL_law_332 dL_law_333 ?_
  refine l_rd 4 C hX hbl S.h1 hL hi hl dL_law_334 dL_law_335 dL_law_336 (by decide) (by decide) dL_law_337 dL_law_338 ?_
  refine l_bl C dL_law_339 dL_law_342 dL_law_343 dL_law_346 ?_
  refine h_calllF S.h1 S.h2 S.hd (h_runV (n := 4) (As := [.int (xs (i + 1)), .int (xs (i + 2)), .int (xs (i + 3)), .int (zb (xs (i + 4)))]) (rest := []) C S.h1 (c_X11_load S.hc S.hr S.hN) gL_law_X11_load rfl rfl rfl (by decide +kernel) ⟨Nat.le_of_ble_eq_true rfl, Nat.le_of_ble_eq_true rfl⟩ bX11 (co.a0 S.hc) rfl hl.1 rfl (Nat.le_of_ble_eq_true rfl) dL_law_347 ⟨by show cells + 0 ≤ 600000; omega, by show slots + 0 ≤ 7302250; omega⟩) (fun r1 fc1 H1 locs1 hp g1 g2 gd => ?_)
  obtain ⟨er, K1, G1, hc1, hr1⟩ := hp
  refine lv_aload_n C.1.1 C.1.2.1 dL_law_350 rfl (lv_at hl 2 rfl) ?_
  refine l_rd 1 C hX hbl g1 hL hi hl dL_law_351 dL_law_352 dL_law_353 (by decide) (by decide) dL_law_354 dL_law_355 ?_
  refine l_rd 2 C hX hbl g1 hL hi hl dL_law_356 dL_law_357 dL_law_358 (by decide) (by decide) dL_law_359 dL_law_360 ?_
  refine l_rd 3 C hX hbl g1 hL hi hl dL_law_361 dL_law_362 dL_law_363 (by decide) (by decide) dL_law_364 dL_law_365 ?_
  refine l_rd 4 C hX hbl g1 hL hi hl dL_law_366 dL_law_367 dL_law_368 (by decide) (by decide) dL_law_369 dL_law_370 ?_
  refine l_bl C dL_law_371 dL_law_374 dL_law_375 dL_law_378 ?_
  refine h_calllF g2 g1 gd.sy (h_runV (n := 4) (As := [.int (xs (i + 1)), .int (xs (i + 2)), .int (xs (i + 3)), .int (zb (xs (i + 4)))]) (rest := [.long r1]) C g2 (c_X12_load S.hm hrs) gL_law_X12_load rfl rfl rfl (by decide +kernel) ⟨Nat.le_of_ble_eq_true rfl, Nat.le_of_ble_eq_true rfl⟩ bX12 S.hm.1 rfl hl.1 rfl (Nat.le_of_ble_eq_true rfl) dL_law_379 ⟨by show cells + 0 + 0 ≤ 600000; omega, by show slots + 0 + 0 ≤ 7302250; omega⟩) (fun r2 fr1 H2 locs2 hp2 q2 q1 qd => ?_)
  obtain ⟨er2, hm2⟩ := hp2
  refine W.lcmp C.1.1 C.1.2.1 dL_law_382 ?_
  refine l_ifeq C (tgt := 1580) dL_law_383 (by decide) (fun _ => ?_) (fun hne => absurd (er.symm.trans er2) hne)
  refine W.widen (k := cells + 441) (n := slots + 3522) (by omega) (by omega) ?_
  exact kk _ _ _ _ _ _ _ _ q1 q2 qd.sy hc1 hr1 hm2
set_option maxHeartbeats 4000000 in
theorem la_clear (C : cx p m c cL_law 4 s #[Value.ref b] wsL_law RL D cA) (hX : va_X b L xs s s.heap) (hbl : b < s.heap.size) (hL : L ≤ 3584) (hi : i + 7 ≤ L) (hl : lv_has ls 4 [(0, .ref b), (1, .ref (ad 0)), (2, .ref (q 0)), (3, .int (nI i))]) (S : lwS D cA s H locs fc fr ad q K G A B N) (hce : cells + 441 ≤ 600000) (hsl : slots + 3522 ≤ 7302250)
    (kk : lwK p l e s m below meth c ls b cells slots Q D cA ad q N) : W p l e room_1 s m #[Value.ref b] below meth c H locs cells slots Q (F0 m 388 ls []) := by
  obtain ⟨⟨ns, hns2, hns⟩, ⟨nt, hnt2, hnt⟩, ⟨tn, htn2, htn⟩, hrs, hso, hwy, hst, hdr, hpx, hpy⟩ := S.hr.1
  have hsg := S.hr.2.2.1.hsg
  refine lv_aload_n C.1.1 C.1.2.1 dL_law_388 rfl (lv_at hl 1 rfl) ?_
  refine l_rd 1 C hX hbl S.h1 hL hi hl dL_law_389 dL_law_390 dL_law_391 (by decide) (by decide) dL_law_392 dL_law_393 ?_
  refine l_bl C dL_law_394 dL_law_397 dL_law_398 dL_law_401 ?_
  refine h_calllF S.h1 S.h2 S.hd (h_runV (n := 1) (As := [.int (zb (xs (i + 1)))]) (rest := []) C S.h1 (c_X11_clear S.hc S.hr S.hN hns hnt hns2 hnt2) gL_law_X11_clear rfl rfl rfl (by decide +kernel) ⟨Nat.le_of_ble_eq_true rfl, Nat.le_of_ble_eq_true rfl⟩ bX11 (co.a0 S.hc) rfl hl.1 rfl (Nat.le_of_ble_eq_true rfl) dL_law_402 ⟨by show cells + 0 ≤ 600000; omega, by show slots + 0 ≤ 7302250; omega⟩) (fun r1 fc1 H1 locs1 hp g1 g2 gd => ?_)
  obtain ⟨er, K1, G1, hc1, hr1⟩ := hp
  refine lv_aload_n C.1.1 C.1.2.1 dL_law_405 rfl (lv_at hl 2 rfl) ?_
  refine l_rd 1 C hX hbl g1 hL hi hl dL_law_406 dL_law_407 dL_law_408 (by decide) (by decide) dL_law_409 dL_law_410 ?_
  refine l_bl C dL_law_411 dL_law_414 dL_law_415 dL_law_418 ?_
  refine h_calllF g2 g1 gd.sy (h_runV (n := 1) (As := [.int (zb (xs (i + 1)))]) (rest := [.long r1]) C g2 (c_X12_clear S.hm hns hnt hns2 hnt2) gL_law_X12_clear rfl rfl rfl (by decide +kernel) ⟨Nat.le_of_ble_eq_true rfl, Nat.le_of_ble_eq_true rfl⟩ bX12 S.hm.1 rfl hl.1 rfl (Nat.le_of_ble_eq_true rfl) dL_law_419 ⟨by show cells + 0 + 0 ≤ 600000; omega, by show slots + 0 + 0 ≤ 7302250; omega⟩) (fun r2 fr1 H2 locs2 hp2 q2 q1 qd => ?_)
  obtain ⟨er2, hm2⟩ := hp2
  refine W.lcmp C.1.1 C.1.2.1 dL_law_422 ?_
  refine l_ifeq C (tgt := 1580) dL_law_423 (by decide) (fun _ => ?_) (fun hne => absurd (er.symm.trans er2) hne)
  refine W.widen (k := cells + 441) (n := slots + 3522) (by omega) (by omega) ?_
  exact kk _ _ _ _ _ _ _ _ q1 q2 qd.sy hc1 hr1 hm2
set_option maxHeartbeats 4000000 in
theorem la_near (C : cx p m c cL_law 4 s #[Value.ref b] wsL_law RL D cA) (hX : va_X b L xs s s.heap) (hbl : b < s.heap.size) (hL : L ≤ 3584) (hi : i + 7 ≤ L) (hl : lv_has ls 4 [(0, .ref b), (1, .ref (ad 0)), (2, .ref (q 0)), (3, .int (nI i))]) (S : lwS D cA s H locs fc fr ad q K G A B N) (hce : cells + 441 ≤ 600000) (hsl : slots + 3522 ≤ 7302250)
    (kk : lwK p l e s m below meth c ls b cells slots Q D cA ad q N) : W p l e room_1 s m #[Value.ref b] below meth c H locs cells slots Q (F0 m 428 ls []) := by
  obtain ⟨⟨ns, hns2, hns⟩, ⟨nt, hnt2, hnt⟩, ⟨tn, htn2, htn⟩, hrs, hso, hwy, hst, hdr, hpx, hpy⟩ := S.hr.1
  have hsg := S.hr.2.2.1.hsg
  refine lv_aload_n C.1.1 C.1.2.1 dL_law_428 rfl (lv_at hl 1 rfl) ?_
  refine l_rd 1 C hX hbl S.h1 hL hi hl dL_law_429 dL_law_430 dL_law_431 (by decide) (by decide) dL_law_432 dL_law_433 ?_
  refine h_calllF S.h1 S.h2 S.hd (h_runV (n := 1) (As := [.int (xs (i + 1))]) (rest := []) C S.h1 (c_X11_near S.hc S.hr S.hN) gL_law_X11_near rfl rfl rfl (by decide +kernel) ⟨Nat.le_of_ble_eq_true rfl, Nat.le_of_ble_eq_true rfl⟩ bX11 (co.a0 S.hc) rfl hl.1 rfl (Nat.le_of_ble_eq_true rfl) dL_law_434 ⟨by show cells + 0 ≤ 600000; omega, by show slots + 0 ≤ 7302250; omega⟩) (fun r1 fc1 H1 locs1 hp g1 g2 gd => ?_)
  obtain ⟨er, K1, G1, hc1, hr1⟩ := hp
  refine lv_aload_n C.1.1 C.1.2.1 dL_law_437 rfl (lv_at hl 2 rfl) ?_
  refine l_rd 1 C hX hbl g1 hL hi hl dL_law_438 dL_law_439 dL_law_440 (by decide) (by decide) dL_law_441 dL_law_442 ?_
  refine h_calllF g2 g1 gd.sy (h_runV (n := 1) (As := [.int (xs (i + 1))]) (rest := [.long r1]) C g2 (c_X12_near S.hm) gL_law_X12_near rfl rfl rfl (by decide +kernel) ⟨Nat.le_of_ble_eq_true rfl, Nat.le_of_ble_eq_true rfl⟩ bX12 S.hm.1 rfl hl.1 rfl (Nat.le_of_ble_eq_true rfl) dL_law_443 ⟨by show cells + 0 + 0 ≤ 600000; omega, by show slots + 0 + 0 ≤ 7302250; omega⟩) (fun r2 fr1 H2 locs2 hp2 q2 q1 qd => ?_)
  obtain ⟨er2, hm2⟩ := hp2
  refine W.lcmp C.1.1 C.1.2.1 dL_law_446 ?_
  refine l_ifeq C (tgt := 1580) dL_law_447 (by decide) (fun _ => ?_) (fun hne => absurd (er.symm.trans er2) hne)
  refine W.widen (k := cells + 441) (n := slots + 3522) (by omega) (by omega) ?_
  exact kk _ _ _ _ _ _ _ _ q1 q2 qd.sy hc1 hr1 hm2
set_option maxHeartbeats 4000000 in
theorem la_corner (C : cx p m c cL_law 4 s #[Value.ref b] wsL_law RL D cA) (hX : va_X b L xs s s.heap) (hbl : b < s.heap.size) (hL : L ≤ 3584) (hi : i + 7 ≤ L) (hl : lv_has ls 4 [(0, .ref b), (1, .ref (ad 0)), (2, .ref (q 0)), (3, .int (nI i))]) (S : lwS D cA s H locs fc fr ad q K G A B N) (hce : cells + 441 ≤ 600000) (hsl : slots + 3522 ≤ 7302250)
    (kk : lwK p l e s m below meth c ls b cells slots Q D cA ad q N) : W p l e room_1 s m #[Value.ref b] below meth c H locs cells slots Q (F0 m 452 ls []) := by
  obtain ⟨⟨ns, hns2, hns⟩, ⟨nt, hnt2, hnt⟩, ⟨tn, htn2, htn⟩, hrs, hso, hwy, hst, hdr, hpx, hpy⟩ := S.hr.1
  have hsg := S.hr.2.2.1.hsg
  refine lv_aload_n C.1.1 C.1.2.1 dL_law_452 rfl (lv_at hl 1 rfl) ?_
  refine l_rd 1 C hX hbl S.h1 hL hi hl dL_law_453 dL_law_454 dL_law_455 (by decide) (by decide) dL_law_456 dL_law_457 ?_
  refine l_rd 2 C hX hbl S.h1 hL hi hl dL_law_458 dL_law_459 dL_law_460 (by decide) (by decide) dL_law_461 dL_law_462 ?_
  refine l_rd 3 C hX hbl S.h1 hL hi hl dL_law_463 dL_law_464 dL_law_465 (by decide) (by decide) dL_law_466 dL_law_467 ?_
  refine l_rd 4 C hX hbl S.h1 hL hi hl dL_law_468 dL_law_469 dL_law_470 (by decide) (by decide) dL_law_471 dL_law_472 ?_
  refine l_rd 5 C hX hbl S.h1 hL hi hl dL_law_473 dL_law_474 dL_law_475 (by decide) (by decide) dL_law_476 dL_law_477 ?_
  refine l_bl C dL_law_478 dL_law_481 dL_law_482 dL_law_485 ?_
  refine h_calllF S.h1 S.h2 S.hd (h_runV (n := 5) (As := [.int (xs (i + 1)), .int (xs (i + 2)), .int (xs (i + 3)), .int (xs (i + 4)), .int (zb (xs (i + 5)))]) (rest := []) C S.h1 (c_X11_corner S.hc S.hr S.hN hns hnt hns2 hnt2) gL_law_X11_corner rfl rfl rfl (by decide +kernel) ⟨Nat.le_of_ble_eq_true rfl, Nat.le_of_ble_eq_true rfl⟩ bX11 (co.a0 S.hc) rfl hl.1 rfl (Nat.le_of_ble_eq_true rfl) dL_law_486 ⟨by show cells + 0 ≤ 600000; omega, by show slots + 0 ≤ 7302250; omega⟩) (fun r1 fc1 H1 locs1 hp g1 g2 gd => ?_)
  obtain ⟨er, K1, G1, hc1, hr1⟩ := hp
  refine lv_aload_n C.1.1 C.1.2.1 dL_law_489 rfl (lv_at hl 2 rfl) ?_
  refine l_rd 1 C hX hbl g1 hL hi hl dL_law_490 dL_law_491 dL_law_492 (by decide) (by decide) dL_law_493 dL_law_494 ?_
  refine l_rd 2 C hX hbl g1 hL hi hl dL_law_495 dL_law_496 dL_law_497 (by decide) (by decide) dL_law_498 dL_law_499 ?_
  refine l_rd 3 C hX hbl g1 hL hi hl dL_law_500 dL_law_501 dL_law_502 (by decide) (by decide) dL_law_503 dL_law_504 ?_
  refine l_rd 4 C hX hbl g1 hL hi hl dL_law_505 dL_law_506 dL_law_507 (by decide) (by decide) dL_law_508 dL_law_509 ?_
  refine l_rd 5 C hX hbl g1 hL hi hl dL_law_510 dL_law_511 dL_law_512 (by decide) (by decide) dL_law_513 dL_law_514 ?_
  refine l_bl C dL_law_515 dL_law_518 dL_law_519 dL_law_522 ?_
  refine h_calllF g2 g1 gd.sy (h_runV (n := 5) (As := [.int (xs (i + 1)), .int (xs (i + 2)), .int (xs (i + 3)), .int (xs (i + 4)), .int (zb (xs (i + 5)))]) (rest := [.long r1]) C g2 (c_X12_corner S.hm hns hnt hns2 hnt2) gL_law_X12_corner rfl rfl rfl (by decide +kernel) ⟨Nat.le_of_ble_eq_true rfl, Nat.le_of_ble_eq_true rfl⟩ bX12 S.hm.1 rfl hl.1 rfl (Nat.le_of_ble_eq_true rfl) dL_law_523 ⟨by show cells + 0 + 0 ≤ 600000; omega, by show slots + 0 + 0 ≤ 7302250; omega⟩) (fun r2 fr1 H2 locs2 hp2 q2 q1 qd => ?_)
  obtain ⟨er2, A1, B1, hm2, hv⟩ := hp2
  refine W.lcmp C.1.1 C.1.2.1 dL_law_526 ?_
  refine l_ifeq C (tgt := 1580) dL_law_527 (by decide) (fun _ => ?_) (fun hne => absurd (er.symm.trans er2) hne)
  refine W.widen (k := cells + 441) (n := slots + 3522) (by omega) (by omega) ?_
  exact kk _ _ _ _ _ _ _ _ q1 q2 qd.sy hc1 (rp_veq hr1 hv) hm2
set_option maxHeartbeats 4000000 in
theorem la_votes (C : cx p m c cL_law 4 s #[Value.ref b] wsL_law RL D cA) (hX : va_X b L xs s s.heap) (hbl : b < s.heap.size) (hL : L ≤ 3584) (hi : i + 7 ≤ L) (hl : lv_has ls 4 [(0, .ref b), (1, .ref (ad 0)), (2, .ref (q 0)), (3, .int (nI i))]) (S : lwS D cA s H locs fc fr ad q K G A B N) (hce : cells + 441 ≤ 600000) (hsl : slots + 3522 ≤ 7302250)
    (kk : lwK p l e s m below meth c ls b cells slots Q D cA ad q N) : W p l e room_1 s m #[Value.ref b] below meth c H locs cells slots Q (F0 m 532 ls []) := by
  obtain ⟨⟨ns, hns2, hns⟩, ⟨nt, hnt2, hnt⟩, ⟨tn, htn2, htn⟩, hrs, hso, hwy, hst, hdr, hpx, hpy⟩ := S.hr.1
  have hsg := S.hr.2.2.1.hsg
  refine lv_aload_n C.1.1 C.1.2.1 dL_law_532 rfl (lv_at hl 1 rfl) ?_
  refine l_rd 1 C hX hbl S.h1 hL hi hl dL_law_533 dL_law_534 dL_law_535 (by decide) (by decide) dL_law_536 dL_law_537 ?_
  refine l_rd 2 C hX hbl S.h1 hL hi hl dL_law_538 dL_law_539 dL_law_540 (by decide) (by decide) dL_law_541 dL_law_542 ?_
  refine h_calllF S.h1 S.h2 S.hd (h_runV (n := 2) (As := [.int (xs (i + 1)), .int (xs (i + 2))]) (rest := []) C S.h1 (c_X11_votes S.hc S.hr S.hN hns hnt hns2 hnt2) gL_law_X11_votes rfl rfl rfl (by decide +kernel) ⟨Nat.le_of_ble_eq_true rfl, Nat.le_of_ble_eq_true rfl⟩ bX11 (co.a0 S.hc) rfl hl.1 rfl (Nat.le_of_ble_eq_true rfl) dL_law_543 ⟨by show cells + 440 ≤ 600000; omega, by show slots + 3520 ≤ 7302250; omega⟩) (fun r1 fc1 H1 locs1 hp g1 g2 gd => ?_)
  obtain ⟨er, K1, G1, hc1, hr1⟩ := hp
  refine lv_aload_n C.1.1 C.1.2.1 dL_law_546 rfl (lv_at hl 2 rfl) ?_
  refine l_rd 1 C hX hbl g1 hL hi hl dL_law_547 dL_law_548 dL_law_549 (by decide) (by decide) dL_law_550 dL_law_551 ?_
  refine l_rd 2 C hX hbl g1 hL hi hl dL_law_552 dL_law_553 dL_law_554 (by decide) (by decide) dL_law_555 dL_law_556 ?_
  refine h_calllF g2 g1 gd.sy (h_runV (n := 2) (As := [.int (xs (i + 1)), .int (xs (i + 2))]) (rest := [.long r1]) C g2 (c_X12_votes S.hm hns hnt hns2 hnt2) gL_law_X12_votes rfl rfl rfl (by decide +kernel) ⟨Nat.le_of_ble_eq_true rfl, Nat.le_of_ble_eq_true rfl⟩ bX12 S.hm.1 rfl hl.1 rfl (Nat.le_of_ble_eq_true rfl) dL_law_557 ⟨by show cells + 440 + 0 ≤ 600000; omega, by show slots + 3520 + 0 ≤ 7302250; omega⟩) (fun r2 fr1 H2 locs2 hp2 q2 q1 qd => ?_)
  obtain ⟨er2, A1, B1, hm2, hv⟩ := hp2
  refine W.lcmp C.1.1 C.1.2.1 dL_law_560 ?_
  refine l_ifeq C (tgt := 1580) dL_law_561 (by decide) (fun _ => ?_) (fun hne => absurd (er.symm.trans er2) hne)
  refine W.widen (k := cells + 441) (n := slots + 3522) (by omega) (by omega) ?_
  exact kk _ _ _ _ _ _ _ _ q1 q2 qd.sy hc1 (rp_veq hr1 hv) hm2
set_option maxHeartbeats 4000000 in
theorem la_match (C : cx p m c cL_law 4 s #[Value.ref b] wsL_law RL D cA) (hX : va_X b L xs s s.heap) (hbl : b < s.heap.size) (hL : L ≤ 3584) (hi : i + 7 ≤ L) (hl : lv_has ls 4 [(0, .ref b), (1, .ref (ad 0)), (2, .ref (q 0)), (3, .int (nI i))]) (S : lwS D cA s H locs fc fr ad q K G A B N) (hce : cells + 441 ≤ 600000) (hsl : slots + 3522 ≤ 7302250)
    (kk : lwK p l e s m below meth c ls b cells slots Q D cA ad q N) : W p l e room_1 s m #[Value.ref b] below meth c H locs cells slots Q (F0 m 566 ls []) := by
  obtain ⟨⟨ns, hns2, hns⟩, ⟨nt, hnt2, hnt⟩, ⟨tn, htn2, htn⟩, hrs, hso, hwy, hst, hdr, hpx, hpy⟩ := S.hr.1
  have hsg := S.hr.2.2.1.hsg
  refine lv_aload_n C.1.1 C.1.2.1 dL_law_566 rfl (lv_at hl 1 rfl) ?_
  refine l_rd 1 C hX hbl S.h1 hL hi hl dL_law_567 dL_law_568 dL_law_569 (by decide) (by decide) dL_law_570 dL_law_571 ?_
  refine h_calllF S.h1 S.h2 S.hd (h_runV (n := 1) (As := [.int (xs (i + 1))]) (rest := []) C S.h1 (c_X11_match S.hc S.hr S.hN hns hnt hns2 hnt2) gL_law_X11_match rfl rfl rfl (by decide +kernel) ⟨Nat.le_of_ble_eq_true rfl, Nat.le_of_ble_eq_true rfl⟩ bX11 (co.a0 S.hc) rfl hl.1 rfl (Nat.le_of_ble_eq_true rfl) dL_law_572 ⟨by show cells + 440 ≤ 600000; omega, by show slots + 3520 ≤ 7302250; omega⟩) (fun r1 fc1 H1 locs1 hp g1 g2 gd => ?_)
  obtain ⟨er, K1, G1, hc1, hr1⟩ := hp
  refine lv_aload_n C.1.1 C.1.2.1 dL_law_575 rfl (lv_at hl 2 rfl) ?_
  refine l_rd 1 C hX hbl g1 hL hi hl dL_law_576 dL_law_577 dL_law_578 (by decide) (by decide) dL_law_579 dL_law_580 ?_
  refine h_calllF g2 g1 gd.sy (h_runV (n := 1) (As := [.int (xs (i + 1))]) (rest := [.long r1]) C g2 (c_X12_match S.hm hns hnt hns2 hnt2) gL_law_X12_match rfl rfl rfl (by decide +kernel) ⟨Nat.le_of_ble_eq_true rfl, Nat.le_of_ble_eq_true rfl⟩ bX12 S.hm.1 rfl hl.1 rfl (Nat.le_of_ble_eq_true rfl) dL_law_581 ⟨by show cells + 440 + 0 ≤ 600000; omega, by show slots + 3520 + 0 ≤ 7302250; omega⟩) (fun r2 fr1 H2 locs2 hp2 q2 q1 qd => ?_)
  obtain ⟨er2, A1, B1, hm2, hv⟩ := hp2
  refine W.lcmp C.1.1 C.1.2.1 dL_law_584 ?_
  refine l_ifeq C (tgt := 1580) dL_law_585 (by decide) (fun _ => ?_) (fun hne => absurd (er.symm.trans er2) hne)
  refine W.widen (k := cells + 441) (n := slots + 3522) (by omega) (by omega) ?_
  exact kk _ _ _ _ _ _ _ _ q1 q2 qd.sy hc1 (rp_veq hr1 hv) hm2
set_option maxHeartbeats 4000000 in
theorem la_matched (C : cx p m c cL_law 4 s #[Value.ref b] wsL_law RL D cA) (hX : va_X b L xs s s.heap) (hbl : b < s.heap.size) (hL : L ≤ 3584) (hi : i + 7 ≤ L) (hl : lv_has ls 4 [(0, .ref b), (1, .ref (ad 0)), (2, .ref (q 0)), (3, .int (nI i))]) (S : lwS D cA s H locs fc fr ad q K G A B N) (hce : cells + 441 ≤ 600000) (hsl : slots + 3522 ≤ 7302250)
    (kk : lwK p l e s m below meth c ls b cells slots Q D cA ad q N) : W p l e room_1 s m #[Value.ref b] below meth c H locs cells slots Q (F0 m 590 ls []) := by
  obtain ⟨⟨ns, hns2, hns⟩, ⟨nt, hnt2, hnt⟩, ⟨tn, htn2, htn⟩, hrs, hso, hwy, hst, hdr, hpx, hpy⟩ := S.hr.1
  have hsg := S.hr.2.2.1.hsg
  refine lv_aload_n C.1.1 C.1.2.1 dL_law_590 rfl (lv_at hl 1 rfl) ?_
  refine h_calllF S.h1 S.h2 S.hd (h_runV (n := 0) (As := []) (rest := []) C S.h1 (c_X11_matched S.hc S.hr S.hN hns hnt hns2 hnt2) gL_law_X11_matched rfl rfl rfl (by decide +kernel) ⟨Nat.le_of_ble_eq_true rfl, Nat.le_of_ble_eq_true rfl⟩ bX11 (co.a0 S.hc) rfl hl.1 rfl (Nat.le_of_ble_eq_true rfl) dL_law_591 ⟨by show cells + 440 ≤ 600000; omega, by show slots + 3520 ≤ 7302250; omega⟩) (fun r1 fc1 H1 locs1 hp g1 g2 gd => ?_)
  obtain ⟨er, K1, G1, hc1, hr1⟩ := hp
  refine lv_aload_n C.1.1 C.1.2.1 dL_law_594 rfl (lv_at hl 2 rfl) ?_
  refine h_calllF g2 g1 gd.sy (h_runV (n := 0) (As := []) (rest := [.long r1]) C g2 (c_X12_matched S.hm hns hnt hns2 hnt2) gL_law_X12_matched rfl rfl rfl (by decide +kernel) ⟨Nat.le_of_ble_eq_true rfl, Nat.le_of_ble_eq_true rfl⟩ bX12 S.hm.1 rfl hl.1 rfl (Nat.le_of_ble_eq_true rfl) dL_law_595 ⟨by show cells + 440 + 0 ≤ 600000; omega, by show slots + 3520 + 0 ≤ 7302250; omega⟩) (fun r2 fr1 H2 locs2 hp2 q2 q1 qd => ?_)
  obtain ⟨er2, A1, B1, hm2, hv⟩ := hp2
  refine W.lcmp C.1.1 C.1.2.1 dL_law_598 ?_
  refine l_ifeq C (tgt := 1580) dL_law_599 (by decide) (fun _ => ?_) (fun hne => absurd (er.symm.trans er2) hne)
  refine W.widen (k := cells + 441) (n := slots + 3522) (by omega) (by omega) ?_
  exact kk _ _ _ _ _ _ _ _ q1 q2 qd.sy hc1 (rp_veq hr1 hv) hm2
set_option maxHeartbeats 4000000 in
theorem la_table (C : cx p m c cL_law 4 s #[Value.ref b] wsL_law RL D cA) (hX : va_X b L xs s s.heap) (hbl : b < s.heap.size) (hL : L ≤ 3584) (hi : i + 7 ≤ L) (hl : lv_has ls 4 [(0, .ref b), (1, .ref (ad 0)), (2, .ref (q 0)), (3, .int (nI i))]) (S : lwS D cA s H locs fc fr ad q K G A B N) (hce : cells + 441 ≤ 600000) (hsl : slots + 3522 ≤ 7302250)
    (kk : lwK p l e s m below meth c ls b cells slots Q D cA ad q N) : W p l e room_1 s m #[Value.ref b] below meth c H locs cells slots Q (F0 m 604 ls []) := by
  obtain ⟨⟨ns, hns2, hns⟩, ⟨nt, hnt2, hnt⟩, ⟨tn, htn2, htn⟩, hrs, hso, hwy, hst, hdr, hpx, hpy⟩ := S.hr.1
  have hsg := S.hr.2.2.1.hsg
  refine lv_aload_n C.1.1 C.1.2.1 dL_law_604 rfl (lv_at hl 1 rfl) ?_
  refine l_rd 1 C hX hbl S.h1 hL hi hl dL_law_605 dL_law_606 dL_law_607 (by decide) (by decide) dL_law_608 dL_law_609 ?_
  refine h_calllF S.h1 S.h2 S.hd (h_runV (n := 1) (As := [.int (xs (i + 1))]) (rest := []) C S.h1 (c_X11_table S.hc S.hr S.hN hns hnt hns2 hnt2) gL_law_X11_table rfl rfl rfl (by decide +kernel) ⟨Nat.le_of_ble_eq_true rfl, Nat.le_of_ble_eq_true rfl⟩ bX11 (co.a0 S.hc) rfl hl.1 rfl (Nat.le_of_ble_eq_true rfl) dL_law_610 ⟨by show cells + 440 ≤ 600000; omega, by show slots + 3520 ≤ 7302250; omega⟩) (fun r1 fc1 H1 locs1 hp g1 g2 gd => ?_)
  obtain ⟨er, K1, G1, hc1, hr1⟩ := hp
  refine lv_aload_n C.1.1 C.1.2.1 dL_law_613 rfl (lv_at hl 2 rfl) ?_
  refine l_rd 1 C hX hbl g1 hL hi hl dL_law_614 dL_law_615 dL_law_616 (by decide) (by decide) dL_law_617 dL_law_618 ?_
  refine h_calllF g2 g1 gd.sy (h_runV (n := 1) (As := [.int (xs (i + 1))]) (rest := [.long r1]) C g2 (c_X12_table S.hm hns hnt hns2 hnt2) gL_law_X12_table rfl rfl rfl (by decide +kernel) ⟨Nat.le_of_ble_eq_true rfl, Nat.le_of_ble_eq_true rfl⟩ bX12 S.hm.1 rfl hl.1 rfl (Nat.le_of_ble_eq_true rfl) dL_law_619 ⟨by show cells + 440 + 0 ≤ 600000; omega, by show slots + 3520 + 0 ≤ 7302250; omega⟩) (fun r2 fr1 H2 locs2 hp2 q2 q1 qd => ?_)
  obtain ⟨er2, A1, B1, hm2, hv⟩ := hp2
  refine W.lcmp C.1.1 C.1.2.1 dL_law_622 ?_
  refine l_ifeq C (tgt := 1580) dL_law_623 (by decide) (fun _ => ?_) (fun hne => absurd (er.symm.trans er2) hne)
  refine W.widen (k := cells + 441) (n := slots + 3522) (by omega) (by omega) ?_
  exact kk _ _ _ _ _ _ _ _ q1 q2 qd.sy hc1 (rp_veq hr1 hv) hm2
set_option maxHeartbeats 4000000 in
theorem la_place (C : cx p m c cL_law 4 s #[Value.ref b] wsL_law RL D cA) (hX : va_X b L xs s s.heap) (hbl : b < s.heap.size) (hL : L ≤ 3584) (hi : i + 7 ≤ L) (hl : lv_has ls 4 [(0, .ref b), (1, .ref (ad 0)), (2, .ref (q 0)), (3, .int (nI i))]) (S : lwS D cA s H locs fc fr ad q K G A B N) (hce : cells + 441 ≤ 600000) (hsl : slots + 3522 ≤ 7302250)
    (kk : lwK p l e s m below meth c ls b cells slots Q D cA ad q N) : W p l e room_1 s m #[Value.ref b] below meth c H locs cells slots Q (F0 m 628 ls []) := by
  obtain ⟨⟨ns, hns2, hns⟩, ⟨nt, hnt2, hnt⟩, ⟨tn, htn2, htn⟩, hrs, hso, hwy, hst, hdr, hpx, hpy⟩ := S.hr.1
  have hsg := S.hr.2.2.1.hsg
  refine lv_aload_n C.1.1 C.1.2.1 dL_law_628 rfl (lv_at hl 1 rfl) ?_
  refine l_rd 1 C hX hbl S.h1 hL hi hl dL_law_629 dL_law_630 dL_law_631 (by decide) (by decide) dL_law_632 dL_law_633 ?_
  refine l_rd 2 C hX hbl S.h1 hL hi hl dL_law_634 dL_law_635 dL_law_636 (by decide) (by decide) dL_law_637 dL_law_638 ?_
  refine l_rd 3 C hX hbl S.h1 hL hi hl dL_law_639 dL_law_640 dL_law_641 (by decide) (by decide) dL_law_642 dL_law_643 ?_
  refine l_bl C dL_law_644 dL_law_647 dL_law_648 dL_law_651 ?_
  refine l_rd 4 C hX hbl S.h1 hL hi hl dL_law_652 dL_law_653 dL_law_654 (by decide) (by decide) dL_law_655 dL_law_656 ?_
  refine l_bl C dL_law_657 dL_law_660 dL_law_661 dL_law_664 ?_
  refine h_calllF S.h1 S.h2 S.hd (h_runV (n := 4) (As := [.int (xs (i + 1)), .int (xs (i + 2)), .int (zb (xs (i + 3))), .int (zb (xs (i + 4)))]) (rest := []) C S.h1 (c_X11_place S.hc S.hr S.hN hns hnt hns2 hnt2) gL_law_X11_place rfl rfl rfl (by decide +kernel) ⟨Nat.le_of_ble_eq_true rfl, Nat.le_of_ble_eq_true rfl⟩ bX11 (co.a0 S.hc) rfl hl.1 rfl (Nat.le_of_ble_eq_true rfl) dL_law_665 ⟨by show cells + 441 ≤ 600000; omega, by show slots + 3522 ≤ 7302250; omega⟩) (fun r1 fc1 H1 locs1 hp g1 g2 gd => ?_)
  obtain ⟨er, K1, G1, hc1, hr1⟩ := hp
  refine lv_aload_n C.1.1 C.1.2.1 dL_law_668 rfl (lv_at hl 2 rfl) ?_
  refine l_rd 1 C hX hbl g1 hL hi hl dL_law_669 dL_law_670 dL_law_671 (by decide) (by decide) dL_law_672 dL_law_673 ?_
  refine l_rd 2 C hX hbl g1 hL hi hl dL_law_674 dL_law_675 dL_law_676 (by decide) (by decide) dL_law_677 dL_law_678 ?_
  refine l_rd 3 C hX hbl g1 hL hi hl dL_law_679 dL_law_680 dL_law_681 (by decide) (by decide) dL_law_682 dL_law_683 ?_
  refine l_bl C dL_law_684 dL_law_687 dL_law_688 dL_law_691 ?_
  refine l_rd 4 C hX hbl g1 hL hi hl dL_law_692 dL_law_693 dL_law_694 (by decide) (by decide) dL_law_695 dL_law_696 ?_
  refine l_bl C dL_law_697 dL_law_700 dL_law_701 dL_law_704 ?_
  refine h_calllF g2 g1 gd.sy (h_runV (n := 4) (As := [.int (xs (i + 1)), .int (xs (i + 2)), .int (zb (xs (i + 3))), .int (zb (xs (i + 4)))]) (rest := [.long r1]) C g2 (c_X12_place S.hm hns hnt hns2 hnt2 hpx hpy) gL_law_X12_place rfl rfl rfl (by decide +kernel) ⟨Nat.le_of_ble_eq_true rfl, Nat.le_of_ble_eq_true rfl⟩ bX12 S.hm.1 rfl hl.1 rfl (Nat.le_of_ble_eq_true rfl) dL_law_705 ⟨by show cells + 441 + 0 ≤ 600000; omega, by show slots + 3522 + 0 ≤ 7302250; omega⟩) (fun r2 fr1 H2 locs2 hp2 q2 q1 qd => ?_)
  obtain ⟨er2, A1, B1, hm2, hv⟩ := hp2
  refine W.lcmp C.1.1 C.1.2.1 dL_law_708 ?_
  refine l_ifeq C (tgt := 1580) dL_law_709 (by decide) (fun _ => ?_) (fun hne => absurd (er.symm.trans er2) hne)
  refine W.widen (k := cells + 441) (n := slots + 3522) (by omega) (by omega) ?_
  exact kk _ _ _ _ _ _ _ _ q1 q2 qd.sy hc1 (rp_veq hr1 hv) hm2
set_option maxHeartbeats 4000000 in
theorem la_station (C : cx p m c cL_law 4 s #[Value.ref b] wsL_law RL D cA) (hX : va_X b L xs s s.heap) (hbl : b < s.heap.size) (hL : L ≤ 3584) (hi : i + 7 ≤ L) (hl : lv_has ls 4 [(0, .ref b), (1, .ref (ad 0)), (2, .ref (q 0)), (3, .int (nI i))]) (S : lwS D cA s H locs fc fr ad q K G A B N) (hce : cells + 441 ≤ 600000) (hsl : slots + 3522 ≤ 7302250)
    (kk : lwK p l e s m below meth c ls b cells slots Q D cA ad q N) : W p l e room_1 s m #[Value.ref b] below meth c H locs cells slots Q (F0 m 714 ls []) := by
  obtain ⟨⟨ns, hns2, hns⟩, ⟨nt, hnt2, hnt⟩, ⟨tn, htn2, htn⟩, hrs, hso, hwy, hst, hdr, hpx, hpy⟩ := S.hr.1
  have hsg := S.hr.2.2.1.hsg
  refine lv_aload_n C.1.1 C.1.2.1 dL_law_714 rfl (lv_at hl 1 rfl) ?_
  refine l_rd 1 C hX hbl S.h1 hL hi hl dL_law_715 dL_law_716 dL_law_717 (by decide) (by decide) dL_law_718 dL_law_719 ?_
  refine l_rd 2 C hX hbl S.h1 hL hi hl dL_law_720 dL_law_721 dL_law_722 (by decide) (by decide) dL_law_723 dL_law_724 ?_
  refine l_rd 3 C hX hbl S.h1 hL hi hl dL_law_725 dL_law_726 dL_law_727 (by decide) (by decide) dL_law_728 dL_law_729 ?_
  refine l_rd 4 C hX hbl S.h1 hL hi hl dL_law_730 dL_law_731 dL_law_732 (by decide) (by decide) dL_law_733 dL_law_734 ?_
  refine h_calllF S.h1 S.h2 S.hd (h_runV (n := 4) (As := [.int (xs (i + 1)), .int (xs (i + 2)), .int (xs (i + 3)), .int (xs (i + 4))]) (rest := []) C S.h1 (c_X11_station S.hc S.hr S.hN) gL_law_X11_station rfl rfl rfl (by decide +kernel) ⟨Nat.le_of_ble_eq_true rfl, Nat.le_of_ble_eq_true rfl⟩ bX11 (co.a0 S.hc) rfl hl.1 rfl (Nat.le_of_ble_eq_true rfl) dL_law_735 ⟨by show cells + 1 ≤ 600000; omega, by show slots + 3 ≤ 7302250; omega⟩) (fun r1 fc1 H1 locs1 hp g1 g2 gd => ?_)
  obtain ⟨er, K1, G1, hc1, hr1⟩ := hp
  refine lv_aload_n C.1.1 C.1.2.1 dL_law_738 rfl (lv_at hl 2 rfl) ?_
  refine l_rd 1 C hX hbl g1 hL hi hl dL_law_739 dL_law_740 dL_law_741 (by decide) (by decide) dL_law_742 dL_law_743 ?_
  refine l_rd 2 C hX hbl g1 hL hi hl dL_law_744 dL_law_745 dL_law_746 (by decide) (by decide) dL_law_747 dL_law_748 ?_
  refine l_rd 3 C hX hbl g1 hL hi hl dL_law_749 dL_law_750 dL_law_751 (by decide) (by decide) dL_law_752 dL_law_753 ?_
  refine l_rd 4 C hX hbl g1 hL hi hl dL_law_754 dL_law_755 dL_law_756 (by decide) (by decide) dL_law_757 dL_law_758 ?_
  refine h_calllF g2 g1 gd.sy (h_runV (n := 4) (As := [.int (xs (i + 1)), .int (xs (i + 2)), .int (xs (i + 3)), .int (xs (i + 4))]) (rest := [.long r1]) C g2 (c_X12_station S.hm) gL_law_X12_station rfl rfl rfl (by decide +kernel) ⟨Nat.le_of_ble_eq_true rfl, Nat.le_of_ble_eq_true rfl⟩ bX12 S.hm.1 rfl hl.1 rfl (Nat.le_of_ble_eq_true rfl) dL_law_759 ⟨by show cells + 1 + 0 ≤ 600000; omega, by show slots + 3 + 0 ≤ 7302250; omega⟩) (fun r2 fr1 H2 locs2 hp2 q2 q1 qd => ?_)
  obtain ⟨er2, hm2⟩ := hp2
  refine W.lcmp C.1.1 C.1.2.1 dL_law_762 ?_
  refine l_ifeq C (tgt := 1580) dL_law_763 (by decide) (fun _ => ?_) (fun hne => absurd (er.symm.trans er2) hne)
  refine W.widen (k := cells + 441) (n := slots + 3522) (by omega) (by omega) ?_
  exact kk _ _ _ _ _ _ _ _ q1 q2 qd.sy hc1 hr1 hm2
set_option maxHeartbeats 4000000 in
theorem la_tell (C : cx p m c cL_law 4 s #[Value.ref b] wsL_law RL D cA) (hX : va_X b L xs s s.heap) (hbl : b < s.heap.size) (hL : L ≤ 3584) (hi : i + 7 ≤ L) (hl : lv_has ls 4 [(0, .ref b), (1, .ref (ad 0)), (2, .ref (q 0)), (3, .int (nI i))]) (S : lwS D cA s H locs fc fr ad q K G A B N) (hce : cells + 441 ≤ 600000) (hsl : slots + 3522 ≤ 7302250)
    (kk : lwK p l e s m below meth c ls b cells slots Q D cA ad q N) : W p l e room_1 s m #[Value.ref b] below meth c H locs cells slots Q (F0 m 768 ls []) := by
  obtain ⟨⟨ns, hns2, hns⟩, ⟨nt, hnt2, hnt⟩, ⟨tn, htn2, htn⟩, hrs, hso, hwy, hst, hdr, hpx, hpy⟩ := S.hr.1
  have hsg := S.hr.2.2.1.hsg
  refine lv_aload_n C.1.1 C.1.2.1 dL_law_768 rfl (lv_at hl 1 rfl) ?_
  refine l_rd 1 C hX hbl S.h1 hL hi hl dL_law_769 dL_law_770 dL_law_771 (by decide) (by decide) dL_law_772 dL_law_773 ?_
  refine h_calllF S.h1 S.h2 S.hd (h_runV (n := 1) (As := [.int (xs (i + 1))]) (rest := []) C S.h1 (c_X11_tell S.hc S.hr S.hN htn htn2) gL_law_X11_tell rfl rfl rfl (by decide +kernel) ⟨Nat.le_of_ble_eq_true rfl, Nat.le_of_ble_eq_true rfl⟩ bX11 (co.a0 S.hc) rfl hl.1 rfl (Nat.le_of_ble_eq_true rfl) dL_law_774 ⟨by show cells + 0 ≤ 600000; omega, by show slots + 0 ≤ 7302250; omega⟩) (fun r1 fc1 H1 locs1 hp g1 g2 gd => ?_)
  obtain ⟨er, K1, G1, hc1, hr1⟩ := hp
  refine lv_aload_n C.1.1 C.1.2.1 dL_law_777 rfl (lv_at hl 2 rfl) ?_
  refine l_rd 1 C hX hbl g1 hL hi hl dL_law_778 dL_law_779 dL_law_780 (by decide) (by decide) dL_law_781 dL_law_782 ?_
  refine h_calllF g2 g1 gd.sy (h_runV (n := 1) (As := [.int (xs (i + 1))]) (rest := [.long r1]) C g2 (c_X12_tell S.hm htn htn2) gL_law_X12_tell rfl rfl rfl (by decide +kernel) ⟨Nat.le_of_ble_eq_true rfl, Nat.le_of_ble_eq_true rfl⟩ bX12 S.hm.1 rfl hl.1 rfl (Nat.le_of_ble_eq_true rfl) dL_law_783 ⟨by show cells + 0 + 0 ≤ 600000; omega, by show slots + 0 + 0 ≤ 7302250; omega⟩) (fun r2 fr1 H2 locs2 hp2 q2 q1 qd => ?_)
  obtain ⟨er2, hm2⟩ := hp2
  refine W.lcmp C.1.1 C.1.2.1 dL_law_786 ?_
  refine l_ifeq C (tgt := 1580) dL_law_787 (by decide) (fun _ => ?_) (fun hne => absurd (er.symm.trans er2) hne)
  refine W.widen (k := cells + 441) (n := slots + 3522) (by omega) (by omega) ?_
  exact kk _ _ _ _ _ _ _ _ q1 q2 qd.sy hc1 hr1 hm2
set_option maxHeartbeats 4000000 in
theorem la_sight (C : cx p m c cL_law 4 s #[Value.ref b] wsL_law RL D cA) (hX : va_X b L xs s s.heap) (hbl : b < s.heap.size) (hL : L ≤ 3584) (hi : i + 7 ≤ L) (hl : lv_has ls 4 [(0, .ref b), (1, .ref (ad 0)), (2, .ref (q 0)), (3, .int (nI i))]) (S : lwS D cA s H locs fc fr ad q K G A B N) (hce : cells + 441 ≤ 600000) (hsl : slots + 3522 ≤ 7302250)
    (kk : lwK p l e s m below meth c ls b cells slots Q D cA ad q N) : W p l e room_1 s m #[Value.ref b] below meth c H locs cells slots Q (F0 m 792 ls []) := by
  obtain ⟨⟨ns, hns2, hns⟩, ⟨nt, hnt2, hnt⟩, ⟨tn, htn2, htn⟩, hrs, hso, hwy, hst, hdr, hpx, hpy⟩ := S.hr.1
  have hsg := S.hr.2.2.1.hsg
  refine lv_aload_n C.1.1 C.1.2.1 dL_law_792 rfl (lv_at hl 1 rfl) ?_
  refine l_rd 1 C hX hbl S.h1 hL hi hl dL_law_793 dL_law_794 dL_law_795 (by decide) (by decide) dL_law_796 dL_law_797 ?_
  refine l_rd 2 C hX hbl S.h1 hL hi hl dL_law_798 dL_law_799 dL_law_800 (by decide) (by decide) dL_law_801 dL_law_802 ?_
  refine l_rd 3 C hX hbl S.h1 hL hi hl dL_law_803 dL_law_804 dL_law_805 (by decide) (by decide) dL_law_806 dL_law_807 ?_
  refine h_calllF S.h1 S.h2 S.hd (h_runV (n := 3) (As := [.int (xs (i + 1)), .int (xs (i + 2)), .int (xs (i + 3))]) (rest := []) C S.h1 (c_X11_sight S.hc S.hr S.hN htn htn2) gL_law_X11_sight rfl rfl rfl (by decide +kernel) ⟨Nat.le_of_ble_eq_true rfl, Nat.le_of_ble_eq_true rfl⟩ bX11 (co.a0 S.hc) rfl hl.1 rfl (Nat.le_of_ble_eq_true rfl) dL_law_808 ⟨by show cells + 5 ≤ 600000; omega, by show slots + 18 ≤ 7302250; omega⟩) (fun r1 fc1 H1 locs1 hp g1 g2 gd => ?_)
  obtain ⟨er, K1, G1, hc1, hr1⟩ := hp
  refine lv_aload_n C.1.1 C.1.2.1 dL_law_811 rfl (lv_at hl 2 rfl) ?_
  refine l_rd 1 C hX hbl g1 hL hi hl dL_law_812 dL_law_813 dL_law_814 (by decide) (by decide) dL_law_815 dL_law_816 ?_
  refine l_rd 2 C hX hbl g1 hL hi hl dL_law_817 dL_law_818 dL_law_819 (by decide) (by decide) dL_law_820 dL_law_821 ?_
  refine l_rd 3 C hX hbl g1 hL hi hl dL_law_822 dL_law_823 dL_law_824 (by decide) (by decide) dL_law_825 dL_law_826 ?_
  refine h_calllF g2 g1 gd.sy (h_runV (n := 3) (As := [.int (xs (i + 1)), .int (xs (i + 2)), .int (xs (i + 3))]) (rest := [.long r1]) C g2 (c_X12_sight S.hm hsg htn htn2) gL_law_X12_sight rfl rfl rfl (by decide +kernel) ⟨Nat.le_of_ble_eq_true rfl, Nat.le_of_ble_eq_true rfl⟩ bX12 S.hm.1 rfl hl.1 rfl (Nat.le_of_ble_eq_true rfl) dL_law_827 ⟨by show cells + 5 + 0 ≤ 600000; omega, by show slots + 18 + 0 ≤ 7302250; omega⟩) (fun r2 fr1 H2 locs2 hp2 q2 q1 qd => ?_)
  obtain ⟨er2, hm2⟩ := hp2
  refine W.lcmp C.1.1 C.1.2.1 dL_law_830 ?_
  refine l_ifeq C (tgt := 1580) dL_law_831 (by decide) (fun _ => ?_) (fun hne => absurd (er.symm.trans er2) hne)
  refine W.widen (k := cells + 441) (n := slots + 3522) (by omega) (by omega) ?_
  exact kk _ _ _ _ _ _ _ _ q1 q2 qd.sy hc1 hr1 hm2
set_option maxHeartbeats 4000000 in
theorem la_drop (C : cx p m c cL_law 4 s #[Value.ref b] wsL_law RL D cA) (hX : va_X b L xs s s.heap) (hbl : b < s.heap.size) (hL : L ≤ 3584) (hi : i + 7 ≤ L) (hl : lv_has ls 4 [(0, .ref b), (1, .ref (ad 0)), (2, .ref (q 0)), (3, .int (nI i))]) (S : lwS D cA s H locs fc fr ad q K G A B N) (hce : cells + 441 ≤ 600000) (hsl : slots + 3522 ≤ 7302250)
    (kk : lwK p l e s m below meth c ls b cells slots Q D cA ad q N) : W p l e room_1 s m #[Value.ref b] below meth c H locs cells slots Q (F0 m 836 ls []) := by
  obtain ⟨⟨ns, hns2, hns⟩, ⟨nt, hnt2, hnt⟩, ⟨tn, htn2, htn⟩, hrs, hso, hwy, hst, hdr, hpx, hpy⟩ := S.hr.1
  have hsg := S.hr.2.2.1.hsg
  refine lv_aload_n C.1.1 C.1.2.1 dL_law_836 rfl (lv_at hl 1 rfl) ?_
  refine l_rd 1 C hX hbl S.h1 hL hi hl dL_law_837 dL_law_838 dL_law_839 (by decide) (by decide) dL_law_840 dL_law_841 ?_
  refine h_calllF S.h1 S.h2 S.hd (h_runV (n := 1) (As := [.int (xs (i + 1))]) (rest := []) C S.h1 (c_X11_drop S.hc S.hr S.hN) gL_law_X11_drop rfl rfl rfl (by decide +kernel) ⟨Nat.le_of_ble_eq_true rfl, Nat.le_of_ble_eq_true rfl⟩ bX11 (co.a0 S.hc) rfl hl.1 rfl (Nat.le_of_ble_eq_true rfl) dL_law_842 ⟨by show cells + 0 ≤ 600000; omega, by show slots + 0 ≤ 7302250; omega⟩) (fun r1 fc1 H1 locs1 hp g1 g2 gd => ?_)
  obtain ⟨er, K1, G1, hc1, hr1⟩ := hp
  refine lv_aload_n C.1.1 C.1.2.1 dL_law_845 rfl (lv_at hl 2 rfl) ?_
  refine l_rd 1 C hX hbl g1 hL hi hl dL_law_846 dL_law_847 dL_law_848 (by decide) (by decide) dL_law_849 dL_law_850 ?_
  refine h_calllF g2 g1 gd.sy (h_runV (n := 1) (As := [.int (xs (i + 1))]) (rest := [.long r1]) C g2 (c_X12_drop S.hm) gL_law_X12_drop rfl rfl rfl (by decide +kernel) ⟨Nat.le_of_ble_eq_true rfl, Nat.le_of_ble_eq_true rfl⟩ bX12 S.hm.1 rfl hl.1 rfl (Nat.le_of_ble_eq_true rfl) dL_law_851 ⟨by show cells + 0 + 0 ≤ 600000; omega, by show slots + 0 + 0 ≤ 7302250; omega⟩) (fun r2 fr1 H2 locs2 hp2 q2 q1 qd => ?_)
  obtain ⟨er2, hm2⟩ := hp2
  refine W.lcmp C.1.1 C.1.2.1 dL_law_854 ?_
  refine l_ifeq C (tgt := 1580) dL_law_855 (by decide) (fun _ => ?_) (fun hne => absurd (er.symm.trans er2) hne)
  refine W.widen (k := cells + 441) (n := slots + 3522) (by omega) (by omega) ?_
  exact kk _ _ _ _ _ _ _ _ q1 q2 qd.sy hc1 hr1 hm2
set_option maxHeartbeats 4000000 in
theorem la_about (C : cx p m c cL_law 4 s #[Value.ref b] wsL_law RL D cA) (hX : va_X b L xs s s.heap) (hbl : b < s.heap.size) (hL : L ≤ 3584) (hi : i + 7 ≤ L) (hl : lv_has ls 4 [(0, .ref b), (1, .ref (ad 0)), (2, .ref (q 0)), (3, .int (nI i))]) (S : lwS D cA s H locs fc fr ad q K G A B N) (hce : cells + 441 ≤ 600000) (hsl : slots + 3522 ≤ 7302250)
    (kk : lwK p l e s m below meth c ls b cells slots Q D cA ad q N) : W p l e room_1 s m #[Value.ref b] below meth c H locs cells slots Q (F0 m 860 ls []) := by
  obtain ⟨⟨ns, hns2, hns⟩, ⟨nt, hnt2, hnt⟩, ⟨tn, htn2, htn⟩, hrs, hso, hwy, hst, hdr, hpx, hpy⟩ := S.hr.1
  have hsg := S.hr.2.2.1.hsg
  refine lv_aload_n C.1.1 C.1.2.1 dL_law_860 rfl (lv_at hl 1 rfl) ?_
  refine l_rd 1 C hX hbl S.h1 hL hi hl dL_law_861 dL_law_862 dL_law_863 (by decide) (by decide) dL_law_864 dL_law_865 ?_
  refine l_rd 2 C hX hbl S.h1 hL hi hl dL_law_866 dL_law_867 dL_law_868 (by decide) (by decide) dL_law_869 dL_law_870 ?_
  refine l_rd 3 C hX hbl S.h1 hL hi hl dL_law_871 dL_law_872 dL_law_873 (by decide) (by decide) dL_law_874 dL_law_875 ?_
  refine h_calllF S.h1 S.h2 S.hd (h_runV (n := 3) (As := [.int (xs (i + 1)), .int (xs (i + 2)), .int (xs (i + 3))]) (rest := []) C S.h1 (c_X11_about S.hc S.hr S.hN) gL_law_X11_about rfl rfl rfl (by decide +kernel) ⟨Nat.le_of_ble_eq_true rfl, Nat.le_of_ble_eq_true rfl⟩ bX11 (co.a0 S.hc) rfl hl.1 rfl (Nat.le_of_ble_eq_true rfl) dL_law_876 ⟨by show cells + 0 ≤ 600000; omega, by show slots + 0 ≤ 7302250; omega⟩) (fun r1 fc1 H1 locs1 hp g1 g2 gd => ?_)
  obtain ⟨er, K1, G1, hc1, hr1⟩ := hp
  refine lv_aload_n C.1.1 C.1.2.1 dL_law_879 rfl (lv_at hl 2 rfl) ?_
  refine l_rd 1 C hX hbl g1 hL hi hl dL_law_880 dL_law_881 dL_law_882 (by decide) (by decide) dL_law_883 dL_law_884 ?_
  refine l_rd 2 C hX hbl g1 hL hi hl dL_law_885 dL_law_886 dL_law_887 (by decide) (by decide) dL_law_888 dL_law_889 ?_
  refine l_rd 3 C hX hbl g1 hL hi hl dL_law_890 dL_law_891 dL_law_892 (by decide) (by decide) dL_law_893 dL_law_894 ?_
  refine h_calllF g2 g1 gd.sy (h_runV (n := 3) (As := [.int (xs (i + 1)), .int (xs (i + 2)), .int (xs (i + 3))]) (rest := [.long r1]) C g2 (c_X12_about S.hm hsg) gL_law_X12_about rfl rfl rfl (by decide +kernel) ⟨Nat.le_of_ble_eq_true rfl, Nat.le_of_ble_eq_true rfl⟩ bX12 S.hm.1 rfl hl.1 rfl (Nat.le_of_ble_eq_true rfl) dL_law_895 ⟨by show cells + 0 + 0 ≤ 600000; omega, by show slots + 0 + 0 ≤ 7302250; omega⟩) (fun r2 fr1 H2 locs2 hp2 q2 q1 qd => ?_)
  obtain ⟨er2, hm2⟩ := hp2
  refine W.lcmp C.1.1 C.1.2.1 dL_law_898 ?_
  refine l_ifeq C (tgt := 1580) dL_law_899 (by decide) (fun _ => ?_) (fun hne => absurd (er.symm.trans er2) hne)
  refine W.widen (k := cells + 441) (n := slots + 3522) (by omega) (by omega) ?_
  exact kk _ _ _ _ _ _ _ _ q1 q2 qd.sy hc1 hr1 hm2
set_option maxHeartbeats 4000000 in
theorem la_as (C : cx p m c cL_law 4 s #[Value.ref b] wsL_law RL D cA) (hX : va_X b L xs s s.heap) (hbl : b < s.heap.size) (hL : L ≤ 3584) (hi : i + 7 ≤ L) (hl : lv_has ls 4 [(0, .ref b), (1, .ref (ad 0)), (2, .ref (q 0)), (3, .int (nI i))]) (S : lwS D cA s H locs fc fr ad q K G A B N) (hce : cells + 441 ≤ 600000) (hsl : slots + 3522 ≤ 7302250)
    (kk : lwK p l e s m below meth c ls b cells slots Q D cA ad q N) : W p l e room_1 s m #[Value.ref b] below meth c H locs cells slots Q (F0 m 904 ls []) := by
  obtain ⟨⟨ns, hns2, hns⟩, ⟨nt, hnt2, hnt⟩, ⟨tn, htn2, htn⟩, hrs, hso, hwy, hst, hdr, hpx, hpy⟩ := S.hr.1
  have hsg := S.hr.2.2.1.hsg
  refine lv_aload_n C.1.1 C.1.2.1 dL_law_904 rfl (lv_at hl 1 rfl) ?_
  refine l_rd 1 C hX hbl S.h1 hL hi hl dL_law_905 dL_law_906 dL_law_907 (by decide) (by decide) dL_law_908 dL_law_909 ?_
  refine l_rd 2 C hX hbl S.h1 hL hi hl dL_law_910 dL_law_911 dL_law_912 (by decide) (by decide) dL_law_913 dL_law_914 ?_
  refine l_rd 3 C hX hbl S.h1 hL hi hl dL_law_915 dL_law_916 dL_law_917 (by decide) (by decide) dL_law_918 dL_law_919 ?_
  refine h_calllF S.h1 S.h2 S.hd (h_runV (n := 3) (As := [.int (xs (i + 1)), .int (xs (i + 2)), .int (xs (i + 3))]) (rest := []) C S.h1 (c_X11_as S.hc S.hr S.hN) gL_law_X11_as rfl rfl rfl (by decide +kernel) ⟨Nat.le_of_ble_eq_true rfl, Nat.le_of_ble_eq_true rfl⟩ bX11 (co.a0 S.hc) rfl hl.1 rfl (Nat.le_of_ble_eq_true rfl) dL_law_920 ⟨by show cells + 0 ≤ 600000; omega, by show slots + 0 ≤ 7302250; omega⟩) (fun r1 fc1 H1 locs1 hp g1 g2 gd => ?_)
  obtain ⟨er, K1, G1, hc1, hr1⟩ := hp
  refine lv_aload_n C.1.1 C.1.2.1 dL_law_923 rfl (lv_at hl 2 rfl) ?_
  refine l_rd 1 C hX hbl g1 hL hi hl dL_law_924 dL_law_925 dL_law_926 (by decide) (by decide) dL_law_927 dL_law_928 ?_
  refine l_rd 2 C hX hbl g1 hL hi hl dL_law_929 dL_law_930 dL_law_931 (by decide) (by decide) dL_law_932 dL_law_933 ?_
  refine l_rd 3 C hX hbl g1 hL hi hl dL_law_934 dL_law_935 dL_law_936 (by decide) (by decide) dL_law_937 dL_law_938 ?_
  refine h_calllF g2 g1 gd.sy (h_runV (n := 3) (As := [.int (xs (i + 1)), .int (xs (i + 2)), .int (xs (i + 3))]) (rest := [.long r1]) C g2 (c_X12_as S.hm hsg) gL_law_X12_as rfl rfl rfl (by decide +kernel) ⟨Nat.le_of_ble_eq_true rfl, Nat.le_of_ble_eq_true rfl⟩ bX12 S.hm.1 rfl hl.1 rfl (Nat.le_of_ble_eq_true rfl) dL_law_939 ⟨by show cells + 0 + 0 ≤ 600000; omega, by show slots + 0 + 0 ≤ 7302250; omega⟩) (fun r2 fr1 H2 locs2 hp2 q2 q1 qd => ?_)
  obtain ⟨er2, hm2⟩ := hp2
  refine W.lcmp C.1.1 C.1.2.1 dL_law_942 ?_
  refine l_ifeq C (tgt := 1580) dL_law_943 (by decide) (fun _ => ?_) (fun hne => absurd (er.symm.trans er2) hne)
  refine W.widen (k := cells + 441) (n := slots + 3522) (by omega) (by omega) ?_
  exact kk _ _ _ _ _ _ _ _ q1 q2 qd.sy hc1 hr1 hm2
set_option maxHeartbeats 4000000 in
theorem la_point (C : cx p m c cL_law 4 s #[Value.ref b] wsL_law RL D cA) (hX : va_X b L xs s s.heap) (hbl : b < s.heap.size) (hL : L ≤ 3584) (hi : i + 7 ≤ L) (hl : lv_has ls 4 [(0, .ref b), (1, .ref (ad 0)), (2, .ref (q 0)), (3, .int (nI i))]) (S : lwS D cA s H locs fc fr ad q K G A B N) (hce : cells + 441 ≤ 600000) (hsl : slots + 3522 ≤ 7302250)
    (kk : lwK p l e s m below meth c ls b cells slots Q D cA ad q N) : W p l e room_1 s m #[Value.ref b] below meth c H locs cells slots Q (F0 m 948 ls []) := by
  obtain ⟨⟨ns, hns2, hns⟩, ⟨nt, hnt2, hnt⟩, ⟨tn, htn2, htn⟩, hrs, hso, hwy, hst, hdr, hpx, hpy⟩ := S.hr.1
  have hsg := S.hr.2.2.1.hsg
  refine lv_aload_n C.1.1 C.1.2.1 dL_law_948 rfl (lv_at hl 1 rfl) ?_
  refine l_rd 1 C hX hbl S.h1 hL hi hl dL_law_949 dL_law_950 dL_law_951 (by decide) (by decide) dL_law_952 dL_law_953 ?_
  refine l_rd 2 C hX hbl S.h1 hL hi hl dL_law_954 dL_law_955 dL_law_956 (by decide) (by decide) dL_law_957 dL_law_958 ?_
  refine l_rd 3 C hX hbl S.h1 hL hi hl dL_law_959 dL_law_960 dL_law_961 (by decide) (by decide) dL_law_962 dL_law_963 ?_
  refine l_rd 4 C hX hbl S.h1 hL hi hl dL_law_964 dL_law_965 dL_law_966 (by decide) (by decide) dL_law_967 dL_law_968 ?_
  refine l_bl C dL_law_969 dL_law_972 dL_law_973 dL_law_976 ?_
  refine l_rd 5 C hX hbl S.h1 hL hi hl dL_law_977 dL_law_978 dL_law_979 (by decide) (by decide) dL_law_980 dL_law_981 ?_
  refine l_rd6 C hX hbl S.h1 hL hi hl dL_law_982 dL_law_983 dL_law_984 dL_law_986 dL_law_987 ?_
  refine l_bl C dL_law_988 dL_law_991 dL_law_992 dL_law_995 ?_
  refine h_calllF S.h1 S.h2 S.hd (h_runV (n := 6) (As := [.int (xs (i + 1)), .int (xs (i + 2)), .int (xs (i + 3)), .int (zb (xs (i + 4))), .int (xs (i + 5)), .int (zb (xs (i + 6)))]) (rest := []) C S.h1 (c_X11_point S.hc S.hr S.hN) gL_law_X11_point rfl rfl rfl (by decide +kernel) ⟨Nat.le_of_ble_eq_true rfl, Nat.le_of_ble_eq_true rfl⟩ bX11 (co.a0 S.hc) rfl hl.1 rfl (Nat.le_of_ble_eq_true rfl) dL_law_996 ⟨by show cells + 6 ≤ 600000; omega, by show slots + 16 ≤ 7302250; omega⟩) (fun r1 fc1 H1 locs1 hp g1 g2 gd => ?_)
  obtain ⟨er, K1, G1, hc1, hr1⟩ := hp
  refine lv_aload_n C.1.1 C.1.2.1 dL_law_999 rfl (lv_at hl 2 rfl) ?_
  refine l_rd 1 C hX hbl g1 hL hi hl dL_law_1000 dL_law_1001 dL_law_1002 (by decide) (by decide) dL_law_1003 dL_law_1004 ?_
  refine l_rd 2 C hX hbl g1 hL hi hl dL_law_1005 dL_law_1006 dL_law_1007 (by decide) (by decide) dL_law_1008 dL_law_1009 ?_
  refine l_rd 3 C hX hbl g1 hL hi hl dL_law_1010 dL_law_1011 dL_law_1012 (by decide) (by decide) dL_law_1013 dL_law_1014 ?_
  refine l_rd 4 C hX hbl g1 hL hi hl dL_law_1015 dL_law_1016 dL_law_1017 (by decide) (by decide) dL_law_1018 dL_law_1019 ?_
  refine l_bl C dL_law_1020 dL_law_1023 dL_law_1024 dL_law_1027 ?_
  refine l_rd 5 C hX hbl g1 hL hi hl dL_law_1028 dL_law_1029 dL_law_1030 (by decide) (by decide) dL_law_1031 dL_law_1032 ?_
  refine l_rd6 C hX hbl g1 hL hi hl dL_law_1033 dL_law_1034 dL_law_1035 dL_law_1037 dL_law_1038 ?_
  refine l_bl C dL_law_1039 dL_law_1042 dL_law_1043 dL_law_1046 ?_
  refine h_calllF g2 g1 gd.sy (h_runV (n := 6) (As := [.int (xs (i + 1)), .int (xs (i + 2)), .int (xs (i + 3)), .int (zb (xs (i + 4))), .int (xs (i + 5)), .int (zb (xs (i + 6)))]) (rest := [.long r1]) C g2 (c_X12_point S.hm hsg hwy hst hso) gL_law_X12_point rfl rfl rfl (by decide +kernel) ⟨Nat.le_of_ble_eq_true rfl, Nat.le_of_ble_eq_true rfl⟩ bX12 S.hm.1 rfl hl.1 rfl (Nat.le_of_ble_eq_true rfl) dL_law_1047 ⟨by show cells + 6 + 0 ≤ 600000; omega, by show slots + 16 + 0 ≤ 7302250; omega⟩) (fun r2 fr1 H2 locs2 hp2 q2 q1 qd => ?_)
  obtain ⟨er2, A1, B1, hm2, hv⟩ := hp2
  refine W.lcmp C.1.1 C.1.2.1 dL_law_1050 ?_
  refine l_ifeq C (tgt := 1580) dL_law_1051 (by decide) (fun _ => ?_) (fun hne => absurd (er.symm.trans er2) hne)
  refine W.widen (k := cells + 441) (n := slots + 3522) (by omega) (by omega) ?_
  exact kk _ _ _ _ _ _ _ _ q1 q2 qd.sy hc1 (rp_veq hr1 hv) hm2
set_option maxHeartbeats 4000000 in
theorem la_fall (C : cx p m c cL_law 4 s #[Value.ref b] wsL_law RL D cA) (hX : va_X b L xs s s.heap) (hbl : b < s.heap.size) (hL : L ≤ 3584) (hi : i + 7 ≤ L) (hl : lv_has ls 4 [(0, .ref b), (1, .ref (ad 0)), (2, .ref (q 0)), (3, .int (nI i))]) (S : lwS D cA s H locs fc fr ad q K G A B N) (hce : cells + 441 ≤ 600000) (hsl : slots + 3522 ≤ 7302250)
    (kk : lwK p l e s m below meth c ls b cells slots Q D cA ad q N) : W p l e room_1 s m #[Value.ref b] below meth c H locs cells slots Q (F0 m 1056 ls []) := by
  obtain ⟨⟨ns, hns2, hns⟩, ⟨nt, hnt2, hnt⟩, ⟨tn, htn2, htn⟩, hrs, hso, hwy, hst, hdr, hpx, hpy⟩ := S.hr.1
  have hsg := S.hr.2.2.1.hsg
  refine lv_aload_n C.1.1 C.1.2.1 dL_law_1056 rfl (lv_at hl 1 rfl) ?_
  refine l_rd 1 C hX hbl S.h1 hL hi hl dL_law_1057 dL_law_1058 dL_law_1059 (by decide) (by decide) dL_law_1060 dL_law_1061 ?_
  refine l_rd 2 C hX hbl S.h1 hL hi hl dL_law_1062 dL_law_1063 dL_law_1064 (by decide) (by decide) dL_law_1065 dL_law_1066 ?_
  refine l_rd 3 C hX hbl S.h1 hL hi hl dL_law_1067 dL_law_1068 dL_law_1069 (by decide) (by decide) dL_law_1070 dL_law_1071 ?_
  refine l_rd 4 C hX hbl S.h1 hL hi hl dL_law_1072 dL_law_1073 dL_law_1074 (by decide) (by decide) dL_law_1075 dL_law_1076 ?_
  refine h_calllF S.h1 S.h2 S.hd (h_runV (n := 4) (As := [.int (xs (i + 1)), .int (xs (i + 2)), .int (xs (i + 3)), .int (xs (i + 4))]) (rest := []) C S.h1 (c_X11_fall S.hc S.hr S.hN) gL_law_X11_fall rfl rfl rfl (by decide +kernel) ⟨Nat.le_of_ble_eq_true rfl, Nat.le_of_ble_eq_true rfl⟩ bX11 (co.a0 S.hc) rfl hl.1 rfl (Nat.le_of_ble_eq_true rfl) dL_law_1077 ⟨by show cells + 1 ≤ 600000; omega, by show slots + 3 ≤ 7302250; omega⟩) (fun r1 fc1 H1 locs1 hp g1 g2 gd => ?_)
  obtain ⟨er, K1, G1, hc1, hr1⟩ := hp
  refine lv_aload_n C.1.1 C.1.2.1 dL_law_1080 rfl (lv_at hl 2 rfl) ?_
  refine l_rd 1 C hX hbl g1 hL hi hl dL_law_1081 dL_law_1082 dL_law_1083 (by decide) (by decide) dL_law_1084 dL_law_1085 ?_
  refine l_rd 2 C hX hbl g1 hL hi hl dL_law_1086 dL_law_1087 dL_law_1088 (by decide) (by decide) dL_law_1089 dL_law_1090 ?_
  refine l_rd 3 C hX hbl g1 hL hi hl dL_law_1091 dL_law_1092 dL_law_1093 (by decide) (by decide) dL_law_1094 dL_law_1095 ?_
  refine l_rd 4 C hX hbl g1 hL hi hl dL_law_1096 dL_law_1097 dL_law_1098 (by decide) (by decide) dL_law_1099 dL_law_1100 ?_
  refine h_calllF g2 g1 gd.sy (h_runV (n := 4) (As := [.int (xs (i + 1)), .int (xs (i + 2)), .int (xs (i + 3)), .int (xs (i + 4))]) (rest := [.long r1]) C g2 (c_X12_fall S.hm hsg) gL_law_X12_fall rfl rfl rfl (by decide +kernel) ⟨Nat.le_of_ble_eq_true rfl, Nat.le_of_ble_eq_true rfl⟩ bX12 S.hm.1 rfl hl.1 rfl (Nat.le_of_ble_eq_true rfl) dL_law_1101 ⟨by show cells + 1 + 0 ≤ 600000; omega, by show slots + 3 + 0 ≤ 7302250; omega⟩) (fun r2 fr1 H2 locs2 hp2 q2 q1 qd => ?_)
  obtain ⟨er2, hm2⟩ := hp2
  refine W.lcmp C.1.1 C.1.2.1 dL_law_1104 ?_
  refine l_ifeq C (tgt := 1580) dL_law_1105 (by decide) (fun _ => ?_) (fun hne => absurd (er.symm.trans er2) hne)
  refine W.widen (k := cells + 441) (n := slots + 3522) (by omega) (by omega) ?_
  exact kk _ _ _ _ _ _ _ _ q1 q2 qd.sy hc1 hr1 hm2
set_option maxHeartbeats 4000000 in
theorem la_angle (C : cx p m c cL_law 4 s #[Value.ref b] wsL_law RL D cA) (hX : va_X b L xs s s.heap) (hbl : b < s.heap.size) (hL : L ≤ 3584) (hi : i + 7 ≤ L) (hl : lv_has ls 4 [(0, .ref b), (1, .ref (ad 0)), (2, .ref (q 0)), (3, .int (nI i))]) (S : lwS D cA s H locs fc fr ad q K G A B N) (hce : cells + 441 ≤ 600000) (hsl : slots + 3522 ≤ 7302250)
    (kk : lwK p l e s m below meth c ls b cells slots Q D cA ad q N) : W p l e room_1 s m #[Value.ref b] below meth c H locs cells slots Q (F0 m 1110 ls []) := by
  obtain ⟨⟨ns, hns2, hns⟩, ⟨nt, hnt2, hnt⟩, ⟨tn, htn2, htn⟩, hrs, hso, hwy, hst, hdr, hpx, hpy⟩ := S.hr.1
  have hsg := S.hr.2.2.1.hsg
  refine lv_aload_n C.1.1 C.1.2.1 dL_law_1110 rfl (lv_at hl 1 rfl) ?_
  refine l_rd 1 C hX hbl S.h1 hL hi hl dL_law_1111 dL_law_1112 dL_law_1113 (by decide) (by decide) dL_law_1114 dL_law_1115 ?_
  refine l_rd 2 C hX hbl S.h1 hL hi hl dL_law_1116 dL_law_1117 dL_law_1118 (by decide) (by decide) dL_law_1119 dL_law_1120 ?_
  refine l_rd 3 C hX hbl S.h1 hL hi hl dL_law_1121 dL_law_1122 dL_law_1123 (by decide) (by decide) dL_law_1124 dL_law_1125 ?_
  refine l_rd 4 C hX hbl S.h1 hL hi hl dL_law_1126 dL_law_1127 dL_law_1128 (by decide) (by decide) dL_law_1129 dL_law_1130 ?_
  refine l_bl C dL_law_1131 dL_law_1134 dL_law_1135 dL_law_1138 ?_
  refine h_calllF S.h1 S.h2 S.hd (h_runV (n := 4) (As := [.int (xs (i + 1)), .int (xs (i + 2)), .int (xs (i + 3)), .int (zb (xs (i + 4)))]) (rest := []) C S.h1 (c_X11_angle S.hc S.hr S.hN) gL_law_X11_angle rfl rfl rfl (by decide +kernel) ⟨Nat.le_of_ble_eq_true rfl, Nat.le_of_ble_eq_true rfl⟩ bX11 (co.a0 S.hc) rfl hl.1 rfl (Nat.le_of_ble_eq_true rfl) dL_law_1139 ⟨by show cells + 1 ≤ 600000; omega, by show slots + 2 ≤ 7302250; omega⟩) (fun r1 fc1 H1 locs1 hp g1 g2 gd => ?_)
  obtain ⟨er, K1, G1, hc1, hr1⟩ := hp
  refine lv_aload_n C.1.1 C.1.2.1 dL_law_1142 rfl (lv_at hl 2 rfl) ?_
  refine l_rd 1 C hX hbl g1 hL hi hl dL_law_1143 dL_law_1144 dL_law_1145 (by decide) (by decide) dL_law_1146 dL_law_1147 ?_
  refine l_rd 2 C hX hbl g1 hL hi hl dL_law_1148 dL_law_1149 dL_law_1150 (by decide) (by decide) dL_law_1151 dL_law_1152 ?_
  refine l_rd 3 C hX hbl g1 hL hi hl dL_law_1153 dL_law_1154 dL_law_1155 (by decide) (by decide) dL_law_1156 dL_law_1157 ?_
  refine l_rd 4 C hX hbl g1 hL hi hl dL_law_1158 dL_law_1159 dL_law_1160 (by decide) (by decide) dL_law_1161 dL_law_1162 ?_
  refine l_bl C dL_law_1163 dL_law_1166 dL_law_1167 dL_law_1170 ?_
  refine h_calllF g2 g1 gd.sy (h_runV (n := 4) (As := [.int (xs (i + 1)), .int (xs (i + 2)), .int (xs (i + 3)), .int (zb (xs (i + 4)))]) (rest := [.long r1]) C g2 (c_X12_angle S.hm hsg hwy) gL_law_X12_angle rfl rfl rfl (by decide +kernel) ⟨Nat.le_of_ble_eq_true rfl, Nat.le_of_ble_eq_true rfl⟩ bX12 S.hm.1 rfl hl.1 rfl (Nat.le_of_ble_eq_true rfl) dL_law_1171 ⟨by show cells + 1 + 0 ≤ 600000; omega, by show slots + 2 + 0 ≤ 7302250; omega⟩) (fun r2 fr1 H2 locs2 hp2 q2 q1 qd => ?_)
  obtain ⟨er2, hm2⟩ := hp2
  refine W.lcmp C.1.1 C.1.2.1 dL_law_1174 ?_
  refine l_ifeq C (tgt := 1580) dL_law_1175 (by decide) (fun _ => ?_) (fun hne => absurd (er.symm.trans er2) hne)
  refine W.widen (k := cells + 441) (n := slots + 3522) (by omega) (by omega) ?_
  exact kk _ _ _ _ _ _ _ _ q1 q2 qd.sy hc1 hr1 hm2
set_option maxHeartbeats 4000000 in
theorem la_best (C : cx p m c cL_law 4 s #[Value.ref b] wsL_law RL D cA) (hX : va_X b L xs s s.heap) (hbl : b < s.heap.size) (hL : L ≤ 3584) (hi : i + 7 ≤ L) (hl : lv_has ls 4 [(0, .ref b), (1, .ref (ad 0)), (2, .ref (q 0)), (3, .int (nI i))]) (S : lwS D cA s H locs fc fr ad q K G A B N) (hce : cells + 441 ≤ 600000) (hsl : slots + 3522 ≤ 7302250)
    (kk : lwK p l e s m below meth c ls b cells slots Q D cA ad q N) : W p l e room_1 s m #[Value.ref b] below meth c H locs cells slots Q (F0 m 1180 ls []) := by
  obtain ⟨⟨ns, hns2, hns⟩, ⟨nt, hnt2, hnt⟩, ⟨tn, htn2, htn⟩, hrs, hso, hwy, hst, hdr, hpx, hpy⟩ := S.hr.1
  have hsg := S.hr.2.2.1.hsg
  refine lv_aload_n C.1.1 C.1.2.1 dL_law_1180 rfl (lv_at hl 1 rfl) ?_
  refine l_rd 1 C hX hbl S.h1 hL hi hl dL_law_1181 dL_law_1182 dL_law_1183 (by decide) (by decide) dL_law_1184 dL_law_1185 ?_
  refine h_calllF S.h1 S.h2 S.hd (h_runV (n := 1) (As := [.int (xs (i + 1))]) (rest := []) C S.h1 (c_X11_best S.hc S.hr S.hN) gL_law_X11_best rfl rfl rfl (by decide +kernel) ⟨Nat.le_of_ble_eq_true rfl, Nat.le_of_ble_eq_true rfl⟩ bX11 (co.a0 S.hc) rfl hl.1 rfl (Nat.le_of_ble_eq_true rfl) dL_law_1186 ⟨by show cells + 112 ≤ 600000; omega, by show slots + 304 ≤ 7302250; omega⟩) (fun r1 fc1 H1 locs1 hp g1 g2 gd => ?_)
  obtain ⟨er, K1, G1, hc1, hr1⟩ := hp
  refine lv_aload_n C.1.1 C.1.2.1 dL_law_1189 rfl (lv_at hl 2 rfl) ?_
  refine l_rd 1 C hX hbl g1 hL hi hl dL_law_1190 dL_law_1191 dL_law_1192 (by decide) (by decide) dL_law_1193 dL_law_1194 ?_
  refine h_calllF g2 g1 gd.sy (h_runV (n := 1) (As := [.int (xs (i + 1))]) (rest := [.long r1]) C g2 (c_X12_best S.hm hsg hwy hso) gL_law_X12_best rfl rfl rfl (by decide +kernel) ⟨Nat.le_of_ble_eq_true rfl, Nat.le_of_ble_eq_true rfl⟩ bX12 S.hm.1 rfl hl.1 rfl (Nat.le_of_ble_eq_true rfl) dL_law_1195 ⟨by show cells + 112 + 0 ≤ 600000; omega, by show slots + 304 + 0 ≤ 7302250; omega⟩) (fun r2 fr1 H2 locs2 hp2 q2 q1 qd => ?_)
  obtain ⟨er2, A1, B1, hm2, hv⟩ := hp2
  refine W.lcmp C.1.1 C.1.2.1 dL_law_1198 ?_
  refine l_ifeq C (tgt := 1580) dL_law_1199 (by decide) (fun _ => ?_) (fun hne => absurd (er.symm.trans er2) hne)
  refine W.widen (k := cells + 441) (n := slots + 3522) (by omega) (by omega) ?_
  exact kk _ _ _ _ _ _ _ _ q1 q2 qd.sy hc1 (rp_veq hr1 hv) hm2
set_option maxHeartbeats 4000000 in
theorem la_land (C : cx p m c cL_law 4 s #[Value.ref b] wsL_law RL D cA) (hX : va_X b L xs s s.heap) (hbl : b < s.heap.size) (hL : L ≤ 3584) (hi : i + 7 ≤ L) (hl : lv_has ls 4 [(0, .ref b), (1, .ref (ad 0)), (2, .ref (q 0)), (3, .int (nI i))]) (S : lwS D cA s H locs fc fr ad q K G A B N) (hce : cells + 441 ≤ 600000) (hsl : slots + 3522 ≤ 7302250)
    (kk : lwK p l e s m below meth c ls b cells slots Q D cA ad q N) : W p l e room_1 s m #[Value.ref b] below meth c H locs cells slots Q (F0 m 1204 ls []) := by
  obtain ⟨⟨ns, hns2, hns⟩, ⟨nt, hnt2, hnt⟩, ⟨tn, htn2, htn⟩, hrs, hso, hwy, hst, hdr, hpx, hpy⟩ := S.hr.1
  have hsg := S.hr.2.2.1.hsg
  refine lv_aload_n C.1.1 C.1.2.1 dL_law_1204 rfl (lv_at hl 1 rfl) ?_
  refine l_rd 1 C hX hbl S.h1 hL hi hl dL_law_1205 dL_law_1206 dL_law_1207 (by decide) (by decide) dL_law_1208 dL_law_1209 ?_
  refine l_rd 2 C hX hbl S.h1 hL hi hl dL_law_1210 dL_law_1211 dL_law_1212 (by decide) (by decide) dL_law_1213 dL_law_1214 ?_
  refine l_rd 3 C hX hbl S.h1 hL hi hl dL_law_1215 dL_law_1216 dL_law_1217 (by decide) (by decide) dL_law_1218 dL_law_1219 ?_
  refine l_rd 4 C hX hbl S.h1 hL hi hl dL_law_1220 dL_law_1221 dL_law_1222 (by decide) (by decide) dL_law_1223 dL_law_1224 ?_
  refine l_bl C dL_law_1225 dL_law_1228 dL_law_1229 dL_law_1232 ?_
  refine l_rd 5 C hX hbl S.h1 hL hi hl dL_law_1233 dL_law_1234 dL_law_1235 (by decide) (by decide) dL_law_1236 dL_law_1237 ?_
  refine l_bl C dL_law_1238 dL_law_1241 dL_law_1242 dL_law_1245 ?_
  refine h_calllF S.h1 S.h2 S.hd (h_runV (n := 5) (As := [.int (xs (i + 1)), .int (xs (i + 2)), .int (xs (i + 3)), .int (zb (xs (i + 4))), .int (zb (xs (i + 5)))]) (rest := []) C S.h1 (c_X11_land S.hc S.hr S.hN) gL_law_X11_land rfl rfl rfl (by decide +kernel) ⟨Nat.le_of_ble_eq_true rfl, Nat.le_of_ble_eq_true rfl⟩ bX11 (co.a0 S.hc) rfl hl.1 rfl (Nat.le_of_ble_eq_true rfl) dL_law_1246 ⟨by show cells + 7 ≤ 600000; omega, by show slots + 19 ≤ 7302250; omega⟩) (fun r1 fc1 H1 locs1 hp g1 g2 gd => ?_)
  obtain ⟨er, K1, G1, hc1, hr1⟩ := hp
  refine lv_aload_n C.1.1 C.1.2.1 dL_law_1249 rfl (lv_at hl 2 rfl) ?_
  refine l_rd 1 C hX hbl g1 hL hi hl dL_law_1250 dL_law_1251 dL_law_1252 (by decide) (by decide) dL_law_1253 dL_law_1254 ?_
  refine l_rd 2 C hX hbl g1 hL hi hl dL_law_1255 dL_law_1256 dL_law_1257 (by decide) (by decide) dL_law_1258 dL_law_1259 ?_
  refine l_rd 3 C hX hbl g1 hL hi hl dL_law_1260 dL_law_1261 dL_law_1262 (by decide) (by decide) dL_law_1263 dL_law_1264 ?_
  refine l_rd 4 C hX hbl g1 hL hi hl dL_law_1265 dL_law_1266 dL_law_1267 (by decide) (by decide) dL_law_1268 dL_law_1269 ?_
  refine l_bl C dL_law_1270 dL_law_1273 dL_law_1274 dL_law_1277 ?_
  refine l_rd 5 C hX hbl g1 hL hi hl dL_law_1278 dL_law_1279 dL_law_1280 (by decide) (by decide) dL_law_1281 dL_law_1282 ?_
  refine l_bl C dL_law_1283 dL_law_1286 dL_law_1287 dL_law_1290 ?_
  refine h_calllF g2 g1 gd.sy (h_runV (n := 5) (As := [.int (xs (i + 1)), .int (xs (i + 2)), .int (xs (i + 3)), .int (zb (xs (i + 4))), .int (zb (xs (i + 5)))]) (rest := [.long r1]) C g2 (c_X12_land S.hm hsg hwy hst hso) gL_law_X12_land rfl rfl rfl (by decide +kernel) ⟨Nat.le_of_ble_eq_true rfl, Nat.le_of_ble_eq_true rfl⟩ bX12 S.hm.1 rfl hl.1 rfl (Nat.le_of_ble_eq_true rfl) dL_law_1291 ⟨by show cells + 7 + 0 ≤ 600000; omega, by show slots + 19 + 0 ≤ 7302250; omega⟩) (fun r2 fr1 H2 locs2 hp2 q2 q1 qd => ?_)
  obtain ⟨er2, A1, B1, hm2, hv⟩ := hp2
  refine W.lcmp C.1.1 C.1.2.1 dL_law_1294 ?_
  refine l_ifeq C (tgt := 1580) dL_law_1295 (by decide) (fun _ => ?_) (fun hne => absurd (er.symm.trans er2) hne)
  refine W.widen (k := cells + 441) (n := slots + 3522) (by omega) (by omega) ?_
  exact kk _ _ _ _ _ _ _ _ q1 q2 qd.sy hc1 (rp_veq hr1 hv) hm2
set_option maxHeartbeats 4000000 in
theorem la_wind (C : cx p m c cL_law 4 s #[Value.ref b] wsL_law RL D cA) (hX : va_X b L xs s s.heap) (hbl : b < s.heap.size) (hL : L ≤ 3584) (hi : i + 7 ≤ L) (hl : lv_has ls 4 [(0, .ref b), (1, .ref (ad 0)), (2, .ref (q 0)), (3, .int (nI i))]) (S : lwS D cA s H locs fc fr ad q K G A B N) (hce : cells + 441 ≤ 600000) (hsl : slots + 3522 ≤ 7302250)
    (kk : lwK p l e s m below meth c ls b cells slots Q D cA ad q N) : W p l e room_1 s m #[Value.ref b] below meth c H locs cells slots Q (F0 m 1300 ls []) := by
  obtain ⟨⟨ns, hns2, hns⟩, ⟨nt, hnt2, hnt⟩, ⟨tn, htn2, htn⟩, hrs, hso, hwy, hst, hdr, hpx, hpy⟩ := S.hr.1
  have hsg := S.hr.2.2.1.hsg
  refine lv_aload_n C.1.1 C.1.2.1 dL_law_1300 rfl (lv_at hl 1 rfl) ?_
  refine l_rd 1 C hX hbl S.h1 hL hi hl dL_law_1301 dL_law_1302 dL_law_1303 (by decide) (by decide) dL_law_1304 dL_law_1305 ?_
  refine l_rd 2 C hX hbl S.h1 hL hi hl dL_law_1306 dL_law_1307 dL_law_1308 (by decide) (by decide) dL_law_1309 dL_law_1310 ?_
  refine l_rd 3 C hX hbl S.h1 hL hi hl dL_law_1311 dL_law_1312 dL_law_1313 (by decide) (by decide) dL_law_1314 dL_law_1315 ?_
  refine h_calllF S.h1 S.h2 S.hd (h_runV (n := 3) (As := [.int (xs (i + 1)), .int (xs (i + 2)), .int (xs (i + 3))]) (rest := []) C S.h1 (c_X11_wind S.hc S.hr S.hN) gL_law_X11_wind rfl rfl rfl (by decide +kernel) ⟨Nat.le_of_ble_eq_true rfl, Nat.le_of_ble_eq_true rfl⟩ bX11 (co.a0 S.hc) rfl hl.1 rfl (Nat.le_of_ble_eq_true rfl) dL_law_1316 ⟨by show cells + 0 ≤ 600000; omega, by show slots + 0 ≤ 7302250; omega⟩) (fun r1 fc1 H1 locs1 hp g1 g2 gd => ?_)
  obtain ⟨er, K1, G1, hc1, hr1⟩ := hp
  refine lv_aload_n C.1.1 C.1.2.1 dL_law_1319 rfl (lv_at hl 2 rfl) ?_
  refine l_rd 1 C hX hbl g1 hL hi hl dL_law_1320 dL_law_1321 dL_law_1322 (by decide) (by decide) dL_law_1323 dL_law_1324 ?_
  refine l_rd 2 C hX hbl g1 hL hi hl dL_law_1325 dL_law_1326 dL_law_1327 (by decide) (by decide) dL_law_1328 dL_law_1329 ?_
  refine l_rd 3 C hX hbl g1 hL hi hl dL_law_1330 dL_law_1331 dL_law_1332 (by decide) (by decide) dL_law_1333 dL_law_1334 ?_
  refine h_calllF g2 g1 gd.sy (h_runV (n := 3) (As := [.int (xs (i + 1)), .int (xs (i + 2)), .int (xs (i + 3))]) (rest := [.long r1]) C g2 (c_X12_wind S.hm) gL_law_X12_wind rfl rfl rfl (by decide +kernel) ⟨Nat.le_of_ble_eq_true rfl, Nat.le_of_ble_eq_true rfl⟩ bX12 S.hm.1 rfl hl.1 rfl (Nat.le_of_ble_eq_true rfl) dL_law_1335 ⟨by show cells + 0 + 0 ≤ 600000; omega, by show slots + 0 + 0 ≤ 7302250; omega⟩) (fun r2 fr1 H2 locs2 hp2 q2 q1 qd => ?_)
  obtain ⟨er2, hm2⟩ := hp2
  refine W.lcmp C.1.1 C.1.2.1 dL_law_1338 ?_
  refine l_ifeq C (tgt := 1580) dL_law_1339 (by decide) (fun _ => ?_) (fun hne => absurd (er.symm.trans er2) hne)
  refine W.widen (k := cells + 441) (n := slots + 3522) (by omega) (by omega) ?_
  exact kk _ _ _ _ _ _ _ _ q1 q2 qd.sy hc1 hr1 hm2
set_option maxHeartbeats 4000000 in
theorem la_drift (C : cx p m c cL_law 4 s #[Value.ref b] wsL_law RL D cA) (hX : va_X b L xs s s.heap) (hbl : b < s.heap.size) (hL : L ≤ 3584) (hi : i + 7 ≤ L) (hl : lv_has ls 4 [(0, .ref b), (1, .ref (ad 0)), (2, .ref (q 0)), (3, .int (nI i))]) (S : lwS D cA s H locs fc fr ad q K G A B N) (hce : cells + 441 ≤ 600000) (hsl : slots + 3522 ≤ 7302250)
    (kk : lwK p l e s m below meth c ls b cells slots Q D cA ad q N) : W p l e room_1 s m #[Value.ref b] below meth c H locs cells slots Q (F0 m 1344 ls []) := by
  obtain ⟨⟨ns, hns2, hns⟩, ⟨nt, hnt2, hnt⟩, ⟨tn, htn2, htn⟩, hrs, hso, hwy, hst, hdr, hpx, hpy⟩ := S.hr.1
  have hsg := S.hr.2.2.1.hsg
  refine lv_aload_n C.1.1 C.1.2.1 dL_law_1344 rfl (lv_at hl 1 rfl) ?_
  refine l_rd 1 C hX hbl S.h1 hL hi hl dL_law_1345 dL_law_1346 dL_law_1347 (by decide) (by decide) dL_law_1348 dL_law_1349 ?_
  refine l_rd 2 C hX hbl S.h1 hL hi hl dL_law_1350 dL_law_1351 dL_law_1352 (by decide) (by decide) dL_law_1353 dL_law_1354 ?_
  refine l_rd 3 C hX hbl S.h1 hL hi hl dL_law_1355 dL_law_1356 dL_law_1357 (by decide) (by decide) dL_law_1358 dL_law_1359 ?_
  refine l_rd 4 C hX hbl S.h1 hL hi hl dL_law_1360 dL_law_1361 dL_law_1362 (by decide) (by decide) dL_law_1363 dL_law_1364 ?_
  refine l_bl C dL_law_1365 dL_law_1368 dL_law_1369 dL_law_1372 ?_
  refine l_rd 5 C hX hbl S.h1 hL hi hl dL_law_1373 dL_law_1374 dL_law_1375 (by decide) (by decide) dL_law_1376 dL_law_1377 ?_
  refine l_bl C dL_law_1378 dL_law_1381 dL_law_1382 dL_law_1385 ?_
  refine h_calllF S.h1 S.h2 S.hd (h_runV (n := 5) (As := [.int (xs (i + 1)), .int (xs (i + 2)), .int (xs (i + 3)), .int (zb (xs (i + 4))), .int (zb (xs (i + 5)))]) (rest := []) C S.h1 (c_X11_drift S.hc S.hr S.hN) gL_law_X11_drift rfl rfl rfl (by decide +kernel) ⟨Nat.le_of_ble_eq_true rfl, Nat.le_of_ble_eq_true rfl⟩ bX11 (co.a0 S.hc) rfl hl.1 rfl (Nat.le_of_ble_eq_true rfl) dL_law_1386 ⟨by show cells + 7 ≤ 600000; omega, by show slots + 18 ≤ 7302250; omega⟩) (fun r1 fc1 H1 locs1 hp g1 g2 gd => ?_)
  obtain ⟨er, K1, G1, hc1, hr1⟩ := hp
  refine lv_aload_n C.1.1 C.1.2.1 dL_law_1389 rfl (lv_at hl 2 rfl) ?_
  refine l_rd 1 C hX hbl g1 hL hi hl dL_law_1390 dL_law_1391 dL_law_1392 (by decide) (by decide) dL_law_1393 dL_law_1394 ?_
  refine l_rd 2 C hX hbl g1 hL hi hl dL_law_1395 dL_law_1396 dL_law_1397 (by decide) (by decide) dL_law_1398 dL_law_1399 ?_
  refine l_rd 3 C hX hbl g1 hL hi hl dL_law_1400 dL_law_1401 dL_law_1402 (by decide) (by decide) dL_law_1403 dL_law_1404 ?_
  refine l_rd 4 C hX hbl g1 hL hi hl dL_law_1405 dL_law_1406 dL_law_1407 (by decide) (by decide) dL_law_1408 dL_law_1409 ?_
  refine l_bl C dL_law_1410 dL_law_1413 dL_law_1414 dL_law_1417 ?_
  refine l_rd 5 C hX hbl g1 hL hi hl dL_law_1418 dL_law_1419 dL_law_1420 (by decide) (by decide) dL_law_1421 dL_law_1422 ?_
  refine l_bl C dL_law_1423 dL_law_1426 dL_law_1427 dL_law_1430 ?_
  refine h_calllF g2 g1 gd.sy (h_runV (n := 5) (As := [.int (xs (i + 1)), .int (xs (i + 2)), .int (xs (i + 3)), .int (zb (xs (i + 4))), .int (zb (xs (i + 5)))]) (rest := [.long r1]) C g2 (c_X12_drift S.hm hsg hwy hst hso hdr) gL_law_X12_drift rfl rfl rfl (by decide +kernel) ⟨Nat.le_of_ble_eq_true rfl, Nat.le_of_ble_eq_true rfl⟩ bX12 S.hm.1 rfl hl.1 rfl (Nat.le_of_ble_eq_true rfl) dL_law_1431 ⟨by show cells + 7 + 0 ≤ 600000; omega, by show slots + 18 + 0 ≤ 7302250; omega⟩) (fun r2 fr1 H2 locs2 hp2 q2 q1 qd => ?_)
  obtain ⟨er2, A1, B1, hm2, hv⟩ := hp2
  refine W.lcmp C.1.1 C.1.2.1 dL_law_1434 ?_
  refine l_ifeq C (tgt := 1580) dL_law_1435 (by decide) (fun _ => ?_) (fun hne => absurd (er.symm.trans er2) hne)
  refine W.widen (k := cells + 441) (n := slots + 3522) (by omega) (by omega) ?_
  exact kk _ _ _ _ _ _ _ _ q1 q2 qd.sy hc1 (rp_veq hr1 hv) hm2
set_option maxHeartbeats 4000000 in
theorem la_radiant (C : cx p m c cL_law 4 s #[Value.ref b] wsL_law RL D cA) (hX : va_X b L xs s s.heap) (hbl : b < s.heap.size) (hL : L ≤ 3584) (hi : i + 7 ≤ L) (hl : lv_has ls 4 [(0, .ref b), (1, .ref (ad 0)), (2, .ref (q 0)), (3, .int (nI i))]) (S : lwS D cA s H locs fc fr ad q K G A B N) (hce : cells + 441 ≤ 600000) (hsl : slots + 3522 ≤ 7302250)
    (kk : lwK p l e s m below meth c ls b cells slots Q D cA ad q N) : W p l e room_1 s m #[Value.ref b] below meth c H locs cells slots Q (F0 m 1440 ls []) := by
  obtain ⟨⟨ns, hns2, hns⟩, ⟨nt, hnt2, hnt⟩, ⟨tn, htn2, htn⟩, hrs, hso, hwy, hst, hdr, hpx, hpy⟩ := S.hr.1
  have hsg := S.hr.2.2.1.hsg
  refine lv_aload_n C.1.1 C.1.2.1 dL_law_1440 rfl (lv_at hl 1 rfl) ?_
  refine l_rd 1 C hX hbl S.h1 hL hi hl dL_law_1441 dL_law_1442 dL_law_1443 (by decide) (by decide) dL_law_1444 dL_law_1445 ?_
  refine l_rd 2 C hX hbl S.h1 hL hi hl dL_law_1446 dL_law_1447 dL_law_1448 (by decide) (by decide) dL_law_1449 dL_law_1450 ?_
  refine l_rd 3 C hX hbl S.h1 hL hi hl dL_law_1451 dL_law_1452 dL_law_1453 (by decide) (by decide) dL_law_1454 dL_law_1455 ?_
  refine h_calllF S.h1 S.h2 S.hd (h_runV (n := 3) (As := [.int (xs (i + 1)), .int (xs (i + 2)), .int (xs (i + 3))]) (rest := []) C S.h1 (c_X11_radiant S.hc S.hr S.hN) gL_law_X11_radiant rfl rfl rfl (by decide +kernel) ⟨Nat.le_of_ble_eq_true rfl, Nat.le_of_ble_eq_true rfl⟩ bX11 (co.a0 S.hc) rfl hl.1 rfl (Nat.le_of_ble_eq_true rfl) dL_law_1456 ⟨by show cells + 1 ≤ 600000; omega, by show slots + 3 ≤ 7302250; omega⟩) (fun r1 fc1 H1 locs1 hp g1 g2 gd => ?_)
  obtain ⟨er, K1, G1, hc1, hr1⟩ := hp
  refine lv_aload_n C.1.1 C.1.2.1 dL_law_1459 rfl (lv_at hl 2 rfl) ?_
  refine l_rd 1 C hX hbl g1 hL hi hl dL_law_1460 dL_law_1461 dL_law_1462 (by decide) (by decide) dL_law_1463 dL_law_1464 ?_
  refine l_rd 2 C hX hbl g1 hL hi hl dL_law_1465 dL_law_1466 dL_law_1467 (by decide) (by decide) dL_law_1468 dL_law_1469 ?_
  refine l_rd 3 C hX hbl g1 hL hi hl dL_law_1470 dL_law_1471 dL_law_1472 (by decide) (by decide) dL_law_1473 dL_law_1474 ?_
  refine h_calllF g2 g1 gd.sy (h_runV (n := 3) (As := [.int (xs (i + 1)), .int (xs (i + 2)), .int (xs (i + 3))]) (rest := [.long r1]) C g2 (c_X12_radiant S.hm hsg) gL_law_X12_radiant rfl rfl rfl (by decide +kernel) ⟨Nat.le_of_ble_eq_true rfl, Nat.le_of_ble_eq_true rfl⟩ bX12 S.hm.1 rfl hl.1 rfl (Nat.le_of_ble_eq_true rfl) dL_law_1475 ⟨by show cells + 1 + 0 ≤ 600000; omega, by show slots + 3 + 0 ≤ 7302250; omega⟩) (fun r2 fr1 H2 locs2 hp2 q2 q1 qd => ?_)
  obtain ⟨er2, hm2⟩ := hp2
  refine W.lcmp C.1.1 C.1.2.1 dL_law_1478 ?_
  refine l_ifeq C (tgt := 1580) dL_law_1479 (by decide) (fun _ => ?_) (fun hne => absurd (er.symm.trans er2) hne)
  refine W.widen (k := cells + 441) (n := slots + 3522) (by omega) (by omega) ?_
  exact kk _ _ _ _ _ _ _ _ q1 q2 qd.sy hc1 hr1 hm2
set_option maxHeartbeats 4000000 in
theorem la_shower (C : cx p m c cL_law 4 s #[Value.ref b] wsL_law RL D cA) (hX : va_X b L xs s s.heap) (hbl : b < s.heap.size) (hL : L ≤ 3584) (hi : i + 7 ≤ L) (hl : lv_has ls 4 [(0, .ref b), (1, .ref (ad 0)), (2, .ref (q 0)), (3, .int (nI i))]) (S : lwS D cA s H locs fc fr ad q K G A B N) (hce : cells + 441 ≤ 600000) (hsl : slots + 3522 ≤ 7302250)
    (kk : lwK p l e s m below meth c ls b cells slots Q D cA ad q N) : W p l e room_1 s m #[Value.ref b] below meth c H locs cells slots Q (F0 m 1484 ls []) := by
  obtain ⟨⟨ns, hns2, hns⟩, ⟨nt, hnt2, hnt⟩, ⟨tn, htn2, htn⟩, hrs, hso, hwy, hst, hdr, hpx, hpy⟩ := S.hr.1
  have hsg := S.hr.2.2.1.hsg
  refine lv_aload_n C.1.1 C.1.2.1 dL_law_1484 rfl (lv_at hl 1 rfl) ?_
  refine l_rd 1 C hX hbl S.h1 hL hi hl dL_law_1485 dL_law_1486 dL_law_1487 (by decide) (by decide) dL_law_1488 dL_law_1489 ?_
  refine l_rd 2 C hX hbl S.h1 hL hi hl dL_law_1490 dL_law_1491 dL_law_1492 (by decide) (by decide) dL_law_1493 dL_law_1494 ?_
  refine h_calllF S.h1 S.h2 S.hd (h_runV (n := 2) (As := [.int (xs (i + 1)), .int (xs (i + 2))]) (rest := []) C S.h1 (c_X11_shower S.hc S.hr S.hN) gL_law_X11_shower rfl rfl rfl (by decide +kernel) ⟨Nat.le_of_ble_eq_true rfl, Nat.le_of_ble_eq_true rfl⟩ bX11 (co.a0 S.hc) rfl hl.1 rfl (Nat.le_of_ble_eq_true rfl) dL_law_1495 ⟨by show cells + 1 ≤ 600000; omega, by show slots + 3 ≤ 7302250; omega⟩) (fun r1 fc1 H1 locs1 hp g1 g2 gd => ?_)
  obtain ⟨er, K1, G1, hc1, hr1⟩ := hp
  refine lv_aload_n C.1.1 C.1.2.1 dL_law_1498 rfl (lv_at hl 2 rfl) ?_
  refine l_rd 1 C hX hbl g1 hL hi hl dL_law_1499 dL_law_1500 dL_law_1501 (by decide) (by decide) dL_law_1502 dL_law_1503 ?_
  refine l_rd 2 C hX hbl g1 hL hi hl dL_law_1504 dL_law_1505 dL_law_1506 (by decide) (by decide) dL_law_1507 dL_law_1508 ?_
  refine h_calllF g2 g1 gd.sy (h_runV (n := 2) (As := [.int (xs (i + 1)), .int (xs (i + 2))]) (rest := [.long r1]) C g2 (c_X12_shower S.hm hsg) gL_law_X12_shower rfl rfl rfl (by decide +kernel) ⟨Nat.le_of_ble_eq_true rfl, Nat.le_of_ble_eq_true rfl⟩ bX12 S.hm.1 rfl hl.1 rfl (Nat.le_of_ble_eq_true rfl) dL_law_1509 ⟨by show cells + 1 + 0 ≤ 600000; omega, by show slots + 3 + 0 ≤ 7302250; omega⟩) (fun r2 fr1 H2 locs2 hp2 q2 q1 qd => ?_)
  obtain ⟨er2, hm2⟩ := hp2
  refine W.lcmp C.1.1 C.1.2.1 dL_law_1512 ?_
  refine l_ifeq C (tgt := 1580) dL_law_1513 (by decide) (fun _ => ?_) (fun hne => absurd (er.symm.trans er2) hne)
  refine W.widen (k := cells + 441) (n := slots + 3522) (by omega) (by omega) ?_
  exact kk _ _ _ _ _ _ _ _ q1 q2 qd.sy hc1 hr1 hm2
set_option maxHeartbeats 4000000 in
theorem la_check (C : cx p m c cL_law 4 s #[Value.ref b] wsL_law RL D cA) (hX : va_X b L xs s s.heap) (hbl : b < s.heap.size) (hL : L ≤ 3584) (hi : i + 7 ≤ L) (hl : lv_has ls 4 [(0, .ref b), (1, .ref (ad 0)), (2, .ref (q 0)), (3, .int (nI i))]) (S : lwS D cA s H locs fc fr ad q K G A B N) (hce : cells + 441 ≤ 600000) (hsl : slots + 3522 ≤ 7302250)
    (kk : lwK p l e s m below meth c ls b cells slots Q D cA ad q N) : W p l e room_1 s m #[Value.ref b] below meth c H locs cells slots Q (F0 m 1518 ls []) := by
  obtain ⟨⟨ns, hns2, hns⟩, ⟨nt, hnt2, hnt⟩, ⟨tn, htn2, htn⟩, hrs, hso, hwy, hst, hdr, hpx, hpy⟩ := S.hr.1
  have hsg := S.hr.2.2.1.hsg
  refine lv_aload_n C.1.1 C.1.2.1 dL_law_1518 rfl (lv_at hl 1 rfl) ?_
  refine h_calllF S.h1 S.h2 S.hd (h_runV (n := 0) (As := []) (rest := []) C S.h1 (c_X11_check S.hc S.hr S.hN hns hnt hns2 hnt2 htn htn2) gL_law_X11_check rfl rfl rfl (by decide +kernel) ⟨Nat.le_of_ble_eq_true rfl, Nat.le_of_ble_eq_true rfl⟩ bX11 (co.a0 S.hc) rfl hl.1 rfl (Nat.le_of_ble_eq_true rfl) dL_law_1519 ⟨by show cells + 440 ≤ 600000; omega, by show slots + 3520 ≤ 7302250; omega⟩) (fun r1 fc1 H1 locs1 hp g1 g2 gd => ?_)
  obtain ⟨er, K1, G1, hc1, hr1⟩ := hp
  refine lv_aload_n C.1.1 C.1.2.1 dL_law_1522 rfl (lv_at hl 2 rfl) ?_
  refine h_calllF g2 g1 gd.sy (h_runV (n := 0) (As := []) (rest := [.long r1]) C g2 (c_X12_check S.hm hns hnt hns2 hnt2 htn htn2) gL_law_X12_check rfl rfl rfl (by decide +kernel) ⟨Nat.le_of_ble_eq_true rfl, Nat.le_of_ble_eq_true rfl⟩ bX12 S.hm.1 rfl hl.1 rfl (Nat.le_of_ble_eq_true rfl) dL_law_1523 ⟨by show cells + 440 + 0 ≤ 600000; omega, by show slots + 3520 + 0 ≤ 7302250; omega⟩) (fun r2 fr1 H2 locs2 hp2 q2 q1 qd => ?_)
  obtain ⟨er2, A1, B1, hm2, hv⟩ := hp2
  refine W.lcmp C.1.1 C.1.2.1 dL_law_1526 ?_
  refine l_ifeq C (tgt := 1580) dL_law_1527 (by decide) (fun _ => ?_) (fun hne => absurd (er.symm.trans er2) hne)
  refine W.widen (k := cells + 441) (n := slots + 3522) (by omega) (by omega) ?_
  exact kk _ _ _ _ _ _ _ _ q1 q2 qd.sy hc1 (rp_veq hr1 hv) hm2
set_option maxHeartbeats 4000000 in
theorem la_count (C : cx p m c cL_law 4 s #[Value.ref b] wsL_law RL D cA) (hX : va_X b L xs s s.heap) (hbl : b < s.heap.size) (hL : L ≤ 3584) (hi : i + 7 ≤ L) (hl : lv_has ls 4 [(0, .ref b), (1, .ref (ad 0)), (2, .ref (q 0)), (3, .int (nI i))]) (S : lwS D cA s H locs fc fr ad q K G A B N) (hce : cells + 441 ≤ 600000) (hsl : slots + 3522 ≤ 7302250)
    (kk : lwK p l e s m below meth c ls b cells slots Q D cA ad q N) : W p l e room_1 s m #[Value.ref b] below meth c H locs cells slots Q (F0 m 1532 ls []) := by
  obtain ⟨⟨ns, hns2, hns⟩, ⟨nt, hnt2, hnt⟩, ⟨tn, htn2, htn⟩, hrs, hso, hwy, hst, hdr, hpx, hpy⟩ := S.hr.1
  have hsg := S.hr.2.2.1.hsg
  refine lv_aload_n C.1.1 C.1.2.1 dL_law_1532 rfl (lv_at hl 1 rfl) ?_
  refine l_rd 1 C hX hbl S.h1 hL hi hl dL_law_1533 dL_law_1534 dL_law_1535 (by decide) (by decide) dL_law_1536 dL_law_1537 ?_
  refine h_calllF S.h1 S.h2 S.hd (h_runV (n := 1) (As := [.int (xs (i + 1))]) (rest := []) C S.h1 (c_X11_count S.hc S.hr S.hN hns hnt htn hns2 hnt2 htn2) gL_law_X11_count rfl rfl rfl (by decide +kernel) ⟨Nat.le_of_ble_eq_true rfl, Nat.le_of_ble_eq_true rfl⟩ bX11 (co.a0 S.hc) rfl hl.1 rfl (Nat.le_of_ble_eq_true rfl) dL_law_1538 ⟨by show cells + 0 ≤ 600000; omega, by show slots + 0 ≤ 7302250; omega⟩) (fun r1 fc1 H1 locs1 hp g1 g2 gd => ?_)
  obtain ⟨er, K1, G1, hc1, hr1⟩ := hp
  refine lv_aload_n C.1.1 C.1.2.1 dL_law_1541 rfl (lv_at hl 2 rfl) ?_
  refine l_rd 1 C hX hbl g1 hL hi hl dL_law_1542 dL_law_1543 dL_law_1544 (by decide) (by decide) dL_law_1545 dL_law_1546 ?_
  refine h_calllF g2 g1 gd.sy (h_runV (n := 1) (As := [.int (xs (i + 1))]) (rest := [.long r1]) C g2 (c_X12_count S.hm hns hnt htn hns2 hnt2 htn2) gL_law_X12_count rfl rfl rfl (by decide +kernel) ⟨Nat.le_of_ble_eq_true rfl, Nat.le_of_ble_eq_true rfl⟩ bX12 S.hm.1 rfl hl.1 rfl (Nat.le_of_ble_eq_true rfl) dL_law_1547 ⟨by show cells + 0 + 0 ≤ 600000; omega, by show slots + 0 + 0 ≤ 7302250; omega⟩) (fun r2 fr1 H2 locs2 hp2 q2 q1 qd => ?_)
  obtain ⟨er2, hm2⟩ := hp2
  refine W.lcmp C.1.1 C.1.2.1 dL_law_1550 ?_
  refine l_ifeq C (tgt := 1580) dL_law_1551 (by decide) (fun _ => ?_) (fun hne => absurd (er.symm.trans er2) hne)
  refine W.widen (k := cells + 441) (n := slots + 3522) (by omega) (by omega) ?_
  exact kk _ _ _ _ _ _ _ _ q1 q2 qd.sy hc1 hr1 hm2
set_option maxHeartbeats 4000000 in
theorem la_found (C : cx p m c cL_law 4 s #[Value.ref b] wsL_law RL D cA) (hX : va_X b L xs s s.heap) (hbl : b < s.heap.size) (hL : L ≤ 3584) (hi : i + 7 ≤ L) (hl : lv_has ls 4 [(0, .ref b), (1, .ref (ad 0)), (2, .ref (q 0)), (3, .int (nI i))]) (S : lwS D cA s H locs fc fr ad q K G A B N) (hce : cells + 441 ≤ 600000) (hsl : slots + 3522 ≤ 7302250)
    (kk : lwK p l e s m below meth c ls b cells slots Q D cA ad q N) : W p l e room_1 s m #[Value.ref b] below meth c H locs cells slots Q (F0 m 1556 ls []) := by
  obtain ⟨⟨ns, hns2, hns⟩, ⟨nt, hnt2, hnt⟩, ⟨tn, htn2, htn⟩, hrs, hso, hwy, hst, hdr, hpx, hpy⟩ := S.hr.1
  have hsg := S.hr.2.2.1.hsg
  refine lv_aload_n C.1.1 C.1.2.1 dL_law_1556 rfl (lv_at hl 1 rfl) ?_
  refine l_rd 1 C hX hbl S.h1 hL hi hl dL_law_1557 dL_law_1558 dL_law_1559 (by decide) (by decide) dL_law_1560 dL_law_1561 ?_
  refine h_calllF S.h1 S.h2 S.hd (h_runV (n := 1) (As := [.int (xs (i + 1))]) (rest := []) C S.h1 (c_X11_found S.hc S.hr S.hN) gL_law_X11_found rfl rfl rfl (by decide +kernel) ⟨Nat.le_of_ble_eq_true rfl, Nat.le_of_ble_eq_true rfl⟩ bX11 (co.a0 S.hc) rfl hl.1 rfl (Nat.le_of_ble_eq_true rfl) dL_law_1562 ⟨by show cells + 0 ≤ 600000; omega, by show slots + 0 ≤ 7302250; omega⟩) (fun r1 fc1 H1 locs1 hp g1 g2 gd => ?_)
  obtain ⟨er, K1, G1, hc1, hr1⟩ := hp
  refine lv_aload_n C.1.1 C.1.2.1 dL_law_1565 rfl (lv_at hl 2 rfl) ?_
  refine l_rd 1 C hX hbl g1 hL hi hl dL_law_1566 dL_law_1567 dL_law_1568 (by decide) (by decide) dL_law_1569 dL_law_1570 ?_
  refine h_calllF g2 g1 gd.sy (h_runV (n := 1) (As := [.int (xs (i + 1))]) (rest := [.long r1]) C g2 (c_X12_found S.hm) gL_law_X12_found rfl rfl rfl (by decide +kernel) ⟨Nat.le_of_ble_eq_true rfl, Nat.le_of_ble_eq_true rfl⟩ bX12 S.hm.1 rfl hl.1 rfl (Nat.le_of_ble_eq_true rfl) dL_law_1571 ⟨by show cells + 0 + 0 ≤ 600000; omega, by show slots + 0 + 0 ≤ 7302250; omega⟩) (fun r2 fr1 H2 locs2 hp2 q2 q1 qd => ?_)
  obtain ⟨er2, hm2⟩ := hp2
  refine W.lcmp C.1.1 C.1.2.1 dL_law_1574 ?_
  refine l_ifeq C (tgt := 1580) dL_law_1575 (by decide) (fun _ => ?_) (fun hne => absurd (er.symm.trans er2) hne)
  refine W.widen (k := cells + 441) (n := slots + 3522) (by omega) (by omega) ?_
  exact kk _ _ _ _ _ _ _ _ q1 q2 qd.sy hc1 hr1 hm2
end LA
