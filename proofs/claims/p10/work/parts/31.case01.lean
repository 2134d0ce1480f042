set_option maxHeartbeats 4000000 in
set_option maxRecDepth 100000 in
theorem law_case_1 {p : Program} {l : Launch} {e : Env} {s : State} {m : MethodId} {below : List Frame} {meth : Method} {c : Code} {dC : Nat → ClassId} {dI : Nat → Nat → Nat} {b L : Nat} {xs : Nat → Int32} (hst : l.stackTraces = false) (hL : L ≤ 3584) (C0 : lw_At p s m meth c b L xs) (i : Nat) (x4 : Int32) (hi : i + 7 ≤ L) (ex4 : x4 = nI i) (cc ss : Nat) (hcc : cc + 1 ≤ 1042) (hss : ss + 6 ≤ 13643) (q0 : Nat) (k1 : Nat) (k2 : Nat) (k3 : Nat) (k4 : Nat) (a1 : Nat) (a2 : Nat) (a3 : Nat) (k5 : Nat) (a4 : Nat) (m0 : Nat) (b1 : Nat) (b2 : Nat) (b3 : Nat) (b4 : Nat) (b5 : Nat) (o0 : Nat) (e1 : ClassId) (e2 : ClassId) (e3 : ClassId) (e4 : ClassId) (i1 : ClassId) (i2 : ClassId) (i3 : ClassId) (i4 : ClassId) (i5 : ClassId) (e9 : ClassId) (pl : Int32) (told : Int64) (lv : Int32) (th : Int64) (ph : Int32) (di : Int32) (lm : Int64) (cu : Int64) (la : Int64) (en : Int64) (sp : Int32) (lk : Int64) (f1 : Nat → Int32) (f2 : Nat → Int32) (f3 : Nat → Int64) (cn : Int32) (to : Int64) (f4 : Nat → Int32) (mco : Int32) (mpi : Int32) (msh : Int32) (mlo : Int32) (mph : Int32) (mdi : Int32) (mlm : Int64) (men : Int64) (mla : Int64) (mcu : Int64) (mnw : Int64) (msp : Int32) (mlk : Int64) (mcs : Int32) (g1 : Nat → Int32) (g2 : Nat → Int32) (g3 : Nat → Int32) (g4 : Nat → Int64) (g5 : Nat → Int32) (fo : Nat → Int64) (H : Heap) (locs : List Loc) (ls : Array Slot) (hI : linv lv mpi th msh sp msp cn mcs ∧ srel f4 to cn g5 ∧ erel f1 g1 g2 g3 msp.toInt.toNat ∧ lk = mlk ∧ frel f2 g4) (hK : va_K (dC, dI) classes [(e1, .int), (e2, .int), (e3, .long), (e4, .int), (i1, .int), (i2, .int), (i3, .int), (i4, .long), (i5, .int), (e9, .long)] s) (hP : va_P (dC, dI) classes [(q0, .inr (5, [.ref k1, .ref k2, .ref k3, .ref k4, .ref k5, .int pl])), (k1, .inr (0, [.long told])), (k2, .inr (1, [.int lv, .long th])), (k3, .inr (2, [.int ph, .int di, .long lm, .long cu, .long la, .long en])), (k4, .inr (3, [.ref a1, .ref a2, .ref a3, .int sp, .long lk])), (a1, .inl (e1, 1440, .inl f1)), (a2, .inl (e2, 1440, .inl f2)), (a3, .inl (e3, 1001, .inr (.inl f3))), (k5, .inr (4, [.ref a4, .int cn, .long to])), (a4, .inl (e4, 10, .inl f4)), (m0, .inr (6, [.int mco, .int mpi, .int msh, .int mlo, .int mph, .int mdi, .long mlm, .long men, .long mla, .long mcu, .long mnw, .int msp, .ref b1, .ref b2, .ref b3, .ref b4, .long mlk, .int mcs, .ref b5])), (b1, .inl (i1, 20, .inl g1)), (b2, .inl (i2, 20, .inl g2)), (b3, .inl (i3, 20, .inl g3)), (b4, .inl (i4, 1440, .inr (.inl g4))), (b5, .inl (i5, 11, .inl g5)), (o0, .inl (e9, 1, .inr (.inl fo)))] H) (hD : va_D (fun q : Nat => s.heap.size ≤ q) [(q0, .inr (5, [.ref k1, .ref k2, .ref k3, .ref k4, .ref k5, .int pl])), (k1, .inr (0, [.long told])), (k2, .inr (1, [.int lv, .long th])), (k3, .inr (2, [.int ph, .int di, .long lm, .long cu, .long la, .long en])), (k4, .inr (3, [.ref a1, .ref a2, .ref a3, .int sp, .long lk])), (a1, .inl (e1, 1440, .inl f1)), (a2, .inl (e2, 1440, .inl f2)), (a3, .inl (e3, 1001, .inr (.inl f3))), (k5, .inr (4, [.ref a4, .int cn, .long to])), (a4, .inl (e4, 10, .inl f4)), (m0, .inr (6, [.int mco, .int mpi, .int msh, .int mlo, .int mph, .int mdi, .long mlm, .long men, .long mla, .long mcu, .long mnw, .int msp, .ref b1, .ref b2, .ref b3, .ref b4, .long mlk, .int mcs, .ref b5])), (b1, .inl (i1, 20, .inl g1)), (b2, .inl (i2, 20, .inl g2)), (b3, .inl (i3, 20, .inl g3)), (b4, .inl (i4, 1440, .inr (.inl g4))), (b5, .inl (i5, 11, .inl g5)), (o0, .inl (e9, 1, .inr (.inl fo)))]) (hS : va_S (fun q : Nat => s.heap.size ≤ q) s.heap H locs) (hl : lv_has ls 8 [(0, .ref b), (1, .ref q0), (2, .ref m0), (3, .ref o0), (4, .int x4)]) (kk : ∀ (pl : Int32) (told : Int64) (lv : Int32) (th : Int64) (ph : Int32) (di : Int32) (lm : Int64) (cu : Int64) (la : Int64) (en : Int64) (sp : Int32) (lk : Int64) (f1 : Nat → Int32) (f2 : Nat → Int32) (f3 : Nat → Int64) (cn : Int32) (to : Int64) (f4 : Nat → Int32) (mco : Int32) (mpi : Int32) (msh : Int32) (mlo : Int32) (mph : Int32) (mdi : Int32) (mlm : Int64) (men : Int64) (mla : Int64) (mcu : Int64) (mnw : Int64) (msp : Int32) (mlk : Int64) (mcs : Int32) (g1 : Nat → Int32) (g2 : Nat → Int32) (g3 : Nat → Int32) (g4 : Nat → Int64) (g5 : Nat → Int32) (fo : Nat → Int64) (H : Heap) (locs : List Loc) (ls : Array Slot), linv lv mpi th msh sp msp cn mcs ∧ srel f4 to cn g5 ∧ erel f1 g1 g2 g3 msp.toInt.toNat ∧ lk = mlk ∧ frel f2 g4 → va_P (dC, dI) classes [(q0, .inr (5, [.ref k1, .ref k2, .ref k3, .ref k4, .ref k5, .int pl])), (k1, .inr (0, [.long told])), (k2, .inr (1, [.int lv, .long th])), (k3, .inr (2, [.int ph, .int di, .long lm, .long cu, .long la, .long en])), (k4, .inr (3, [.ref a1, .ref a2, .ref a3, .int sp, .long lk])), (a1, .inl (e1, 1440, .inl f1)), (a2, .inl (e2, 1440, .inl f2)), (a3, .inl (e3, 1001, .inr (.inl f3))), (k5, .inr (4, [.ref a4, .int cn, .long to])), (a4, .inl (e4, 10, .inl f4)), (m0, .inr (6, [.int mco, .int mpi, .int msh, .int mlo, .int mph, .int mdi, .long mlm, .long men, .long mla, .long mcu, .long mnw, .int msp, .ref b1, .ref b2, .ref b3, .ref b4, .long mlk, .int mcs, .ref b5])), (b1, .inl (i1, 20, .inl g1)), (b2, .inl (i2, 20, .inl g2)), (b3, .inl (i3, 20, .inl g3)), (b4, .inl (i4, 1440, .inr (.inl g4))), (b5, .inl (i5, 11, .inl g5)), (o0, .inl (e9, 1, .inr (.inl fo)))] H → va_D (fun q : Nat => s.heap.size ≤ q) [(q0, .inr (5, [.ref k1, .ref k2, .ref k3, .ref k4, .ref k5, .int pl])), (k1, .inr (0, [.long told])), (k2, .inr (1, [.int lv, .long th])), (k3, .inr (2, [.int ph, .int di, .long lm, .long cu, .long la, .long en])), (k4, .inr (3, [.ref a1, .ref a2, .ref a3, .int sp, .long lk])), (a1, .inl (e1, 1440, .inl f1)), (a2, .inl (e2, 1440, .inl f2)), (a3, .inl (e3, 1001, .inr (.inl f3))), (k5, .inr (4, [.ref a4, .int cn, .long to])), (a4, .inl (e4, 10, .inl f4)), (m0, .inr (6, [.int mco, .int mpi, .int msh, .int mlo, .int mph, .int mdi, .long mlm, .long men, .long mla, .long mcu, .long mnw, .int msp, .ref b1, .ref b2, .ref b3, .ref b4, .long mlk, .int mcs, .ref b5])), (b1, .inl (i1, 20, .inl g1)), (b2, .inl (i2, 20, .inl g2)), (b3, .inl (i3, 20, .inl g3)), (b4, .inl (i4, 1440, .inr (.inl g4))), (b5, .inl (i5, 11, .inl g5)), (o0, .inl (e9, 1, .inr (.inl fo)))] → va_S (fun q : Nat => s.heap.size ≤ q) s.heap H locs → lv_has ls 8 [(0, .ref b), (1, .ref q0), (2, .ref m0), (3, .ref o0), (4, .int x4)] → W p l e room_1 s m #[Value.ref b] below meth c H locs (cc + 1) (ss + 6) (lw_Z below #[Value.ref b] s) (F0 m 1004 ls [])) : W p l e room_1 s m #[Value.ref b] below meth c H locs cc ss (lw_Z below #[Value.ref b] s) (F0 m 213 ls []) := by
  obtain ⟨hx, hb, hr, hml, hown, hts0, hX, hbl, hlocks, hgv⟩ := C0
  have hB := law_big hts0
  have hts := law_ts hts0
  have hN := law_nst hts0
  have hA : ∀ q : Nat, s.heap.size ≤ q → (fun q : Nat => s.heap.size ≤ q) q := fun _ h => h
  have hbA : ¬ (fun q : Nat => s.heap.size ≤ q) b := Nat.not_le.mpr hbl
  refine lv_aload_n hx hb d_Law_law_213 rfl (lv_at hl 1 rfl) ?_
  refine lv_aload_n hx hb d_Law_law_214 rfl (lv_at hl 0 rfl) ?_
  refine lv_iload hx hb d_Law_law_215 (lv_at hl 4 rfl) ?_
  refine lv_iconst (v := 1) hx hb d_Law_law_217 (by decide) ?_
  refine lv_iadd hx hb d_Law_law_218 ?_
  have h_219 : vp_in (x4 + 1) L := vinS 1 hL hi ex4 (by decide) (by decide)
  refine va_sld hx hb hX hbl hbA hS h_219 d_Law_law_219 ?_
  refine lv_topi (fun y_219 ey_219 => ?_)
  obtain rfl : y_219 = sx xs x4 1 := ey_219
  refine lv_aload_n hx hb d_Law_law_220 rfl (lv_at hl 0 rfl) ?_
  refine lv_iload hx hb d_Law_law_221 (lv_at hl 4 rfl) ?_
  refine lv_iconst (v := 2) hx hb d_Law_law_223 (by decide) ?_
  refine lv_iadd hx hb d_Law_law_224 ?_
  have h_225 : vp_in (x4 + 2) L := vinS 2 hL hi ex4 (by decide) (by decide)
  refine va_sld hx hb hX hbl hbA hS h_225 d_Law_law_225 ?_
  refine lv_topi (fun y_225 ey_225 => ?_)
  obtain rfl : y_225 = sx xs x4 2 := ey_225
  refine lv_i2l hx hb d_Law_law_226 rfl ?_
  refine lv_bipush (v := 32) hx hb d_Law_law_227 (by decide) ?_
  refine lv_lshl hx hb d_Law_law_229 rfl ?_
  refine lv_aload_n hx hb d_Law_law_230 rfl (lv_at hl 0 rfl) ?_
  refine lv_iload hx hb d_Law_law_231 (lv_at hl 4 rfl) ?_
  refine lv_iconst (v := 3) hx hb d_Law_law_233 (by decide) ?_
  refine lv_iadd hx hb d_Law_law_234 ?_
  have h_235 : vp_in (x4 + 3) L := vinS 3 hL hi ex4 (by decide) (by decide)
  refine va_sld hx hb hX hbl hbA hS h_235 d_Law_law_235 ?_
  refine lv_topi (fun y_235 ey_235 => ?_)
  obtain rfl : y_235 = sx xs x4 3 := ey_235
  refine lv_i2l hx hb d_Law_law_236 rfl ?_
  refine lv_ldc2 (v := 4294967295) hx hb hown (hB _ kb_300) d_Law_law_237 ?_
  refine lv_land hx hb d_Law_law_240 ?_
  refine lv_lor hx hb d_Law_law_241 ?_
  refine lv_topl (fun y_241 ey_241 => ?_)
  obtain rfl : y_241 = jn (sx xs x4 2) (sx xs x4 3) := ey_241
  refine lv_aload_n hx hb d_Law_law_242 rfl (lv_at hl 0 rfl) ?_
  refine lv_iload hx hb d_Law_law_243 (lv_at hl 4 rfl) ?_
  refine lv_iconst (v := 4) hx hb d_Law_law_245 (by decide) ?_
  refine lv_iadd hx hb d_Law_law_246 ?_
  have h_247 : vp_in (x4 + 4) L := vinS 4 hL hi ex4 (by decide) (by decide)
  refine va_sld hx hb hX hbl hbA hS h_247 d_Law_law_247 ?_
  refine lv_topi (fun y_247 ey_247 => ?_)
  obtain rfl : y_247 = sx xs x4 4 := ey_247
  refine lv_i2l hx hb d_Law_law_248 rfl ?_
  refine lv_bipush (v := 32) hx hb d_Law_law_249 (by decide) ?_
  refine lv_lshl hx hb d_Law_law_251 rfl ?_
  refine lv_aload_n hx hb d_Law_law_252 rfl (lv_at hl 0 rfl) ?_
  refine lv_iload hx hb d_Law_law_253 (lv_at hl 4 rfl) ?_
  refine lv_iconst (v := 5) hx hb d_Law_law_255 (by decide) ?_
  refine lv_iadd hx hb d_Law_law_256 ?_
  have h_257 : vp_in (x4 + 5) L := vinS 5 hL hi ex4 (by decide) (by decide)
  refine va_sld hx hb hX hbl hbA hS h_257 d_Law_law_257 ?_
  refine lv_topi (fun y_257 ey_257 => ?_)
  obtain rfl : y_257 = sx xs x4 5 := ey_257
  refine lv_i2l hx hb d_Law_law_258 rfl ?_
  refine lv_ldc2 (v := 4294967295) hx hb hown (hB _ kb_300) d_Law_law_259 ?_
  refine lv_land hx hb d_Law_law_262 ?_
  refine lv_lor hx hb d_Law_law_263 ?_
  refine lv_topl (fun y_263 ey_263 => ?_)
  obtain rfl : y_263 = jn (sx xs x4 4) (sx xs x4 5) := ey_263
  refine kc_i (va_runV (As := [.int (sx xs x4 1), .long (jn (sx xs x4 2) (sx xs x4 3)), .long (jn (sx xs x4 4) (sx xs x4 5))]) (rest := []) ⟨hx, hb, hml, hown, hts⟩ (c_X_message l dC dI q0 k1 k2 k3 k4 k5 H.size pl told lv th ph di lm cu la en (sx xs x4 1) (jn (sx xs x4 2) (sx xs x4 3)) (jn (sx xs x4 4) (sx xs x4 5)) ) (cwV 3 hts (ginV kb_310 kb_311 kb_312 kb_7 kb_309) rfl rfl rfl (by decide +kernel) ⟨Nat.le_of_ble_eq_true rfl, Nat.le_of_ble_eq_true rfl⟩) (preV (ci := 5) (wc := [(q0, .inr (5, [.ref k1, .ref k2, .ref k3, .ref k4, .ref k5, .int pl])), (k1, .inr (0, [.long told])), (k2, .inr (1, [.int lv, .long th])), (k3, .inr (2, [.int ph, .int di, .long lm, .long cu, .long la, .long en]))]) hK hN hP hD [0, 1, 2, 3] rfl rfl (by decide) [] rfl rfl rfl) rfl rfl hl.1 rfl (lv_room (Nat.le_of_ble_eq_true rfl)) d_Law_law_264 ⟨room_c (by omega), room_s (by omega)⟩) hP hD hS hA [0, 1, 2, 3] [4, 5, 6, 7, 8, 9, 10, 11, 12, 13, 14, 15, 16] (wr := [(k4, .inr (3, [.ref a1, .ref a2, .ref a3, .int sp, .long lk])), (a1, .inl (e1, 1440, .inl f1)), (a2, .inl (e2, 1440, .inl f2)), (a3, .inl (e3, 1001, .inr (.inl f3))), (k5, .inr (4, [.ref a4, .int cn, .long to])), (a4, .inl (e4, 10, .inl f4)), (m0, .inr (6, [.int mco, .int mpi, .int msh, .int mlo, .int mph, .int mdi, .long mlm, .long men, .long mla, .long mcu, .long mnw, .int msp, .ref b1, .ref b2, .ref b3, .ref b4, .long mlk, .int mcs, .ref b5])), (b1, .inl (i1, 20, .inl g1)), (b2, .inl (i2, 20, .inl g2)), (b3, .inl (i3, 20, .inl g3)), (b4, .inl (i4, 1440, .inr (.inl g4))), (b5, .inl (i5, 11, .inl g5)), (o0, .inl (e9, 1, .inr (.inl fo)))]) rfl rfl (by decide) (by decide) (fun r_264 u_264 H locs hw_264 hP hD hK1 hS => ?_)
  obtain ⟨told2_264, ph2_264, di2_264, lm2_264, cu2_264, la2_264, en2_264⟩ := u_264
  have hw_264 : True := hw_264
  have hP : va_P (dC, dI) classes [(k4, .inr (3, [.ref a1, .ref a2, .ref a3, .int sp, .long lk])), (a1, .inl (e1, 1440, .inl f1)), (a2, .inl (e2, 1440, .inl f2)), (a3, .inl (e3, 1001, .inr (.inl f3))), (k5, .inr (4, [.ref a4, .int cn, .long to])), (a4, .inl (e4, 10, .inl f4)), (m0, .inr (6, [.int mco, .int mpi, .int msh, .int mlo, .int mph, .int mdi, .long mlm, .long men, .long mla, .long mcu, .long mnw, .int msp, .ref b1, .ref b2, .ref b3, .ref b4, .long mlk, .int mcs, .ref b5])), (b1, .inl (i1, 20, .inl g1)), (b2, .inl (i2, 20, .inl g2)), (b3, .inl (i3, 20, .inl g3)), (b4, .inl (i4, 1440, .inr (.inl g4))), (b5, .inl (i5, 11, .inl g5)), (o0, .inl (e9, 1, .inr (.inl fo))), (q0, .inr (5, [.ref k1, .ref k2, .ref k3, .ref k4, .ref k5, .int pl])), (k1, .inr (0, [.long told2_264])), (k2, .inr (1, [.int lv, .long th])), (k3, .inr (2, [.int ph2_264, .int di2_264, .long lm2_264, .long cu2_264, .long la2_264, .long en2_264]))] H := hP
  have hD : va_D (fun q : Nat => s.heap.size ≤ q) [(k4, .inr (3, [.ref a1, .ref a2, .ref a3, .int sp, .long lk])), (a1, .inl (e1, 1440, .inl f1)), (a2, .inl (e2, 1440, .inl f2)), (a3, .inl (e3, 1001, .inr (.inl f3))), (k5, .inr (4, [.ref a4, .int cn, .long to])), (a4, .inl (e4, 10, .inl f4)), (m0, .inr (6, [.int mco, .int mpi, .int msh, .int mlo, .int mph, .int mdi, .long mlm, .long men, .long mla, .long mcu, .long mnw, .int msp, .ref b1, .ref b2, .ref b3, .ref b4, .long mlk, .int mcs, .ref b5])), (b1, .inl (i1, 20, .inl g1)), (b2, .inl (i2, 20, .inl g2)), (b3, .inl (i3, 20, .inl g3)), (b4, .inl (i4, 1440, .inr (.inl g4))), (b5, .inl (i5, 11, .inl g5)), (o0, .inl (e9, 1, .inr (.inl fo))), (q0, .inr (5, [.ref k1, .ref k2, .ref k3, .ref k4, .ref k5, .int pl])), (k1, .inr (0, [.long told2_264])), (k2, .inr (1, [.int lv, .long th])), (k3, .inr (2, [.int ph2_264, .int di2_264, .long lm2_264, .long cu2_264, .long la2_264, .long en2_264]))] := hD
  refine lv_pop hx hb d_Law_law_267 rfl ?_
  refine lv_aload_n hx hb d_Law_law_268 rfl (lv_at hl 2 rfl) ?_
  refine lv_aload_n hx hb d_Law_law_269 rfl (lv_at hl 0 rfl) ?_
  refine lv_iload hx hb d_Law_law_270 (lv_at hl 4 rfl) ?_
  refine lv_iconst (v := 1) hx hb d_Law_law_272 (by decide) ?_
  refine lv_iadd hx hb d_Law_law_273 ?_
  have h_274 : vp_in (x4 + 1) L := vinS 1 hL hi ex4 (by decide) (by decide)
  refine va_sld hx hb hX hbl hbA hS h_274 d_Law_law_274 ?_
  refine lv_topi (fun y_274 ey_274 => ?_)
  obtain rfl : y_274 = sx xs x4 1 := ey_274
  refine lv_aload_n hx hb d_Law_law_275 rfl (lv_at hl 0 rfl) ?_
  refine lv_iload hx hb d_Law_law_276 (lv_at hl 4 rfl) ?_
  refine lv_iconst (v := 2) hx hb d_Law_law_278 (by decide) ?_
  refine lv_iadd hx hb d_Law_law_279 ?_
  have h_280 : vp_in (x4 + 2) L := vinS 2 hL hi ex4 (by decide) (by decide)
  refine va_sld hx hb hX hbl hbA hS h_280 d_Law_law_280 ?_
  refine lv_topi (fun y_280 ey_280 => ?_)
  obtain rfl : y_280 = sx xs x4 2 := ey_280
  refine lv_i2l hx hb d_Law_law_281 rfl ?_
  refine lv_bipush (v := 32) hx hb d_Law_law_282 (by decide) ?_
  refine lv_lshl hx hb d_Law_law_284 rfl ?_
  refine lv_aload_n hx hb d_Law_law_285 rfl (lv_at hl 0 rfl) ?_
  refine lv_iload hx hb d_Law_law_286 (lv_at hl 4 rfl) ?_
  refine lv_iconst (v := 3) hx hb d_Law_law_288 (by decide) ?_
  refine lv_iadd hx hb d_Law_law_289 ?_
  have h_290 : vp_in (x4 + 3) L := vinS 3 hL hi ex4 (by decide) (by decide)
  refine va_sld hx hb hX hbl hbA hS h_290 d_Law_law_290 ?_
  refine lv_topi (fun y_290 ey_290 => ?_)
  obtain rfl : y_290 = sx xs x4 3 := ey_290
  refine lv_i2l hx hb d_Law_law_291 rfl ?_
  refine lv_ldc2 (v := 4294967295) hx hb hown (hB _ kb_300) d_Law_law_292 ?_
  refine lv_land hx hb d_Law_law_295 ?_
  refine lv_lor hx hb d_Law_law_296 ?_
  refine lv_topl (fun y_296 ey_296 => ?_)
  obtain rfl : y_296 = jn (sx xs x4 2) (sx xs x4 3) := ey_296
  refine lv_aload_n hx hb d_Law_law_297 rfl (lv_at hl 0 rfl) ?_
  refine lv_iload hx hb d_Law_law_298 (lv_at hl 4 rfl) ?_
  refine lv_iconst (v := 4) hx hb d_Law_law_300 (by decide) ?_
  refine lv_iadd hx hb d_Law_law_301 ?_
  have h_302 : vp_in (x4 + 4) L := vinS 4 hL hi ex4 (by decide) (by decide)
  refine va_sld hx hb hX hbl hbA hS h_302 d_Law_law_302 ?_
  refine lv_topi (fun y_302 ey_302 => ?_)
  obtain rfl : y_302 = sx xs x4 4 := ey_302
  refine lv_i2l hx hb d_Law_law_303 rfl ?_
  refine lv_bipush (v := 32) hx hb d_Law_law_304 (by decide) ?_
  refine lv_lshl hx hb d_Law_law_306 rfl ?_
  refine lv_aload_n hx hb d_Law_law_307 rfl (lv_at hl 0 rfl) ?_
  refine lv_iload hx hb d_Law_law_308 (lv_at hl 4 rfl) ?_
  refine lv_iconst (v := 5) hx hb d_Law_law_310 (by decide) ?_
  refine lv_iadd hx hb d_Law_law_311 ?_
  have h_312 : vp_in (x4 + 5) L := vinS 5 hL hi ex4 (by decide) (by decide)
  refine va_sld hx hb hX hbl hbA hS h_312 d_Law_law_312 ?_
  refine lv_topi (fun y_312 ey_312 => ?_)
  obtain rfl : y_312 = sx xs x4 5 := ey_312
  refine lv_i2l hx hb d_Law_law_313 rfl ?_
  refine lv_ldc2 (v := 4294967295) hx hb hown (hB _ kb_300) d_Law_law_314 ?_
  refine lv_land hx hb d_Law_law_317 ?_
  refine lv_lor hx hb d_Law_law_318 ?_
  refine lv_topl (fun y_318 ey_318 => ?_)
  obtain rfl : y_318 = jn (sx xs x4 4) (sx xs x4 5) := ey_318
  refine kc_i (va_runV (As := [.int (sx xs x4 1), .long (jn (sx xs x4 2) (sx xs x4 3)), .long (jn (sx xs x4 4) (sx xs x4 5))]) (rest := []) ⟨hx, hb, hml, hown, hts⟩ (c_Mo_message l dC dI m0 b1 b2 b3 b4 b5 H.size mco mpi msh mlo mph mdi mlm men mla mcu mnw msp mlk mcs (sx xs x4 1) (jn (sx xs x4 2) (sx xs x4 3)) (jn (sx xs x4 4) (sx xs x4 5)) ) (cwV 3 hts (ginV kb_314 kb_315 kb_316 kb_251 kb_313) rfl rfl rfl (by decide +kernel) ⟨Nat.le_of_ble_eq_true rfl, Nat.le_of_ble_eq_true rfl⟩) (preV (ci := 6) (wc := [(m0, .inr (6, [.int mco, .int mpi, .int msh, .int mlo, .int mph, .int mdi, .long mlm, .long men, .long mla, .long mcu, .long mnw, .int msp, .ref b1, .ref b2, .ref b3, .ref b4, .long mlk, .int mcs, .ref b5]))]) hK hN hP hD [6] rfl rfl (by decide) [] rfl rfl rfl) rfl rfl hl.1 rfl (lv_room (Nat.le_of_ble_eq_true rfl)) d_Law_law_319 ⟨room_c (by omega), room_s (by omega)⟩) hP hD hS hA [6] [0, 1, 2, 3, 4, 5, 7, 8, 9, 10, 11, 12, 13, 14, 15, 16] (wr := [(k4, .inr (3, [.ref a1, .ref a2, .ref a3, .int sp, .long lk])), (a1, .inl (e1, 1440, .inl f1)), (a2, .inl (e2, 1440, .inl f2)), (a3, .inl (e3, 1001, .inr (.inl f3))), (k5, .inr (4, [.ref a4, .int cn, .long to])), (a4, .inl (e4, 10, .inl f4)), (b1, .inl (i1, 20, .inl g1)), (b2, .inl (i2, 20, .inl g2)), (b3, .inl (i3, 20, .inl g3)), (b4, .inl (i4, 1440, .inr (.inl g4))), (b5, .inl (i5, 11, .inl g5)), (o0, .inl (e9, 1, .inr (.inl fo))), (q0, .inr (5, [.ref k1, .ref k2, .ref k3, .ref k4, .ref k5, .int pl])), (k1, .inr (0, [.long told2_264])), (k2, .inr (1, [.int lv, .long th])), (k3, .inr (2, [.int ph2_264, .int di2_264, .long lm2_264, .long cu2_264, .long la2_264, .long en2_264]))]) rfl rfl (by decide) (by decide) (fun r_319 u_319 H locs hw_319 hP hD hK1 hS => ?_)
  obtain ⟨co2_319, ph2_319, di2_319, lm2_319, en2_319, la2_319, cu2_319, nw2_319⟩ := u_319
  have hw_319 : True := hw_319
  have hP : va_P (dC, dI) classes [(k4, .inr (3, [.ref a1, .ref a2, .ref a3, .int sp, .long lk])), (a1, .inl (e1, 1440, .inl f1)), (a2, .inl (e2, 1440, .inl f2)), (a3, .inl (e3, 1001, .inr (.inl f3))), (k5, .inr (4, [.ref a4, .int cn, .long to])), (a4, .inl (e4, 10, .inl f4)), (b1, .inl (i1, 20, .inl g1)), (b2, .inl (i2, 20, .inl g2)), (b3, .inl (i3, 20, .inl g3)), (b4, .inl (i4, 1440, .inr (.inl g4))), (b5, .inl (i5, 11, .inl g5)), (o0, .inl (e9, 1, .inr (.inl fo))), (q0, .inr (5, [.ref k1, .ref k2, .ref k3, .ref k4, .ref k5, .int pl])), (k1, .inr (0, [.long told2_264])), (k2, .inr (1, [.int lv, .long th])), (k3, .inr (2, [.int ph2_264, .int di2_264, .long lm2_264, .long cu2_264, .long la2_264, .long en2_264])), (m0, .inr (6, [.int co2_319, .int mpi, .int msh, .int mlo, .int ph2_319, .int di2_319, .long lm2_319, .long en2_319, .long la2_319, .long cu2_319, .long nw2_319, .int msp, .ref b1, .ref b2, .ref b3, .ref b4, .long mlk, .int mcs, .ref b5]))] H := hP
  have hD : va_D (fun q : Nat => s.heap.size ≤ q) [(k4, .inr (3, [.ref a1, .ref a2, .ref a3, .int sp, .long lk])), (a1, .inl (e1, 1440, .inl f1)), (a2, .inl (e2, 1440, .inl f2)), (a3, .inl (e3, 1001, .inr (.inl f3))), (k5, .inr (4, [.ref a4, .int cn, .long to])), (a4, .inl (e4, 10, .inl f4)), (b1, .inl (i1, 20, .inl g1)), (b2, .inl (i2, 20, .inl g2)), (b3, .inl (i3, 20, .inl g3)), (b4, .inl (i4, 1440, .inr (.inl g4))), (b5, .inl (i5, 11, .inl g5)), (o0, .inl (e9, 1, .inr (.inl fo))), (q0, .inr (5, [.ref k1, .ref k2, .ref k3, .ref k4, .ref k5, .int pl])), (k1, .inr (0, [.long told2_264])), (k2, .inr (1, [.int lv, .long th])), (k3, .inr (2, [.int ph2_264, .int di2_264, .long lm2_264, .long cu2_264, .long la2_264, .long en2_264])), (m0, .inr (6, [.int co2_319, .int mpi, .int msh, .int mlo, .int ph2_319, .int di2_319, .long lm2_319, .long en2_319, .long la2_319, .long cu2_319, .long nw2_319, .int msp, .ref b1, .ref b2, .ref b3, .ref b4, .long mlk, .int mcs, .ref b5]))] := hD
  refine lv_pop hx hb d_Law_law_322 rfl ?_
  refine lv_goto (tgt := 1004) hx hb d_Law_law_323 (by decide) ?_
  refine W.widen (k := cc + 1) (n := ss + 6) (by omega) (by omega) ?_
  exact kk pl told2_264 lv th ph2_264 di2_264 lm2_264 cu2_264 la2_264 en2_264 sp lk f1 f2 f3 cn to f4 co2_319 mpi msh mlo ph2_319 di2_319 lm2_319 en2_319 la2_319 cu2_319 nw2_319 msp mlk mcs g1 g2 g3 g4 g5 fo _ _ _ (hI) (hP.sub [12, 13, 14, 15, 0, 1, 2, 3, 4, 5, 16, 6, 7, 8, 9, 10, 11] rfl) (hD.sub [12, 13, 14, 15, 0, 1, 2, 3, 4, 5, 16, 6, 7, 8, 9, 10, 11] (by decide) rfl) hS (lv_sub hl [0, 1, 2, 3, 4] rfl)
