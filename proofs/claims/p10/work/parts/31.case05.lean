set_option maxHeartbeats 4000000 in
set_option maxRecDepth 100000 in
theorem law_case_5 {p : Program} {l : Launch} {e : Env} {s : State} {m : MethodId} {below : List Frame} {meth : Method} {c : Code} {dC : Nat → ClassId} {dI : Nat → Nat → Nat} {b L : Nat} {xs : Nat → Int32} (hst : l.stackTraces = false) (hL : L ≤ 3584) (C0 : lw_At p s m meth c b L xs) (i : Nat) (x4 : Int32) (hi : i + 7 ≤ L) (ex4 : x4 = nI i) (cc ss : Nat) (hcc : cc + 1 ≤ 1042) (hss : ss + 6 ≤ 13643) (q0 : Nat) (k1 : Nat) (k2 : Nat) (k3 : Nat) (k4 : Nat) (a1 : Nat) (a2 : Nat) (a3 : Nat) (k5 : Nat) (a4 : Nat) (m0 : Nat) (b1 : Nat) (b2 : Nat) (b3 : Nat) (b4 : Nat) (b5 : Nat) (o0 : Nat) (e1 : ClassId) (e2 : ClassId) (e3 : ClassId) (e4 : ClassId) (i1 : ClassId) (i2 : ClassId) (i3 : ClassId) (i4 : ClassId) (i5 : ClassId) (e9 : ClassId) (pl : Int32) (told : Int64) (lv : Int32) (th : Int64) (ph : Int32) (di : Int32) (lm : Int64) (cu : Int64) (la : Int64) (en : Int64) (sp : Int32) (lk : Int64) (f1 : Nat → Int32) (f2 : Nat → Int32) (f3 : Nat → Int64) (cn : Int32) (to : Int64) (f4 : Nat → Int32) (mco : Int32) (mpi : Int32) (msh : Int32) (mlo : Int32) (mph : Int32) (mdi : Int32) (mlm : Int64) (men : Int64) (mla : Int64) (mcu : Int64) (mnw : Int64) (msp : Int32) (mlk : Int64) (mcs : Int32) (g1 : Nat → Int32) (g2 : Nat → Int32) (g3 : Nat → Int32) (g4 : Nat → Int64) (g5 : Nat → Int32) (fo : Nat → Int64) (H : Heap) (locs : List Loc) (ls : Array Slot) (hI : linv lv mpi th msh sp msp cn mcs ∧ srel f4 to cn g5 ∧ erel f1 g1 g2 g3 msp.toInt.toNat ∧ lk = mlk ∧ frel f2 g4) (hK : va_K (dC, dI) classes [(e1, .int), (e2, .int), (e3, .long), (e4, .int), (i1, .int), (i2, .int), (i3, .int), (i4, .long), (i5, .int), (e9, .long)] s) (hP : va_P (dC, dI) classes [(q0, .inr (5, [.ref k1, .ref k2, .ref k3, .ref k4, .ref k5, .int pl])), (k1, .inr (0, [.long told])), (k2, .inr (1, [.int lv, .long th])), (k3, .inr (2, [.int ph, .int di, .long lm, .long cu, .long la, .long en])), (k4, .inr (3, [.ref a1, .ref a2, .ref a3, .int sp, .long lk])), (a1, .inl (e1, 1440, .inl f1)), (a2, .inl (e2, 1440, .inl f2)), (a3, .inl (e3, 1001, .inr (.inl f3))), (k5, .inr (4, [.ref a4, .int cn, .long to])), (a4, .inl (e4, 10, .inl f4)), (m0, .inr (6, [.int mco, .int mpi, .int msh, .int mlo, .int mph, .int mdi, .long mlm, .long men, .long mla, .long mcu, .long mnw, .int msp, .ref b1, .ref b2, .ref b3, .ref b4, .long mlk, .int mcs, .ref b5])), (b1, .inl (i1, 20, .inl g1)), (b2, .inl (i2, 20, .inl g2)), (b3, .inl (i3, 20, .inl g3)), (b4, .inl (i4, 1440, .inr (.inl g4))), (b5, .inl (i5, 11, .inl g5)), (o0, .inl (e9, 1, .inr (.inl fo)))] H) (hD : va_D (fun q : Nat => s.heap.size ≤ q) [(q0, .inr (5, [.ref k1, .ref k2, .ref k3, .ref k4, .ref k5, .int pl])), (k1, .inr (0, [.long told])), (k2, .inr (1, [.int lv, .long th])), (k3, .inr (2, [.int ph, .int di, .long lm, .long cu, .long la, .long en])), (k4, .inr (3, [.ref a1, .ref a2, .ref a3, .int sp, .long lk])), (a1, .inl (e1, 1440, .inl f1)), (a2, .inl (e2, 1440, .inl f2)), (a3, .inl (e3, 1001, .inr (.inl f3))), (k5, .inr (4, [.ref a4, .int cn, .long to])), (a4, .inl (e4, 10, .inl f4)), (m0, .inr (6, [.int mco, .int mpi, .int msh, .int mlo, .int mph, .int mdi, .long mlm, .long men, .long mla, .long mcu, .long mnw, .int msp, .ref b1, .ref b2, .ref b3, .ref b4, .long mlk, .int mcs, .ref b5])), (b1, .inl (i1, 20, .inl g1)), (b2, .inl (i2, 20, .inl g2)), (b3, .inl (i3, 20, .inl g3)), (b4, .inl (i4, 1440, .inr (.inl g4))), (b5, .inl (i5, 11, .inl g5)), (o0, .inl (e9, 1, .inr (.inl fo)))]) (hS : va_S (fun q : Nat => s.heap.size ≤ q) s.heap H locs) (hl : lv_has ls 8 [(0, .ref b), (1, .ref q0), (2, .ref m0), (3, .ref o0), (4, .int x4)]) (kk : ∀ (pl : Int32) (told : Int64) (lv : Int32) (th : Int64) (ph : Int32) (di : Int32) (lm : Int64) (cu : Int64) (la : Int64) (en : Int64) (sp : Int32) (lk : Int64) (f1 : Nat → Int32) (f2 : Nat → Int32) (f3 : Nat → Int64) (cn : Int32) (to : Int64) (f4 : Nat → Int32) (mco : Int32) (mpi : Int32) (msh : Int32) (mlo : Int32) (mph : Int32) (mdi : Int32) (mlm : Int64) (men : Int64) (mla : Int64) (mcu : Int64) (mnw : Int64) (msp : Int32) (mlk : Int64) (mcs : Int32) (g1 : Nat → Int32) (g2 : Nat → Int32) (g3 : Nat → Int32) (g4 : Nat → Int64) (g5 : Nat → Int32) (fo : Nat → Int64) (H : Heap) (locs : List Loc) (ls : Array Slot), linv lv mpi th msh sp msp cn mcs ∧ srel f4 to cn g5 ∧ erel f1 g1 g2 g3 msp.toInt.toNat ∧ lk = mlk ∧ frel f2 g4 → va_P (dC, dI) classes [(q0, .inr (5, [.ref k1, .ref k2, .ref k3, .ref k4, .ref k5, .int pl])), (k1, .inr (0, [.long told])), (k2, .inr (1, [.int lv, .long th])), (k3, .inr (2, [.int ph, .int di, .long lm, .long cu, .long la, .long en])), (k4, .inr (3, [.ref a1, .ref a2, .ref a3, .int sp, .long lk])), (a1, .inl (e1, 1440, .inl f1)), (a2, .inl (e2, 1440, .inl f2)), (a3, .inl (e3, 1001, .inr (.inl f3))), (k5, .inr (4, [.ref a4, .int cn, .long to])), (a4, .inl (e4, 10, .inl f4)), (m0, .inr (6, [.int mco, .int mpi, .int msh, .int mlo, .int mph, .int mdi, .long mlm, .long men, .long mla, .long mcu, .long mnw, .int msp, .ref b1, .ref b2, .ref b3, .ref b4, .long mlk, .int mcs, .ref b5])), (b1, .inl (i1, 20, .inl g1)), (b2, .inl (i2, 20, .inl g2)), (b3, .inl (i3, 20, .inl g3)), (b4, .inl (i4, 1440, .inr (.inl g4))), (b5, .inl (i5, 11, .inl g5)), (o0, .inl (e9, 1, .inr (.inl fo)))] H → va_D (fun q : Nat => s.heap.size ≤ q) [(q0, .inr (5, [.ref k1, .ref k2, .ref k3, .ref k4, .ref k5, .int pl])), (k1, .inr (0, [.long told])), (k2, .inr (1, [.int lv, .long th])), (k3, .inr (2, [.int ph, .int di, .long lm, .long cu, .long la, .long en])), (k4, .inr (3, [.ref a1, .ref a2, .ref a3, .int sp, .long lk])), (a1, .inl (e1, 1440, .inl f1)), (a2, .inl (e2, 1440, .inl f2)), (a3, .inl (e3, 1001, .inr (.inl f3))), (k5, .inr (4, [.ref a4, .int cn, .long to])), (a4, .inl (e4, 10, .inl f4)), (m0, .inr (6, [.int mco, .int mpi, .int msh, .int mlo, .int mph, .int mdi, .long mlm, .long men, .long mla, .long mcu, .long mnw, .int msp, .ref b1, .ref b2, .ref b3, .ref b4, .long mlk, .int mcs, .ref b5])), (b1, .inl (i1, 20, .inl g1)), (b2, .inl (i2, 20, .inl g2)), (b3, .inl (i3, 20, .inl g3)), (b4, .inl (i4, 1440, .inr (.inl g4))), (b5, .inl (i5, 11, .inl g5)), (o0, .inl (e9, 1, .inr (.inl fo)))] → va_S (fun q : Nat => s.heap.size ≤ q) s.heap H locs → lv_has ls 8 [(0, .ref b), (1, .ref q0), (2, .ref m0), (3, .ref o0), (4, .int x4)] → W p l e room_1 s m #[Value.ref b] below meth c H locs (cc + 1) (ss + 6) (lw_Z below #[Value.ref b] s) (F0 m 1004 ls [])) : W p l e room_1 s m #[Value.ref b] below meth c H locs cc ss (lw_Z below #[Value.ref b] s) (F0 m 437 ls []) := by
  obtain ⟨hx, hb, hr, hml, hown, hts0, hX, hbl, hlocks, hgv⟩ := C0
  have hB := law_big hts0
  have hts := law_ts hts0
  have hN := law_nst hts0
  have hA : ∀ q : Nat, s.heap.size ≤ q → (fun q : Nat => s.heap.size ≤ q) q := fun _ h => h
  have hbA : ¬ (fun q : Nat => s.heap.size ≤ q) b := Nat.not_le.mpr hbl
  refine lv_aload_n hx hb d_Law_law_437 rfl (lv_at hl 1 rfl) ?_
  refine lv_aload_n hx hb d_Law_law_438 rfl (lv_at hl 0 rfl) ?_
  refine lv_iload hx hb d_Law_law_439 (lv_at hl 4 rfl) ?_
  refine lv_iconst (v := 1) hx hb d_Law_law_441 (by decide) ?_
  refine lv_iadd hx hb d_Law_law_442 ?_
  have h_443 : vp_in (x4 + 1) L := vinS 1 hL hi ex4 (by decide) (by decide)
  refine va_sld hx hb hX hbl hbA hS h_443 d_Law_law_443 ?_
  refine lv_topi (fun y_443 ey_443 => ?_)
  obtain rfl : y_443 = sx xs x4 1 := ey_443
  refine lv_i2l hx hb d_Law_law_444 rfl ?_
  refine lv_bipush (v := 32) hx hb d_Law_law_445 (by decide) ?_
  refine lv_lshl hx hb d_Law_law_447 rfl ?_
  refine lv_aload_n hx hb d_Law_law_448 rfl (lv_at hl 0 rfl) ?_
  refine lv_iload hx hb d_Law_law_449 (lv_at hl 4 rfl) ?_
  refine lv_iconst (v := 2) hx hb d_Law_law_451 (by decide) ?_
  refine lv_iadd hx hb d_Law_law_452 ?_
  have h_453 : vp_in (x4 + 2) L := vinS 2 hL hi ex4 (by decide) (by decide)
  refine va_sld hx hb hX hbl hbA hS h_453 d_Law_law_453 ?_
  refine lv_topi (fun y_453 ey_453 => ?_)
  obtain rfl : y_453 = sx xs x4 2 := ey_453
  refine lv_i2l hx hb d_Law_law_454 rfl ?_
  refine lv_ldc2 (v := 4294967295) hx hb hown (hB _ kb_300) d_Law_law_455 ?_
  refine lv_land hx hb d_Law_law_458 ?_
  refine lv_lor hx hb d_Law_law_459 ?_
  refine lv_topl (fun y_459 ey_459 => ?_)
  obtain rfl : y_459 = jn (sx xs x4 1) (sx xs x4 2) := ey_459
  refine lv_aload_n hx hb d_Law_law_460 rfl (lv_at hl 0 rfl) ?_
  refine lv_iload hx hb d_Law_law_461 (lv_at hl 4 rfl) ?_
  refine lv_iconst (v := 3) hx hb d_Law_law_463 (by decide) ?_
  refine lv_iadd hx hb d_Law_law_464 ?_
  have h_465 : vp_in (x4 + 3) L := vinS 3 hL hi ex4 (by decide) (by decide)
  refine va_sld hx hb hX hbl hbA hS h_465 d_Law_law_465 ?_
  refine lv_topi (fun y_465 ey_465 => ?_)
  obtain rfl : y_465 = sx xs x4 3 := ey_465
  refine lv_i2l hx hb d_Law_law_466 rfl ?_
  refine lv_bipush (v := 32) hx hb d_Law_law_467 (by decide) ?_
  refine lv_lshl hx hb d_Law_law_469 rfl ?_
  refine lv_aload_n hx hb d_Law_law_470 rfl (lv_at hl 0 rfl) ?_
  refine lv_iload hx hb d_Law_law_471 (lv_at hl 4 rfl) ?_
  refine lv_iconst (v := 4) hx hb d_Law_law_473 (by decide) ?_
  refine lv_iadd hx hb d_Law_law_474 ?_
  have h_475 : vp_in (x4 + 4) L := vinS 4 hL hi ex4 (by decide) (by decide)
  refine va_sld hx hb hX hbl hbA hS h_475 d_Law_law_475 ?_
  refine lv_topi (fun y_475 ey_475 => ?_)
  obtain rfl : y_475 = sx xs x4 4 := ey_475
  refine lv_i2l hx hb d_Law_law_476 rfl ?_
  refine lv_ldc2 (v := 4294967295) hx hb hown (hB _ kb_300) d_Law_law_477 ?_
  refine lv_land hx hb d_Law_law_480 ?_
  refine lv_lor hx hb d_Law_law_481 ?_
  refine lv_topl (fun y_481 ey_481 => ?_)
  obtain rfl : y_481 = jn (sx xs x4 3) (sx xs x4 4) := ey_481
  refine kc_i (va_runV (As := [.long (jn (sx xs x4 1) (sx xs x4 2)), .long (jn (sx xs x4 3) (sx xs x4 4))]) (rest := []) ⟨hx, hb, hml, hown, hts⟩ (c_X_plan l dC dI q0 k1 k2 k3 k4 k5 a1 a2 a3 e1 e2 e3 H.size pl lv th sp lk f1 f2 f3 (jn (sx xs x4 1) (sx xs x4 2)) (jn (sx xs x4 3) (sx xs x4 4)) ) (cwV 2 hts (ginV kb_342 kb_343 kb_344 kb_7 kb_341) rfl rfl rfl (by decide +kernel) ⟨Nat.le_of_ble_eq_true rfl, Nat.le_of_ble_eq_true rfl⟩) (preV (ci := 5) (wc := [(q0, .inr (5, [.ref k1, .ref k2, .ref k3, .ref k4, .ref k5, .int pl])), (k2, .inr (1, [.int lv, .long th])), (k4, .inr (3, [.ref a1, .ref a2, .ref a3, .int sp, .long lk])), (a1, .inl (e1, 1440, .inl f1)), (a2, .inl (e2, 1440, .inl f2)), (a3, .inl (e3, 1001, .inr (.inl f3)))]) hK hN hP hD [0, 2, 4, 5, 6, 7] rfl rfl (by decide) [0, 1, 2] rfl rfl rfl) rfl rfl hl.1 rfl (lv_room (Nat.le_of_ble_eq_true rfl)) d_Law_law_482 ⟨room_c (by omega), room_s (by omega)⟩) hP hD hS hA [0, 2, 4, 5, 6, 7] [1, 3, 8, 9, 10, 11, 12, 13, 14, 15, 16] (wr := [(k1, .inr (0, [.long told])), (k3, .inr (2, [.int ph, .int di, .long lm, .long cu, .long la, .long en])), (k5, .inr (4, [.ref a4, .int cn, .long to])), (a4, .inl (e4, 10, .inl f4)), (m0, .inr (6, [.int mco, .int mpi, .int msh, .int mlo, .int mph, .int mdi, .long mlm, .long men, .long mla, .long mcu, .long mnw, .int msp, .ref b1, .ref b2, .ref b3, .ref b4, .long mlk, .int mcs, .ref b5])), (b1, .inl (i1, 20, .inl g1)), (b2, .inl (i2, 20, .inl g2)), (b3, .inl (i3, 20, .inl g3)), (b4, .inl (i4, 1440, .inr (.inl g4))), (b5, .inl (i5, 11, .inl g5)), (o0, .inl (e9, 1, .inr (.inl fo)))]) rfl rfl (by decide) (by decide) (fun r_482 u_482 H locs hw_482 hP hD hK1 hS => ?_)
  obtain ⟨lk2_482, f2b_482, f3b_482⟩ := u_482
  have hw_482 : (¬ plOk (jn (sx xs x4 1) (sx xs x4 2)) (jn (sx xs x4 3) (sx xs x4 4)) → r_482 = -2 ∧ lk2_482 = lk ∧ f2b_482 = f2) ∧ (plOk (jn (sx xs x4 1) (sx xs x4 2)) (jn (sx xs x4 3) (sx xs x4 4)) → plP f1 (ten lv th).toInt.toNat (jn (sx xs x4 3) (sx xs x4 4)).toInt.toNat (jn (sx xs x4 1) (sx xs x4 2)).toInt.toNat r_482 lk2_482 ∧ ∀ k : Nat, k < 1440 → f2b_482 k = nI (Un f1 (ten lv th).toInt.toNat (jn (sx xs x4 3) (sx xs x4 4)).toInt.toNat (jn (sx xs x4 1) (sx xs x4 2)).toInt.toNat k)) := hw_482
  have hP : va_P (dC, dI) classes [(k1, .inr (0, [.long told])), (k3, .inr (2, [.int ph, .int di, .long lm, .long cu, .long la, .long en])), (k5, .inr (4, [.ref a4, .int cn, .long to])), (a4, .inl (e4, 10, .inl f4)), (m0, .inr (6, [.int mco, .int mpi, .int msh, .int mlo, .int mph, .int mdi, .long mlm, .long men, .long mla, .long mcu, .long mnw, .int msp, .ref b1, .ref b2, .ref b3, .ref b4, .long mlk, .int mcs, .ref b5])), (b1, .inl (i1, 20, .inl g1)), (b2, .inl (i2, 20, .inl g2)), (b3, .inl (i3, 20, .inl g3)), (b4, .inl (i4, 1440, .inr (.inl g4))), (b5, .inl (i5, 11, .inl g5)), (o0, .inl (e9, 1, .inr (.inl fo))), (q0, .inr (5, [.ref k1, .ref k2, .ref k3, .ref k4, .ref k5, .int pl])), (k2, .inr (1, [.int lv, .long th])), (k4, .inr (3, [.ref a1, .ref a2, .ref a3, .int sp, .long lk2_482])), (a1, .inl (e1, 1440, .inl f1)), (a2, .inl (e2, 1440, .inl f2b_482)), (a3, .inl (e3, 1001, .inr (.inl f3b_482)))] H := hP
  have hD : va_D (fun q : Nat => s.heap.size ≤ q) [(k1, .inr (0, [.long told])), (k3, .inr (2, [.int ph, .int di, .long lm, .long cu, .long la, .long en])), (k5, .inr (4, [.ref a4, .int cn, .long to])), (a4, .inl (e4, 10, .inl f4)), (m0, .inr (6, [.int mco, .int mpi, .int msh, .int mlo, .int mph, .int mdi, .long mlm, .long men, .long mla, .long mcu, .long mnw, .int msp, .ref b1, .ref b2, .ref b3, .ref b4, .long mlk, .int mcs, .ref b5])), (b1, .inl (i1, 20, .inl g1)), (b2, .inl (i2, 20, .inl g2)), (b3, .inl (i3, 20, .inl g3)), (b4, .inl (i4, 1440, .inr (.inl g4))), (b5, .inl (i5, 11, .inl g5)), (o0, .inl (e9, 1, .inr (.inl fo))), (q0, .inr (5, [.ref k1, .ref k2, .ref k3, .ref k4, .ref k5, .int pl])), (k2, .inr (1, [.int lv, .long th])), (k4, .inr (3, [.ref a1, .ref a2, .ref a3, .int sp, .long lk2_482])), (a1, .inl (e1, 1440, .inl f1)), (a2, .inl (e2, 1440, .inl f2b_482)), (a3, .inl (e3, 1001, .inr (.inl f3b_482)))] := hD
  refine lv_pop hx hb d_Law_law_485 rfl ?_
  refine lv_aload_n hx hb d_Law_law_486 rfl (lv_at hl 2 rfl) ?_
  refine lv_aload_n hx hb d_Law_law_487 rfl (lv_at hl 0 rfl) ?_
  refine lv_iload hx hb d_Law_law_488 (lv_at hl 4 rfl) ?_
  refine lv_iconst (v := 1) hx hb d_Law_law_490 (by decide) ?_
  refine lv_iadd hx hb d_Law_law_491 ?_
  have h_492 : vp_in (x4 + 1) L := vinS 1 hL hi ex4 (by decide) (by decide)
  refine va_sld hx hb hX hbl hbA hS h_492 d_Law_law_492 ?_
  refine lv_topi (fun y_492 ey_492 => ?_)
  obtain rfl : y_492 = sx xs x4 1 := ey_492
  refine lv_i2l hx hb d_Law_law_493 rfl ?_
  refine lv_bipush (v := 32) hx hb d_Law_law_494 (by decide) ?_
  refine lv_lshl hx hb d_Law_law_496 rfl ?_
  refine lv_aload_n hx hb d_Law_law_497 rfl (lv_at hl 0 rfl) ?_
  refine lv_iload hx hb d_Law_law_498 (lv_at hl 4 rfl) ?_
  refine lv_iconst (v := 2) hx hb d_Law_law_500 (by decide) ?_
  refine lv_iadd hx hb d_Law_law_501 ?_
  have h_502 : vp_in (x4 + 2) L := vinS 2 hL hi ex4 (by decide) (by decide)
  refine va_sld hx hb hX hbl hbA hS h_502 d_Law_law_502 ?_
  refine lv_topi (fun y_502 ey_502 => ?_)
  obtain rfl : y_502 = sx xs x4 2 := ey_502
  refine lv_i2l hx hb d_Law_law_503 rfl ?_
  refine lv_ldc2 (v := 4294967295) hx hb hown (hB _ kb_300) d_Law_law_504 ?_
  refine lv_land hx hb d_Law_law_507 ?_
  refine lv_lor hx hb d_Law_law_508 ?_
  refine lv_topl (fun y_508 ey_508 => ?_)
  obtain rfl : y_508 = jn (sx xs x4 1) (sx xs x4 2) := ey_508
  refine lv_aload_n hx hb d_Law_law_509 rfl (lv_at hl 0 rfl) ?_
  refine lv_iload hx hb d_Law_law_510 (lv_at hl 4 rfl) ?_
  refine lv_iconst (v := 3) hx hb d_Law_law_512 (by decide) ?_
  refine lv_iadd hx hb d_Law_law_513 ?_
  have h_514 : vp_in (x4 + 3) L := vinS 3 hL hi ex4 (by decide) (by decide)
  refine va_sld hx hb hX hbl hbA hS h_514 d_Law_law_514 ?_
  refine lv_topi (fun y_514 ey_514 => ?_)
  obtain rfl : y_514 = sx xs x4 3 := ey_514
  refine lv_i2l hx hb d_Law_law_515 rfl ?_
  refine lv_bipush (v := 32) hx hb d_Law_law_516 (by decide) ?_
  refine lv_lshl hx hb d_Law_law_518 rfl ?_
  refine lv_aload_n hx hb d_Law_law_519 rfl (lv_at hl 0 rfl) ?_
  refine lv_iload hx hb d_Law_law_520 (lv_at hl 4 rfl) ?_
  refine lv_iconst (v := 4) hx hb d_Law_law_522 (by decide) ?_
  refine lv_iadd hx hb d_Law_law_523 ?_
  have h_524 : vp_in (x4 + 4) L := vinS 4 hL hi ex4 (by decide) (by decide)
  refine va_sld hx hb hX hbl hbA hS h_524 d_Law_law_524 ?_
  refine lv_topi (fun y_524 ey_524 => ?_)
  obtain rfl : y_524 = sx xs x4 4 := ey_524
  refine lv_i2l hx hb d_Law_law_525 rfl ?_
  refine lv_ldc2 (v := 4294967295) hx hb hown (hB _ kb_300) d_Law_law_526 ?_
  refine lv_land hx hb d_Law_law_529 ?_
  refine lv_lor hx hb d_Law_law_530 ?_
  refine lv_topl (fun y_530 ey_530 => ?_)
  obtain rfl : y_530 = jn (sx xs x4 3) (sx xs x4 4) := ey_530
  refine kc_i (va_runV (As := [.long (jn (sx xs x4 1) (sx xs x4 2)), .long (jn (sx xs x4 3) (sx xs x4 4))]) (rest := []) ⟨hx, hb, hml, hown, hts⟩ (c_Mo_plan l dC dI m0 b1 b2 b3 b4 b5 i1 i2 i3 i4 H.size mco mpi msh mlo mph mdi mlm men mla mcu mnw msp mlk mcs g1 g2 g3 g4 (jn (sx xs x4 1) (sx xs x4 2)) (jn (sx xs x4 3) (sx xs x4 4)) (by rw [← hI.1.2.1.1]; exact hI.1.2.1.2.1) (by rw [← hI.1.2.1.1]; exact hI.1.2.1.2.2)) (cwV 2 hts (ginV kb_346 kb_347 kb_348 kb_251 kb_345) rfl rfl rfl (by decide +kernel) ⟨Nat.le_of_ble_eq_true rfl, Nat.le_of_ble_eq_true rfl⟩) (preV (ci := 6) (wc := [(m0, .inr (6, [.int mco, .int mpi, .int msh, .int mlo, .int mph, .int mdi, .long mlm, .long men, .long mla, .long mcu, .long mnw, .int msp, .ref b1, .ref b2, .ref b3, .ref b4, .long mlk, .int mcs, .ref b5])), (b1, .inl (i1, 20, .inl g1)), (b2, .inl (i2, 20, .inl g2)), (b3, .inl (i3, 20, .inl g3)), (b4, .inl (i4, 1440, .inr (.inl g4)))]) hK hN hP hD [4, 5, 6, 7, 8] rfl rfl (by decide) [4, 5, 6, 7] rfl rfl rfl) rfl rfl hl.1 rfl (lv_room (Nat.le_of_ble_eq_true rfl)) d_Law_law_531 ⟨room_c (by omega), room_s (by omega)⟩) hP hD hS hA [4, 5, 6, 7, 8] [0, 1, 2, 3, 9, 10, 11, 12, 13, 14, 15, 16] (wr := [(k1, .inr (0, [.long told])), (k3, .inr (2, [.int ph, .int di, .long lm, .long cu, .long la, .long en])), (k5, .inr (4, [.ref a4, .int cn, .long to])), (a4, .inl (e4, 10, .inl f4)), (b5, .inl (i5, 11, .inl g5)), (o0, .inl (e9, 1, .inr (.inl fo))), (q0, .inr (5, [.ref k1, .ref k2, .ref k3, .ref k4, .ref k5, .int pl])), (k2, .inr (1, [.int lv, .long th])), (k4, .inr (3, [.ref a1, .ref a2, .ref a3, .int sp, .long lk2_482])), (a1, .inl (e1, 1440, .inl f1)), (a2, .inl (e2, 1440, .inl f2b_482)), (a3, .inl (e3, 1001, .inr (.inl f3b_482)))]) rfl rfl (by decide) (by decide) (fun r_531 u_531 H locs hw_531 hP hD hK1 hS => ?_)
  obtain ⟨co2_531, lk2_531, g4b_531⟩ := u_531
  have hw_531 : (¬ plOk (jn (sx xs x4 1) (sx xs x4 2)) (jn (sx xs x4 3) (sx xs x4 4)) → r_531 = -2 ∧ lk2_531 = mlk ∧ g4b_531 = g4) ∧ (plOk (jn (sx xs x4 1) (sx xs x4 2)) (jn (sx xs x4 3) (sx xs x4 4)) → plP (fun k => pof g1 g2 g3 (nI k) msp.toInt.toNat) (tem mpi msh).toInt.toNat (jn (sx xs x4 3) (sx xs x4 4)).toInt.toNat (jn (sx xs x4 1) (sx xs x4 2)).toInt.toNat r_531 lk2_531 ∧ ∀ k : Nat, k < 1440 → g4b_531 k = lN (Un (fun k => pof g1 g2 g3 (nI k) msp.toInt.toNat) (tem mpi msh).toInt.toNat (jn (sx xs x4 3) (sx xs x4 4)).toInt.toNat (jn (sx xs x4 1) (sx xs x4 2)).toInt.toNat k)) := hw_531
  have hP : va_P (dC, dI) classes [(k1, .inr (0, [.long told])), (k3, .inr (2, [.int ph, .int di, .long lm, .long cu, .long la, .long en])), (k5, .inr (4, [.ref a4, .int cn, .long to])), (a4, .inl (e4, 10, .inl f4)), (b5, .inl (i5, 11, .inl g5)), (o0, .inl (e9, 1, .inr (.inl fo))), (q0, .inr (5, [.ref k1, .ref k2, .ref k3, .ref k4, .ref k5, .int pl])), (k2, .inr (1, [.int lv, .long th])), (k4, .inr (3, [.ref a1, .ref a2, .ref a3, .int sp, .long lk2_482])), (a1, .inl (e1, 1440, .inl f1)), (a2, .inl (e2, 1440, .inl f2b_482)), (a3, .inl (e3, 1001, .inr (.inl f3b_482))), (m0, .inr (6, [.int co2_531, .int mpi, .int msh, .int mlo, .int mph, .int mdi, .long mlm, .long men, .long mla, .long mcu, .long mnw, .int msp, .ref b1, .ref b2, .ref b3, .ref b4, .long lk2_531, .int mcs, .ref b5])), (b1, .inl (i1, 20, .inl g1)), (b2, .inl (i2, 20, .inl g2)), (b3, .inl (i3, 20, .inl g3)), (b4, .inl (i4, 1440, .inr (.inl g4b_531)))] H := hP
  have hD : va_D (fun q : Nat => s.heap.size ≤ q) [(k1, .inr (0, [.long told])), (k3, .inr (2, [.int ph, .int di, .long lm, .long cu, .long la, .long en])), (k5, .inr (4, [.ref a4, .int cn, .long to])), (a4, .inl (e4, 10, .inl f4)), (b5, .inl (i5, 11, .inl g5)), (o0, .inl (e9, 1, .inr (.inl fo))), (q0, .inr (5, [.ref k1, .ref k2, .ref k3, .ref k4, .ref k5, .int pl])), (k2, .inr (1, [.int lv, .long th])), (k4, .inr (3, [.ref a1, .ref a2, .ref a3, .int sp, .long lk2_482])), (a1, .inl (e1, 1440, .inl f1)), (a2, .inl (e2, 1440, .inl f2b_482)), (a3, .inl (e3, 1001, .inr (.inl f3b_482))), (m0, .inr (6, [.int co2_531, .int mpi, .int msh, .int mlo, .int mph, .int mdi, .long mlm, .long men, .long mla, .long mcu, .long mnw, .int msp, .ref b1, .ref b2, .ref b3, .ref b4, .long lk2_531, .int mcs, .ref b5])), (b1, .inl (i1, 20, .inl g1)), (b2, .inl (i2, 20, .inl g2)), (b3, .inl (i3, 20, .inl g3)), (b4, .inl (i4, 1440, .inr (.inl g4b_531)))] := hD
  refine lv_pop hx hb d_Law_law_534 rfl ?_
  refine lv_goto (tgt := 1004) hx hb d_Law_law_535 (by decide) ?_
  refine W.widen (k := cc + 1) (n := ss + 6) (by omega) (by omega) ?_
  exact kk pl told lv th ph di lm cu la en sp lk2_482 f1 f2b_482 f3b_482 cn to f4 co2_531 mpi msh mlo mph mdi mlm men mla mcu mnw msp lk2_531 mcs g1 g2 g3 g4b_531 g5 fo _ _ _ (⟨hI.1, hI.2.1, hI.2.2.1, (plan_eq hI.2.2.1 (alo hI.1.1 rfl rfl) (ten_b lv th) hw_482 hw_531).2.1 hI.2.2.2.1, (plan_eq hI.2.2.1 (alo hI.1.1 rfl rfl) (ten_b lv th) hw_482 hw_531).2.2 hI.2.2.2.2⟩) (hP.sub [6, 0, 7, 1, 8, 9, 10, 11, 2, 3, 12, 13, 14, 15, 16, 4, 5] rfl) (hD.sub [6, 0, 7, 1, 8, 9, 10, 11, 2, 3, 12, 13, 14, 15, 16, 4, 5] (by decide) rfl) hS (lv_sub hl [0, 1, 2, 3, 4] rfl)
