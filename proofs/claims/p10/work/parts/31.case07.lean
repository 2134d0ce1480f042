set_option maxHeartbeats 4000000 in
set_option maxRecDepth 100000 in
theorem law_case_7 {p : Program} {l : Launch} {e : Env} {s : State} {m : MethodId} {below : List Frame} {meth : Method} {c : Code} {dC : Nat → ClassId} {dI : Nat → Nat → Nat} {b L : Nat} {xs : Nat → Int32} (hst : l.stackTraces = false) (hL : L ≤ 3584) (C0 : lw_At p s m meth c b L xs) (i : Nat) (x4 : Int32) (hi : i + 7 ≤ L) (ex4 : x4 = nI i) (cc ss : Nat) (hcc : cc + 1 ≤ 1042) (hss : ss + 6 ≤ 13643) (q0 : Nat) (k1 : Nat) (k2 : Nat) (k3 : Nat) (k4 : Nat) (a1 : Nat) (a2 : Nat) (a3 : Nat) (k5 : Nat) (a4 : Nat) (m0 : Nat) (b1 : Nat) (b2 : Nat) (b3 : Nat) (b4 : Nat) (b5 : Nat) (o0 : Nat) (e1 : ClassId) (e2 : ClassId) (e3 : ClassId) (e4 : ClassId) (i1 : ClassId) (i2 : ClassId) (i3 : ClassId) (i4 : ClassId) (i5 : ClassId) (e9 : ClassId) (pl : Int32) (told : Int64) (lv : Int32) (th : Int64) (ph : Int32) (di : Int32) (lm : Int64) (cu : Int64) (la : Int64) (en : Int64) (sp : Int32) (lk : Int64) (f1 : Nat → Int32) (f2 : Nat → Int32) (f3 : Nat → Int64) (cn : Int32) (to : Int64) (f4 : Nat → Int32) (mco : Int32) (mpi : Int32) (msh : Int32) (mlo : Int32) (mph : Int32) (mdi : Int32) (mlm : Int64) (men : Int64) (mla : Int64) (mcu : Int64) (mnw : Int64) (msp : Int32) (mlk : Int64) (mcs : Int32) (g1 : Nat → Int32) (g2 : Nat → Int32) (g3 : Nat → Int32) (g4 : Nat → Int64) (g5 : Nat → Int32) (fo : Nat → Int64) (H : Heap) (locs : List Loc) (ls : Array Slot) (hI : linv lv mpi th msh sp msp cn mcs ∧ srel f4 to cn g5 ∧ erel f1 g1 g2 g3 msp.toInt.toNat ∧ lk = mlk ∧ frel f2 g4) (hK : va_K (dC, dI) classes [(e1, .int), (e2, .int), (e3, .long), (e4, .int), (i1, .int), (i2, .int), (i3, .int), (i4, .long), (i5, .int), (e9, .long)] s) (hP : va_P (dC, dI) classes [(q0, .inr (5, [.ref k1, .ref k2, .ref k3, .ref k4, .ref k5, .int pl])), (k1, .inr (0, [.long told])), (k2, .inr (1, [.int lv, .long th])), (k3, .inr (2, [.int ph, .int di, .long lm, .long cu, .long la, .long en])), (k4, .inr (3, [.ref a1, .ref a2, .ref a3, .int sp, .long lk])), (a1, .inl (e1, 1440, .inl f1)), (a2, .inl (e2, 1440, .inl f2)), (a3, .inl (e3, 1001, .inr (.inl f3))), (k5, .inr (4, [.ref a4, .int cn, .long to])), (a4, .inl (e4, 10, .inl f4)), (m0, .inr (6, [.int mco, .int mpi, .int msh, .int mlo, .int mph, .int mdi, .long mlm, .long men, .long mla, .long mcu, .long mnw, .int msp, .ref b1, .ref b2, .ref b3, .ref b4, .long mlk, .int mcs, .ref b5])), (b1, .inl (i1, 20, .inl g1)), (b2, .inl (i2, 20, .inl g2)), (b3, .inl (i3, 20, .inl g3)), (b4, .inl (i4, 1440, .inr (.inl g4))), (b5, .inl (i5, 11, .inl g5)), (o0, .inl (e9, 1, .inr (.inl fo)))] H) (hD : va_D (fun q : Nat => s.heap.size ≤ q) [(q0, .inr (5, [.ref k1, .ref k2, .ref k3, .ref k4, .ref k5, .int pl])), (k1, .inr (0, [.long told])), (k2, .inr (1, [.int lv, .long th])), (k3, .inr (2, [.int ph, .int di, .long lm, .long cu, .long la, .long en])), (k4, .inr (3, [.ref a1, .ref a2, .ref a3, .int sp, .long lk])), (a1, .inl (e1, 1440, .inl f1)), (a2, .inl (e2, 1440, .inl f2)), (a3, .inl (e3, 1001, .inr (.inl f3))), (k5, .inr (4, [.ref a4, .int cn, .long to])), (a4, .inl (e4, 10, .inl f4)), (m0, .inr (6, [.int mco, .int mpi, .int msh, .int mlo, .int mph, .int mdi, .long mlm, .long men, .long mla, .long mcu, .long mnw, .int msp, .ref b1, .ref b2, .ref b3, .ref b4, .long mlk, .int mcs, .ref b5])), (b1, .inl (i1, 20, .inl g1)), (b2, .inl (i2, 20, .inl g2)), (b3, .inl (i3, 20, .inl g3)), (b4, .inl (i4, 1440, .inr (.inl g4))), (b5, .inl (i5, 11, .inl g5)), (o0, .inl (e9, 1, .inr (.inl fo)))]) (hS : va_S (fun q : Nat => s.heap.size ≤ q) s.heap H locs) (hl : lv_has ls 8 [(0, .ref b), (1, .ref q0), (2, .ref m0), (3, .ref o0), (4, .int x4)]) (kk : ∀ (pl : Int32) (told : Int64) (lv : Int32) (th : Int64) (ph : Int32) (di : Int32) (lm : Int64) (cu : Int64) (la : Int64) (en : Int64) (sp : Int32) (lk : Int64) (f1 : Nat → Int32) (f2 : Nat → Int32) (f3 : Nat → Int64) (cn : Int32) (to : Int64) (f4 : Nat → Int32) (mco : Int32) (mpi : Int32) (msh : Int32) (mlo : Int32) (mph : Int32) (mdi : Int32) (mlm : Int64) (men : Int64) (mla : Int64) (mcu : Int64) (mnw : Int64) (msp : Int32) (mlk : Int64) (mcs : Int32) (g1 : Nat → Int32) (g2 : Nat → Int32) (g3 : Nat → Int32) (g4 : Nat → Int64) (g5 : Nat → Int32) (fo : Nat → Int64) (H : Heap) (locs : List Loc) (ls : Array Slot), linv lv mpi th msh sp msp cn mcs ∧ srel f4 to cn g5 ∧ erel f1 g1 g2 g3 msp.toInt.toNat ∧ lk = mlk ∧ frel f2 g4 → va_P (dC, dI) classes [(q0, .inr (5, [.ref k1, .ref k2, .ref k3, .ref k4, .ref k5, .int pl])), (k1, .inr (0, [.long told])), (k2, .inr (1, [.int lv, .long th])), (k3, .inr (2, [.int ph, .int di, .long lm, .long cu, .long la, .long en])), (k4, .inr (3, [.ref a1, .ref a2, .ref a3, .int sp, .long lk])), (a1, .inl (e1, 1440, .inl f1)), (a2, .inl (e2, 1440, .inl f2)), (a3, .inl (e3, 1001, .inr (.inl f3))), (k5, .inr (4, [.ref a4, .int cn, .long to])), (a4, .inl (e4, 10, .inl f4)), (m0, .inr (6, [.int mco, .int mpi, .int msh, .int mlo, .int mph, .int mdi, .long mlm, .long men, .long mla, .long mcu, .long mnw, .int msp, .ref b1, .ref b2, .ref b3, .ref b4, .long mlk, .int mcs, .ref b5])), (b1, .inl (i1, 20, .inl g1)), (b2, .inl (i2, 20, .inl g2)), (b3, .inl (i3, 20, .inl g3)), (b4, .inl (i4, 1440, .inr (.inl g4))), (b5, .inl (i5, 11, .inl g5)), (o0, .inl (e9, 1, .inr (.inl fo)))] H → va_D (fun q : Nat => s.heap.size ≤ q) [(q0, .inr (5, [.ref k1, .ref k2, .ref k3, .ref k4, .ref k5, .int pl])), (k1, .inr (0, [.long told])), (k2, .inr (1, [.int lv, .long th])), (k3, .inr (2, [.int ph, .int di, .long lm, .long cu, .long la, .long en])), (k4, .inr (3, [.ref a1, .ref a2, .ref a3, .int sp, .long lk])), (a1, .inl (e1, 1440, .inl f1)), (a2, .inl (e2, 1440, .inl f2)), (a3, .inl (e3, 1001, .inr (.inl f3))), (k5, .inr (4, [.ref a4, .int cn, .long to])), (a4, .inl (e4, 10, .inl f4)), (m0, .inr (6, [.int mco, .int mpi, .int msh, .int mlo, .int mph, .int mdi, .long mlm, .long men, .long mla, .long mcu, .long mnw, .int msp, .ref b1, .ref b2, .ref b3, .ref b4, .long mlk, .int mcs, .ref b5])), (b1, .inl (i1, 20, .inl g1)), (b2, .inl (i2, 20, .inl g2)), (b3, .inl (i3, 20, .inl g3)), (b4, .inl (i4, 1440, .inr (.inl g4))), (b5, .inl (i5, 11, .inl g5)), (o0, .inl (e9, 1, .inr (.inl fo)))] → va_S (fun q : Nat => s.heap.size ≤ q) s.heap H locs → lv_has ls 8 [(0, .ref b), (1, .ref q0), (2, .ref m0), (3, .ref o0), (4, .int x4)] → W p l e room_1 s m #[Value.ref b] below meth c H locs (cc + 1) (ss + 6) (lw_Z below #[Value.ref b] s) (F0 m 1004 ls [])) : W p l e room_1 s m #[Value.ref b] below meth c H locs cc ss (lw_Z below #[Value.ref b] s) (F0 m 551 ls []) := by
  obtain ⟨hx, hb, hr, hml, hown, hts0, hX, hbl, hlocks, hgv⟩ := C0
  have hB := law_big hts0
  have hts := law_ts hts0
  have hN := law_nst hts0
  have hA : ∀ q : Nat, s.heap.size ≤ q → (fun q : Nat => s.heap.size ≤ q) q := fun _ h => h
  have hbA : ¬ (fun q : Nat => s.heap.size ≤ q) b := Nat.not_le.mpr hbl
  refine lv_aload_n hx hb d_Law_law_551 rfl (lv_at hl 1 rfl) ?_
  refine lv_aload_n hx hb d_Law_law_552 rfl (lv_at hl 0 rfl) ?_
  refine lv_iload hx hb d_Law_law_553 (lv_at hl 4 rfl) ?_
  refine lv_iconst (v := 1) hx hb d_Law_law_555 (by decide) ?_
  refine lv_iadd hx hb d_Law_law_556 ?_
  have h_557 : vp_in (x4 + 1) L := vinS 1 hL hi ex4 (by decide) (by decide)
  refine va_sld hx hb hX hbl hbA hS h_557 d_Law_law_557 ?_
  refine lv_topi (fun y_557 ey_557 => ?_)
  obtain rfl : y_557 = sx xs x4 1 := ey_557
  refine lv_i2l hx hb d_Law_law_558 rfl ?_
  refine lv_bipush (v := 32) hx hb d_Law_law_559 (by decide) ?_
  refine lv_lshl hx hb d_Law_law_561 rfl ?_
  refine lv_aload_n hx hb d_Law_law_562 rfl (lv_at hl 0 rfl) ?_
  refine lv_iload hx hb d_Law_law_563 (lv_at hl 4 rfl) ?_
  refine lv_iconst (v := 2) hx hb d_Law_law_565 (by decide) ?_
  refine lv_iadd hx hb d_Law_law_566 ?_
  have h_567 : vp_in (x4 + 2) L := vinS 2 hL hi ex4 (by decide) (by decide)
  refine va_sld hx hb hX hbl hbA hS h_567 d_Law_law_567 ?_
  refine lv_topi (fun y_567 ey_567 => ?_)
  obtain rfl : y_567 = sx xs x4 2 := ey_567
  refine lv_i2l hx hb d_Law_law_568 rfl ?_
  refine lv_ldc2 (v := 4294967295) hx hb hown (hB _ kb_300) d_Law_law_569 ?_
  refine lv_land hx hb d_Law_law_572 ?_
  refine lv_lor hx hb d_Law_law_573 ?_
  refine lv_topl (fun y_573 ey_573 => ?_)
  obtain rfl : y_573 = jn (sx xs x4 1) (sx xs x4 2) := ey_573
  refine lv_aload_n hx hb d_Law_law_574 rfl (lv_at hl 0 rfl) ?_
  refine lv_iload hx hb d_Law_law_575 (lv_at hl 4 rfl) ?_
  refine lv_iconst (v := 3) hx hb d_Law_law_577 (by decide) ?_
  refine lv_iadd hx hb d_Law_law_578 ?_
  have h_579 : vp_in (x4 + 3) L := vinS 3 hL hi ex4 (by decide) (by decide)
  refine va_sld hx hb hX hbl hbA hS h_579 d_Law_law_579 ?_
  refine lv_topi (fun y_579 ey_579 => ?_)
  obtain rfl : y_579 = sx xs x4 3 := ey_579
  refine lv_i2l hx hb d_Law_law_580 rfl ?_
  refine lv_bipush (v := 32) hx hb d_Law_law_581 (by decide) ?_
  refine lv_lshl hx hb d_Law_law_583 rfl ?_
  refine lv_aload_n hx hb d_Law_law_584 rfl (lv_at hl 0 rfl) ?_
  refine lv_iload hx hb d_Law_law_585 (lv_at hl 4 rfl) ?_
  refine lv_iconst (v := 4) hx hb d_Law_law_587 (by decide) ?_
  refine lv_iadd hx hb d_Law_law_588 ?_
  have h_589 : vp_in (x4 + 4) L := vinS 4 hL hi ex4 (by decide) (by decide)
  refine va_sld hx hb hX hbl hbA hS h_589 d_Law_law_589 ?_
  refine lv_topi (fun y_589 ey_589 => ?_)
  obtain rfl : y_589 = sx xs x4 4 := ey_589
  refine lv_i2l hx hb d_Law_law_590 rfl ?_
  refine lv_ldc2 (v := 4294967295) hx hb hown (hB _ kb_300) d_Law_law_591 ?_
  refine lv_land hx hb d_Law_law_594 ?_
  refine lv_lor hx hb d_Law_law_595 ?_
  refine lv_topl (fun y_595 ey_595 => ?_)
  obtain rfl : y_595 = jn (sx xs x4 3) (sx xs x4 4) := ey_595
  refine lv_aload_n hx hb d_Law_law_596 rfl (lv_at hl 0 rfl) ?_
  refine lv_iload hx hb d_Law_law_597 (lv_at hl 4 rfl) ?_
  refine lv_iconst (v := 5) hx hb d_Law_law_599 (by decide) ?_
  refine lv_iadd hx hb d_Law_law_600 ?_
  have h_601 : vp_in (x4 + 5) L := vinS 5 hL hi ex4 (by decide) (by decide)
  refine va_sld hx hb hX hbl hbA hS h_601 d_Law_law_601 ?_
  refine lv_topi (fun y_601 ey_601 => ?_)
  obtain rfl : y_601 = sx xs x4 5 := ey_601
  refine lv_i2l hx hb d_Law_law_602 rfl ?_
  refine lv_bipush (v := 32) hx hb d_Law_law_603 (by decide) ?_
  refine lv_lshl hx hb d_Law_law_605 rfl ?_
  refine lv_aload_n hx hb d_Law_law_606 rfl (lv_at hl 0 rfl) ?_
  refine lv_iload hx hb d_Law_law_607 (lv_at hl 4 rfl) ?_
  refine lv_bipush (v := 6) hx hb d_Law_law_609 (by decide) ?_
  refine lv_iadd hx hb d_Law_law_611 ?_
  have h_612 : vp_in (x4 + 6) L := vinS 6 hL hi ex4 (by decide) (by decide)
  refine va_sld hx hb hX hbl hbA hS h_612 d_Law_law_612 ?_
  refine lv_topi (fun y_612 ey_612 => ?_)
  obtain rfl : y_612 = sx xs x4 6 := ey_612
  refine lv_i2l hx hb d_Law_law_613 rfl ?_
  refine lv_ldc2 (v := 4294967295) hx hb hown (hB _ kb_300) d_Law_law_614 ?_
  refine lv_land hx hb d_Law_law_617 ?_
  refine lv_lor hx hb d_Law_law_618 ?_
  refine lv_topl (fun y_618 ey_618 => ?_)
  obtain rfl : y_618 = jn (sx xs x4 5) (sx xs x4 6) := ey_618
  refine kc_i (va_runV (As := [.long (jn (sx xs x4 1) (sx xs x4 2)), .long (jn (sx xs x4 3) (sx xs x4 4)), .long (jn (sx xs x4 5) (sx xs x4 6))]) (rest := []) ⟨hx, hb, hml, hown, hts⟩ (c_X_price l dC dI q0 k1 k2 k3 k4 k5 a1 a2 a3 e1 H.size pl sp lk f1 (jn (sx xs x4 1) (sx xs x4 2)) (jn (sx xs x4 3) (sx xs x4 4)) (jn (sx xs x4 5) (sx xs x4 6)) ) (cwV 3 hts (ginV kb_358 kb_359 kb_360 kb_7 kb_357) rfl rfl rfl (by decide +kernel) ⟨Nat.le_of_ble_eq_true rfl, Nat.le_of_ble_eq_true rfl⟩) (preV (ci := 5) (wc := [(q0, .inr (5, [.ref k1, .ref k2, .ref k3, .ref k4, .ref k5, .int pl])), (k4, .inr (3, [.ref a1, .ref a2, .ref a3, .int sp, .long lk])), (a1, .inl (e1, 1440, .inl f1))]) hK hN hP hD [0, 4, 5] rfl rfl (by decide) [0] rfl rfl rfl) rfl rfl hl.1 rfl (lv_room (Nat.le_of_ble_eq_true rfl)) d_Law_law_619 ⟨room_c (by omega), room_s (by omega)⟩) hP hD hS hA [0, 4, 5] [1, 2, 3, 6, 7, 8, 9, 10, 11, 12, 13, 14, 15, 16] (wr := [(k1, .inr (0, [.long told])), (k2, .inr (1, [.int lv, .long th])), (k3, .inr (2, [.int ph, .int di, .long lm, .long cu, .long la, .long en])), (a2, .inl (e2, 1440, .inl f2)), (a3, .inl (e3, 1001, .inr (.inl f3))), (k5, .inr (4, [.ref a4, .int cn, .long to])), (a4, .inl (e4, 10, .inl f4)), (m0, .inr (6, [.int mco, .int mpi, .int msh, .int mlo, .int mph, .int mdi, .long mlm, .long men, .long mla, .long mcu, .long mnw, .int msp, .ref b1, .ref b2, .ref b3, .ref b4, .long mlk, .int mcs, .ref b5])), (b1, .inl (i1, 20, .inl g1)), (b2, .inl (i2, 20, .inl g2)), (b3, .inl (i3, 20, .inl g3)), (b4, .inl (i4, 1440, .inr (.inl g4))), (b5, .inl (i5, 11, .inl g5)), (o0, .inl (e9, 1, .inr (.inl fo)))]) rfl rfl (by decide) (by decide) (fun r_619 u_619 H locs hw_619 hP hD hK1 hS => ?_)
  obtain ⟨sp2_619, f1b_619⟩ := u_619
  have hw_619 : (¬ prOk (jn (sx xs x4 1) (sx xs x4 2)) (jn (sx xs x4 3) (sx xs x4 4)) (jn (sx xs x4 5) (sx xs x4 6)) → r_619 = -2 ∧ sp2_619 = sp ∧ f1b_619 = f1) ∧ (prOk (jn (sx xs x4 1) (sx xs x4 2)) (jn (sx xs x4 3) (sx xs x4 4)) (jn (sx xs x4 5) (sx xs x4 6)) → 20 ≤ sp → r_619 = -4 ∧ sp2_619 = sp ∧ f1b_619 = f1) ∧ (prOk (jn (sx xs x4 1) (sx xs x4 2)) (jn (sx xs x4 3) (sx xs x4 4)) (jn (sx xs x4 5) (sx xs x4 6)) → ¬ 20 ≤ sp → r_619 = sp + 1 ∧ sp2_619 = sp + 1 ∧ ∀ k : Nat, f1b_619 k = if (jn (sx xs x4 1) (sx xs x4 2)).toInt ≤ k ∧ (k : Int) < (jn (sx xs x4 3) (sx xs x4 4)).toInt then (jn (sx xs x4 5) (sx xs x4 6)).toInt32 else f1 k) := hw_619
  have hP : va_P (dC, dI) classes [(k1, .inr (0, [.long told])), (k2, .inr (1, [.int lv, .long th])), (k3, .inr (2, [.int ph, .int di, .long lm, .long cu, .long la, .long en])), (a2, .inl (e2, 1440, .inl f2)), (a3, .inl (e3, 1001, .inr (.inl f3))), (k5, .inr (4, [.ref a4, .int cn, .long to])), (a4, .inl (e4, 10, .inl f4)), (m0, .inr (6, [.int mco, .int mpi, .int msh, .int mlo, .int mph, .int mdi, .long mlm, .long men, .long mla, .long mcu, .long mnw, .int msp, .ref b1, .ref b2, .ref b3, .ref b4, .long mlk, .int mcs, .ref b5])), (b1, .inl (i1, 20, .inl g1)), (b2, .inl (i2, 20, .inl g2)), (b3, .inl (i3, 20, .inl g3)), (b4, .inl (i4, 1440, .inr (.inl g4))), (b5, .inl (i5, 11, .inl g5)), (o0, .inl (e9, 1, .inr (.inl fo))), (q0, .inr (5, [.ref k1, .ref k2, .ref k3, .ref k4, .ref k5, .int pl])), (k4, .inr (3, [.ref a1, .ref a2, .ref a3, .int sp2_619, .long lk])), (a1, .inl (e1, 1440, .inl f1b_619))] H := hP
  have hD : va_D (fun q : Nat => s.heap.size ≤ q) [(k1, .inr (0, [.long told])), (k2, .inr (1, [.int lv, .long th])), (k3, .inr (2, [.int ph, .int di, .long lm, .long cu, .long la, .long en])), (a2, .inl (e2, 1440, .inl f2)), (a3, .inl (e3, 1001, .inr (.inl f3))), (k5, .inr (4, [.ref a4, .int cn, .long to])), (a4, .inl (e4, 10, .inl f4)), (m0, .inr (6, [.int mco, .int mpi, .int msh, .int mlo, .int mph, .int mdi, .long mlm, .long men, .long mla, .long mcu, .long mnw, .int msp, .ref b1, .ref b2, .ref b3, .ref b4, .long mlk, .int mcs, .ref b5])), (b1, .inl (i1, 20, .inl g1)), (b2, .inl (i2, 20, .inl g2)), (b3, .inl (i3, 20, .inl g3)), (b4, .inl (i4, 1440, .inr (.inl g4))), (b5, .inl (i5, 11, .inl g5)), (o0, .inl (e9, 1, .inr (.inl fo))), (q0, .inr (5, [.ref k1, .ref k2, .ref k3, .ref k4, .ref k5, .int pl])), (k4, .inr (3, [.ref a1, .ref a2, .ref a3, .int sp2_619, .long lk])), (a1, .inl (e1, 1440, .inl f1b_619))] := hD
  refine lv_pop hx hb d_Law_law_622 rfl ?_
  refine lv_aload_n hx hb d_Law_law_623 rfl (lv_at hl 2 rfl) ?_
  refine lv_aload_n hx hb d_Law_law_624 rfl (lv_at hl 0 rfl) ?_
  refine lv_iload hx hb d_Law_law_625 (lv_at hl 4 rfl) ?_
  refine lv_iconst (v := 1) hx hb d_Law_law_627 (by decide) ?_
  refine lv_iadd hx hb d_Law_law_628 ?_
  have h_629 : vp_in (x4 + 1) L := vinS 1 hL hi ex4 (by decide) (by decide)
  refine va_sld hx hb hX hbl hbA hS h_629 d_Law_law_629 ?_
  refine lv_topi (fun y_629 ey_629 => ?_)
  obtain rfl : y_629 = sx xs x4 1 := ey_629
  refine lv_i2l hx hb d_Law_law_630 rfl ?_
  refine lv_bipush (v := 32) hx hb d_Law_law_631 (by decide) ?_
  refine lv_lshl hx hb d_Law_law_633 rfl ?_
  refine lv_aload_n hx hb d_Law_law_634 rfl (lv_at hl 0 rfl) ?_
  refine lv_iload hx hb d_Law_law_635 (lv_at hl 4 rfl) ?_
  refine lv_iconst (v := 2) hx hb d_Law_law_637 (by decide) ?_
  refine lv_iadd hx hb d_Law_law_638 ?_
  have h_639 : vp_in (x4 + 2) L := vinS 2 hL hi ex4 (by decide) (by decide)
  refine va_sld hx hb hX hbl hbA hS h_639 d_Law_law_639 ?_
  refine lv_topi (fun y_639 ey_639 => ?_)
  obtain rfl : y_639 = sx xs x4 2 := ey_639
  refine lv_i2l hx hb d_Law_law_640 rfl ?_
  refine lv_ldc2 (v := 4294967295) hx hb hown (hB _ kb_300) d_Law_law_641 ?_
  refine lv_land hx hb d_Law_law_644 ?_
  refine lv_lor hx hb d_Law_law_645 ?_
  refine lv_topl (fun y_645 ey_645 => ?_)
  obtain rfl : y_645 = jn (sx xs x4 1) (sx xs x4 2) := ey_645
  refine lv_aload_n hx hb d_Law_law_646 rfl (lv_at hl 0 rfl) ?_
  refine lv_iload hx hb d_Law_law_647 (lv_at hl 4 rfl) ?_
  refine lv_iconst (v := 3) hx hb d_Law_law_649 (by decide) ?_
  refine lv_iadd hx hb d_Law_law_650 ?_
  have h_651 : vp_in (x4 + 3) L := vinS 3 hL hi ex4 (by decide) (by decide)
  refine va_sld hx hb hX hbl hbA hS h_651 d_Law_law_651 ?_
  refine lv_topi (fun y_651 ey_651 => ?_)
  obtain rfl : y_651 = sx xs x4 3 := ey_651
  refine lv_i2l hx hb d_Law_law_652 rfl ?_
  refine lv_bipush (v := 32) hx hb d_Law_law_653 (by decide) ?_
  refine lv_lshl hx hb d_Law_law_655 rfl ?_
  refine lv_aload_n hx hb d_Law_law_656 rfl (lv_at hl 0 rfl) ?_
  refine lv_iload hx hb d_Law_law_657 (lv_at hl 4 rfl) ?_
  refine lv_iconst (v := 4) hx hb d_Law_law_659 (by decide) ?_
  refine lv_iadd hx hb d_Law_law_660 ?_
  have h_661 : vp_in (x4 + 4) L := vinS 4 hL hi ex4 (by decide) (by decide)
  refine va_sld hx hb hX hbl hbA hS h_661 d_Law_law_661 ?_
  refine lv_topi (fun y_661 ey_661 => ?_)
  obtain rfl : y_661 = sx xs x4 4 := ey_661
  refine lv_i2l hx hb d_Law_law_662 rfl ?_
  refine lv_ldc2 (v := 4294967295) hx hb hown (hB _ kb_300) d_Law_law_663 ?_
  refine lv_land hx hb d_Law_law_666 ?_
  refine lv_lor hx hb d_Law_law_667 ?_
  refine lv_topl (fun y_667 ey_667 => ?_)
  obtain rfl : y_667 = jn (sx xs x4 3) (sx xs x4 4) := ey_667
  refine lv_aload_n hx hb d_Law_law_668 rfl (lv_at hl 0 rfl) ?_
  refine lv_iload hx hb d_Law_law_669 (lv_at hl 4 rfl) ?_
  refine lv_iconst (v := 5) hx hb d_Law_law_671 (by decide) ?_
  refine lv_iadd hx hb d_Law_law_672 ?_
  have h_673 : vp_in (x4 + 5) L := vinS 5 hL hi ex4 (by decide) (by decide)
  refine va_sld hx hb hX hbl hbA hS h_673 d_Law_law_673 ?_
  refine lv_topi (fun y_673 ey_673 => ?_)
  obtain rfl : y_673 = sx xs x4 5 := ey_673
  refine lv_i2l hx hb d_Law_law_674 rfl ?_
  refine lv_bipush (v := 32) hx hb d_Law_law_675 (by decide) ?_
  refine lv_lshl hx hb d_Law_law_677 rfl ?_
  refine lv_aload_n hx hb d_Law_law_678 rfl (lv_at hl 0 rfl) ?_
  refine lv_iload hx hb d_Law_law_679 (lv_at hl 4 rfl) ?_
  refine lv_bipush (v := 6) hx hb d_Law_law_681 (by decide) ?_
  refine lv_iadd hx hb d_Law_law_683 ?_
  have h_684 : vp_in (x4 + 6) L := vinS 6 hL hi ex4 (by decide) (by decide)
  refine va_sld hx hb hX hbl hbA hS h_684 d_Law_law_684 ?_
  refine lv_topi (fun y_684 ey_684 => ?_)
  obtain rfl : y_684 = sx xs x4 6 := ey_684
  refine lv_i2l hx hb d_Law_law_685 rfl ?_
  refine lv_ldc2 (v := 4294967295) hx hb hown (hB _ kb_300) d_Law_law_686 ?_
  refine lv_land hx hb d_Law_law_689 ?_
  refine lv_lor hx hb d_Law_law_690 ?_
  refine lv_topl (fun y_690 ey_690 => ?_)
  obtain rfl : y_690 = jn (sx xs x4 5) (sx xs x4 6) := ey_690
  refine kc_i (va_runV (As := [.long (jn (sx xs x4 1) (sx xs x4 2)), .long (jn (sx xs x4 3) (sx xs x4 4)), .long (jn (sx xs x4 5) (sx xs x4 6))]) (rest := []) ⟨hx, hb, hml, hown, hts⟩ (c_Mo_price l dC dI m0 b1 b2 b3 b4 b5 i1 i2 i3 H.size mco mpi msh mlo mph mdi mlm men mla mcu mnw msp mlk mcs g1 g2 g3 (jn (sx xs x4 1) (sx xs x4 2)) (jn (sx xs x4 3) (sx xs x4 4)) (jn (sx xs x4 5) (sx xs x4 6)) (by rw [← hI.1.2.1.1]; exact hI.1.2.1.2.1) (by rw [← hI.1.2.1.1]; exact hI.1.2.1.2.2)) (cwV 3 hts (ginV kb_362 kb_363 kb_364 kb_251 kb_361) rfl rfl rfl (by decide +kernel) ⟨Nat.le_of_ble_eq_true rfl, Nat.le_of_ble_eq_true rfl⟩) (preV (ci := 6) (wc := [(m0, .inr (6, [.int mco, .int mpi, .int msh, .int mlo, .int mph, .int mdi, .long mlm, .long men, .long mla, .long mcu, .long mnw, .int msp, .ref b1, .ref b2, .ref b3, .ref b4, .long mlk, .int mcs, .ref b5])), (b1, .inl (i1, 20, .inl g1)), (b2, .inl (i2, 20, .inl g2)), (b3, .inl (i3, 20, .inl g3))]) hK hN hP hD [7, 8, 9, 10] rfl rfl (by decide) [4, 5, 6] rfl rfl rfl) rfl rfl hl.1 rfl (lv_room (Nat.le_of_ble_eq_true rfl)) d_Law_law_691 ⟨room_c (by omega), room_s (by omega)⟩) hP hD hS hA [7, 8, 9, 10] [0, 1, 2, 3, 4, 5, 6, 11, 12, 13, 14, 15, 16] (wr := [(k1, .inr (0, [.long told])), (k2, .inr (1, [.int lv, .long th])), (k3, .inr (2, [.int ph, .int di, .long lm, .long cu, .long la, .long en])), (a2, .inl (e2, 1440, .inl f2)), (a3, .inl (e3, 1001, .inr (.inl f3))), (k5, .inr (4, [.ref a4, .int cn, .long to])), (a4, .inl (e4, 10, .inl f4)), (b4, .inl (i4, 1440, .inr (.inl g4))), (b5, .inl (i5, 11, .inl g5)), (o0, .inl (e9, 1, .inr (.inl fo))), (q0, .inr (5, [.ref k1, .ref k2, .ref k3, .ref k4, .ref k5, .int pl])), (k4, .inr (3, [.ref a1, .ref a2, .ref a3, .int sp2_619, .long lk])), (a1, .inl (e1, 1440, .inl f1b_619))]) rfl rfl (by decide) (by decide) (fun r_691 u_691 H locs hw_691 hP hD hK1 hS => ?_)
  obtain ⟨co2_691, sp2_691, g1b_691, g2b_691, g3b_691⟩ := u_691
  have hw_691 : (¬ mrOk (jn (sx xs x4 1) (sx xs x4 2)) (jn (sx xs x4 3) (sx xs x4 4)) (jn (sx xs x4 5) (sx xs x4 6)) → r_691 = -2 ∧ sp2_691 = msp ∧ g1b_691 = g1 ∧ g2b_691 = g2 ∧ g3b_691 = g3) ∧ (mrOk (jn (sx xs x4 1) (sx xs x4 2)) (jn (sx xs x4 3) (sx xs x4 4)) (jn (sx xs x4 5) (sx xs x4 6)) → msp = 20 → r_691 = -4 ∧ sp2_691 = msp ∧ g1b_691 = g1 ∧ g2b_691 = g2 ∧ g3b_691 = g3) ∧ (mrOk (jn (sx xs x4 1) (sx xs x4 2)) (jn (sx xs x4 3) (sx xs x4 4)) (jn (sx xs x4 5) (sx xs x4 6)) → ¬ msp = 20 → r_691 = msp + 1 ∧ sp2_691 = msp + 1 ∧ g1b_691 = upd g1 msp.toNatClampNeg (jn (sx xs x4 1) (sx xs x4 2)).toInt32 ∧ g2b_691 = upd g2 msp.toNatClampNeg (jn (sx xs x4 3) (sx xs x4 4)).toInt32 ∧ g3b_691 = upd g3 msp.toNatClampNeg (jn (sx xs x4 5) (sx xs x4 6)).toInt32) := hw_691
  have hP : va_P (dC, dI) classes [(k1, .inr (0, [.long told])), (k2, .inr (1, [.int lv, .long th])), (k3, .inr (2, [.int ph, .int di, .long lm, .long cu, .long la, .long en])), (a2, .inl (e2, 1440, .inl f2)), (a3, .inl (e3, 1001, .inr (.inl f3))), (k5, .inr (4, [.ref a4, .int cn, .long to])), (a4, .inl (e4, 10, .inl f4)), (b4, .inl (i4, 1440, .inr (.inl g4))), (b5, .inl (i5, 11, .inl g5)), (o0, .inl (e9, 1, .inr (.inl fo))), (q0, .inr (5, [.ref k1, .ref k2, .ref k3, .ref k4, .ref k5, .int pl])), (k4, .inr (3, [.ref a1, .ref a2, .ref a3, .int sp2_619, .long lk])), (a1, .inl (e1, 1440, .inl f1b_619)), (m0, .inr (6, [.int co2_691, .int mpi, .int msh, .int mlo, .int mph, .int mdi, .long mlm, .long men, .long mla, .long mcu, .long mnw, .int sp2_691, .ref b1, .ref b2, .ref b3, .ref b4, .long mlk, .int mcs, .ref b5])), (b1, .inl (i1, 20, .inl g1b_691)), (b2, .inl (i2, 20, .inl g2b_691)), (b3, .inl (i3, 20, .inl g3b_691))] H := hP
  have hD : va_D (fun q : Nat => s.heap.size ≤ q) [(k1, .inr (0, [.long told])), (k2, .inr (1, [.int lv, .long th])), (k3, .inr (2, [.int ph, .int di, .long lm, .long cu, .long la, .long en])), (a2, .inl (e2, 1440, .inl f2)), (a3, .inl (e3, 1001, .inr (.inl f3))), (k5, .inr (4, [.ref a4, .int cn, .long to])), (a4, .inl (e4, 10, .inl f4)), (b4, .inl (i4, 1440, .inr (.inl g4))), (b5, .inl (i5, 11, .inl g5)), (o0, .inl (e9, 1, .inr (.inl fo))), (q0, .inr (5, [.ref k1, .ref k2, .ref k3, .ref k4, .ref k5, .int pl])), (k4, .inr (3, [.ref a1, .ref a2, .ref a3, .int sp2_619, .long lk])), (a1, .inl (e1, 1440, .inl f1b_619)), (m0, .inr (6, [.int co2_691, .int mpi, .int msh, .int mlo, .int mph, .int mdi, .long mlm, .long men, .long mla, .long mcu, .long mnw, .int sp2_691, .ref b1, .ref b2, .ref b3, .ref b4, .long mlk, .int mcs, .ref b5])), (b1, .inl (i1, 20, .inl g1b_691)), (b2, .inl (i2, 20, .inl g2b_691)), (b3, .inl (i3, 20, .inl g3b_691))] := hD
  refine lv_pop hx hb d_Law_law_694 rfl ?_
  refine lv_goto (tgt := 1004) hx hb d_Law_law_695 (by decide) ?_
  refine W.widen (k := cc + 1) (n := ss + 6) (by omega) (by omega) ?_
  exact kk pl told lv th ph di lm cu la en sp2_619 lk f1b_619 f2 f3 cn to f4 co2_691 mpi msh mlo mph mdi mlm men mla mcu mnw sp2_691 mlk mcs g1b_691 g2b_691 g3b_691 g4 g5 fo _ _ _ (⟨⟨hI.1.1, (pri hI.1.2.1 hw_619 hw_691).1.2, hI.1.2.2⟩, hI.2.1, (pri hI.1.2.1 hw_619 hw_691).2 hI.2.2.1, hI.2.2.2⟩) (hP.sub [10, 0, 1, 2, 11, 12, 3, 4, 5, 6, 13, 14, 15, 16, 7, 8, 9] rfl) (hD.sub [10, 0, 1, 2, 11, 12, 3, 4, 5, 6, 13, 14, 15, 16, 7, 8, 9] (by decide) rfl) hS (lv_sub hl [0, 1, 2, 3, 4] rfl)
