set_option maxHeartbeats 4000000 in
set_option maxRecDepth 100000 in
theorem law_case_9 {p : Program} {l : Launch} {e : Env} {s : State} {m : MethodId} {below : List Frame} {meth : Method} {c : Code} {dC : Nat → ClassId} {dI : Nat → Nat → Nat} {b L : Nat} {xs : Nat → Int32} (hst : l.stackTraces = false) (hL : L ≤ 3584) (C0 : lw_At p s m meth c b L xs) (i : Nat) (x4 : Int32) (hi : i + 7 ≤ L) (ex4 : x4 = nI i) (cc ss : Nat) (hcc : cc + 1 ≤ 1042) (hss : ss + 6 ≤ 13643) (q0 : Nat) (k1 : Nat) (k2 : Nat) (k3 : Nat) (k4 : Nat) (a1 : Nat) (a2 : Nat) (a3 : Nat) (k5 : Nat) (a4 : Nat) (m0 : Nat) (b1 : Nat) (b2 : Nat) (b3 : Nat) (b4 : Nat) (b5 : Nat) (o0 : Nat) (e1 : ClassId) (e2 : ClassId) (e3 : ClassId) (e4 : ClassId) (i1 : ClassId) (i2 : ClassId) (i3 : ClassId) (i4 : ClassId) (i5 : ClassId) (e9 : ClassId) (pl : Int32) (told : Int64) (lv : Int32) (th : Int64) (ph : Int32) (di : Int32) (lm : Int64) (cu : Int64) (la : Int64) (en : Int64) (sp : Int32) (lk : Int64) (f1 : Nat → Int32) (f2 : Nat → Int32) (f3 : Nat → Int64) (cn : Int32) (to : Int64) (f4 : Nat → Int32) (mco : Int32) (mpi : Int32) (msh : Int32) (mlo : Int32) (mph : Int32) (mdi : Int32) (mlm : Int64) (men : Int64) (mla : Int64) (mcu : Int64) (mnw : Int64) (msp : Int32) (mlk : Int64) (mcs : Int32) (g1 : Nat → Int32) (g2 : Nat → Int32) (g3 : Nat → Int32) (g4 : Nat → Int64) (g5 : Nat → Int32) (fo : Nat → Int64) (H : Heap) (locs : List Loc) (ls : Array Slot) (hI : linv lv mpi th msh sp msp cn mcs ∧ srel f4 to cn g5 ∧ erel f1 g1 g2 g3 msp.toInt.toNat ∧ lk = mlk ∧ frel f2 g4) (hK : va_K (dC, dI) classes [(e1, .int), (e2, .int), (e3, .long), (e4, .int), (i1, .int), (i2, .int), (i3, .int), (i4, .long), (i5, .int), (e9, .long)] s) (hP : va_P (dC, dI) classes [(q0, .inr (5, [.ref k1, .ref k2, .ref k3, .ref k4, .ref k5, .int pl])), (k1, .inr (0, [.long told])), (k2, .inr (1, [.int lv, .long th])), (k3, .inr (2, [.int ph, .int di, .long lm, .long cu, .long la, .long en])), (k4, .inr (3, [.ref a1, .ref a2, .ref a3, .int sp, .long lk])), (a1, .inl (e1, 1440, .inl f1)), (a2, .inl (e2, 1440, .inl f2)), (a3, .inl (e3, 1001, .inr (.inl f3))), (k5, .inr (4, [.ref a4, .int cn, .long to])), (a4, .inl (e4, 10, .inl f4)), (m0, .inr (6, [.int mco, .int mpi, .int msh, .int mlo, .int mph, .int mdi, .long mlm, .long men, .long mla, .long mcu, .long mnw, .int msp, .ref b1, .ref b2, .ref b3, .ref b4, .long mlk, .int mcs, .ref b5])), (b1, .inl (i1, 20, .inl g1)), (b2, .inl (i2, 20, .inl g2)), (b3, .inl (i3, 20, .inl g3)), (b4, .inl (i4, 1440, .inr (.inl g4))), (b5, .inl (i5, 11, .inl g5)), (o0, .inl (e9, 1, .inr (.inl fo)))] H) (hD : va_D (fun q : Nat => s.heap.size ≤ q) [(q0, .inr (5, [.ref k1, .ref k2, .ref k3, .ref k4, .ref k5, .int pl])), (k1, .inr (0, [.long told])), (k2, .inr (1, [.int lv, .long th])), (k3, .inr (2, [.int ph, .int di, .long lm, .long cu, .long la, .long en])), (k4, .inr (3, [.ref a1, .ref a2, .ref a3, .int sp, .long lk])), (a1, .inl (e1, 1440, .inl f1)), (a2, .inl (e2, 1440, .inl f2)), (a3, .inl (e3, 1001, .inr (.inl f3))), (k5, .inr (4, [.ref a4, .int cn, .long to])), (a4, .inl (e4, 10, .inl f4)), (m0, .inr (6, [.int mco, .int mpi, .int msh, .int mlo, .int mph, .int mdi, .long mlm, .long men, .long mla, .long mcu, .long mnw, .int msp, .ref b1, .ref b2, .ref b3, .ref b4, .long mlk, .int mcs, .ref b5])), (b1, .inl (i1, 20, .inl g1)), (b2, .inl (i2, 20, .inl g2)), (b3, .inl (i3, 20, .inl g3)), (b4, .inl (i4, 1440, .inr (.inl g4))), (b5, .inl (i5, 11, .inl g5)), (o0, .inl (e9, 1, .inr (.inl fo)))]) (hS : va_S (fun q : Nat => s.heap.size ≤ q) s.heap H locs) (hl : lv_has ls 8 [(0, .ref b), (1, .ref q0), (2, .ref m0), (3, .ref o0), (4, .int x4)]) (kk : ∀ (pl : Int32) (told : Int64) (lv : Int32) (th : Int64) (ph : Int32) (di : Int32) (lm : Int64) (cu : Int64) (la : Int64) (en : Int64) (sp : Int32) (lk : Int64) (f1 : Nat → Int32) (f2 : Nat → Int32) (f3 : Nat → Int64) (cn : Int32) (to : Int64) (f4 : Nat → Int32) (mco : Int32) (mpi : Int32) (msh : Int32) (mlo : Int32) (mph : Int32) (mdi : Int32) (mlm : Int64) (men : Int64) (mla : Int64) (mcu : Int64) (mnw : Int64) (msp : Int32) (mlk : Int64) (mcs : Int32) (g1 : Nat → Int32) (g2 : Nat → Int32) (g3 : Nat → Int32) (g4 : Nat → Int64) (g5 : Nat → Int32) (fo : Nat → Int64) (H : Heap) (locs : List Loc) (ls : Array Slot), linv lv mpi th msh sp msp cn mcs ∧ srel f4 to cn g5 ∧ erel f1 g1 g2 g3 msp.toInt.toNat ∧ lk = mlk ∧ frel f2 g4 → va_P (dC, dI) classes [(q0, .inr (5, [.ref k1, .ref k2, .ref k3, .ref k4, .ref k5, .int pl])), (k1, .inr (0, [.long told])), (k2, .inr (1, [.int lv, .long th])), (k3, .inr (2, [.int ph, .int di, .long lm, .long cu, .long la, .long en])), (k4, .inr (3, [.ref a1, .ref a2, .ref a3, .int sp, .long lk])), (a1, .inl (e1, 1440, .inl f1)), (a2, .inl (e2, 1440, .inl f2)), (a3, .inl (e3, 1001, .inr (.inl f3))), (k5, .inr (4, [.ref a4, .int cn, .long to])), (a4, .inl (e4, 10, .inl f4)), (m0, .inr (6, [.int mco, .int mpi, .int msh, .int mlo, .int mph, .int mdi, .long mlm, .long men, .long mla, .long mcu, .long mnw, .int msp, .ref b1, .ref b2, .ref b3, .ref b4, .long mlk, .int mcs, .ref b5])), (b1, .inl (i1, 20, .inl g1)), (b2, .inl (i2, 20, .inl g2)), (b3, .inl (i3, 20, .inl g3)), (b4, .inl (i4, 1440, .inr (.inl g4))), (b5, .inl (i5, 11, .inl g5)), (o0, .inl (e9, 1, .inr (.inl fo)))] H → va_D (fun q : Nat => s.heap.size ≤ q) [(q0, .inr (5, [.ref k1, .ref k2, .ref k3, .ref k4, .ref k5, .int pl])), (k1, .inr (0, [.long told])), (k2, .inr (1, [.int lv, .long th])), (k3, .inr (2, [.int ph, .int di, .long lm, .long cu, .long la, .long en])), (k4, .inr (3, [.ref a1, .ref a2, .ref a3, .int sp, .long lk])), (a1, .inl (e1, 1440, .inl f1)), (a2, .inl (e2, 1440, .inl f2)), (a3, .inl (e3, 1001, .inr (.inl f3))), (k5, .inr (4, [.ref a4, .int cn, .long to])), (a4, .inl (e4, 10, .inl f4)), (m0, .inr (6, [.int mco, .int mpi, .int msh, .int mlo, .int mph, .int mdi, .long mlm, .long men, .long mla, .long mcu, .long mnw, .int msp, .ref b1, .ref b2, .ref b3, .ref b4, .long mlk, .int mcs, .ref b5])), (b1, .inl (i1, 20, .inl g1)), (b2, .inl (i2, 20, .inl g2)), (b3, .inl (i3, 20, .inl g3)), (b4, .inl (i4, 1440, .inr (.inl g4))), (b5, .inl (i5, 11, .inl g5)), (o0, .inl (e9, 1, .inr (.inl fo)))] → va_S (fun q : Nat => s.heap.size ≤ q) s.heap H locs → lv_has ls 8 [(0, .ref b), (1, .ref q0), (2, .ref m0), (3, .ref o0), (4, .int x4)] → W p l e room_1 s m #[Value.ref b] below meth c H locs (cc + 1) (ss + 6) (lw_Z below #[Value.ref b] s) (F0 m 1003 ls [])) : W p l e room_1 s m #[Value.ref b] below meth c H locs cc ss (lw_Z below #[Value.ref b] s) (F0 m 755 ls []) := by
  obtain ⟨hx, hb, hr, hml, hown, hts0, hX, hbl, hlocks, hgv⟩ := C0
  have hB := law_big hts0
  have hts := law_ts hts0
  have hN := law_nst hts0
  have hA : ∀ q : Nat, s.heap.size ≤ q → (fun q : Nat => s.heap.size ≤ q) q := fun _ h => h
  have hbA : ¬ (fun q : Nat => s.heap.size ≤ q) b := Nat.not_le.mpr hbl
  refine lv_aload_n hx hb d_Law_law_755 rfl (lv_at hl 1 rfl) ?_
  refine lv_aload_n hx hb d_Law_law_756 rfl (lv_at hl 0 rfl) ?_
  refine lv_iload hx hb d_Law_law_757 (lv_at hl 4 rfl) ?_
  refine lv_iconst (v := 1) hx hb d_Law_law_759 (by decide) ?_
  refine lv_iadd hx hb d_Law_law_760 ?_
  have h_761 : vp_in (x4 + 1) L := vinS 1 hL hi ex4 (by decide) (by decide)
  refine va_sld hx hb hX hbl hbA hS h_761 d_Law_law_761 ?_
  refine lv_topi (fun y_761 ey_761 => ?_)
  obtain rfl : y_761 = sx xs x4 1 := ey_761
  refine lv_aload_n hx hb d_Law_law_762 rfl (lv_at hl 0 rfl) ?_
  refine lv_iload hx hb d_Law_law_763 (lv_at hl 4 rfl) ?_
  refine lv_iconst (v := 2) hx hb d_Law_law_765 (by decide) ?_
  refine lv_iadd hx hb d_Law_law_766 ?_
  have h_767 : vp_in (x4 + 2) L := vinS 2 hL hi ex4 (by decide) (by decide)
  refine va_sld hx hb hX hbl hbA hS h_767 d_Law_law_767 ?_
  refine lv_topi (fun y_767 ey_767 => ?_)
  obtain rfl : y_767 = sx xs x4 2 := ey_767
  refine lv_i2l hx hb d_Law_law_768 rfl ?_
  refine lv_bipush (v := 32) hx hb d_Law_law_769 (by decide) ?_
  refine lv_lshl hx hb d_Law_law_771 rfl ?_
  refine lv_aload_n hx hb d_Law_law_772 rfl (lv_at hl 0 rfl) ?_
  refine lv_iload hx hb d_Law_law_773 (lv_at hl 4 rfl) ?_
  refine lv_iconst (v := 3) hx hb d_Law_law_775 (by decide) ?_
  refine lv_iadd hx hb d_Law_law_776 ?_
  have h_777 : vp_in (x4 + 3) L := vinS 3 hL hi ex4 (by decide) (by decide)
  refine va_sld hx hb hX hbl hbA hS h_777 d_Law_law_777 ?_
  refine lv_topi (fun y_777 ey_777 => ?_)
  obtain rfl : y_777 = sx xs x4 3 := ey_777
  refine lv_i2l hx hb d_Law_law_778 rfl ?_
  refine lv_ldc2 (v := 4294967295) hx hb hown (hB _ kb_300) d_Law_law_779 ?_
  refine lv_land hx hb d_Law_law_782 ?_
  refine lv_lor hx hb d_Law_law_783 ?_
  refine lv_topl (fun y_783 ey_783 => ?_)
  obtain rfl : y_783 = jn (sx xs x4 2) (sx xs x4 3) := ey_783
  refine kc_i (va_runV (As := [.int (sx xs x4 1), .long (jn (sx xs x4 2) (sx xs x4 3))]) (rest := []) ⟨hx, hb, hml, hown, hts⟩ (c_X_stop l dC dI q0 k1 k2 k3 k4 k5 H.size pl told ph di lm cu la en (sx xs x4 1) (jn (sx xs x4 2) (sx xs x4 3)) ) (cwV 2 hts (ginV kb_374 kb_375 kb_376 kb_7 kb_373) rfl rfl rfl (by decide +kernel) ⟨Nat.le_of_ble_eq_true rfl, Nat.le_of_ble_eq_true rfl⟩) (preV (ci := 5) (wc := [(q0, .inr (5, [.ref k1, .ref k2, .ref k3, .ref k4, .ref k5, .int pl])), (k1, .inr (0, [.long told])), (k3, .inr (2, [.int ph, .int di, .long lm, .long cu, .long la, .long en]))]) hK hN hP hD [0, 1, 3] rfl rfl (by decide) [] rfl rfl rfl) rfl rfl hl.1 rfl (lv_room (Nat.le_of_ble_eq_true rfl)) d_Law_law_784 ⟨room_c (by omega), room_s (by omega)⟩) hP hD hS hA [0, 1, 3] [2, 4, 5, 6, 7, 8, 9, 10, 11, 12, 13, 14, 15, 16] (wr := [(k2, .inr (1, [.int lv, .long th])), (k4, .inr (3, [.ref a1, .ref a2, .ref a3, .int sp, .long lk])), (a1, .inl (e1, 1440, .inl f1)), (a2, .inl (e2, 1440, .inl f2)), (a3, .inl (e3, 1001, .inr (.inl f3))), (k5, .inr (4, [.ref a4, .int cn, .long to])), (a4, .inl (e4, 10, .inl f4)), (m0, .inr (6, [.int mco, .int mpi, .int msh, .int mlo, .int mph, .int mdi, .long mlm, .long men, .long mla, .long mcu, .long mnw, .int msp, .ref b1, .ref b2, .ref b3, .ref b4, .long mlk, .int mcs, .ref b5])), (b1, .inl (i1, 20, .inl g1)), (b2, .inl (i2, 20, .inl g2)), (b3, .inl (i3, 20, .inl g3)), (b4, .inl (i4, 1440, .inr (.inl g4))), (b5, .inl (i5, 11, .inl g5)), (o0, .inl (e9, 1, .inr (.inl fo)))]) rfl rfl (by decide) (by decide) (fun r_784 u_784 H locs hw_784 hP hD hK1 hS => ?_)
  obtain ⟨told2_784, ph2_784⟩ := u_784
  have hw_784 : True := hw_784
  have hP : va_P (dC, dI) classes [(k2, .inr (1, [.int lv, .long th])), (k4, .inr (3, [.ref a1, .ref a2, .ref a3, .int sp, .long lk])), (a1, .inl (e1, 1440, .inl f1)), (a2, .inl (e2, 1440, .inl f2)), (a3, .inl (e3, 1001, .inr (.inl f3))), (k5, .inr (4, [.ref a4, .int cn, .long to])), (a4, .inl (e4, 10, .inl f4)), (m0, .inr (6, [.int mco, .int mpi, .int msh, .int mlo, .int mph, .int mdi, .long mlm, .long men, .long mla, .long mcu, .long mnw, .int msp, .ref b1, .ref b2, .ref b3, .ref b4, .long mlk, .int mcs, .ref b5])), (b1, .inl (i1, 20, .inl g1)), (b2, .inl (i2, 20, .inl g2)), (b3, .inl (i3, 20, .inl g3)), (b4, .inl (i4, 1440, .inr (.inl g4))), (b5, .inl (i5, 11, .inl g5)), (o0, .inl (e9, 1, .inr (.inl fo))), (q0, .inr (5, [.ref k1, .ref k2, .ref k3, .ref k4, .ref k5, .int pl])), (k1, .inr (0, [.long told2_784])), (k3, .inr (2, [.int ph2_784, .int di, .long lm, .long cu, .long la, .long en]))] H := hP
  have hD : va_D (fun q : Nat => s.heap.size ≤ q) [(k2, .inr (1, [.int lv, .long th])), (k4, .inr (3, [.ref a1, .ref a2, .ref a3, .int sp, .long lk])), (a1, .inl (e1, 1440, .inl f1)), (a2, .inl (e2, 1440, .inl f2)), (a3, .inl (e3, 1001, .inr (.inl f3))), (k5, .inr (4, [.ref a4, .int cn, .long to])), (a4, .inl (e4, 10, .inl f4)), (m0, .inr (6, [.int mco, .int mpi, .int msh, .int mlo, .int mph, .int mdi, .long mlm, .long men, .long mla, .long mcu, .long mnw, .int msp, .ref b1, .ref b2, .ref b3, .ref b4, .long mlk, .int mcs, .ref b5])), (b1, .inl (i1, 20, .inl g1)), (b2, .inl (i2, 20, .inl g2)), (b3, .inl (i3, 20, .inl g3)), (b4, .inl (i4, 1440, .inr (.inl g4))), (b5, .inl (i5, 11, .inl g5)), (o0, .inl (e9, 1, .inr (.inl fo))), (q0, .inr (5, [.ref k1, .ref k2, .ref k3, .ref k4, .ref k5, .int pl])), (k1, .inr (0, [.long told2_784])), (k3, .inr (2, [.int ph2_784, .int di, .long lm, .long cu, .long la, .long en]))] := hD
  refine lv_pop hx hb d_Law_law_787 rfl ?_
  refine lv_aload_n hx hb d_Law_law_788 rfl (lv_at hl 2 rfl) ?_
  refine lv_aload_n hx hb d_Law_law_789 rfl (lv_at hl 0 rfl) ?_
  refine lv_iload hx hb d_Law_law_790 (lv_at hl 4 rfl) ?_
  refine lv_iconst (v := 1) hx hb d_Law_law_792 (by decide) ?_
  refine lv_iadd hx hb d_Law_law_793 ?_
  have h_794 : vp_in (x4 + 1) L := vinS 1 hL hi ex4 (by decide) (by decide)
  refine va_sld hx hb hX hbl hbA hS h_794 d_Law_law_794 ?_
  refine lv_topi (fun y_794 ey_794 => ?_)
  obtain rfl : y_794 = sx xs x4 1 := ey_794
  refine lv_aload_n hx hb d_Law_law_795 rfl (lv_at hl 0 rfl) ?_
  refine lv_iload hx hb d_Law_law_796 (lv_at hl 4 rfl) ?_
  refine lv_iconst (v := 2) hx hb d_Law_law_798 (by decide) ?_
  refine lv_iadd hx hb d_Law_law_799 ?_
  have h_800 : vp_in (x4 + 2) L := vinS 2 hL hi ex4 (by decide) (by decide)
  refine va_sld hx hb hX hbl hbA hS h_800 d_Law_law_800 ?_
  refine lv_topi (fun y_800 ey_800 => ?_)
  obtain rfl : y_800 = sx xs x4 2 := ey_800
  refine lv_i2l hx hb d_Law_law_801 rfl ?_
  refine lv_bipush (v := 32) hx hb d_Law_law_802 (by decide) ?_
  refine lv_lshl hx hb d_Law_law_804 rfl ?_
  refine lv_aload_n hx hb d_Law_law_805 rfl (lv_at hl 0 rfl) ?_
  refine lv_iload hx hb d_Law_law_806 (lv_at hl 4 rfl) ?_
  refine lv_iconst (v := 3) hx hb d_Law_law_808 (by decide) ?_
  refine lv_iadd hx hb d_Law_law_809 ?_
  have h_810 : vp_in (x4 + 3) L := vinS 3 hL hi ex4 (by decide) (by decide)
  refine va_sld hx hb hX hbl hbA hS h_810 d_Law_law_810 ?_
  refine lv_topi (fun y_810 ey_810 => ?_)
  obtain rfl : y_810 = sx xs x4 3 := ey_810
  refine lv_i2l hx hb d_Law_law_811 rfl ?_
  refine lv_ldc2 (v := 4294967295) hx hb hown (hB _ kb_300) d_Law_law_812 ?_
  refine lv_land hx hb d_Law_law_815 ?_
  refine lv_lor hx hb d_Law_law_816 ?_
  refine lv_topl (fun y_816 ey_816 => ?_)
  obtain rfl : y_816 = jn (sx xs x4 2) (sx xs x4 3) := ey_816
  refine kc_i (va_runV (As := [.int (sx xs x4 1), .long (jn (sx xs x4 2) (sx xs x4 3))]) (rest := []) ⟨hx, hb, hml, hown, hts⟩ (c_Mo_stop l dC dI m0 b1 b2 b3 b4 b5 H.size mco mpi msh mlo mph mdi mlm men mla mcu mnw msp mlk mcs (sx xs x4 1) (jn (sx xs x4 2) (sx xs x4 3)) ) (cwV 2 hts (ginV kb_378 kb_379 kb_380 kb_251 kb_377) rfl rfl rfl (by decide +kernel) ⟨Nat.le_of_ble_eq_true rfl, Nat.le_of_ble_eq_true rfl⟩) (preV (ci := 6) (wc := [(m0, .inr (6, [.int mco, .int mpi, .int msh, .int mlo, .int mph, .int mdi, .long mlm, .long men, .long mla, .long mcu, .long mnw, .int msp, .ref b1, .ref b2, .ref b3, .ref b4, .long mlk, .int mcs, .ref b5]))]) hK hN hP hD [7] rfl rfl (by decide) [] rfl rfl rfl) rfl rfl hl.1 rfl (lv_room (Nat.le_of_ble_eq_true rfl)) d_Law_law_817 ⟨room_c (by omega), room_s (by omega)⟩) hP hD hS hA [7] [0, 1, 2, 3, 4, 5, 6, 8, 9, 10, 11, 12, 13, 14, 15, 16] (wr := [(k2, .inr (1, [.int lv, .long th])), (k4, .inr (3, [.ref a1, .ref a2, .ref a3, .int sp, .long lk])), (a1, .inl (e1, 1440, .inl f1)), (a2, .inl (e2, 1440, .inl f2)), (a3, .inl (e3, 1001, .inr (.inl f3))), (k5, .inr (4, [.ref a4, .int cn, .long to])), (a4, .inl (e4, 10, .inl f4)), (b1, .inl (i1, 20, .inl g1)), (b2, .inl (i2, 20, .inl g2)), (b3, .inl (i3, 20, .inl g3)), (b4, .inl (i4, 1440, .inr (.inl g4))), (b5, .inl (i5, 11, .inl g5)), (o0, .inl (e9, 1, .inr (.inl fo))), (q0, .inr (5, [.ref k1, .ref k2, .ref k3, .ref k4, .ref k5, .int pl])), (k1, .inr (0, [.long told2_784])), (k3, .inr (2, [.int ph2_784, .int di, .long lm, .long cu, .long la, .long en]))]) rfl rfl (by decide) (by decide) (fun r_817 u_817 H locs hw_817 hP hD hK1 hS => ?_)
  obtain ⟨co2_817, nw2_817, ph2_817⟩ := u_817
  have hw_817 : True := hw_817
  have hP : va_P (dC, dI) classes [(k2, .inr (1, [.int lv, .long th])), (k4, .inr (3, [.ref a1, .ref a2, .ref a3, .int sp, .long lk])), (a1, .inl (e1, 1440, .inl f1)), (a2, .inl (e2, 1440, .inl f2)), (a3, .inl (e3, 1001, .inr (.inl f3))), (k5, .inr (4, [.ref a4, .int cn, .long to])), (a4, .inl (e4, 10, .inl f4)), (b1, .inl (i1, 20, .inl g1)), (b2, .inl (i2, 20, .inl g2)), (b3, .inl (i3, 20, .inl g3)), (b4, .inl (i4, 1440, .inr (.inl g4))), (b5, .inl (i5, 11, .inl g5)), (o0, .inl (e9, 1, .inr (.inl fo))), (q0, .inr (5, [.ref k1, .ref k2, .ref k3, .ref k4, .ref k5, .int pl])), (k1, .inr (0, [.long told2_784])), (k3, .inr (2, [.int ph2_784, .int di, .long lm, .long cu, .long la, .long en])), (m0, .inr (6, [.int co2_817, .int mpi, .int msh, .int mlo, .int ph2_817, .int mdi, .long mlm, .long men, .long mla, .long mcu, .long nw2_817, .int msp, .ref b1, .ref b2, .ref b3, .ref b4, .long mlk, .int mcs, .ref b5]))] H := hP
  have hD : va_D (fun q : Nat => s.heap.size ≤ q) [(k2, .inr (1, [.int lv, .long th])), (k4, .inr (3, [.ref a1, .ref a2, .ref a3, .int sp, .long lk])), (a1, .inl (e1, 1440, .inl f1)), (a2, .inl (e2, 1440, .inl f2)), (a3, .inl (e3, 1001, .inr (.inl f3))), (k5, .inr (4, [.ref a4, .int cn, .long to])), (a4, .inl (e4, 10, .inl f4)), (b1, .inl (i1, 20, .inl g1)), (b2, .inl (i2, 20, .inl g2)), (b3, .inl (i3, 20, .inl g3)), (b4, .inl (i4, 1440, .inr (.inl g4))), (b5, .inl (i5, 11, .inl g5)), (o0, .inl (e9, 1, .inr (.inl fo))), (q0, .inr (5, [.ref k1, .ref k2, .ref k3, .ref k4, .ref k5, .int pl])), (k1, .inr (0, [.long told2_784])), (k3, .inr (2, [.int ph2_784, .int di, .long lm, .long cu, .long la, .long en])), (m0, .inr (6, [.int co2_817, .int mpi, .int msh, .int mlo, .int ph2_817, .int mdi, .long mlm, .long men, .long mla, .long mcu, .long nw2_817, .int msp, .ref b1, .ref b2, .ref b3, .ref b4, .long mlk, .int mcs, .ref b5]))] := hD
  refine lv_pop hx hb d_Law_law_820 rfl ?_
  refine lv_goto (tgt := 1003) hx hb d_Law_law_821 (by decide) ?_
  refine W.widen (k := cc + 1) (n := ss + 6) (by omega) (by omega) ?_
  exact kk pl told2_784 lv th ph2_784 di lm cu la en sp lk f1 f2 f3 cn to f4 co2_817 mpi msh mlo ph2_817 mdi mlm men mla mcu nw2_817 msp mlk mcs g1 g2 g3 g4 g5 fo _ _ _ (hI) (hP.sub [13, 14, 0, 15, 1, 2, 3, 4, 5, 6, 16, 7, 8, 9, 10, 11, 12] rfl) (hD.sub [13, 14, 0, 15, 1, 2, 3, 4, 5, 6, 16, 7, 8, 9, 10, 11, 12] (by decide) rfl) hS (lv_sub hl [0, 1, 2, 3, 4] rfl)
