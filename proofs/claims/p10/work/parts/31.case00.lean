set_option maxHeartbeats 4000000 in
set_option maxRecDepth 100000 in
theorem law_case_0 {p : Program} {l : Launch} {e : Env} {s : State} {m : MethodId} {below : List Frame} {meth : Method} {c : Code} {dC : Nat → ClassId} {dI : Nat → Nat → Nat} {b L : Nat} {xs : Nat → Int32} (hst : l.stackTraces = false) (hL : L ≤ 3584) (C0 : lw_At p s m meth c b L xs) (i : Nat) (x4 : Int32) (hi : i + 7 ≤ L) (ex4 : x4 = nI i) (cc ss : Nat) (hcc : cc + 1 ≤ 1042) (hss : ss + 6 ≤ 13643) (q0 : Nat) (k1 : Nat) (k2 : Nat) (k3 : Nat) (k4 : Nat) (a1 : Nat) (a2 : Nat) (a3 : Nat) (k5 : Nat) (a4 : Nat) (m0 : Nat) (b1 : Nat) (b2 : Nat) (b3 : Nat) (b4 : Nat) (b5 : Nat) (o0 : Nat) (e1 : ClassId) (e2 : ClassId) (e3 : ClassId) (e4 : ClassId) (i1 : ClassId) (i2 : ClassId) (i3 : ClassId) (i4 : ClassId) (i5 : ClassId) (e9 : ClassId) (pl : Int32) (told : Int64) (lv : Int32) (th : Int64) (ph : Int32) (di : Int32) (lm : Int64) (cu : Int64) (la : Int64) (en : Int64) (sp : Int32) (lk : Int64) (f1 : Nat → Int32) (f2 : Nat → Int32) (f3 : Nat → Int64) (cn : Int32) (to : Int64) (f4 : Nat → Int32) (mco : Int32) (mpi : Int32) (msh : Int32) (mlo : Int32) (mph : Int32) (mdi : Int32) (mlm : Int64) (men : Int64) (mla : Int64) (mcu : Int64) (mnw : Int64) (msp : Int32) (mlk : Int64) (mcs : Int32) (g1 : Nat → Int32) (g2 : Nat → Int32) (g3 : Nat → Int32) (g4 : Nat → Int64) (g5 : Nat → Int32) (fo : Nat → Int64) (H : Heap) (locs : List Loc) (ls : Array Slot) (hI : linv lv mpi th msh sp msp cn mcs ∧ srel f4 to cn g5 ∧ erel f1 g1 g2 g3 msp.toInt.toNat ∧ lk = mlk ∧ frel f2 g4) (hK : va_K (dC, dI) classes [(e1, .int), (e2, .int), (e3, .long), (e4, .int), (i1, .int), (i2, .int), (i3, .int), (i4, .long), (i5, .int), (e9, .long)] s) (hP : va_P (dC, dI) classes [(q0, .inr (5, [.ref k1, .ref k2, .ref k3, .ref k4, .ref k5, .int pl])), (k1, .inr (0, [.long told])), (k2, .inr (1, [.int lv, .long th])), (k3, .inr (2, [.int ph, .int di, .long lm, .long cu, .long la, .long en])), (k4, .inr (3, [.ref a1, .ref a2, .ref a3, .int sp, .long lk])), (a1, .inl (e1, 1440, .inl f1)), (a2, .inl (e2, 1440, .inl f2)), (a3, .inl (e3, 1001, .inr (.inl f3))), (k5, .inr (4, [.ref a4, .int cn, .long to])), (a4, .inl (e4, 10, .inl f4)), (m0, .inr (6, [.int mco, .int mpi, .int msh, .int mlo, .int mph, .int mdi, .long mlm, .long men, .long mla, .long mcu, .long mnw, .int msp, .ref b1, .ref b2, .ref b3, .ref b4, .long mlk, .int mcs, .ref b5])), (b1, .inl (i1, 20, .inl g1)), (b2, .inl (i2, 20, .inl g2)), (b3, .inl (i3, 20, .inl g3)), (b4, .inl (i4, 1440, .inr (.inl g4))), (b5, .inl (i5, 11, .inl g5)), (o0, .inl (e9, 1, .inr (.inl fo)))] H) (hD : va_D (fun q : Nat => s.heap.size ≤ q) [(q0, .inr (5, [.ref k1, .ref k2, .ref k3, .ref k4, .ref k5, .int pl])), (k1, .inr (0, [.long told])), (k2, .inr (1, [.int lv, .long th])), (k3, .inr (2, [.int ph, .int di, .long lm, .long cu, .long la, .long en])), (k4, .inr (3, [.ref a1, .ref a2, .ref a3, .int sp, .long lk])), (a1, .inl (e1, 1440, .inl f1)), (a2, .inl (e2, 1440, .inl f2)), (a3, .inl (e3, 1001, .inr (.inl f3))), (k5, .inr (4, [.ref a4, .int cn, .long to])), (a4, .inl (e4, 10, .inl f4)), (m0, .inr (6, [.int mco, .int mpi, .int msh, .int mlo, .int mph, .int mdi, .long mlm, .long men, .long mla, .long mcu, .long mnw, .int msp, .ref b1, .ref b2, .ref b3, .ref b4, .long mlk, .int mcs, .ref b5])), (b1, .inl (i1, 20, .inl g1)), (b2, .inl (i2, 20, .inl g2)), (b3, .inl (i3, 20, .inl g3)), (b4, .inl (i4, 1440, .inr (.inl g4))), (b5, .inl (i5, 11, .inl g5)), (o0, .inl (e9, 1, .inr (.inl fo)))]) (hS : va_S (fun q : Nat => s.heap.size ≤ q) s.heap H locs) (hl : lv_has ls 8 [(0, .ref b), (1, .ref q0), (2, .ref m0), (3, .ref o0), (4, .int x4)]) (kk : ∀ (pl : Int32) (told : Int64) (lv : Int32) (th : Int64) (ph : Int32) (di : Int32) (lm : Int64) (cu : Int64) (la : Int64) (en : Int64) (sp : Int32) (lk : Int64) (f1 : Nat → Int32) (f2 : Nat → Int32) (f3 : Nat → Int64) (cn : Int32) (to : Int64) (f4 : Nat → Int32) (mco : Int32) (mpi : Int32) (msh : Int32) (mlo : Int32) (mph : Int32) (mdi : Int32) (mlm : Int64) (men : Int64) (mla : Int64) (mcu : Int64) (mnw : Int64) (msp : Int32) (mlk : Int64) (mcs : Int32) (g1 : Nat → Int32) (g2 : Nat → Int32) (g3 : Nat → Int32) (g4 : Nat → Int64) (g5 : Nat → Int32) (fo : Nat → Int64) (H : Heap) (locs : List Loc) (ls : Array Slot), linv lv mpi th msh sp msp cn mcs ∧ srel f4 to cn g5 ∧ erel f1 g1 g2 g3 msp.toInt.toNat ∧ lk = mlk ∧ frel f2 g4 → va_P (dC, dI) classes [(q0, .inr (5, [.ref k1, .ref k2, .ref k3, .ref k4, .ref k5, .int pl])), (k1, .inr (0, [.long told])), (k2, .inr (1, [.int lv, .long th])), (k3, .inr (2, [.int ph, .int di, .long lm, .long cu, .long la, .long en])), (k4, .inr (3, [.ref a1, .ref a2, .ref a3, .int sp, .long lk])), (a1, .inl (e1, 1440, .inl f1)), (a2, .inl (e2, 1440, .inl f2)), (a3, .inl (e3, 1001, .inr (.inl f3))), (k5, .inr (4, [.ref a4, .int cn, .long to])), (a4, .inl (e4, 10, .inl f4)), (m0, .inr (6, [.int mco, .int mpi, .int msh, .int mlo, .int mph, .int mdi, .long mlm, .long men, .long mla, .long mcu, .long mnw, .int msp, .ref b1, .ref b2, .ref b3, .ref b4, .long mlk, .int mcs, .ref b5])), (b1, .inl (i1, 20, .inl g1)), (b2, .inl (i2, 20, .inl g2)), (b3, .inl (i3, 20, .inl g3)), (b4, .inl (i4, 1440, .inr (.inl g4))), (b5, .inl (i5, 11, .inl g5)), (o0, .inl (e9, 1, .inr (.inl fo)))] H → va_D (fun q : Nat => s.heap.size ≤ q) [(q0, .inr (5, [.ref k1, .ref k2, .ref k3, .ref k4, .ref k5, .int pl])), (k1, .inr (0, [.long told])), (k2, .inr (1, [.int lv, .long th])), (k3, .inr (2, [.int ph, .int di, .long lm, .long cu, .long la, .long en])), (k4, .inr (3, [.ref a1, .ref a2, .ref a3, .int sp, .long lk])), (a1, .inl (e1, 1440, .inl f1)), (a2, .inl (e2, 1440, .inl f2)), (a3, .inl (e3, 1001, .inr (.inl f3))), (k5, .inr (4, [.ref a4, .int cn, .long to])), (a4, .inl (e4, 10, .inl f4)), (m0, .inr (6, [.int mco, .int mpi, .int msh, .int mlo, .int mph, .int mdi, .long mlm, .long men, .long mla, .long mcu, .long mnw, .int msp, .ref b1, .ref b2, .ref b3, .ref b4, .long mlk, .int mcs, .ref b5])), (b1, .inl (i1, 20, .inl g1)), (b2, .inl (i2, 20, .inl g2)), (b3, .inl (i3, 20, .inl g3)), (b4, .inl (i4, 1440, .inr (.inl g4))), (b5, .inl (i5, 11, .inl g5)), (o0, .inl (e9, 1, .inr (.inl fo)))] → va_S (fun q : Nat => s.heap.size ≤ q) s.heap H locs → lv_has ls 8 [(0, .ref b), (1, .ref q0), (2, .ref m0), (3, .ref o0), (4, .int x4)] → W p l e room_1 s m #[Value.ref b] below meth c H locs (cc + 1) (ss + 6) (lw_Z below #[Value.ref b] s) (F0 m 1004 ls [])) : W p l e room_1 s m #[Value.ref b] below meth c H locs cc ss (lw_Z below #[Value.ref b] s) (F0 m 112 ls []) := by
  obtain ⟨hx, hb, hr, hml, hown, hts0, hX, hbl, hlocks, hgv⟩ := C0
  have hB := law_big hts0
  have hts := law_ts hts0
  have hN := law_nst hts0
  have hA : ∀ q : Nat, s.heap.size ≤ q → (fun q : Nat => s.heap.size ≤ q) q := fun _ h => h
  have hbA : ¬ (fun q : Nat => s.heap.size ≤ q) b := Nat.not_le.mpr hbl
  refine lv_aload_n hx hb d_Law_law_112 rfl (lv_at hl 1 rfl) ?_
  refine lv_aload_n hx hb d_Law_law_113 rfl (lv_at hl 0 rfl) ?_
  refine lv_iload hx hb d_Law_law_114 (lv_at hl 4 rfl) ?_
  refine lv_iconst (v := 1) hx hb d_Law_law_116 (by decide) ?_
  refine lv_iadd hx hb d_Law_law_117 ?_
  have h_118 : vp_in (x4 + 1) L := vinS 1 hL hi ex4 (by decide) (by decide)
  refine va_sld hx hb hX hbl hbA hS h_118 d_Law_law_118 ?_
  refine lv_topi (fun y_118 ey_118 => ?_)
  obtain rfl : y_118 = sx xs x4 1 := ey_118
  refine lv_i2l hx hb d_Law_law_119 rfl ?_
  refine lv_bipush (v := 32) hx hb d_Law_law_120 (by decide) ?_
  refine lv_lshl hx hb d_Law_law_122 rfl ?_
  refine lv_aload_n hx hb d_Law_law_123 rfl (lv_at hl 0 rfl) ?_
  refine lv_iload hx hb d_Law_law_124 (lv_at hl 4 rfl) ?_
  refine lv_iconst (v := 2) hx hb d_Law_law_126 (by decide) ?_
  refine lv_iadd hx hb d_Law_law_127 ?_
  have h_128 : vp_in (x4 + 2) L := vinS 2 hL hi ex4 (by decide) (by decide)
  refine va_sld hx hb hX hbl hbA hS h_128 d_Law_law_128 ?_
  refine lv_topi (fun y_128 ey_128 => ?_)
  obtain rfl : y_128 = sx xs x4 2 := ey_128
  refine lv_i2l hx hb d_Law_law_129 rfl ?_
  refine lv_ldc2 (v := 4294967295) hx hb hown (hB _ kb_300) d_Law_law_130 ?_
  refine lv_land hx hb d_Law_law_133 ?_
  refine lv_lor hx hb d_Law_law_134 ?_
  refine lv_topl (fun y_134 ey_134 => ?_)
  obtain rfl : y_134 = jn (sx xs x4 1) (sx xs x4 2) := ey_134
  refine lv_aload_n hx hb d_Law_law_135 rfl (lv_at hl 0 rfl) ?_
  refine lv_iload hx hb d_Law_law_136 (lv_at hl 4 rfl) ?_
  refine lv_iconst (v := 3) hx hb d_Law_law_138 (by decide) ?_
  refine lv_iadd hx hb d_Law_law_139 ?_
  have h_140 : vp_in (x4 + 3) L := vinS 3 hL hi ex4 (by decide) (by decide)
  refine va_sld hx hb hX hbl hbA hS h_140 d_Law_law_140 ?_
  refine lv_topi (fun y_140 ey_140 => ?_)
  obtain rfl : y_140 = sx xs x4 3 := ey_140
  refine lv_i2l hx hb d_Law_law_141 rfl ?_
  refine lv_bipush (v := 32) hx hb d_Law_law_142 (by decide) ?_
  refine lv_lshl hx hb d_Law_law_144 rfl ?_
  refine lv_aload_n hx hb d_Law_law_145 rfl (lv_at hl 0 rfl) ?_
  refine lv_iload hx hb d_Law_law_146 (lv_at hl 4 rfl) ?_
  refine lv_iconst (v := 4) hx hb d_Law_law_148 (by decide) ?_
  refine lv_iadd hx hb d_Law_law_149 ?_
  have h_150 : vp_in (x4 + 4) L := vinS 4 hL hi ex4 (by decide) (by decide)
  refine va_sld hx hb hX hbl hbA hS h_150 d_Law_law_150 ?_
  refine lv_topi (fun y_150 ey_150 => ?_)
  obtain rfl : y_150 = sx xs x4 4 := ey_150
  refine lv_i2l hx hb d_Law_law_151 rfl ?_
  refine lv_ldc2 (v := 4294967295) hx hb hown (hB _ kb_300) d_Law_law_152 ?_
  refine lv_land hx hb d_Law_law_155 ?_
  refine lv_lor hx hb d_Law_law_156 ?_
  refine lv_topl (fun y_156 ey_156 => ?_)
  obtain rfl : y_156 = jn (sx xs x4 3) (sx xs x4 4) := ey_156
  refine kc_i (va_runV (As := [.long (jn (sx xs x4 1) (sx xs x4 2)), .long (jn (sx xs x4 3) (sx xs x4 4))]) (rest := []) ⟨hx, hb, hml, hown, hts⟩ (c_X_pilot l dC dI q0 k1 k2 k3 k4 k5 H.size pl lv th ph di lm cu la en (jn (sx xs x4 1) (sx xs x4 2)) (jn (sx xs x4 3) (sx xs x4 4)) ) (cwV 2 hts (ginV kb_302 kb_303 kb_304 kb_7 kb_301) rfl rfl rfl (by decide +kernel) ⟨Nat.le_of_ble_eq_true rfl, Nat.le_of_ble_eq_true rfl⟩) (preV (ci := 5) (wc := [(q0, .inr (5, [.ref k1, .ref k2, .ref k3, .ref k4, .ref k5, .int pl])), (k2, .inr (1, [.int lv, .long th])), (k3, .inr (2, [.int ph, .int di, .long lm, .long cu, .long la, .long en]))]) hK hN hP hD [0, 2, 3] rfl rfl (by decide) [] rfl rfl rfl) rfl rfl hl.1 rfl (lv_room (Nat.le_of_ble_eq_true rfl)) d_Law_law_157 ⟨room_c (by omega), room_s (by omega)⟩) hP hD hS hA [0, 2, 3] [1, 4, 5, 6, 7, 8, 9, 10, 11, 12, 13, 14, 15, 16] (wr := [(k1, .inr (0, [.long told])), (k4, .inr (3, [.ref a1, .ref a2, .ref a3, .int sp, .long lk])), (a1, .inl (e1, 1440, .inl f1)), (a2, .inl (e2, 1440, .inl f2)), (a3, .inl (e3, 1001, .inr (.inl f3))), (k5, .inr (4, [.ref a4, .int cn, .long to])), (a4, .inl (e4, 10, .inl f4)), (m0, .inr (6, [.int mco, .int mpi, .int msh, .int mlo, .int mph, .int mdi, .long mlm, .long men, .long mla, .long mcu, .long mnw, .int msp, .ref b1, .ref b2, .ref b3, .ref b4, .long mlk, .int mcs, .ref b5])), (b1, .inl (i1, 20, .inl g1)), (b2, .inl (i2, 20, .inl g2)), (b3, .inl (i3, 20, .inl g3)), (b4, .inl (i4, 1440, .inr (.inl g4))), (b5, .inl (i5, 11, .inl g5)), (o0, .inl (e9, 1, .inr (.inl fo)))]) rfl rfl (by decide) (by decide) (fun r_157 u_157 H locs hw_157 hP hD hK1 hS => ?_)
  obtain ⟨lv2_157, th2_157, ph2_157⟩ := u_157
  have hw_157 : r_157 = lvl (jn (sx xs x4 1) (sx xs x4 2)) (jn (sx xs x4 3) (sx xs x4 4)) ∧ lv2_157 = lvl (jn (sx xs x4 1) (sx xs x4 2)) (jn (sx xs x4 3) (sx xs x4 4)) ∧ th2_157 = (jn (sx xs x4 1) (sx xs x4 2)) := hw_157
  have hP : va_P (dC, dI) classes [(k1, .inr (0, [.long told])), (k4, .inr (3, [.ref a1, .ref a2, .ref a3, .int sp, .long lk])), (a1, .inl (e1, 1440, .inl f1)), (a2, .inl (e2, 1440, .inl f2)), (a3, .inl (e3, 1001, .inr (.inl f3))), (k5, .inr (4, [.ref a4, .int cn, .long to])), (a4, .inl (e4, 10, .inl f4)), (m0, .inr (6, [.int mco, .int mpi, .int msh, .int mlo, .int mph, .int mdi, .long mlm, .long men, .long mla, .long mcu, .long mnw, .int msp, .ref b1, .ref b2, .ref b3, .ref b4, .long mlk, .int mcs, .ref b5])), (b1, .inl (i1, 20, .inl g1)), (b2, .inl (i2, 20, .inl g2)), (b3, .inl (i3, 20, .inl g3)), (b4, .inl (i4, 1440, .inr (.inl g4))), (b5, .inl (i5, 11, .inl g5)), (o0, .inl (e9, 1, .inr (.inl fo))), (q0, .inr (5, [.ref k1, .ref k2, .ref k3, .ref k4, .ref k5, .int pl])), (k2, .inr (1, [.int lv2_157, .long th2_157])), (k3, .inr (2, [.int ph2_157, .int di, .long lm, .long cu, .long la, .long en]))] H := hP
  have hD : va_D (fun q : Nat => s.heap.size ≤ q) [(k1, .inr (0, [.long told])), (k4, .inr (3, [.ref a1, .ref a2, .ref a3, .int sp, .long lk])), (a1, .inl (e1, 1440, .inl f1)), (a2, .inl (e2, 1440, .inl f2)), (a3, .inl (e3, 1001, .inr (.inl f3))), (k5, .inr (4, [.ref a4, .int cn, .long to])), (a4, .inl (e4, 10, .inl f4)), (m0, .inr (6, [.int mco, .int mpi, .int msh, .int mlo, .int mph, .int mdi, .long mlm, .long men, .long mla, .long mcu, .long mnw, .int msp, .ref b1, .ref b2, .ref b3, .ref b4, .long mlk, .int mcs, .ref b5])), (b1, .inl (i1, 20, .inl g1)), (b2, .inl (i2, 20, .inl g2)), (b3, .inl (i3, 20, .inl g3)), (b4, .inl (i4, 1440, .inr (.inl g4))), (b5, .inl (i5, 11, .inl g5)), (o0, .inl (e9, 1, .inr (.inl fo))), (q0, .inr (5, [.ref k1, .ref k2, .ref k3, .ref k4, .ref k5, .int pl])), (k2, .inr (1, [.int lv2_157, .long th2_157])), (k3, .inr (2, [.int ph2_157, .int di, .long lm, .long cu, .long la, .long en]))] := hD
  refine lv_pop hx hb d_Law_law_160 rfl ?_
  refine lv_aload_n hx hb d_Law_law_161 rfl (lv_at hl 2 rfl) ?_
  refine lv_aload_n hx hb d_Law_law_162 rfl (lv_at hl 0 rfl) ?_
  refine lv_iload hx hb d_Law_law_163 (lv_at hl 4 rfl) ?_
  refine lv_iconst (v := 1) hx hb d_Law_law_165 (by decide) ?_
  refine lv_iadd hx hb d_Law_law_166 ?_
  have h_167 : vp_in (x4 + 1) L := vinS 1 hL hi ex4 (by decide) (by decide)
  refine va_sld hx hb hX hbl hbA hS h_167 d_Law_law_167 ?_
  refine lv_topi (fun y_167 ey_167 => ?_)
  obtain rfl : y_167 = sx xs x4 1 := ey_167
  refine lv_i2l hx hb d_Law_law_168 rfl ?_
  refine lv_bipush (v := 32) hx hb d_Law_law_169 (by decide) ?_
  refine lv_lshl hx hb d_Law_law_171 rfl ?_
  refine lv_aload_n hx hb d_Law_law_172 rfl (lv_at hl 0 rfl) ?_
  refine lv_iload hx hb d_Law_law_173 (lv_at hl 4 rfl) ?_
  refine lv_iconst (v := 2) hx hb d_Law_law_175 (by decide) ?_
  refine lv_iadd hx hb d_Law_law_176 ?_
  have h_177 : vp_in (x4 + 2) L := vinS 2 hL hi ex4 (by decide) (by decide)
  refine va_sld hx hb hX hbl hbA hS h_177 d_Law_law_177 ?_
  refine lv_topi (fun y_177 ey_177 => ?_)
  obtain rfl : y_177 = sx xs x4 2 := ey_177
  refine lv_i2l hx hb d_Law_law_178 rfl ?_
  refine lv_ldc2 (v := 4294967295) hx hb hown (hB _ kb_300) d_Law_law_179 ?_
  refine lv_land hx hb d_Law_law_182 ?_
  refine lv_lor hx hb d_Law_law_183 ?_
  refine lv_topl (fun y_183 ey_183 => ?_)
  obtain rfl : y_183 = jn (sx xs x4 1) (sx xs x4 2) := ey_183
  refine lv_aload_n hx hb d_Law_law_184 rfl (lv_at hl 0 rfl) ?_
  refine lv_iload hx hb d_Law_law_185 (lv_at hl 4 rfl) ?_
  refine lv_iconst (v := 3) hx hb d_Law_law_187 (by decide) ?_
  refine lv_iadd hx hb d_Law_law_188 ?_
  have h_189 : vp_in (x4 + 3) L := vinS 3 hL hi ex4 (by decide) (by decide)
  refine va_sld hx hb hX hbl hbA hS h_189 d_Law_law_189 ?_
  refine lv_topi (fun y_189 ey_189 => ?_)
  obtain rfl : y_189 = sx xs x4 3 := ey_189
  refine lv_i2l hx hb d_Law_law_190 rfl ?_
  refine lv_bipush (v := 32) hx hb d_Law_law_191 (by decide) ?_
  refine lv_lshl hx hb d_Law_law_193 rfl ?_
  refine lv_aload_n hx hb d_Law_law_194 rfl (lv_at hl 0 rfl) ?_
  refine lv_iload hx hb d_Law_law_195 (lv_at hl 4 rfl) ?_
  refine lv_iconst (v := 4) hx hb d_Law_law_197 (by decide) ?_
  refine lv_iadd hx hb d_Law_law_198 ?_
  have h_199 : vp_in (x4 + 4) L := vinS 4 hL hi ex4 (by decide) (by decide)
  refine va_sld hx hb hX hbl hbA hS h_199 d_Law_law_199 ?_
  refine lv_topi (fun y_199 ey_199 => ?_)
  obtain rfl : y_199 = sx xs x4 4 := ey_199
  refine lv_i2l hx hb d_Law_law_200 rfl ?_
  refine lv_ldc2 (v := 4294967295) hx hb hown (hB _ kb_300) d_Law_law_201 ?_
  refine lv_land hx hb d_Law_law_204 ?_
  refine lv_lor hx hb d_Law_law_205 ?_
  refine lv_topl (fun y_205 ey_205 => ?_)
  obtain rfl : y_205 = jn (sx xs x4 3) (sx xs x4 4) := ey_205
  refine kc_i (va_runV (As := [.long (jn (sx xs x4 1) (sx xs x4 2)), .long (jn (sx xs x4 3) (sx xs x4 4))]) (rest := []) ⟨hx, hb, hml, hown, hts⟩ (c_Mo_pilot l dC dI m0 b1 b2 b3 b4 b5 H.size mco mpi msh mlo mph mdi mlm men mla mcu mnw msp mlk mcs (jn (sx xs x4 1) (sx xs x4 2)) (jn (sx xs x4 3) (sx xs x4 4)) ) (cwV 2 hts (ginV kb_306 kb_307 kb_308 kb_251 kb_305) rfl rfl rfl (by decide +kernel) ⟨Nat.le_of_ble_eq_true rfl, Nat.le_of_ble_eq_true rfl⟩) (preV (ci := 6) (wc := [(m0, .inr (6, [.int mco, .int mpi, .int msh, .int mlo, .int mph, .int mdi, .long mlm, .long men, .long mla, .long mcu, .long mnw, .int msp, .ref b1, .ref b2, .ref b3, .ref b4, .long mlk, .int mcs, .ref b5]))]) hK hN hP hD [7] rfl rfl (by decide) [] rfl rfl rfl) rfl rfl hl.1 rfl (lv_room (Nat.le_of_ble_eq_true rfl)) d_Law_law_206 ⟨room_c (by omega), room_s (by omega)⟩) hP hD hS hA [7] [0, 1, 2, 3, 4, 5, 6, 8, 9, 10, 11, 12, 13, 14, 15, 16] (wr := [(k1, .inr (0, [.long told])), (k4, .inr (3, [.ref a1, .ref a2, .ref a3, .int sp, .long lk])), (a1, .inl (e1, 1440, .inl f1)), (a2, .inl (e2, 1440, .inl f2)), (a3, .inl (e3, 1001, .inr (.inl f3))), (k5, .inr (4, [.ref a4, .int cn, .long to])), (a4, .inl (e4, 10, .inl f4)), (b1, .inl (i1, 20, .inl g1)), (b2, .inl (i2, 20, .inl g2)), (b3, .inl (i3, 20, .inl g3)), (b4, .inl (i4, 1440, .inr (.inl g4))), (b5, .inl (i5, 11, .inl g5)), (o0, .inl (e9, 1, .inr (.inl fo))), (q0, .inr (5, [.ref k1, .ref k2, .ref k3, .ref k4, .ref k5, .int pl])), (k2, .inr (1, [.int lv2_157, .long th2_157])), (k3, .inr (2, [.int ph2_157, .int di, .long lm, .long cu, .long la, .long en]))]) rfl rfl (by decide) (by decide) (fun r_206 u_206 H locs hw_206 hP hD hK1 hS => ?_)
  obtain ⟨co2_206, pi2_206, sh2_206, ph2_206⟩ := u_206
  have hw_206 : r_206 = lvl (jn (sx xs x4 1) (sx xs x4 2)) (jn (sx xs x4 3) (sx xs x4 4)) ∧ pi2_206 = lvl (jn (sx xs x4 1) (sx xs x4 2)) (jn (sx xs x4 3) (sx xs x4 4)) ∧ sh2_206 = shr (jn (sx xs x4 1) (sx xs x4 2)) := hw_206
  have hP : va_P (dC, dI) classes [(k1, .inr (0, [.long told])), (k4, .inr (3, [.ref a1, .ref a2, .ref a3, .int sp, .long lk])), (a1, .inl (e1, 1440, .inl f1)), (a2, .inl (e2, 1440, .inl f2)), (a3, .inl (e3, 1001, .inr (.inl f3))), (k5, .inr (4, [.ref a4, .int cn, .long to])), (a4, .inl (e4, 10, .inl f4)), (b1, .inl (i1, 20, .inl g1)), (b2, .inl (i2, 20, .inl g2)), (b3, .inl (i3, 20, .inl g3)), (b4, .inl (i4, 1440, .inr (.inl g4))), (b5, .inl (i5, 11, .inl g5)), (o0, .inl (e9, 1, .inr (.inl fo))), (q0, .inr (5, [.ref k1, .ref k2, .ref k3, .ref k4, .ref k5, .int pl])), (k2, .inr (1, [.int lv2_157, .long th2_157])), (k3, .inr (2, [.int ph2_157, .int di, .long lm, .long cu, .long la, .long en])), (m0, .inr (6, [.int co2_206, .int pi2_206, .int sh2_206, .int mlo, .int ph2_206, .int mdi, .long mlm, .long men, .long mla, .long mcu, .long mnw, .int msp, .ref b1, .ref b2, .ref b3, .ref b4, .long mlk, .int mcs, .ref b5]))] H := hP
  have hD : va_D (fun q : Nat => s.heap.size ≤ q) [(k1, .inr (0, [.long told])), (k4, .inr (3, [.ref a1, .ref a2, .ref a3, .int sp, .long lk])), (a1, .inl (e1, 1440, .inl f1)), (a2, .inl (e2, 1440, .inl f2)), (a3, .inl (e3, 1001, .inr (.inl f3))), (k5, .inr (4, [.ref a4, .int cn, .long to])), (a4, .inl (e4, 10, .inl f4)), (b1, .inl (i1, 20, .inl g1)), (b2, .inl (i2, 20, .inl g2)), (b3, .inl (i3, 20, .inl g3)), (b4, .inl (i4, 1440, .inr (.inl g4))), (b5, .inl (i5, 11, .inl g5)), (o0, .inl (e9, 1, .inr (.inl fo))), (q0, .inr (5, [.ref k1, .ref k2, .ref k3, .ref k4, .ref k5, .int pl])), (k2, .inr (1, [.int lv2_157, .long th2_157])), (k3, .inr (2, [.int ph2_157, .int di, .long lm, .long cu, .long la, .long en])), (m0, .inr (6, [.int co2_206, .int pi2_206, .int sh2_206, .int mlo, .int ph2_206, .int mdi, .long mlm, .long men, .long mla, .long mcu, .long mnw, .int msp, .ref b1, .ref b2, .ref b3, .ref b4, .long mlk, .int mcs, .ref b5]))] := hD
  refine lv_pop hx hb d_Law_law_209 rfl ?_
  refine lv_goto (tgt := 1004) hx hb d_Law_law_210 (by decide) ?_
  refine W.widen (k := cc + 1) (n := ss + 6) (by omega) (by omega) ?_
  exact kk pl told lv2_157 th2_157 ph2_157 di lm cu la en sp lk f1 f2 f3 cn to f4 co2_206 pi2_206 sh2_206 mlo ph2_206 mdi mlm men mla mcu mnw msp mlk mcs g1 g2 g3 g4 g5 fo _ _ _ (⟨⟨pil hw_157.2 hw_206.2, hI.1.2⟩, hI.2⟩) (hP.sub [13, 0, 14, 15, 1, 2, 3, 4, 5, 6, 16, 7, 8, 9, 10, 11, 12] rfl) (hD.sub [13, 0, 14, 15, 1, 2, 3, 4, 5, 6, 16, 7, 8, 9, 10, 11, 12] (by decide) rfl) hS (lv_sub hl [0, 1, 2, 3, 4] rfl)
