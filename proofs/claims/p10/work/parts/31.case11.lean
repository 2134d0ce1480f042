set_option maxHeartbeats 4000000 in
set_option maxRecDepth 100000 in
theorem law_case_11 {p : Program} {l : Launch} {e : Env} {s : State} {m : MethodId} {below : List Frame} {meth : Method} {c : Code} {dC : Nat → ClassId} {dI : Nat → Nat → Nat} {b L : Nat} {xs : Nat → Int32} (hst : l.stackTraces = false) (hL : L ≤ 3584) (C0 : lw_At p s m meth c b L xs) (i : Nat) (x4 : Int32) (hi : i + 7 ≤ L) (ex4 : x4 = nI i) (cc ss : Nat) (hcc : cc + 1 ≤ 1042) (hss : ss + 6 ≤ 13643) (q0 : Nat) (k1 : Nat) (k2 : Nat) (k3 : Nat) (k4 : Nat) (a1 : Nat) (a2 : Nat) (a3 : Nat) (k5 : Nat) (a4 : Nat) (m0 : Nat) (b1 : Nat) (b2 : Nat) (b3 : Nat) (b4 : Nat) (b5 : Nat) (o0 : Nat) (e1 : ClassId) (e2 : ClassId) (e3 : ClassId) (e4 : ClassId) (i1 : ClassId) (i2 : ClassId) (i3 : ClassId) (i4 : ClassId) (i5 : ClassId) (e9 : ClassId) (pl : Int32) (told : Int64) (lv : Int32) (th : Int64) (ph : Int32) (di : Int32) (lm : Int64) (cu : Int64) (la : Int64) (en : Int64) (sp : Int32) (lk : Int64) (f1 : Nat → Int32) (f2 : Nat → Int32) (f3 : Nat → Int64) (cn : Int32) (to : Int64) (f4 : Nat → Int32) (mco : Int32) (mpi : Int32) (msh : Int32) (mlo : Int32) (mph : Int32) (mdi : Int32) (mlm : Int64) (men : Int64) (mla : Int64) (mcu : Int64) (mnw : Int64) (msp : Int32) (mlk : Int64) (mcs : Int32) (g1 : Nat → Int32) (g2 : Nat → Int32) (g3 : Nat → Int32) (g4 : Nat → Int64) (g5 : Nat → Int32) (fo : Nat → Int64) (H : Heap) (locs : List Loc) (ls : Array Slot) (hI : linv lv mpi th msh sp msp cn mcs ∧ srel f4 to cn g5 ∧ erel f1 g1 g2 g3 msp.toInt.toNat ∧ lk = mlk ∧ frel f2 g4) (hK : va_K (dC, dI) classes [(e1, .int), (e2, .int), (e3, .long), (e4, .int), (i1, .int), (i2, .int), (i3, .int), (i4, .long), (i5, .int), (e9, .long)] s) (hP : va_P (dC, dI) classes [(q0, .inr (5, [.ref k1, .ref k2, .ref k3, .ref k4, .ref k5, .int pl])), (k1, .inr (0, [.long told])), (k2, .inr (1, [.int lv, .long th])), (k3, .inr (2, [.int ph, .int di, .long lm, .long cu, .long la, .long en])), (k4, .inr (3, [.ref a1, .ref a2, .ref a3, .int sp, .long lk])), (a1, .inl (e1, 1440, .inl f1)), (a2, .inl (e2, 1440, .inl f2)), (a3, .inl (e3, 1001, .inr (.inl f3))), (k5, .inr (4, [.ref a4, .int cn, .long to])), (a4, .inl (e4, 10, .inl f4)), (m0, .inr (6, [.int mco, .int mpi, .int msh, .int mlo, .int mph, .int mdi, .long mlm, .long men, .long mla, .long mcu, .long mnw, .int msp, .ref b1, .ref b2, .ref b3, .ref b4, .long mlk, .int mcs, .ref b5])), (b1, .inl (i1, 20, .inl g1)), (b2, .inl (i2, 20, .inl g2)), (b3, .inl (i3, 20, .inl g3)), (b4, .inl (i4, 1440, .inr (.inl g4))), (b5, .inl (i5, 11, .inl g5)), (o0, .inl (e9, 1, .inr (.inl fo)))] H) (hD : va_D (fun q : Nat => s.heap.size ≤ q) [(q0, .inr (5, [.ref k1, .ref k2, .ref k3, .ref k4, .ref k5, .int pl])), (k1, .inr (0, [.long told])), (k2, .inr (1, [.int lv, .long th])), (k3, .inr (2, [.int ph, .int di, .long lm, .long cu, .long la, .long en])), (k4, .inr (3, [.ref a1, .ref a2, .ref a3, .int sp, .long lk])), (a1, .inl (e1, 1440, .inl f1)), (a2, .inl (e2, 1440, .inl f2)), (a3, .inl (e3, 1001, .inr (.inl f3))), (k5, .inr (4, [.ref a4, .int cn, .long to])), (a4, .inl (e4, 10, .inl f4)), (m0, .inr (6, [.int mco, .int mpi, .int msh, .int mlo, .int mph, .int mdi, .long mlm, .long men, .long mla, .long mcu, .long mnw, .int msp, .ref b1, .ref b2, .ref b3, .ref b4, .long mlk, .int mcs, .ref b5])), (b1, .inl (i1, 20, .inl g1)), (b2, .inl (i2, 20, .inl g2)), (b3, .inl (i3, 20, .inl g3)), (b4, .inl (i4, 1440, .inr (.inl g4))), (b5, .inl (i5, 11, .inl g5)), (o0, .inl (e9, 1, .inr (.inl fo)))]) (hS : va_S (fun q : Nat => s.heap.size ≤ q) s.heap H locs) (hl : lv_has ls 8 [(0, .ref b), (1, .ref q0), (2, .ref m0), (3, .ref o0), (4, .int x4)]) (kk : ∀ (pl : Int32) (told : Int64) (lv : Int32) (th : Int64) (ph : Int32) (di : Int32) (lm : Int64) (cu : Int64) (la : Int64) (en : Int64) (sp : Int32) (lk : Int64) (f1 : Nat → Int32) (f2 : Nat → Int32) (f3 : Nat → Int64) (cn : Int32) (to : Int64) (f4 : Nat → Int32) (mco : Int32) (mpi : Int32) (msh : Int32) (mlo : Int32) (mph : Int32) (mdi : Int32) (mlm : Int64) (men : Int64) (mla : Int64) (mcu : Int64) (mnw : Int64) (msp : Int32) (mlk : Int64) (mcs : Int32) (g1 : Nat → Int32) (g2 : Nat → Int32) (g3 : Nat → Int32) (g4 : Nat → Int64) (g5 : Nat → Int32) (fo : Nat → Int64) (H : Heap) (locs : List Loc) (ls : Array Slot), linv lv mpi th msh sp msp cn mcs ∧ srel f4 to cn g5 ∧ erel f1 g1 g2 g3 msp.toInt.toNat ∧ lk = mlk ∧ frel f2 g4 → va_P (dC, dI) classes [(q0, .inr (5, [.ref k1, .ref k2, .ref k3, .ref k4, .ref k5, .int pl])), (k1, .inr (0, [.long told])), (k2, .inr (1, [.int lv, .long th])), (k3, .inr (2, [.int ph, .int di, .long lm, .long cu, .long la, .long en])), (k4, .inr (3, [.ref a1, .ref a2, .ref a3, .int sp, .long lk])), (a1, .inl (e1, 1440, .inl f1)), (a2, .inl (e2, 1440, .inl f2)), (a3, .inl (e3, 1001, .inr (.inl f3))), (k5, .inr (4, [.ref a4, .int cn, .long to])), (a4, .inl (e4, 10, .inl f4)), (m0, .inr (6, [.int mco, .int mpi, .int msh, .int mlo, .int mph, .int mdi, .long mlm, .long men, .long mla, .long mcu, .long mnw, .int msp, .ref b1, .ref b2, .ref b3, .ref b4, .long mlk, .int mcs, .ref b5])), (b1, .inl (i1, 20, .inl g1)), (b2, .inl (i2, 20, .inl g2)), (b3, .inl (i3, 20, .inl g3)), (b4, .inl (i4, 1440, .inr (.inl g4))), (b5, .inl (i5, 11, .inl g5)), (o0, .inl (e9, 1, .inr (.inl fo)))] H → va_D (fun q : Nat => s.heap.size ≤ q) [(q0, .inr (5, [.ref k1, .ref k2, .ref k3, .ref k4, .ref k5, .int pl])), (k1, .inr (0, [.long told])), (k2, .inr (1, [.int lv, .long th])), (k3, .inr (2, [.int ph, .int di, .long lm, .long cu, .long la, .long en])), (k4, .inr (3, [.ref a1, .ref a2, .ref a3, .int sp, .long lk])), (a1, .inl (e1, 1440, .inl f1)), (a2, .inl (e2, 1440, .inl f2)), (a3, .inl (e3, 1001, .inr (.inl f3))), (k5, .inr (4, [.ref a4, .int cn, .long to])), (a4, .inl (e4, 10, .inl f4)), (m0, .inr (6, [.int mco, .int mpi, .int msh, .int mlo, .int mph, .int mdi, .long mlm, .long men, .long mla, .long mcu, .long mnw, .int msp, .ref b1, .ref b2, .ref b3, .ref b4, .long mlk, .int mcs, .ref b5])), (b1, .inl (i1, 20, .inl g1)), (b2, .inl (i2, 20, .inl g2)), (b3, .inl (i3, 20, .inl g3)), (b4, .inl (i4, 1440, .inr (.inl g4))), (b5, .inl (i5, 11, .inl g5)), (o0, .inl (e9, 1, .inr (.inl fo)))] → va_S (fun q : Nat => s.heap.size ≤ q) s.heap H locs → lv_has ls 8 [(0, .ref b), (1, .ref q0), (2, .ref m0), (3, .ref o0), (4, .int x4)] → W p l e room_1 s m #[Value.ref b] below meth c H locs (cc + 1) (ss + 6) (lw_Z below #[Value.ref b] s) (F0 m 1004 ls [])) : W p l e room_1 s m #[Value.ref b] below meth c H locs cc ss (lw_Z below #[Value.ref b] s) (F0 m 850 ls []) := by
  obtain ⟨hx, hb, hr, hml, hown, hts0, hX, hbl, hlocks, hgv⟩ := C0
  have hB := law_big hts0
  have hts := law_ts hts0
  have hN := law_nst hts0
  have hA : ∀ q : Nat, s.heap.size ≤ q → (fun q : Nat => s.heap.size ≤ q) q := fun _ h => h
  have hbA : ¬ (fun q : Nat => s.heap.size ≤ q) b := Nat.not_le.mpr hbl
  obtain ⟨sa, hth⟩ := law_thr hts0 hgv
  have hns : ∀ (q : Nat) (cell : Cell), s.heap[q]? = some cell → (fun q : Nat => s.heap.size ≤ q) q → cell.vm.isStatics = false := fun q cell h1 h2 => absurd (Array.getElem?_eq_some_iff.mp h1).1 (Nat.not_lt.mpr h2)
  refine lv_aload_n hx hb d_Law_law_850 rfl (lv_at hl 1 rfl) ?_
  refine lv_aload_n hx hb d_Law_law_851 rfl (lv_at hl 0 rfl) ?_
  refine lv_iload hx hb d_Law_law_852 (lv_at hl 4 rfl) ?_
  refine lv_iconst (v := 1) hx hb d_Law_law_854 (by decide) ?_
  refine lv_iadd hx hb d_Law_law_855 ?_
  have h_856 : vp_in (x4 + 1) L := vinS 1 hL hi ex4 (by decide) (by decide)
  refine va_sld hx hb hX hbl hbA hS h_856 d_Law_law_856 ?_
  refine lv_topi (fun y_856 ey_856 => ?_)
  obtain rfl : y_856 = sx xs x4 1 := ey_856
  refine lv_aload_n hx hb d_Law_law_857 rfl (lv_at hl 0 rfl) ?_
  refine lv_iload hx hb d_Law_law_858 (lv_at hl 4 rfl) ?_
  refine lv_iconst (v := 2) hx hb d_Law_law_860 (by decide) ?_
  refine lv_iadd hx hb d_Law_law_861 ?_
  have h_862 : vp_in (x4 + 2) L := vinS 2 hL hi ex4 (by decide) (by decide)
  refine va_sld hx hb hX hbl hbA hS h_862 d_Law_law_862 ?_
  refine lv_topi (fun y_862 ey_862 => ?_)
  obtain rfl : y_862 = sx xs x4 2 := ey_862
  refine lv_i2l hx hb d_Law_law_863 rfl ?_
  refine lv_bipush (v := 32) hx hb d_Law_law_864 (by decide) ?_
  refine lv_lshl hx hb d_Law_law_866 rfl ?_
  refine lv_aload_n hx hb d_Law_law_867 rfl (lv_at hl 0 rfl) ?_
  refine lv_iload hx hb d_Law_law_868 (lv_at hl 4 rfl) ?_
  refine lv_iconst (v := 3) hx hb d_Law_law_870 (by decide) ?_
  refine lv_iadd hx hb d_Law_law_871 ?_
  have h_872 : vp_in (x4 + 3) L := vinS 3 hL hi ex4 (by decide) (by decide)
  refine va_sld hx hb hX hbl hbA hS h_872 d_Law_law_872 ?_
  refine lv_topi (fun y_872 ey_872 => ?_)
  obtain rfl : y_872 = sx xs x4 3 := ey_872
  refine lv_i2l hx hb d_Law_law_873 rfl ?_
  refine lv_ldc2 (v := 4294967295) hx hb hown (hB _ kb_300) d_Law_law_874 ?_
  refine lv_land hx hb d_Law_law_877 ?_
  refine lv_lor hx hb d_Law_law_878 ?_
  refine lv_topl (fun y_878 ey_878 => ?_)
  obtain rfl : y_878 = jn (sx xs x4 2) (sx xs x4 3) := ey_878
  refine lv_aload_n hx hb d_Law_law_879 rfl (lv_at hl 0 rfl) ?_
  refine lv_iload hx hb d_Law_law_880 (lv_at hl 4 rfl) ?_
  refine lv_iconst (v := 4) hx hb d_Law_law_882 (by decide) ?_
  refine lv_iadd hx hb d_Law_law_883 ?_
  have h_884 : vp_in (x4 + 4) L := vinS 4 hL hi ex4 (by decide) (by decide)
  refine va_sld hx hb hX hbl hbA hS h_884 d_Law_law_884 ?_
  refine lv_topi (fun y_884 ey_884 => ?_)
  obtain rfl : y_884 = sx xs x4 4 := ey_884
  refine lv_aload_n hx hb d_Law_law_885 rfl (lv_at hl 3 rfl) ?_
  refine kc_i (k_runSW (n := 5) (As := [.ref q0, .int (sx xs x4 1), .long (jn (sx xs x4 2) (sx xs x4 3)), .int (sx xs x4 4), .ref o0]) (rest := []) ⟨hx, hb, hml, hown, hts⟩ (c_Law_share l dC dI k1 k2 k3 k4 k5 a4 e4 e9 sa H.size pl cn to f4 fo q0 (sx xs x4 1) (jn (sx xs x4 2) (sx xs x4 3)) (sx xs x4 4) o0 (hst) ((srb hI.2.1 hI.1.2.2.2.1 hI.1.2.2.2.2).1) ((srb hI.2.1 hI.1.2.2.2.1 hI.1.2.2.2.2).2) (fun k hk => (hI.2.1.1 k hk).2) (hI.1.2.2.2.2)) (gin kb_389) rfl rfl rfl (hB _ kb_390) (hB _ kb_391) (hB _ kb_392) ⟨by decide, by decide⟩ (by decide +kernel) ⟨Nat.le_of_ble_eq_true rfl, Nat.le_of_ble_eq_true rfl⟩ (preST (preS (wc := [(q0, .inr (5, [.ref k1, .ref k2, .ref k3, .ref k4, .ref k5, .int pl])), (k5, .inr (4, [.ref a4, .int cn, .long to])), (a4, .inl (e4, 10, .inl f4)), (o0, .inl (e9, 1, .inr (.inl fo)))]) hK hN hP hD [0, 8, 9, 16] rfl rfl (by decide) [3, 9] rfl) hth hS hns) rfl rfl hl.1 rfl (lv_room (Nat.le_of_ble_eq_true rfl)) d_Law_law_886 ⟨room_c (by omega), room_s (by omega)⟩) hP hD hS hA [0, 8, 9, 16] [1, 2, 3, 4, 5, 6, 7, 10, 11, 12, 13, 14, 15] (wr := [(k1, .inr (0, [.long told])), (k2, .inr (1, [.int lv, .long th])), (k3, .inr (2, [.int ph, .int di, .long lm, .long cu, .long la, .long en])), (k4, .inr (3, [.ref a1, .ref a2, .ref a3, .int sp, .long lk])), (a1, .inl (e1, 1440, .inl f1)), (a2, .inl (e2, 1440, .inl f2)), (a3, .inl (e3, 1001, .inr (.inl f3))), (m0, .inr (6, [.int mco, .int mpi, .int msh, .int mlo, .int mph, .int mdi, .long mlm, .long men, .long mla, .long mcu, .long mnw, .int msp, .ref b1, .ref b2, .ref b3, .ref b4, .long mlk, .int mcs, .ref b5])), (b1, .inl (i1, 20, .inl g1)), (b2, .inl (i2, 20, .inl g2)), (b3, .inl (i3, 20, .inl g3)), (b4, .inl (i4, 1440, .inr (.inl g4))), (b5, .inl (i5, 11, .inl g5))]) rfl rfl (by decide) (by decide) (fun r_886 u_886 H locs hw_886 hP hD hK1 hS => ?_)
  obtain ⟨fo2_886, rfl⟩ : ∃ z, z = u_886 := ⟨_, rfl⟩
  have hw_886 : (shT (sx xs x4 1) (jn (sx xs x4 2) (sx xs x4 3)) cn to.toInt → r_886 = 1) ∧ (¬ shT (sx xs x4 1) (jn (sx xs x4 2) (sx xs x4 3)) cn to.toInt → r_886 = 0 ∧ shP (sx xs x4 1) (jn (sx xs x4 2) (sx xs x4 3)) (sx xs x4 4) cn to.toInt (f4 ((sx xs x4 1) - 1).toNatClampNeg).toInt64 (fo2_886 0)) := hw_886
  have hP : va_P (dC, dI) classes [(k1, .inr (0, [.long told])), (k2, .inr (1, [.int lv, .long th])), (k3, .inr (2, [.int ph, .int di, .long lm, .long cu, .long la, .long en])), (k4, .inr (3, [.ref a1, .ref a2, .ref a3, .int sp, .long lk])), (a1, .inl (e1, 1440, .inl f1)), (a2, .inl (e2, 1440, .inl f2)), (a3, .inl (e3, 1001, .inr (.inl f3))), (m0, .inr (6, [.int mco, .int mpi, .int msh, .int mlo, .int mph, .int mdi, .long mlm, .long men, .long mla, .long mcu, .long mnw, .int msp, .ref b1, .ref b2, .ref b3, .ref b4, .long mlk, .int mcs, .ref b5])), (b1, .inl (i1, 20, .inl g1)), (b2, .inl (i2, 20, .inl g2)), (b3, .inl (i3, 20, .inl g3)), (b4, .inl (i4, 1440, .inr (.inl g4))), (b5, .inl (i5, 11, .inl g5)), (q0, .inr (5, [.ref k1, .ref k2, .ref k3, .ref k4, .ref k5, .int pl])), (k5, .inr (4, [.ref a4, .int cn, .long to])), (a4, .inl (e4, 10, .inl f4)), (o0, .inl (e9, 1, .inr (.inl fo2_886)))] H := hP
  have hD : va_D (fun q : Nat => s.heap.size ≤ q) [(k1, .inr (0, [.long told])), (k2, .inr (1, [.int lv, .long th])), (k3, .inr (2, [.int ph, .int di, .long lm, .long cu, .long la, .long en])), (k4, .inr (3, [.ref a1, .ref a2, .ref a3, .int sp, .long lk])), (a1, .inl (e1, 1440, .inl f1)), (a2, .inl (e2, 1440, .inl f2)), (a3, .inl (e3, 1001, .inr (.inl f3))), (m0, .inr (6, [.int mco, .int mpi, .int msh, .int mlo, .int mph, .int mdi, .long mlm, .long men, .long mla, .long mcu, .long mnw, .int msp, .ref b1, .ref b2, .ref b3, .ref b4, .long mlk, .int mcs, .ref b5])), (b1, .inl (i1, 20, .inl g1)), (b2, .inl (i2, 20, .inl g2)), (b3, .inl (i3, 20, .inl g3)), (b4, .inl (i4, 1440, .inr (.inl g4))), (b5, .inl (i5, 11, .inl g5)), (q0, .inr (5, [.ref k1, .ref k2, .ref k3, .ref k4, .ref k5, .int pl])), (k5, .inr (4, [.ref a4, .int cn, .long to])), (a4, .inl (e4, 10, .inl f4)), (o0, .inl (e9, 1, .inr (.inl fo2_886)))] := hD
  refine lv_istore (lv' := [(5, .int r_886), (0, .ref b), (1, .ref q0), (2, .ref m0), (3, .ref o0), (4, .int x4)]) hx hb d_Law_law_889 hl (by decide) rfl (fun ls hl => ?_)
  refine lv_aload_n hx hb d_Law_law_891 rfl (lv_at hl 3 rfl) ?_
  refine lv_aload_n hx hb d_Law_law_892 rfl (lv_at hl 1 rfl) ?_
  refine lv_iload hx hb d_Law_law_893 (lv_at hl 5 rfl) ?_
  refine lv_iconst (v := 1) hx hb d_Law_law_895 (by decide) ?_
  refine lv_iadd hx hb d_Law_law_896 ?_
  have h_897 : vp_in (x4 + 1) L := vinS 1 hL hi ex4 (by decide) (by decide)
  refine va_sld hx hb hX hbl hbA hS h_897 d_Law_law_897 ?_
  refine lv_topi (fun y_897 ey_897 => ?_)
  obtain rfl : y_897 = sx xs x4 1 := ey_897
  refine lv_aload_n hx hb d_Law_law_898 rfl (lv_at hl 1 rfl) ?_
  refine lv_iload hx hb d_Law_law_899 (lv_at hl 5 rfl) ?_
  refine lv_iconst (v := 2) hx hb d_Law_law_901 (by decide) ?_
  refine lv_iadd hx hb d_Law_law_902 ?_
  have h_903 : vp_in (x4 + 2) L := vinS 2 hL hi ex4 (by decide) (by decide)
  refine va_sld hx hb hX hbl hbA hS h_903 d_Law_law_903 ?_
  refine lv_topi (fun y_903 ey_903 => ?_)
  obtain rfl : y_903 = sx xs x4 2 := ey_903
  refine lv_i2l hx hb d_Law_law_904 rfl ?_
  refine lv_bipush (v := 32) hx hb d_Law_law_905 (by decide) ?_
  refine lv_lshl hx hb d_Law_law_907 rfl ?_
  refine lv_aload_n hx hb d_Law_law_908 rfl (lv_at hl 1 rfl) ?_
  refine lv_iload hx hb d_Law_law_909 (lv_at hl 5 rfl) ?_
  refine lv_iconst (v := 3) hx hb d_Law_law_911 (by decide) ?_
  refine lv_iadd hx hb d_Law_law_912 ?_
  have h_913 : vp_in (x4 + 3) L := vinS 3 hL hi ex4 (by decide) (by decide)
  refine va_sld hx hb hX hbl hbA hS h_913 d_Law_law_913 ?_
  refine lv_topi (fun y_913 ey_913 => ?_)
  obtain rfl : y_913 = sx xs x4 3 := ey_913
  refine lv_i2l hx hb d_Law_law_914 rfl ?_
  refine lv_ldc2 (v := 4294967295) hx hb hown (hB _ kb_300) d_Law_law_915 ?_
  refine lv_land hx hb d_Law_law_918 ?_
  refine lv_lor hx hb d_Law_law_919 ?_
  refine lv_topl (fun y_919 ey_919 => ?_)
  obtain rfl : y_919 = jn (sx xs x4 2) (sx xs x4 3) := ey_919
  refine lv_aload_n hx hb d_Law_law_920 rfl (lv_at hl 1 rfl) ?_
  refine lv_iload hx hb d_Law_law_921 (lv_at hl 5 rfl) ?_
  refine lv_iconst (v := 4) hx hb d_Law_law_923 (by decide) ?_
  refine lv_iadd hx hb d_Law_law_924 ?_
  have h_925 : vp_in (x4 + 4) L := vinS 4 hL hi ex4 (by decide) (by decide)
  refine va_sld hx hb hX hbl hbA hS h_925 d_Law_law_925 ?_
  refine lv_topi (fun y_925 ey_925 => ?_)
  obtain rfl : y_925 = sx xs x4 4 := ey_925
  refine kc_l (va_runV (As := [.int (sx xs x4 1), .long (jn (sx xs x4 2) (sx xs x4 3)), .int (sx xs x4 4)]) (rest := []) ⟨hx, hb, hml, hown, hts⟩ (c_Mo_share l dC dI m0 b1 b2 b3 b4 b5 i5 H.size mco mpi msh mlo mph mdi mlm men mla mcu mnw msp mlk mcs g5 (sx xs x4 1) (jn (sx xs x4 2) (sx xs x4 3)) (sx xs x4 4) (by rw [← hI.1.2.2.1]; exact hI.1.2.2.2.1) (by rw [← hI.1.2.2.1]; exact hI.1.2.2.2.2) (hgs hI.1.2.2.1 hI.2.1)) (cwV 3 hts (ginV kb_394 kb_395 kb_396 kb_251 kb_393) rfl rfl rfl (by decide +kernel) ⟨Nat.le_of_ble_eq_true rfl, Nat.le_of_ble_eq_true rfl⟩) (preV (ci := 6) (wc := [(m0, .inr (6, [.int mco, .int mpi, .int msh, .int mlo, .int mph, .int mdi, .long mlm, .long men, .long mla, .long mcu, .long mnw, .int msp, .ref b1, .ref b2, .ref b3, .ref b4, .long mlk, .int mcs, .ref b5])), (b5, .inl (i5, 11, .inl g5))]) hK hN hP hD [7, 12] rfl rfl (by decide) [8] rfl rfl rfl) rfl rfl hl.1 rfl (lv_room (Nat.le_of_ble_eq_true rfl)) d_Law_law_926 ⟨room_c (by omega), room_s (by omega)⟩) hP hD hS hA [7, 12] [0, 1, 2, 3, 4, 5, 6, 8, 9, 10, 11, 13, 14, 15, 16] (wr := [(k1, .inr (0, [.long told])), (k2, .inr (1, [.int lv, .long th])), (k3, .inr (2, [.int ph, .int di, .long lm, .long cu, .long la, .long en])), (k4, .inr (3, [.ref a1, .ref a2, .ref a3, .int sp, .long lk])), (a1, .inl (e1, 1440, .inl f1)), (a2, .inl (e2, 1440, .inl f2)), (a3, .inl (e3, 1001, .inr (.inl f3))), (b1, .inl (i1, 20, .inl g1)), (b2, .inl (i2, 20, .inl g2)), (b3, .inl (i3, 20, .inl g3)), (b4, .inl (i4, 1440, .inr (.inl g4))), (q0, .inr (5, [.ref k1, .ref k2, .ref k3, .ref k4, .ref k5, .int pl])), (k5, .inr (4, [.ref a4, .int cn, .long to])), (a4, .inl (e4, 10, .inl f4)), (o0, .inl (e9, 1, .inr (.inl fo2_886)))]) rfl rfl (by decide) (by decide) (fun r_926 u_926 H locs hw_926 hP hD hK1 hS => ?_)
  obtain ⟨co2_926, rfl⟩ : ∃ z, z = u_926 := ⟨_, rfl⟩
  have hw_926 : (shT (sx xs x4 1) (jn (sx xs x4 2) (sx xs x4 3)) mcs (mS g5 mcs) → co2_926 = 1) ∧ (¬ shT (sx xs x4 1) (jn (sx xs x4 2) (sx xs x4 3)) mcs (mS g5 mcs) → co2_926 = 0 ∧ shP (sx xs x4 1) (jn (sx xs x4 2) (sx xs x4 3)) (sx xs x4 4) mcs (mS g5 mcs) (g5 (sx xs x4 1).toNatClampNeg).toInt64 r_926) := hw_926
  have hP : va_P (dC, dI) classes [(k1, .inr (0, [.long told])), (k2, .inr (1, [.int lv, .long th])), (k3, .inr (2, [.int ph, .int di, .long lm, .long cu, .long la, .long en])), (k4, .inr (3, [.ref a1, .ref a2, .ref a3, .int sp, .long lk])), (a1, .inl (e1, 1440, .inl f1)), (a2, .inl (e2, 1440, .inl f2)), (a3, .inl (e3, 1001, .inr (.inl f3))), (b1, .inl (i1, 20, .inl g1)), (b2, .inl (i2, 20, .inl g2)), (b3, .inl (i3, 20, .inl g3)), (b4, .inl (i4, 1440, .inr (.inl g4))), (q0, .inr (5, [.ref k1, .ref k2, .ref k3, .ref k4, .ref k5, .int pl])), (k5, .inr (4, [.ref a4, .int cn, .long to])), (a4, .inl (e4, 10, .inl f4)), (o0, .inl (e9, 1, .inr (.inl fo2_886))), (m0, .inr (6, [.int co2_926, .int mpi, .int msh, .int mlo, .int mph, .int mdi, .long mlm, .long men, .long mla, .long mcu, .long mnw, .int msp, .ref b1, .ref b2, .ref b3, .ref b4, .long mlk, .int mcs, .ref b5])), (b5, .inl (i5, 11, .inl g5))] H := hP
  have hD : va_D (fun q : Nat => s.heap.size ≤ q) [(k1, .inr (0, [.long told])), (k2, .inr (1, [.int lv, .long th])), (k3, .inr (2, [.int ph, .int di, .long lm, .long cu, .long la, .long en])), (k4, .inr (3, [.ref a1, .ref a2, .ref a3, .int sp, .long lk])), (a1, .inl (e1, 1440, .inl f1)), (a2, .inl (e2, 1440, .inl f2)), (a3, .inl (e3, 1001, .inr (.inl f3))), (b1, .inl (i1, 20, .inl g1)), (b2, .inl (i2, 20, .inl g2)), (b3, .inl (i3, 20, .inl g3)), (b4, .inl (i4, 1440, .inr (.inl g4))), (q0, .inr (5, [.ref k1, .ref k2, .ref k3, .ref k4, .ref k5, .int pl])), (k5, .inr (4, [.ref a4, .int cn, .long to])), (a4, .inl (e4, 10, .inl f4)), (o0, .inl (e9, 1, .inr (.inl fo2_886))), (m0, .inr (6, [.int co2_926, .int mpi, .int msh, .int mlo, .int mph, .int mdi, .long mlm, .long men, .long mla, .long mcu, .long mnw, .int msp, .ref b1, .ref b2, .ref b3, .ref b4, .long mlk, .int mcs, .ref b5])), (b5, .inl (i5, 11, .inl g5))] := hD
  refine lv_lstore (lv' := [(6, .long r_926), (5, .int r_886), (0, .ref b), (1, .ref q0), (2, .ref m0), (3, .ref o0), (4, .int x4)]) hx hb d_Law_law_929 hl (by decide) rfl (fun ls hl => ?_)
  refine lv_goto (tgt := 1004) hx hb d_Law_law_931 (by decide) ?_
  refine W.widen (k := cc + 1) (n := ss + 6) (by omega) (by omega) ?_
  exact kk pl told lv th ph di lm cu la en sp lk f1 f2 f3 cn to f4 co2_926 mpi msh mlo mph mdi mlm men mla mcu mnw msp mlk mcs g1 g2 g3 g4 g5 fo2_886 _ _ _ (hI) (hP.sub [11, 0, 1, 2, 3, 4, 5, 6, 12, 13, 15, 7, 8, 9, 10, 16, 14] rfl) (hD.sub [11, 0, 1, 2, 3, 4, 5, 6, 12, 13, 15, 7, 8, 9, 10, 16, 14] (by decide) rfl) hS (lv_sub hl [2, 3, 4, 5, 6] rfl)
