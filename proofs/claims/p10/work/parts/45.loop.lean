set_option maxHeartbeats 4000000 in
set_option maxRecDepth 100000 in
theorem law_loop {p : Program} {l : Launch} {e : Env} {s : State} {m : MethodId} {below : List Frame} {meth : Method} {c : Code} {dC : Nat → ClassId} {dI : Nat → Nat → Nat} {b L : Nat} {xs : Nat → Int32} (hst : l.stackTraces = false) (hL : L ≤ 3584) (C0 : lw_At p s m meth c b L xs) (q0 : Nat) (k1 : Nat) (k2 : Nat) (k3 : Nat) (k4 : Nat) (a1 : Nat) (a2 : Nat) (a3 : Nat) (k5 : Nat) (a4 : Nat) (m0 : Nat) (b1 : Nat) (b2 : Nat) (b3 : Nat) (b4 : Nat) (b5 : Nat) (o0 : Nat) (e1 : ClassId) (e2 : ClassId) (e3 : ClassId) (e4 : ClassId) (i1 : ClassId) (i2 : ClassId) (i3 : ClassId) (i4 : ClassId) (i5 : ClassId) (e9 : ClassId) (hK : va_K (dC, dI) classes [(e1, .int), (e2, .int), (e3, .long), (e4, .int), (i1, .int), (i2, .int), (i3, .int), (i4, .long), (i5, .int), (e9, .long)] s) :
    ∀ (n i : Nat) (x4 : Int32) (cc ss : Nat), i ≤ L → L < i + 7 * n → n ≤ 513 → cc + n ≤ 530 → ss + 6 * n ≤ 8600 → x4 = nI i → ∀ (pl : Int32) (told : Int64) (lv : Int32) (th : Int64) (ph : Int32) (di : Int32) (lm : Int64) (cu : Int64) (la : Int64) (en : Int64) (sp : Int32) (lk : Int64) (f1 : Nat → Int32) (f2 : Nat → Int32) (f3 : Nat → Int64) (cn : Int32) (to : Int64) (f4 : Nat → Int32) (mco : Int32) (mpi : Int32) (msh : Int32) (mlo : Int32) (mph : Int32) (mdi : Int32) (mlm : Int64) (men : Int64) (mla : Int64) (mcu : Int64) (mnw : Int64) (msp : Int32) (mlk : Int64) (mcs : Int32) (g1 : Nat → Int32) (g2 : Nat → Int32) (g3 : Nat → Int32) (g4 : Nat → Int64) (g5 : Nat → Int32) (fo : Nat → Int64) (H : Heap) (locs : List Loc) (ls : Array Slot), linv lv mpi th msh sp msp cn mcs ∧ srel f4 to cn g5 ∧ erel f1 g1 g2 g3 msp.toInt.toNat ∧ lk = mlk ∧ frel f2 g4 → va_P (dC, dI) classes [(q0, .inr (5, [.ref k1, .ref k2, .ref k3, .ref k4, .ref k5, .int pl])), (k1, .inr (0, [.long told])), (k2, .inr (1, [.int lv, .long th])), (k3, .inr (2, [.int ph, .int di, .long lm, .long cu, .long la, .long en])), (k4, .inr (3, [.ref a1, .ref a2, .ref a3, .int sp, .long lk])), (a1, .inl (e1, 1440, .inl f1)), (a2, .inl (e2, 1440, .inl f2)), (a3, .inl (e3, 1001, .inr (.inl f3))), (k5, .inr (4, [.ref a4, .int cn, .long to])), (a4, .inl (e4, 10, .inl f4)), (m0, .inr (6, [.int mco, .int mpi, .int msh, .int mlo, .int mph, .int mdi, .long mlm, .long men, .long mla, .long mcu, .long mnw, .int msp, .ref b1, .ref b2, .ref b3, .ref b4, .long mlk, .int mcs, .ref b5])), (b1, .inl (i1, 20, .inl g1)), (b2, .inl (i2, 20, .inl g2)), (b3, .inl (i3, 20, .inl g3)), (b4, .inl (i4, 1440, .inr (.inl g4))), (b5, .inl (i5, 11, .inl g5)), (o0, .inl (e9, 1, .inr (.inl fo)))] H → va_D (fun q : Nat => s.heap.size ≤ q) [(q0, .inr (5, [.ref k1, .ref k2, .ref k3, .ref k4, .ref k5, .int pl])), (k1, .inr (0, [.long told])), (k2, .inr (1, [.int lv, .long th])), (k3, .inr (2, [.int ph, .int di, .long lm, .long cu, .long la, .long en])), (k4, .inr (3, [.ref a1, .ref a2, .ref a3, .int sp, .long lk])), (a1, .inl (e1, 1440, .inl f1)), (a2, .inl (e2, 1440, .inl f2)), (a3, .inl (e3, 1001, .inr (.inl f3))), (k5, .inr (4, [.ref a4, .int cn, .long to])), (a4, .inl (e4, 10, .inl f4)), (m0, .inr (6, [.int mco, .int mpi, .int msh, .int mlo, .int mph, .int mdi, .long mlm, .long men, .long mla, .long mcu, .long mnw, .int msp, .ref b1, .ref b2, .ref b3, .ref b4, .long mlk, .int mcs, .ref b5])), (b1, .inl (i1, 20, .inl g1)), (b2, .inl (i2, 20, .inl g2)), (b3, .inl (i3, 20, .inl g3)), (b4, .inl (i4, 1440, .inr (.inl g4))), (b5, .inl (i5, 11, .inl g5)), (o0, .inl (e9, 1, .inr (.inl fo)))] → va_S (fun q : Nat => s.heap.size ≤ q) s.heap H locs → lv_has ls 8 [(0, .ref b), (1, .ref q0), (2, .ref m0), (3, .ref o0), (4, .int x4)] → W p l e room_1 s m #[Value.ref b] below meth c H locs cc ss (lw_Z below #[Value.ref b] s) (F0 m 23 ls []) := by
  intro n
  induction n with
  | zero => intro i x4 cc ss h1 h2; exact absurd h2 (by omega)
  | succ n ih =>
    intro i x4 cc ss hiL hn hn5 hcc hss ex4 pl told lv th ph di lm cu la en sp lk f1 f2 f3 cn to f4 mco mpi msh mlo mph mdi mlm men mla mcu mnw msp mlk mcs g1 g2 g3 g4 g5 fo H locs ls hI hP hD hS hl
    obtain ⟨hx, hb, hr, hml, hown, hts0, hX, hbl, hlocks, hgv⟩ := id C0
    have hbA : ¬ (fun q : Nat => s.heap.size ≤ q) b := Nat.not_le.mpr hbl
    refine lv_iload hx hb d_Law_law_23 (lv_at hl 4 rfl) ?_
    refine lv_aload_n hx hb d_Law_law_25 rfl (lv_at hl 0 rfl) ?_
    refine va_slen hx hb hX hbl hbA hS d_Law_law_26 ?_
    refine lv_bipush (v := 7) hx hb d_Law_law_27 (by decide) ?_
    refine lv_isub hx hb d_Law_law_29 ?_
    refine lv_icmp_gt (tgt := 1010) hx hb d_Law_law_30 (by decide) (fun c_h => ?_) (fun c_h => ?_)
    · refine lv_iconst (v := 1) hx hb d_Law_law_1010 (by decide) ?_
      refine va_forget (fun q hq => hS.2.2 q hq) ?_
      refine W.widen (k := 1042) (n := 13643) (by omega) (by omega) ?_
      exact lw_ret hx hb hr hlocks d_Law_law_1011
    have hi7 : i + 7 ≤ L := lwi7 hL hiL ex4 c_h
    refine lv_aload_n hx hb d_Law_law_33 rfl (lv_at hl 0 rfl) ?_
    refine lv_iload hx hb d_Law_law_34 (lv_at hl 4 rfl) ?_
    refine va_sld hx hb hX hbl hbA hS (vinS0 hL hi7 ex4) d_Law_law_36 ?_
    refine lv_bipush (v := 15) hx hb d_Law_law_37 (by decide) ?_
    refine lv_iand hx hb d_Law_law_39 ?_
    refine lv_topi (fun xo exo => ?_)
    have kk : ∀ (pl : Int32) (told : Int64) (lv : Int32) (th : Int64) (ph : Int32) (di : Int32) (lm : Int64) (cu : Int64) (la : Int64) (en : Int64) (sp : Int32) (lk : Int64) (f1 : Nat → Int32) (f2 : Nat → Int32) (f3 : Nat → Int64) (cn : Int32) (to : Int64) (f4 : Nat → Int32) (mco : Int32) (mpi : Int32) (msh : Int32) (mlo : Int32) (mph : Int32) (mdi : Int32) (mlm : Int64) (men : Int64) (mla : Int64) (mcu : Int64) (mnw : Int64) (msp : Int32) (mlk : Int64) (mcs : Int32) (g1 : Nat → Int32) (g2 : Nat → Int32) (g3 : Nat → Int32) (g4 : Nat → Int64) (g5 : Nat → Int32) (fo : Nat → Int64) (H : Heap) (locs : List Loc) (ls : Array Slot), linv lv mpi th msh sp msp cn mcs ∧ srel f4 to cn g5 ∧ erel f1 g1 g2 g3 msp.toInt.toNat ∧ lk = mlk ∧ frel f2 g4 → va_P (dC, dI) classes [(q0, .inr (5, [.ref k1, .ref k2, .ref k3, .ref k4, .ref k5, .int pl])), (k1, .inr (0, [.long told])), (k2, .inr (1, [.int lv, .long th])), (k3, .inr (2, [.int ph, .int di, .long lm, .long cu, .long la, .long en])), (k4, .inr (3, [.ref a1, .ref a2, .ref a3, .int sp, .long lk])), (a1, .inl (e1, 1440, .inl f1)), (a2, .inl (e2, 1440, .inl f2)), (a3, .inl (e3, 1001, .inr (.inl f3))), (k5, .inr (4, [.ref a4, .int cn, .long to])), (a4, .inl (e4, 10, .inl f4)), (m0, .inr (6, [.int mco, .int mpi, .int msh, .int mlo, .int mph, .int mdi, .long mlm, .long men, .long mla, .long mcu, .long mnw, .int msp, .ref b1, .ref b2, .ref b3, .ref b4, .long mlk, .int mcs, .ref b5])), (b1, .inl (i1, 20, .inl g1)), (b2, .inl (i2, 20, .inl g2)), (b3, .inl (i3, 20, .inl g3)), (b4, .inl (i4, 1440, .inr (.inl g4))), (b5, .inl (i5, 11, .inl g5)), (o0, .inl (e9, 1, .inr (.inl fo)))] H → va_D (fun q : Nat => s.heap.size ≤ q) [(q0, .inr (5, [.ref k1, .ref k2, .ref k3, .ref k4, .ref k5, .int pl])), (k1, .inr (0, [.long told])), (k2, .inr (1, [.int lv, .long th])), (k3, .inr (2, [.int ph, .int di, .long lm, .long cu, .long la, .long en])), (k4, .inr (3, [.ref a1, .ref a2, .ref a3, .int sp, .long lk])), (a1, .inl (e1, 1440, .inl f1)), (a2, .inl (e2, 1440, .inl f2)), (a3, .inl (e3, 1001, .inr (.inl f3))), (k5, .inr (4, [.ref a4, .int cn, .long to])), (a4, .inl (e4, 10, .inl f4)), (m0, .inr (6, [.int mco, .int mpi, .int msh, .int mlo, .int mph, .int mdi, .long mlm, .long men, .long mla, .long mcu, .long mnw, .int msp, .ref b1, .ref b2, .ref b3, .ref b4, .long mlk, .int mcs, .ref b5])), (b1, .inl (i1, 20, .inl g1)), (b2, .inl (i2, 20, .inl g2)), (b3, .inl (i3, 20, .inl g3)), (b4, .inl (i4, 1440, .inr (.inl g4))), (b5, .inl (i5, 11, .inl g5)), (o0, .inl (e9, 1, .inr (.inl fo)))] → va_S (fun q : Nat => s.heap.size ≤ q) s.heap H locs → lv_has ls 8 [(0, .ref b), (1, .ref q0), (2, .ref m0), (3, .ref o0), (4, .int x4)] → W p l e room_1 s m #[Value.ref b] below meth c H locs (cc + 1) (ss + 6) (lw_Z below #[Value.ref b] s) (F0 m 1004 ls []) := by
      intro pl told lv th ph di lm cu la en sp lk f1 f2 f3 cn to f4 mco mpi msh mlo mph mdi mlm men mla mcu mnw msp mlk mcs g1 g2 g3 g4 g5 fo H locs ls hI hP hD hS hl
      obtain ⟨x7, ex7⟩ : ∃ y : Int32, y = x4 + 7 := ⟨_, rfl⟩
      refine lv_iinc (v := x7) (lv' := [(4, .int x7), (0, .ref b), (1, .ref q0), (2, .ref m0), (3, .ref o0)]) hx hb d_Law_law_1004 hl (k := 4) rfl (by rw [ex7]; rfl) (by decide) rfl (fun ls hl => ?_)
      refine lv_goto (tgt := 23) hx hb d_Law_law_1007 (by decide) ?_
      exact ih (i + 7) x7 (cc + 1) (ss + 6) (by omega) (by omega) (by omega) (by omega) (by omega) (by rw [ex7, ex4]; exact nI_add i 7) pl told lv th ph di lm cu la en sp lk f1 f2 f3 cn to f4 mco mpi msh mlo mph mdi mlm men mla mcu mnw msp mlk mcs g1 g2 g3 g4 g5 fo H locs ls hI hP hD hS (lv_sub hl [1, 2, 3, 4, 0] rfl)
    rcases swx 0 13 xo with c_s | c_s
    · refine lv_tableOut (tgt := 1004) hx hb d_Law_law_40 c_s (by decide) ?_
      refine W.widen (k := cc + 1) (n := ss + 6) (by omega) (by omega) ?_
      exact kk pl told lv th ph di lm cu la en sp lk f1 f2 f3 cn to f4 mco mpi msh mlo mph mdi mlm men mla mcu mnw msp mlk mcs g1 g2 g3 g4 g5 fo _ _ _ hI hP hD hS hl
    obtain ⟨j, hj⟩ : ∃ j : Nat, xo.toInt = 0 + (j : Int) ∧ j < 14 := ⟨(xo.toInt - 0).toNat, by omega, by omega⟩
    rcases (show j = 0 ∨ j = 1 ∨ j = 2 ∨ j = 3 ∨ j = 4 ∨ j = 5 ∨ j = 6 ∨ j = 7 ∨ j = 8 ∨ j = 9 ∨ j = 10 ∨ j = 11 ∨ j = 12 ∨ j = 13 by omega) with h_j | h_j | h_j | h_j | h_j | h_j | h_j | h_j | h_j | h_j | h_j | h_j | h_j | h_j
    · have t_j : xo.toInt = 0 := by omega
      refine lv_tableIn (tgt := 112) hx hb d_Law_law_40 (by omega) (by omega) (by rw [t_j]; rfl) (by decide) ?_
      exact law_case_0 hst hL C0 i x4 hi7 ex4 cc ss (by omega) (by omega) q0 k1 k2 k3 k4 a1 a2 a3 k5 a4 m0 b1 b2 b3 b4 b5 o0 e1 e2 e3 e4 i1 i2 i3 i4 i5 e9 pl told lv th ph di lm cu la en sp lk f1 f2 f3 cn to f4 mco mpi msh mlo mph mdi mlm men mla mcu mnw msp mlk mcs g1 g2 g3 g4 g5 fo H locs ls hI hK hP hD hS hl kk
    · have t_j : xo.toInt = 1 := by omega
      refine lv_tableIn (tgt := 213) hx hb d_Law_law_40 (by omega) (by omega) (by rw [t_j]; rfl) (by decide) ?_
      exact law_case_1 hst hL C0 i x4 hi7 ex4 cc ss (by omega) (by omega) q0 k1 k2 k3 k4 a1 a2 a3 k5 a4 m0 b1 b2 b3 b4 b5 o0 e1 e2 e3 e4 i1 i2 i3 i4 i5 e9 pl told lv th ph di lm cu la en sp lk f1 f2 f3 cn to f4 mco mpi msh mlo mph mdi mlm men mla mcu mnw msp mlk mcs g1 g2 g3 g4 g5 fo H locs ls hI hK hP hD hS hl kk
    · have t_j : xo.toInt = 2 := by omega
      refine lv_tableIn (tgt := 326) hx hb d_Law_law_40 (by omega) (by omega) (by rw [t_j]; rfl) (by decide) ?_
      exact law_case_2 hst hL C0 i x4 hi7 ex4 cc ss (by omega) (by omega) q0 k1 k2 k3 k4 a1 a2 a3 k5 a4 m0 b1 b2 b3 b4 b5 o0 e1 e2 e3 e4 i1 i2 i3 i4 i5 e9 pl told lv th ph di lm cu la en sp lk f1 f2 f3 cn to f4 mco mpi msh mlo mph mdi mlm men mla mcu mnw msp mlk mcs g1 g2 g3 g4 g5 fo H locs ls hI hK hP hD hS hl kk
    · have t_j : xo.toInt = 3 := by omega
      refine lv_tableIn (tgt := 339) hx hb d_Law_law_40 (by omega) (by omega) (by rw [t_j]; rfl) (by decide) ?_
      exact law_case_3 hst hL C0 i x4 hi7 ex4 cc ss (by omega) (by omega) q0 k1 k2 k3 k4 a1 a2 a3 k5 a4 m0 b1 b2 b3 b4 b5 o0 e1 e2 e3 e4 i1 i2 i3 i4 i5 e9 pl told lv th ph di lm cu la en sp lk f1 f2 f3 cn to f4 mco mpi msh mlo mph mdi mlm men mla mcu mnw msp mlk mcs g1 g2 g3 g4 g5 fo H locs ls hI hK hP hD hS hl kk
    · have t_j : xo.toInt = 4 := by omega
      refine lv_tableIn (tgt := 380) hx hb d_Law_law_40 (by omega) (by omega) (by rw [t_j]; rfl) (by decide) ?_
      exact law_case_4 hst hL C0 i x4 hi7 ex4 cc ss (by omega) (by omega) q0 k1 k2 k3 k4 a1 a2 a3 k5 a4 m0 b1 b2 b3 b4 b5 o0 e1 e2 e3 e4 i1 i2 i3 i4 i5 e9 pl told lv th ph di lm cu la en sp lk f1 f2 f3 cn to f4 mco mpi msh mlo mph mdi mlm men mla mcu mnw msp mlk mcs g1 g2 g3 g4 g5 fo H locs ls hI hK hP hD hS hl kk
    · have t_j : xo.toInt = 5 := by omega
      refine lv_tableIn (tgt := 437) hx hb d_Law_law_40 (by omega) (by omega) (by rw [t_j]; rfl) (by decide) ?_
      exact law_case_5 hst hL C0 i x4 hi7 ex4 cc ss (by omega) (by omega) q0 k1 k2 k3 k4 a1 a2 a3 k5 a4 m0 b1 b2 b3 b4 b5 o0 e1 e2 e3 e4 i1 i2 i3 i4 i5 e9 pl told lv th ph di lm cu la en sp lk f1 f2 f3 cn to f4 mco mpi msh mlo mph mdi mlm men mla mcu mnw msp mlk mcs g1 g2 g3 g4 g5 fo H locs ls hI hK hP hD hS hl kk
    · have t_j : xo.toInt = 6 := by omega
      refine lv_tableIn (tgt := 538) hx hb d_Law_law_40 (by omega) (by omega) (by rw [t_j]; rfl) (by decide) ?_
      exact law_case_6 hst hL C0 i x4 hi7 ex4 cc ss (by omega) (by omega) q0 k1 k2 k3 k4 a1 a2 a3 k5 a4 m0 b1 b2 b3 b4 b5 o0 e1 e2 e3 e4 i1 i2 i3 i4 i5 e9 pl told lv th ph di lm cu la en sp lk f1 f2 f3 cn to f4 mco mpi msh mlo mph mdi mlm men mla mcu mnw msp mlk mcs g1 g2 g3 g4 g5 fo H locs ls hI hK hP hD hS hl kk
    · have t_j : xo.toInt = 7 := by omega
      refine lv_tableIn (tgt := 551) hx hb d_Law_law_40 (by omega) (by omega) (by rw [t_j]; rfl) (by decide) ?_
      exact law_case_7 hst hL C0 i x4 hi7 ex4 cc ss (by omega) (by omega) q0 k1 k2 k3 k4 a1 a2 a3 k5 a4 m0 b1 b2 b3 b4 b5 o0 e1 e2 e3 e4 i1 i2 i3 i4 i5 e9 pl told lv th ph di lm cu la en sp lk f1 f2 f3 cn to f4 mco mpi msh mlo mph mdi mlm men mla mcu mnw msp mlk mcs g1 g2 g3 g4 g5 fo H locs ls hI hK hP hD hS hl kk
    · have t_j : xo.toInt = 8 := by omega
      refine lv_tableIn (tgt := 698) hx hb d_Law_law_40 (by omega) (by omega) (by rw [t_j]; rfl) (by decide) ?_
      exact law_case_8 hst hL C0 i x4 hi7 ex4 cc ss (by omega) (by omega) q0 k1 k2 k3 k4 a1 a2 a3 k5 a4 m0 b1 b2 b3 b4 b5 o0 e1 e2 e3 e4 i1 i2 i3 i4 i5 e9 pl told lv th ph di lm cu la en sp lk f1 f2 f3 cn to f4 mco mpi msh mlo mph mdi mlm men mla mcu mnw msp mlk mcs g1 g2 g3 g4 g5 fo H locs ls hI hK hP hD hS hl kk
    · have t_j : xo.toInt = 9 := by omega
      refine lv_tableIn (tgt := 756) hx hb d_Law_law_40 (by omega) (by omega) (by rw [t_j]; rfl) (by decide) ?_
      exact law_case_9 hst hL C0 i x4 hi7 ex4 cc ss (by omega) (by omega) q0 k1 k2 k3 k4 a1 a2 a3 k5 a4 m0 b1 b2 b3 b4 b5 o0 e1 e2 e3 e4 i1 i2 i3 i4 i5 e9 pl told lv th ph di lm cu la en sp lk f1 f2 f3 cn to f4 mco mpi msh mlo mph mdi mlm men mla mcu mnw msp mlk mcs g1 g2 g3 g4 g5 fo H locs ls hI hK hP hD hS hl kk
    · have t_j : xo.toInt = 10 := by omega
      refine lv_tableIn (tgt := 825) hx hb d_Law_law_40 (by omega) (by omega) (by rw [t_j]; rfl) (by decide) ?_
      exact law_case_10 hst hL C0 i x4 hi7 ex4 cc ss (by omega) (by omega) q0 k1 k2 k3 k4 a1 a2 a3 k5 a4 m0 b1 b2 b3 b4 b5 o0 e1 e2 e3 e4 i1 i2 i3 i4 i5 e9 pl told lv th ph di lm cu la en sp lk f1 f2 f3 cn to f4 mco mpi msh mlo mph mdi mlm men mla mcu mnw msp mlk mcs g1 g2 g3 g4 g5 fo H locs ls hI hK hP hD hS hl kk
    · have t_j : xo.toInt = 11 := by omega
      refine lv_tableIn (tgt := 850) hx hb d_Law_law_40 (by omega) (by omega) (by rw [t_j]; rfl) (by decide) ?_
      exact law_case_11 hst hL C0 i x4 hi7 ex4 cc ss (by omega) (by omega) q0 k1 k2 k3 k4 a1 a2 a3 k5 a4 m0 b1 b2 b3 b4 b5 o0 e1 e2 e3 e4 i1 i2 i3 i4 i5 e9 pl told lv th ph di lm cu la en sp lk f1 f2 f3 cn to f4 mco mpi msh mlo mph mdi mlm men mla mcu mnw msp mlk mcs g1 g2 g3 g4 g5 fo H locs ls hI hK hP hD hS hl kk
    · have t_j : xo.toInt = 12 := by omega
      refine lv_tableIn (tgt := 934) hx hb d_Law_law_40 (by omega) (by omega) (by rw [t_j]; rfl) (by decide) ?_
      exact law_case_12 hst hL C0 i x4 hi7 ex4 cc ss (by omega) (by omega) q0 k1 k2 k3 k4 a1 a2 a3 k5 a4 m0 b1 b2 b3 b4 b5 o0 e1 e2 e3 e4 i1 i2 i3 i4 i5 e9 pl told lv th ph di lm cu la en sp lk f1 f2 f3 cn to f4 mco mpi msh mlo mph mdi mlm men mla mcu mnw msp mlk mcs g1 g2 g3 g4 g5 fo H locs ls hI hK hP hD hS hl kk
    · have t_j : xo.toInt = 13 := by omega
      refine lv_tableIn (tgt := 991) hx hb d_Law_law_40 (by omega) (by omega) (by rw [t_j]; rfl) (by decide) ?_
      exact law_case_13 hst hL C0 i x4 hi7 ex4 cc ss (by omega) (by omega) q0 k1 k2 k3 k4 a1 a2 a3 k5 a4 m0 b1 b2 b3 b4 b5 o0 e1 e2 e3 e4 i1 i2 i3 i4 i5 e9 pl told lv th ph di lm cu la en sp lk f1 f2 f3 cn to f4 mco mpi msh mlo mph mdi mlm men mla mcu mnw msp mlk mcs g1 g2 g3 g4 g5 fo H locs ls hI hK hP hD hS hl kk
