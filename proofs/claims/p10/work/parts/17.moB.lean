set_option maxHeartbeats 4000000 in
set_option maxRecDepth 100000 in
theorem c_Mo_pilot (l : Launch) (dC : Nat → ClassId) (dI : Nat → Nat → Nat) (h0 : Nat) (b1 : Nat) (b2 : Nat) (b3 : Nat) (b4 : Nat) (b5 : Nat) (sz : Nat) (co : Int32) (pi : Int32) (sh : Int32) (lo : Int32) (ph : Int32) (di : Int32) (lm : Int64) (en : Int64) (la : Int64) (cu : Int64) (nw : Int64) (sp : Int32) (lk : Int64) (cs : Int32) (p0 : Int64) (p1 : Int64) : Met l y_Mo_pilot w_Mo_pilot ({ frames := 1, cells := 0, slots := 0, locals := 20 }) (cPre dC dI [.ref h0, .long p0, .long p1] sz [] [(h0, .inr (6, [.int co, .int pi, .int sh, .int lo, .int ph, .int di, .long lm, .long en, .long la, .long cu, .long nw, .int sp, .ref b1, .ref b2, .ref b3, .ref b4, .long lk, .int cs, .ref b5]))]) (va_Qi (fun (r : Int32) (u : Int32 × Int32 × Int32 × Int32) => r = lvl p0 p1 ∧ u.2.1 = lvl p0 p1 ∧ u.2.2.1 = shr p0) (fun (u : Int32 × Int32 × Int32 × Int32) (t : State) => cB dC dI (va_A [(h0, .inr (6, [.int co, .int pi, .int sh, .int lo, .int ph, .int di, .long lm, .long en, .long la, .long cu, .long nw, .int sp, .ref b1, .ref b2, .ref b3, .ref b4, .long lk, .int cs, .ref b5]))] sz) [] [(h0, .inr (6, [.int u.1, .int u.2.1, .int u.2.2.1, .int lo, .int u.2.2.2, .int di, .long lm, .long en, .long la, .long cu, .long nw, .int sp, .ref b1, .ref b2, .ref b3, .ref b4, .long lk, .int cs, .ref b5]))] t) (va_A [(h0, .inr (6, [.int co, .int pi, .int sh, .int lo, .int ph, .int di, .long lm, .long en, .long la, .long cu, .long nw, .int sp, .ref b1, .ref b2, .ref b3, .ref b4, .long lk, .int cs, .ref b5]))] sz)) 0 0 (va_A [(h0, .inr (6, [.int co, .int pi, .int sh, .int lo, .int ph, .int di, .long lm, .long en, .long la, .long cu, .long nw, .int sp, .ref b1, .ref b2, .ref b3, .ref b4, .long lk, .int cs, .ref b5]))] sz) := by
  refine Met.ofW (cc := b_Mo_pilot) (maxL := 6) (ret := (some .int)) (by decide) rfl ?_
  intro p e s m args below meth c s₁ B hml hv
  obtain ⟨rfl, hsz, hN, hP, hK, hD0⟩ := hv
  have hx := B.exec
  have hb := B.bytes
  have hr := B.returns
  have hts := atoms_spec (ws := w_Mo_pilot) B.pre
  have hB := big_of hts
  have hown : s.vm.findClass R_Mo = some m.cls := findClass_of_methodNamed B.named
  have hlocks := B.notSynchronized
  subst hsz
  have hD := hD0.self (sz := s.heap.size)
  generalize hAe : va_A [(h0, .inr (6, [.int co, .int pi, .int sh, .int lo, .int ph, .int di, .long lm, .long en, .long la, .long cu, .long nw, .int sp, .ref b1, .ref b2, .ref b3, .ref b4, .long lk, .int cs, .ref b5]))] s.heap.size = A at hD ⊢
  have hA : ∀ q : Nat, s.heap.size ≤ q → A q := fun q h => by rw [← hAe]; exact Or.inr h
  have hS : va_S A s.heap s.heap [] := va_S.rf
  have hP : va_P (dC, dI) classes [(h0, .inr (6, [.int co, .int pi, .int sh, .int lo, .int ph, .int di, .long lm, .long en, .long la, .long cu, .long nw, .int sp, .ref b1, .ref b2, .ref b3, .ref b4, .long lk, .int cs, .ref b5]))] s.heap := hP
  have hl := lv_entry ([.ref h0, .long p0, .long p1]) (n := 6) (Nat.le_of_ble_eq_true rfl)
  rw [lg_entry_eq]
  generalize (lg_sl ([.ref h0, .long p0, .long p1]) ++ List.replicate (6 - (lg_sl ([.ref h0, .long p0, .long p1])).length) Slot.unset).toArray = ls at hl ⊢
  have hl : lv_has ls 6 [(0, .ref h0), (1, .long p0), (3, .long p1)] := hl
  refine lv_aload_n hx hb d_Mo_pilot_0 rfl (lv_at hl 0 rfl) ?_
  refine lv_iconst (v := 0) hx hb d_Mo_pilot_1 (by decide) ?_
  refine va_put (D := (dC, dI)) (ci := 6) (v := .int 0) (ty := .int) (C := R_Mo) (T := F_Mo) (N := 19) hx hb hB inC_Mo t_Mo t_Mo_ok n_Mo hown hK hP hD hS 0 rfl rfl 0 (by decide) (hB _ kb_245) (fun _ h9 => h9) rfl (by decide +kernel) rfl rfl (Nat.le_of_ble_eq_true rfl) d_Mo_pilot_2 (fun H locs hP hD hS => ?_)
  have hP : va_P (dC, dI) classes [(h0, .inr (6, [.int 0, .int pi, .int sh, .int lo, .int ph, .int di, .long lm, .long en, .long la, .long cu, .long nw, .int sp, .ref b1, .ref b2, .ref b3, .ref b4, .long lk, .int cs, .ref b5]))] H := hP
  have hD : va_D A [(h0, .inr (6, [.int 0, .int pi, .int sh, .int lo, .int ph, .int di, .long lm, .long en, .long la, .long cu, .long nw, .int sp, .ref b1, .ref b2, .ref b3, .ref b4, .long lk, .int cs, .ref b5]))] := hD
  refine lv_lload_n hx hb d_Mo_pilot_5 rfl (lv_at hl 1 rfl) ?_
  refine lv_lconst (v := 0) hx hb d_Mo_pilot_6 (by decide) ?_
  refine W.lcmp hx hb d_Mo_pilot_7 ?_
  refine lv_if_lt (tgt := 23) hx hb d_Mo_pilot_8 (by decide) (fun c_8 => ?_) (fun c_8 => ?_)
  · have c_8 := (lg_cmp_lt _ _).mp c_8
    refine lv_iconst (v := 0) hx hb d_Mo_pilot_23 (by decide) ?_
    refine lv_istore (lv' := [(5, .int 0), (0, .ref h0), (1, .long p0), (3, .long p1)]) hx hb d_Mo_pilot_24 hl (by decide) rfl (fun ls hl => ?_)
    refine lv_aload_n hx hb d_Mo_pilot_26 rfl (lv_at hl 1 rfl) ?_
    refine lv_iload hx hb d_Mo_pilot_27 (lv_at hl 0 rfl) ?_
    refine lv_if_eq (tgt := 37) hx hb d_Mo_pilot_29 (by decide) (fun _ => ?_) (fun c_29 => absurd (by decide) c_29)
    refine lv_iconst (v := 0) hx hb d_Mo_pilot_37 (by decide) ?_
    refine va_put (D := (dC, dI)) (ci := 6) (v := .int 0) (ty := .int) (C := R_Mo) (T := F_Mo) (N := 19) hx hb hB inC_Mo t_Mo t_Mo_ok n_Mo hown hK hP hD hS 0 rfl rfl 2 (by decide) (hB _ kb_246) (fun _ h9 => h9) rfl (by decide +kernel) rfl rfl (Nat.le_of_ble_eq_true rfl) d_Mo_pilot_38 (fun H locs hP hD hS => ?_)
    have hP : va_P (dC, dI) classes [(h0, .inr (6, [.int 0, .int pi, .int 0, .int lo, .int ph, .int di, .long lm, .long en, .long la, .long cu, .long nw, .int sp, .ref b1, .ref b2, .ref b3, .ref b4, .long lk, .int cs, .ref b5]))] H := hP
    have hD : va_D A [(h0, .inr (6, [.int 0, .int pi, .int 0, .int lo, .int ph, .int di, .long lm, .long en, .long la, .long cu, .long nw, .int sp, .ref b1, .ref b2, .ref b3, .ref b4, .long lk, .int cs, .ref b5]))] := hD
    refine lv_aload_n hx hb d_Mo_pilot_41 rfl (lv_at hl 1 rfl) ?_
    refine lv_iload hx hb d_Mo_pilot_42 (lv_at hl 0 rfl) ?_
    refine lv_if_ne (tgt := 52) hx hb d_Mo_pilot_44 (by decide) (fun c_44 => absurd rfl c_44) (fun _ => ?_)
    refine lv_bipush (v := 6) hx hb d_Mo_pilot_47 (by decide) ?_
    refine lv_goto (tgt := 124) hx hb d_Mo_pilot_49 (by decide) ?_
    refine va_put (D := (dC, dI)) (ci := 6) (v := .int 6) (ty := .int) (C := R_Mo) (T := F_Mo) (N := 19) hx hb hB inC_Mo t_Mo t_Mo_ok n_Mo hown hK hP hD hS 0 rfl rfl 1 (by decide) (hB _ kb_244) (fun _ h9 => h9) rfl (by decide +kernel) rfl rfl (Nat.le_of_ble_eq_true rfl) d_Mo_pilot_124 (fun H locs hP hD hS => ?_)
    have hP : va_P (dC, dI) classes [(h0, .inr (6, [.int 0, .int 6, .int 0, .int lo, .int ph, .int di, .long lm, .long en, .long la, .long cu, .long nw, .int sp, .ref b1, .ref b2, .ref b3, .ref b4, .long lk, .int cs, .ref b5]))] H := hP
    have hD : va_D A [(h0, .inr (6, [.int 0, .int 6, .int 0, .int lo, .int ph, .int di, .long lm, .long en, .long la, .long cu, .long nw, .int sp, .ref b1, .ref b2, .ref b3, .ref b4, .long lk, .int cs, .ref b5]))] := hD
    refine lv_aload_n hx hb d_Mo_pilot_127 rfl (lv_at hl 1 rfl) ?_
    refine kc_i (va_runV (As := []) (rest := []) ⟨hx, hb, hml, hown, hts⟩ (c_Mo_isOn l dC dI h0 b1 b2 b3 b4 b5 H.size 0 6 0 lo ph di lm en la cu nw sp lk cs  ) (cwV 0 hts (ginV kb_248 kb_249 kb_250 kb_251 kb_247) rfl rfl rfl (by decide +kernel) ⟨Nat.le_of_ble_eq_true rfl, Nat.le_of_ble_eq_true rfl⟩) (preV (ci := 6) (wc := [(h0, .inr (6, [.int 0, .int 6, .int 0, .int lo, .int ph, .int di, .long lm, .long en, .long la, .long cu, .long nw, .int sp, .ref b1, .ref b2, .ref b3, .ref b4, .long lk, .int cs, .ref b5]))]) hK hN hP hD [0] rfl rfl (by decide) [] rfl rfl rfl) rfl rfl hl.1 rfl (lv_room (Nat.le_of_ble_eq_true rfl)) d_Mo_pilot_128 ⟨Nat.le_of_ble_eq_true rfl, Nat.le_of_ble_eq_true rfl⟩) hP hD hS hA [0] [] (wr := []) rfl rfl (by decide) (by decide) (fun r_128 u_128 H locs hw_128 hP hD hK1 hS => ?_)
    have hw_128 : r_128 = bi (0 < 6 ∧ 6 < 4) := hw_128
    have hP : va_P (dC, dI) classes [(h0, .inr (6, [.int 0, .int 6, .int 0, .int lo, .int ph, .int di, .long lm, .long en, .long la, .long cu, .long nw, .int sp, .ref b1, .ref b2, .ref b3, .ref b4, .long lk, .int cs, .ref b5]))] H := hP
    have hD : va_D A [(h0, .inr (6, [.int 0, .int 6, .int 0, .int lo, .int ph, .int di, .long lm, .long en, .long la, .long cu, .long nw, .int sp, .ref b1, .ref b2, .ref b3, .ref b4, .long lk, .int cs, .ref b5]))] := hD
    refine lv_if_ne (tgt := 139) hx hb d_Mo_pilot_131 (by decide) (fun c_131 => ?_) (fun c_131 => ?_)
    · have c_131 := bi_y hw_128 c_131
      refine lv_aload_n hx hb d_Mo_pilot_139 rfl (lv_at hl 1 rfl) ?_
      refine va_get (D := (dC, dI)) (ci := 6) (v := .int 6) (C := R_Mo) (T := F_Mo) (N := 19) hx hb hB inC_Mo hown hK hP 0 rfl rfl 1 (by decide) (hB _ kb_244) (fun _ h9 => h9) rfl d_Mo_pilot_140 ?_
      have hP9 := hP.sub (ws' := [(h0, .inr (6, [.int 0, .int 6, .int 0, .int lo, .int ph, .int di, .long lm, .long en, .long la, .long cu, .long nw, .int sp, .ref b1, .ref b2, .ref b3, .ref b4, .long lk, .int cs, .ref b5]))]) [0] rfl
      have hD9 := hD.sub (ws' := [(h0, .inr (6, [.int 0, .int 6, .int 0, .int lo, .int ph, .int di, .long lm, .long en, .long la, .long cu, .long nw, .int sp, .ref b1, .ref b2, .ref b3, .ref b4, .long lk, .int cs, .ref b5]))]) [0] (by decide) rfl
      have hK9 := hK.sub (tys' := []) [] rfl
      exact W.iret (v := 6) hx hb hr (fun t ht hW => ⟨⟨6, (0, 6, 0, ph), rfl, ⟨(if_neg (fun h => absurd h.1 (Int64.not_le.mpr c_8))).symm, (if_neg (fun h => absurd h.1 (Int64.not_le.mpr c_8))).symm, (if_neg (fun h => absurd h.1 (Int64.not_le.mpr c_8))).symm⟩, by rw [ht]; exact hP9, va_K.moved hW.alike hK9, hD9⟩, hS.F ht⟩) hS.2.2 d_Mo_pilot_143
    · have c_131 := bi_n (hw_128.symm.trans c_131)
      refine lv_aload_n hx hb d_Mo_pilot_134 rfl (lv_at hl 1 rfl) ?_
      refine lv_iconst (v := 0) hx hb d_Mo_pilot_135 (by decide) ?_
      refine va_put (D := (dC, dI)) (ci := 6) (v := .int 0) (ty := .int) (C := R_Mo) (T := F_Mo) (N := 19) hx hb hB inC_Mo t_Mo t_Mo_ok n_Mo hown hK hP hD hS 0 rfl rfl 4 (by decide) (hB _ kb_252) (fun _ h9 => h9) rfl (by decide +kernel) rfl rfl (Nat.le_of_ble_eq_true rfl) d_Mo_pilot_136 (fun H locs hP hD hS => ?_)
      have hP : va_P (dC, dI) classes [(h0, .inr (6, [.int 0, .int 6, .int 0, .int lo, .int 0, .int di, .long lm, .long en, .long la, .long cu, .long nw, .int sp, .ref b1, .ref b2, .ref b3, .ref b4, .long lk, .int cs, .ref b5]))] H := hP
      have hD : va_D A [(h0, .inr (6, [.int 0, .int 6, .int 0, .int lo, .int 0, .int di, .long lm, .long en, .long la, .long cu, .long nw, .int sp, .ref b1, .ref b2, .ref b3, .ref b4, .long lk, .int cs, .ref b5]))] := hD
      refine lv_aload_n hx hb d_Mo_pilot_139 rfl (lv_at hl 1 rfl) ?_
      refine va_get (D := (dC, dI)) (ci := 6) (v := .int 6) (C := R_Mo) (T := F_Mo) (N := 19) hx hb hB inC_Mo hown hK hP 0 rfl rfl 1 (by decide) (hB _ kb_244) (fun _ h9 => h9) rfl d_Mo_pilot_140 ?_
      have hP9 := hP.sub (ws' := [(h0, .inr (6, [.int 0, .int 6, .int 0, .int lo, .int 0, .int di, .long lm, .long en, .long la, .long cu, .long nw, .int sp, .ref b1, .ref b2, .ref b3, .ref b4, .long lk, .int cs, .ref b5]))]) [0] rfl
      have hD9 := hD.sub (ws' := [(h0, .inr (6, [.int 0, .int 6, .int 0, .int lo, .int 0, .int di, .long lm, .long en, .long la, .long cu, .long nw, .int sp, .ref b1, .ref b2, .ref b3, .ref b4, .long lk, .int cs, .ref b5]))]) [0] (by decide) rfl
      have hK9 := hK.sub (tys' := []) [] rfl
      exact W.iret (v := 6) hx hb hr (fun t ht hW => ⟨⟨6, (0, 6, 0, 0), rfl, ⟨(if_neg (fun h => absurd h.1 (Int64.not_le.mpr c_8))).symm, (if_neg (fun h => absurd h.1 (Int64.not_le.mpr c_8))).symm, (if_neg (fun h => absurd h.1 (Int64.not_le.mpr c_8))).symm⟩, by rw [ht]; exact hP9, va_K.moved hW.alike hK9, hD9⟩, hS.F ht⟩) hS.2.2 d_Mo_pilot_143
  · have c_8 := mt (lg_cmp_lt _ _).mpr c_8
    refine lv_lload_n hx hb d_Mo_pilot_11 rfl (lv_at hl 1 rfl) ?_
    refine lv_ldc2 (v := 1000) hx hb hown (hB _ kb_253) d_Mo_pilot_12 ?_
    refine W.lcmp hx hb d_Mo_pilot_15 ?_
    refine lv_if_gt (tgt := 23) hx hb d_Mo_pilot_16 (by decide) (fun c_16 => ?_) (fun c_16 => ?_)
    · have c_16 := (lg_cmp_gt _ _).mp c_16
      refine lv_iconst (v := 0) hx hb d_Mo_pilot_23 (by decide) ?_
      refine lv_istore (lv' := [(5, .int 0), (0, .ref h0), (1, .long p0), (3, .long p1)]) hx hb d_Mo_pilot_24 hl (by decide) rfl (fun ls hl => ?_)
      refine lv_aload_n hx hb d_Mo_pilot_26 rfl (lv_at hl 1 rfl) ?_
      refine lv_iload hx hb d_Mo_pilot_27 (lv_at hl 0 rfl) ?_
      refine lv_if_eq (tgt := 37) hx hb d_Mo_pilot_29 (by decide) (fun _ => ?_) (fun c_29 => absurd (by decide) c_29)
      refine lv_iconst (v := 0) hx hb d_Mo_pilot_37 (by decide) ?_
      refine va_put (D := (dC, dI)) (ci := 6) (v := .int 0) (ty := .int) (C := R_Mo) (T := F_Mo) (N := 19) hx hb hB inC_Mo t_Mo t_Mo_ok n_Mo hown hK hP hD hS 0 rfl rfl 2 (by decide) (hB _ kb_246) (fun _ h9 => h9) rfl (by decide +kernel) rfl rfl (Nat.le_of_ble_eq_true rfl) d_Mo_pilot_38 (fun H locs hP hD hS => ?_)
      have hP : va_P (dC, dI) classes [(h0, .inr (6, [.int 0, .int pi, .int 0, .int lo, .int ph, .int di, .long lm, .long en, .long la, .long cu, .long nw, .int sp, .ref b1, .ref b2, .ref b3, .ref b4, .long lk, .int cs, .ref b5]))] H := hP
      have hD : va_D A [(h0, .inr (6, [.int 0, .int pi, .int 0, .int lo, .int ph, .int di, .long lm, .long en, .long la, .long cu, .long nw, .int sp, .ref b1, .ref b2, .ref b3, .ref b4, .long lk, .int cs, .ref b5]))] := hD
      refine lv_aload_n hx hb d_Mo_pilot_41 rfl (lv_at hl 1 rfl) ?_
      refine lv_iload hx hb d_Mo_pilot_42 (lv_at hl 0 rfl) ?_
      refine lv_if_ne (tgt := 52) hx hb d_Mo_pilot_44 (by decide) (fun c_44 => absurd rfl c_44) (fun _ => ?_)
      refine lv_bipush (v := 6) hx hb d_Mo_pilot_47 (by decide) ?_
      refine lv_goto (tgt := 124) hx hb d_Mo_pilot_49 (by decide) ?_
      refine va_put (D := (dC, dI)) (ci := 6) (v := .int 6) (ty := .int) (C := R_Mo) (T := F_Mo) (N := 19) hx hb hB inC_Mo t_Mo t_Mo_ok n_Mo hown hK hP hD hS 0 rfl rfl 1 (by decide) (hB _ kb_244) (fun _ h9 => h9) rfl (by decide +kernel) rfl rfl (Nat.le_of_ble_eq_true rfl) d_Mo_pilot_124 (fun H locs hP hD hS => ?_)
      have hP : va_P (dC, dI) classes [(h0, .inr (6, [.int 0, .int 6, .int 0, .int lo, .int ph, .int di, .long lm, .long en, .long la, .long cu, .long nw, .int sp, .ref b1, .ref b2, .ref b3, .ref b4, .long lk, .int cs, .ref b5]))] H := hP
      have hD : va_D A [(h0, .inr (6, [.int 0, .int 6, .int 0, .int lo, .int ph, .int di, .long lm, .long en, .long la, .long cu, .long nw, .int sp, .ref b1, .ref b2, .ref b3, .ref b4, .long lk, .int cs, .ref b5]))] := hD
      refine lv_aload_n hx hb d_Mo_pilot_127 rfl (lv_at hl 1 rfl) ?_
      refine kc_i (va_runV (As := []) (rest := []) ⟨hx, hb, hml, hown, hts⟩ (c_Mo_isOn l dC dI h0 b1 b2 b3 b4 b5 H.size 0 6 0 lo ph di lm en la cu nw sp lk cs  ) (cwV 0 hts (ginV kb_248 kb_249 kb_250 kb_251 kb_247) rfl rfl rfl (by decide +kernel) ⟨Nat.le_of_ble_eq_true rfl, Nat.le_of_ble_eq_true rfl⟩) (preV (ci := 6) (wc := [(h0, .inr (6, [.int 0, .int 6, .int 0, .int lo, .int ph, .int di, .long lm, .long en, .long la, .long cu, .long nw, .int sp, .ref b1, .ref b2, .ref b3, .ref b4, .long lk, .int cs, .ref b5]))]) hK hN hP hD [0] rfl rfl (by decide) [] rfl rfl rfl) rfl rfl hl.1 rfl (lv_room (Nat.le_of_ble_eq_true rfl)) d_Mo_pilot_128 ⟨Nat.le_of_ble_eq_true rfl, Nat.le_of_ble_eq_true rfl⟩) hP hD hS hA [0] [] (wr := []) rfl rfl (by decide) (by decide) (fun r_128 u_128 H locs hw_128 hP hD hK1 hS => ?_)
      have hw_128 : r_128 = bi (0 < 6 ∧ 6 < 4) := hw_128
      have hP : va_P (dC, dI) classes [(h0, .inr (6, [.int 0, .int 6, .int 0, .int lo, .int ph, .int di, .long lm, .long en, .long la, .long cu, .long nw, .int sp, .ref b1, .ref b2, .ref b3, .ref b4, .long lk, .int cs, .ref b5]))] H := hP
      have hD : va_D A [(h0, .inr (6, [.int 0, .int 6, .int 0, .int lo, .int ph, .int di, .long lm, .long en, .long la, .long cu, .long nw, .int sp, .ref b1, .ref b2, .ref b3, .ref b4, .long lk, .int cs, .ref b5]))] := hD
      refine lv_if_ne (tgt := 139) hx hb d_Mo_pilot_131 (by decide) (fun c_131 => ?_) (fun c_131 => ?_)
      · have c_131 := bi_y hw_128 c_131
        refine lv_aload_n hx hb d_Mo_pilot_139 rfl (lv_at hl 1 rfl) ?_
        refine va_get (D := (dC, dI)) (ci := 6) (v := .int 6) (C := R_Mo) (T := F_Mo) (N := 19) hx hb hB inC_Mo hown hK hP 0 rfl rfl 1 (by decide) (hB _ kb_244) (fun _ h9 => h9) rfl d_Mo_pilot_140 ?_
        have hP9 := hP.sub (ws' := [(h0, .inr (6, [.int 0, .int 6, .int 0, .int lo, .int ph, .int di, .long lm, .long en, .long la, .long cu, .long nw, .int sp, .ref b1, .ref b2, .ref b3, .ref b4, .long lk, .int cs, .ref b5]))]) [0] rfl
        have hD9 := hD.sub (ws' := [(h0, .inr (6, [.int 0, .int 6, .int 0, .int lo, .int ph, .int di, .long lm, .long en, .long la, .long cu, .long nw, .int sp, .ref b1, .ref b2, .ref b3, .ref b4, .long lk, .int cs, .ref b5]))]) [0] (by decide) rfl
        have hK9 := hK.sub (tys' := []) [] rfl
        exact W.iret (v := 6) hx hb hr (fun t ht hW => ⟨⟨6, (0, 6, 0, ph), rfl, ⟨(if_neg (fun h => absurd h.2 (Int64.not_le.mpr c_16))).symm, (if_neg (fun h => absurd h.2 (Int64.not_le.mpr c_16))).symm, (if_neg (fun h => absurd h.2 (Int64.not_le.mpr c_16))).symm⟩, by rw [ht]; exact hP9, va_K.moved hW.alike hK9, hD9⟩, hS.F ht⟩) hS.2.2 d_Mo_pilot_143
      · have c_131 := bi_n (hw_128.symm.trans c_131)
        refine lv_aload_n hx hb d_Mo_pilot_134 rfl (lv_at hl 1 rfl) ?_
        refine lv_iconst (v := 0) hx hb d_Mo_pilot_135 (by decide) ?_
        refine va_put (D := (dC, dI)) (ci := 6) (v := .int 0) (ty := .int) (C := R_Mo) (T := F_Mo) (N := 19) hx hb hB inC_Mo t_Mo t_Mo_ok n_Mo hown hK hP hD hS 0 rfl rfl 4 (by decide) (hB _ kb_252) (fun _ h9 => h9) rfl (by decide +kernel) rfl rfl (Nat.le_of_ble_eq_true rfl) d_Mo_pilot_136 (fun H locs hP hD hS => ?_)
        have hP : va_P (dC, dI) classes [(h0, .inr (6, [.int 0, .int 6, .int 0, .int lo, .int 0, .int di, .long lm, .long en, .long la, .long cu, .long nw, .int sp, .ref b1, .ref b2, .ref b3, .ref b4, .long lk, .int cs, .ref b5]))] H := hP
        have hD : va_D A [(h0, .inr (6, [.int 0, .int 6, .int 0, .int lo, .int 0, .int di, .long lm, .long en, .long la, .long cu, .long nw, .int sp, .ref b1, .ref b2, .ref b3, .ref b4, .long lk, .int cs, .ref b5]))] := hD
        refine lv_aload_n hx hb d_Mo_pilot_139 rfl (lv_at hl 1 rfl) ?_
        refine va_get (D := (dC, dI)) (ci := 6) (v := .int 6) (C := R_Mo) (T := F_Mo) (N := 19) hx hb hB inC_Mo hown hK hP 0 rfl rfl 1 (by decide) (hB _ kb_244) (fun _ h9 => h9) rfl d_Mo_pilot_140 ?_
        have hP9 := hP.sub (ws' := [(h0, .inr (6, [.int 0, .int 6, .int 0, .int lo, .int 0, .int di, .long lm, .long en, .long la, .long cu, .long nw, .int sp, .ref b1, .ref b2, .ref b3, .ref b4, .long lk, .int cs, .ref b5]))]) [0] rfl
        have hD9 := hD.sub (ws' := [(h0, .inr (6, [.int 0, .int 6, .int 0, .int lo, .int 0, .int di, .long lm, .long en, .long la, .long cu, .long nw, .int sp, .ref b1, .ref b2, .ref b3, .ref b4, .long lk, .int cs, .ref b5]))]) [0] (by decide) rfl
        have hK9 := hK.sub (tys' := []) [] rfl
        exact W.iret (v := 6) hx hb hr (fun t ht hW => ⟨⟨6, (0, 6, 0, 0), rfl, ⟨(if_neg (fun h => absurd h.2 (Int64.not_le.mpr c_16))).symm, (if_neg (fun h => absurd h.2 (Int64.not_le.mpr c_16))).symm, (if_neg (fun h => absurd h.2 (Int64.not_le.mpr c_16))).symm⟩, by rw [ht]; exact hP9, va_K.moved hW.alike hK9, hD9⟩, hS.F ht⟩) hS.2.2 d_Mo_pilot_143
    · have c_16 := mt (lg_cmp_gt _ _).mpr c_16
      refine lv_iconst (v := 1) hx hb d_Mo_pilot_19 (by decide) ?_
      refine lv_goto (tgt := 24) hx hb d_Mo_pilot_20 (by decide) ?_
      refine lv_istore (lv' := [(5, .int 1), (0, .ref h0), (1, .long p0), (3, .long p1)]) hx hb d_Mo_pilot_24 hl (by decide) rfl (fun ls hl => ?_)
      refine lv_aload_n hx hb d_Mo_pilot_26 rfl (lv_at hl 1 rfl) ?_
      refine lv_iload hx hb d_Mo_pilot_27 (lv_at hl 0 rfl) ?_
      refine lv_if_eq (tgt := 37) hx hb d_Mo_pilot_29 (by decide) (fun c_29 => absurd c_29 (by decide)) (fun _ => ?_)
      refine lv_lload_n hx hb d_Mo_pilot_32 rfl (lv_at hl 2 rfl) ?_
      refine lv_l2i hx hb d_Mo_pilot_33 rfl ?_
      refine lv_topi (fun x_33 ex_33 => ?_)
      refine lv_goto (tgt := 38) hx hb d_Mo_pilot_34 (by decide) ?_
      refine va_put (D := (dC, dI)) (ci := 6) (v := .int x_33) (ty := .int) (C := R_Mo) (T := F_Mo) (N := 19) hx hb hB inC_Mo t_Mo t_Mo_ok n_Mo hown hK hP hD hS 0 rfl rfl 2 (by decide) (hB _ kb_246) (fun _ h9 => h9) rfl (by decide +kernel) rfl rfl (Nat.le_of_ble_eq_true rfl) d_Mo_pilot_38 (fun H locs hP hD hS => ?_)
      have hP : va_P (dC, dI) classes [(h0, .inr (6, [.int 0, .int pi, .int x_33, .int lo, .int ph, .int di, .long lm, .long en, .long la, .long cu, .long nw, .int sp, .ref b1, .ref b2, .ref b3, .ref b4, .long lk, .int cs, .ref b5]))] H := hP
      have hD : va_D A [(h0, .inr (6, [.int 0, .int pi, .int x_33, .int lo, .int ph, .int di, .long lm, .long en, .long la, .long cu, .long nw, .int sp, .ref b1, .ref b2, .ref b3, .ref b4, .long lk, .int cs, .ref b5]))] := hD
      refine lv_aload_n hx hb d_Mo_pilot_41 rfl (lv_at hl 1 rfl) ?_
      refine lv_iload hx hb d_Mo_pilot_42 (lv_at hl 0 rfl) ?_
      refine lv_if_ne (tgt := 52) hx hb d_Mo_pilot_44 (by decide) (fun _ => ?_) (fun c_44 => absurd c_44 (by decide))
      refine lv_lload_n hx hb d_Mo_pilot_52 rfl (lv_at hl 3 rfl) ?_
      refine lv_ldc2 (v := 12) hx hb hown (hB _ kb_254) d_Mo_pilot_53 ?_
      refine W.lcmp hx hb d_Mo_pilot_56 ?_
      refine lv_if_ne (tgt := 64) hx hb d_Mo_pilot_57 (by decide) (fun c_57 => ?_) (fun c_57 => ?_)
      · have c_57 := mt (lg_cmp_eq _ _).mpr c_57
        refine lv_lload_n hx hb d_Mo_pilot_64 rfl (lv_at hl 3 rfl) ?_
        refine lv_ldc2 (v := 9) hx hb hown (hB _ kb_255) d_Mo_pilot_65 ?_
        refine W.lcmp hx hb d_Mo_pilot_68 ?_
        refine lv_if_ne (tgt := 76) hx hb d_Mo_pilot_69 (by decide) (fun c_69 => ?_) (fun c_69 => ?_)
        · have c_69 := mt (lg_cmp_eq _ _).mpr c_69
          refine lv_lload_n hx hb d_Mo_pilot_76 rfl (lv_at hl 3 rfl) ?_
          refine lv_ldc2 (v := 6) hx hb hown (hB _ kb_256) d_Mo_pilot_77 ?_
          refine W.lcmp hx hb d_Mo_pilot_80 ?_
          refine lv_if_ne (tgt := 88) hx hb d_Mo_pilot_81 (by decide) (fun c_81 => ?_) (fun c_81 => ?_)
          · have c_81 := mt (lg_cmp_eq _ _).mpr c_81
            refine lv_lload_n hx hb d_Mo_pilot_88 rfl (lv_at hl 3 rfl) ?_
            refine lv_ldc2 (v := 3) hx hb hown (hB _ kb_257) d_Mo_pilot_89 ?_
            refine W.lcmp hx hb d_Mo_pilot_92 ?_
            refine lv_if_ne (tgt := 100) hx hb d_Mo_pilot_93 (by decide) (fun c_93 => ?_) (fun c_93 => ?_)
            · have c_93 := mt (lg_cmp_eq _ _).mpr c_93
              refine lv_lload_n hx hb d_Mo_pilot_100 rfl (lv_at hl 3 rfl) ?_
              refine lv_lconst (v := 0) hx hb d_Mo_pilot_101 (by decide) ?_
              refine W.lcmp hx hb d_Mo_pilot_102 ?_
              refine lv_if_ne (tgt := 110) hx hb d_Mo_pilot_103 (by decide) (fun c_103 => ?_) (fun c_103 => ?_)
              · have c_103 := mt (lg_cmp_eq _ _).mpr c_103
                refine lv_lload_n hx hb d_Mo_pilot_110 rfl (lv_at hl 3 rfl) ?_
                refine lv_ldc2 (v := (-12)) hx hb hown (hB _ kb_258) d_Mo_pilot_111 ?_
                refine W.lcmp hx hb d_Mo_pilot_114 ?_
                refine lv_if_ne (tgt := 122) hx hb d_Mo_pilot_115 (by decide) (fun c_115 => ?_) (fun c_115 => ?_)
                · have c_115 := mt (lg_cmp_eq _ _).mpr c_115
                  refine lv_bipush (v := 6) hx hb d_Mo_pilot_122 (by decide) ?_
                  refine va_put (D := (dC, dI)) (ci := 6) (v := .int 6) (ty := .int) (C := R_Mo) (T := F_Mo) (N := 19) hx hb hB inC_Mo t_Mo t_Mo_ok n_Mo hown hK hP hD hS 0 rfl rfl 1 (by decide) (hB _ kb_244) (fun _ h9 => h9) rfl (by decide +kernel) rfl rfl (Nat.le_of_ble_eq_true rfl) d_Mo_pilot_124 (fun H locs hP hD hS => ?_)
                  have hP : va_P (dC, dI) classes [(h0, .inr (6, [.int 0, .int 6, .int x_33, .int lo, .int ph, .int di, .long lm, .long en, .long la, .long cu, .long nw, .int sp, .ref b1, .ref b2, .ref b3, .ref b4, .long lk, .int cs, .ref b5]))] H := hP
                  have hD : va_D A [(h0, .inr (6, [.int 0, .int 6, .int x_33, .int lo, .int ph, .int di, .long lm, .long en, .long la, .long cu, .long nw, .int sp, .ref b1, .ref b2, .ref b3, .ref b4, .long lk, .int cs, .ref b5]))] := hD
                  refine lv_aload_n hx hb d_Mo_pilot_127 rfl (lv_at hl 1 rfl) ?_
                  refine kc_i (va_runV (As := []) (rest := []) ⟨hx, hb, hml, hown, hts⟩ (c_Mo_isOn l dC dI h0 b1 b2 b3 b4 b5 H.size 0 6 x_33 lo ph di lm en la cu nw sp lk cs  ) (cwV 0 hts (ginV kb_248 kb_249 kb_250 kb_251 kb_247) rfl rfl rfl (by decide +kernel) ⟨Nat.le_of_ble_eq_true rfl, Nat.le_of_ble_eq_true rfl⟩) (preV (ci := 6) (wc := [(h0, .inr (6, [.int 0, .int 6, .int x_33, .int lo, .int ph, .int di, .long lm, .long en, .long la, .long cu, .long nw, .int sp, .ref b1, .ref b2, .ref b3, .ref b4, .long lk, .int cs, .ref b5]))]) hK hN hP hD [0] rfl rfl (by decide) [] rfl rfl rfl) rfl rfl hl.1 rfl (lv_room (Nat.le_of_ble_eq_true rfl)) d_Mo_pilot_128 ⟨Nat.le_of_ble_eq_true rfl, Nat.le_of_ble_eq_true rfl⟩) hP hD hS hA [0] [] (wr := []) rfl rfl (by decide) (by decide) (fun r_128 u_128 H locs hw_128 hP hD hK1 hS => ?_)
                  have hw_128 : r_128 = bi (0 < 6 ∧ 6 < 4) := hw_128
                  have hP : va_P (dC, dI) classes [(h0, .inr (6, [.int 0, .int 6, .int x_33, .int lo, .int ph, .int di, .long lm, .long en, .long la, .long cu, .long nw, .int sp, .ref b1, .ref b2, .ref b3, .ref b4, .long lk, .int cs, .ref b5]))] H := hP
                  have hD : va_D A [(h0, .inr (6, [.int 0, .int 6, .int x_33, .int lo, .int ph, .int di, .long lm, .long en, .long la, .long cu, .long nw, .int sp, .ref b1, .ref b2, .ref b3, .ref b4, .long lk, .int cs, .ref b5]))] := hD
                  refine lv_if_ne (tgt := 139) hx hb d_Mo_pilot_131 (by decide) (fun c_131 => ?_) (fun c_131 => ?_)
                  · have c_131 := bi_y hw_128 c_131
                    refine lv_aload_n hx hb d_Mo_pilot_139 rfl (lv_at hl 1 rfl) ?_
                    refine va_get (D := (dC, dI)) (ci := 6) (v := .int 6) (C := R_Mo) (T := F_Mo) (N := 19) hx hb hB inC_Mo hown hK hP 0 rfl rfl 1 (by decide) (hB _ kb_244) (fun _ h9 => h9) rfl d_Mo_pilot_140 ?_
                    have hP9 := hP.sub (ws' := [(h0, .inr (6, [.int 0, .int 6, .int x_33, .int lo, .int ph, .int di, .long lm, .long en, .long la, .long cu, .long nw, .int sp, .ref b1, .ref b2, .ref b3, .ref b4, .long lk, .int cs, .ref b5]))]) [0] rfl
                    have hD9 := hD.sub (ws' := [(h0, .inr (6, [.int 0, .int 6, .int x_33, .int lo, .int ph, .int di, .long lm, .long en, .long la, .long cu, .long nw, .int sp, .ref b1, .ref b2, .ref b3, .ref b4, .long lk, .int cs, .ref b5]))]) [0] (by decide) rfl
                    have hK9 := hK.sub (tys' := []) [] rfl
                    exact W.iret (v := 6) hx hb hr (fun t ht hW => ⟨⟨6, (0, 6, x_33, ph), rfl, ⟨(by rw [lvl, if_pos ⟨Int64.not_lt.mp c_8, Int64.not_lt.mp c_16⟩, lev, if_neg c_57, if_neg c_69, if_neg c_81, if_neg c_93, if_neg c_103, if_neg c_115]), (by rw [lvl, if_pos ⟨Int64.not_lt.mp c_8, Int64.not_lt.mp c_16⟩, lev, if_neg c_57, if_neg c_69, if_neg c_81, if_neg c_93, if_neg c_103, if_neg c_115]), by rw [shr, if_pos ⟨Int64.not_lt.mp c_8, Int64.not_lt.mp c_16⟩, ex_33]⟩, by rw [ht]; exact hP9, va_K.moved hW.alike hK9, hD9⟩, hS.F ht⟩) hS.2.2 d_Mo_pilot_143
                  · have c_131 := bi_n (hw_128.symm.trans c_131)
                    refine lv_aload_n hx hb d_Mo_pilot_134 rfl (lv_at hl 1 rfl) ?_
                    refine lv_iconst (v := 0) hx hb d_Mo_pilot_135 (by decide) ?_
                    refine va_put (D := (dC, dI)) (ci := 6) (v := .int 0) (ty := .int) (C := R_Mo) (T := F_Mo) (N := 19) hx hb hB inC_Mo t_Mo t_Mo_ok n_Mo hown hK hP hD hS 0 rfl rfl 4 (by decide) (hB _ kb_252) (fun _ h9 => h9) rfl (by decide +kernel) rfl rfl (Nat.le_of_ble_eq_true rfl) d_Mo_pilot_136 (fun H locs hP hD hS => ?_)
                    have hP : va_P (dC, dI) classes [(h0, .inr (6, [.int 0, .int 6, .int x_33, .int lo, .int 0, .int di, .long lm, .long en, .long la, .long cu, .long nw, .int sp, .ref b1, .ref b2, .ref b3, .ref b4, .long lk, .int cs, .ref b5]))] H := hP
                    have hD : va_D A [(h0, .inr (6, [.int 0, .int 6, .int x_33, .int lo, .int 0, .int di, .long lm, .long en, .long la, .long cu, .long nw, .int sp, .ref b1, .ref b2, .ref b3, .ref b4, .long lk, .int cs, .ref b5]))] := hD
                    refine lv_aload_n hx hb d_Mo_pilot_139 rfl (lv_at hl 1 rfl) ?_
                    refine va_get (D := (dC, dI)) (ci := 6) (v := .int 6) (C := R_Mo) (T := F_Mo) (N := 19) hx hb hB inC_Mo hown hK hP 0 rfl rfl 1 (by decide) (hB _ kb_244) (fun _ h9 => h9) rfl d_Mo_pilot_140 ?_
                    have hP9 := hP.sub (ws' := [(h0, .inr (6, [.int 0, .int 6, .int x_33, .int lo, .int 0, .int di, .long lm, .long en, .long la, .long cu, .long nw, .int sp, .ref b1, .ref b2, .ref b3, .ref b4, .long lk, .int cs, .ref b5]))]) [0] rfl
                    have hD9 := hD.sub (ws' := [(h0, .inr (6, [.int 0, .int 6, .int x_33, .int lo, .int 0, .int di, .long lm, .long en, .long la, .long cu, .long nw, .int sp, .ref b1, .ref b2, .ref b3, .ref b4, .long lk, .int cs, .ref b5]))]) [0] (by decide) rfl
                    have hK9 := hK.sub (tys' := []) [] rfl
                    exact W.iret (v := 6) hx hb hr (fun t ht hW => ⟨⟨6, (0, 6, x_33, 0), rfl, ⟨(by rw [lvl, if_pos ⟨Int64.not_lt.mp c_8, Int64.not_lt.mp c_16⟩, lev, if_neg c_57, if_neg c_69, if_neg c_81, if_neg c_93, if_neg c_103, if_neg c_115]), (by rw [lvl, if_pos ⟨Int64.not_lt.mp c_8, Int64.not_lt.mp c_16⟩, lev, if_neg c_57, if_neg c_69, if_neg c_81, if_neg c_93, if_neg c_103, if_neg c_115]), by rw [shr, if_pos ⟨Int64.not_lt.mp c_8, Int64.not_lt.mp c_16⟩, ex_33]⟩, by rw [ht]; exact hP9, va_K.moved hW.alike hK9, hD9⟩, hS.F ht⟩) hS.2.2 d_Mo_pilot_143
                · have c_115 := (lg_cmp_eq _ _).mp c_115
                  refine lv_iconst (v := 5) hx hb d_Mo_pilot_118 (by decide) ?_
                  refine lv_goto (tgt := 124) hx hb d_Mo_pilot_119 (by decide) ?_
                  refine va_put (D := (dC, dI)) (ci := 6) (v := .int 5) (ty := .int) (C := R_Mo) (T := F_Mo) (N := 19) hx hb hB inC_Mo t_Mo t_Mo_ok n_Mo hown hK hP hD hS 0 rfl rfl 1 (by decide) (hB _ kb_244) (fun _ h9 => h9) rfl (by decide +kernel) rfl rfl (Nat.le_of_ble_eq_true rfl) d_Mo_pilot_124 (fun H locs hP hD hS => ?_)
                  have hP : va_P (dC, dI) classes [(h0, .inr (6, [.int 0, .int 5, .int x_33, .int lo, .int ph, .int di, .long lm, .long en, .long la, .long cu, .long nw, .int sp, .ref b1, .ref b2, .ref b3, .ref b4, .long lk, .int cs, .ref b5]))] H := hP
                  have hD : va_D A [(h0, .inr (6, [.int 0, .int 5, .int x_33, .int lo, .int ph, .int di, .long lm, .long en, .long la, .long cu, .long nw, .int sp, .ref b1, .ref b2, .ref b3, .ref b4, .long lk, .int cs, .ref b5]))] := hD
                  refine lv_aload_n hx hb d_Mo_pilot_127 rfl (lv_at hl 1 rfl) ?_
                  refine kc_i (va_runV (As := []) (rest := []) ⟨hx, hb, hml, hown, hts⟩ (c_Mo_isOn l dC dI h0 b1 b2 b3 b4 b5 H.size 0 5 x_33 lo ph di lm en la cu nw sp lk cs  ) (cwV 0 hts (ginV kb_248 kb_249 kb_250 kb_251 kb_247) rfl rfl rfl (by decide +kernel) ⟨Nat.le_of_ble_eq_true rfl, Nat.le_of_ble_eq_true rfl⟩) (preV (ci := 6) (wc := [(h0, .inr (6, [.int 0, .int 5, .int x_33, .int lo, .int ph, .int di, .long lm, .long en, .long la, .long cu, .long nw, .int sp, .ref b1, .ref b2, .ref b3, .ref b4, .long lk, .int cs, .ref b5]))]) hK hN hP hD [0] rfl rfl (by decide) [] rfl rfl rfl) rfl rfl hl.1 rfl (lv_room (Nat.le_of_ble_eq_true rfl)) d_Mo_pilot_128 ⟨Nat.le_of_ble_eq_true rfl, Nat.le_of_ble_eq_true rfl⟩) hP hD hS hA [0] [] (wr := []) rfl rfl (by decide) (by decide) (fun r_128 u_128 H locs hw_128 hP hD hK1 hS => ?_)
                  have hw_128 : r_128 = bi (0 < 5 ∧ 5 < 4) := hw_128
                  have hP : va_P (dC, dI) classes [(h0, .inr (6, [.int 0, .int 5, .int x_33, .int lo, .int ph, .int di, .long lm, .long en, .long la, .long cu, .long nw, .int sp, .ref b1, .ref b2, .ref b3, .ref b4, .long lk, .int cs, .ref b5]))] H := hP
                  have hD : va_D A [(h0, .inr (6, [.int 0, .int 5, .int x_33, .int lo, .int ph, .int di, .long lm, .long en, .long la, .long cu, .long nw, .int sp, .ref b1, .ref b2, .ref b3, .ref b4, .long lk, .int cs, .ref b5]))] := hD
                  refine lv_if_ne (tgt := 139) hx hb d_Mo_pilot_131 (by decide) (fun c_131 => ?_) (fun c_131 => ?_)
                  · have c_131 := bi_y hw_128 c_131
                    refine lv_aload_n hx hb d_Mo_pilot_139 rfl (lv_at hl 1 rfl) ?_
                    refine va_get (D := (dC, dI)) (ci := 6) (v := .int 5) (C := R_Mo) (T := F_Mo) (N := 19) hx hb hB inC_Mo hown hK hP 0 rfl rfl 1 (by decide) (hB _ kb_244) (fun _ h9 => h9) rfl d_Mo_pilot_140 ?_
                    have hP9 := hP.sub (ws' := [(h0, .inr (6, [.int 0, .int 5, .int x_33, .int lo, .int ph, .int di, .long lm, .long en, .long la, .long cu, .long nw, .int sp, .ref b1, .ref b2, .ref b3, .ref b4, .long lk, .int cs, .ref b5]))]) [0] rfl
                    have hD9 := hD.sub (ws' := [(h0, .inr (6, [.int 0, .int 5, .int x_33, .int lo, .int ph, .int di, .long lm, .long en, .long la, .long cu, .long nw, .int sp, .ref b1, .ref b2, .ref b3, .ref b4, .long lk, .int cs, .ref b5]))]) [0] (by decide) rfl
                    have hK9 := hK.sub (tys' := []) [] rfl
                    exact W.iret (v := 5) hx hb hr (fun t ht hW => ⟨⟨5, (0, 5, x_33, ph), rfl, ⟨(by rw [lvl, if_pos ⟨Int64.not_lt.mp c_8, Int64.not_lt.mp c_16⟩, lev, if_neg c_57, if_neg c_69, if_neg c_81, if_neg c_93, if_neg c_103, if_pos c_115]), (by rw [lvl, if_pos ⟨Int64.not_lt.mp c_8, Int64.not_lt.mp c_16⟩, lev, if_neg c_57, if_neg c_69, if_neg c_81, if_neg c_93, if_neg c_103, if_pos c_115]), by rw [shr, if_pos ⟨Int64.not_lt.mp c_8, Int64.not_lt.mp c_16⟩, ex_33]⟩, by rw [ht]; exact hP9, va_K.moved hW.alike hK9, hD9⟩, hS.F ht⟩) hS.2.2 d_Mo_pilot_143
                  · have c_131 := bi_n (hw_128.symm.trans c_131)
                    refine lv_aload_n hx hb d_Mo_pilot_134 rfl (lv_at hl 1 rfl) ?_
                    refine lv_iconst (v := 0) hx hb d_Mo_pilot_135 (by decide) ?_
                    refine va_put (D := (dC, dI)) (ci := 6) (v := .int 0) (ty := .int) (C := R_Mo) (T := F_Mo) (N := 19) hx hb hB inC_Mo t_Mo t_Mo_ok n_Mo hown hK hP hD hS 0 rfl rfl 4 (by decide) (hB _ kb_252) (fun _ h9 => h9) rfl (by decide +kernel) rfl rfl (Nat.le_of_ble_eq_true rfl) d_Mo_pilot_136 (fun H locs hP hD hS => ?_)
                    have hP : va_P (dC, dI) classes [(h0, .inr (6, [.int 0, .int 5, .int x_33, .int lo, .int 0, .int di, .long lm, .long en, .long la, .long cu, .long nw, .int sp, .ref b1, .ref b2, .ref b3, .ref b4, .long lk, .int cs, .ref b5]))] H := hP
                    have hD : va_D A [(h0, .inr (6, [.int 0, .int 5, .int x_33, .int lo, .int 0, .int di, .long lm, .long en, .long la, .long cu, .long nw, .int sp, .ref b1, .ref b2, .ref b3, .ref b4, .long lk, .int cs, .ref b5]))] := hD
                    refine lv_aload_n hx hb d_Mo_pilot_139 rfl (lv_at hl 1 rfl) ?_
                    refine va_get (D := (dC, dI)) (ci := 6) (v := .int 5) (C := R_Mo) (T := F_Mo) (N := 19) hx hb hB inC_Mo hown hK hP 0 rfl rfl 1 (by decide) (hB _ kb_244) (fun _ h9 => h9) rfl d_Mo_pilot_140 ?_
                    have hP9 := hP.sub (ws' := [(h0, .inr (6, [.int 0, .int 5, .int x_33, .int lo, .int 0, .int di, .long lm, .long en, .long la, .long cu, .long nw, .int sp, .ref b1, .ref b2, .ref b3, .ref b4, .long lk, .int cs, .ref b5]))]) [0] rfl
                    have hD9 := hD.sub (ws' := [(h0, .inr (6, [.int 0, .int 5, .int x_33, .int lo, .int 0, .int di, .long lm, .long en, .long la, .long cu, .long nw, .int sp, .ref b1, .ref b2, .ref b3, .ref b4, .long lk, .int cs, .ref b5]))]) [0] (by decide) rfl
                    have hK9 := hK.sub (tys' := []) [] rfl
                    exact W.iret (v := 5) hx hb hr (fun t ht hW => ⟨⟨5, (0, 5, x_33, 0), rfl, ⟨(by rw [lvl, if_pos ⟨Int64.not_lt.mp c_8, Int64.not_lt.mp c_16⟩, lev, if_neg c_57, if_neg c_69, if_neg c_81, if_neg c_93, if_neg c_103, if_pos c_115]), (by rw [lvl, if_pos ⟨Int64.not_lt.mp c_8, Int64.not_lt.mp c_16⟩, lev, if_neg c_57, if_neg c_69, if_neg c_81, if_neg c_93, if_neg c_103, if_pos c_115]), by rw [shr, if_pos ⟨Int64.not_lt.mp c_8, Int64.not_lt.mp c_16⟩, ex_33]⟩, by rw [ht]; exact hP9, va_K.moved hW.alike hK9, hD9⟩, hS.F ht⟩) hS.2.2 d_Mo_pilot_143
              · have c_103 := (lg_cmp_eq _ _).mp c_103
                refine lv_iconst (v := 4) hx hb d_Mo_pilot_106 (by decide) ?_
                refine lv_goto (tgt := 124) hx hb d_Mo_pilot_107 (by decide) ?_
                refine va_put (D := (dC, dI)) (ci := 6) (v := .int 4) (ty := .int) (C := R_Mo) (T := F_Mo) (N := 19) hx hb hB inC_Mo t_Mo t_Mo_ok n_Mo hown hK hP hD hS 0 rfl rfl 1 (by decide) (hB _ kb_244) (fun _ h9 => h9) rfl (by decide +kernel) rfl rfl (Nat.le_of_ble_eq_true rfl) d_Mo_pilot_124 (fun H locs hP hD hS => ?_)
                have hP : va_P (dC, dI) classes [(h0, .inr (6, [.int 0, .int 4, .int x_33, .int lo, .int ph, .int di, .long lm, .long en, .long la, .long cu, .long nw, .int sp, .ref b1, .ref b2, .ref b3, .ref b4, .long lk, .int cs, .ref b5]))] H := hP
                have hD : va_D A [(h0, .inr (6, [.int 0, .int 4, .int x_33, .int lo, .int ph, .int di, .long lm, .long en, .long la, .long cu, .long nw, .int sp, .ref b1, .ref b2, .ref b3, .ref b4, .long lk, .int cs, .ref b5]))] := hD
                refine lv_aload_n hx hb d_Mo_pilot_127 rfl (lv_at hl 1 rfl) ?_
                refine kc_i (va_runV (As := []) (rest := []) ⟨hx, hb, hml, hown, hts⟩ (c_Mo_isOn l dC dI h0 b1 b2 b3 b4 b5 H.size 0 4 x_33 lo ph di lm en la cu nw sp lk cs  ) (cwV 0 hts (ginV kb_248 kb_249 kb_250 kb_251 kb_247) rfl rfl rfl (by decide +kernel) ⟨Nat.le_of_ble_eq_true rfl, Nat.le_of_ble_eq_true rfl⟩) (preV (ci := 6) (wc := [(h0, .inr (6, [.int 0, .int 4, .int x_33, .int lo, .int ph, .int di, .long lm, .long en, .long la, .long cu, .long nw, .int sp, .ref b1, .ref b2, .ref b3, .ref b4, .long lk, .int cs, .ref b5]))]) hK hN hP hD [0] rfl rfl (by decide) [] rfl rfl rfl) rfl rfl hl.1 rfl (lv_room (Nat.le_of_ble_eq_true rfl)) d_Mo_pilot_128 ⟨Nat.le_of_ble_eq_true rfl, Nat.le_of_ble_eq_true rfl⟩) hP hD hS hA [0] [] (wr := []) rfl rfl (by decide) (by decide) (fun r_128 u_128 H locs hw_128 hP hD hK1 hS => ?_)
                have hw_128 : r_128 = bi (0 < 4 ∧ 4 < 4) := hw_128
                have hP : va_P (dC, dI) classes [(h0, .inr (6, [.int 0, .int 4, .int x_33, .int lo, .int ph, .int di, .long lm, .long en, .long la, .long cu, .long nw, .int sp, .ref b1, .ref b2, .ref b3, .ref b4, .long lk, .int cs, .ref b5]))] H := hP
                have hD : va_D A [(h0, .inr (6, [.int 0, .int 4, .int x_33, .int lo, .int ph, .int di, .long lm, .long en, .long la, .long cu, .long nw, .int sp, .ref b1, .ref b2, .ref b3, .ref b4, .long lk, .int cs, .ref b5]))] := hD
                refine lv_if_ne (tgt := 139) hx hb d_Mo_pilot_131 (by decide) (fun c_131 => ?_) (fun c_131 => ?_)
                · have c_131 := bi_y hw_128 c_131
                  refine lv_aload_n hx hb d_Mo_pilot_139 rfl (lv_at hl 1 rfl) ?_
                  refine va_get (D := (dC, dI)) (ci := 6) (v := .int 4) (C := R_Mo) (T := F_Mo) (N := 19) hx hb hB inC_Mo hown hK hP 0 rfl rfl 1 (by decide) (hB _ kb_244) (fun _ h9 => h9) rfl d_Mo_pilot_140 ?_
                  have hP9 := hP.sub (ws' := [(h0, .inr (6, [.int 0, .int 4, .int x_33, .int lo, .int ph, .int di, .long lm, .long en, .long la, .long cu, .long nw, .int sp, .ref b1, .ref b2, .ref b3, .ref b4, .long lk, .int cs, .ref b5]))]) [0] rfl
                  have hD9 := hD.sub (ws' := [(h0, .inr (6, [.int 0, .int 4, .int x_33, .int lo, .int ph, .int di, .long lm, .long en, .long la, .long cu, .long nw, .int sp, .ref b1, .ref b2, .ref b3, .ref b4, .long lk, .int cs, .ref b5]))]) [0] (by decide) rfl
                  have hK9 := hK.sub (tys' := []) [] rfl
                  exact W.iret (v := 4) hx hb hr (fun t ht hW => ⟨⟨4, (0, 4, x_33, ph), rfl, ⟨(by rw [lvl, if_pos ⟨Int64.not_lt.mp c_8, Int64.not_lt.mp c_16⟩, lev, if_neg c_57, if_neg c_69, if_neg c_81, if_neg c_93, if_pos c_103]), (by rw [lvl, if_pos ⟨Int64.not_lt.mp c_8, Int64.not_lt.mp c_16⟩, lev, if_neg c_57, if_neg c_69, if_neg c_81, if_neg c_93, if_pos c_103]), by rw [shr, if_pos ⟨Int64.not_lt.mp c_8, Int64.not_lt.mp c_16⟩, ex_33]⟩, by rw [ht]; exact hP9, va_K.moved hW.alike hK9, hD9⟩, hS.F ht⟩) hS.2.2 d_Mo_pilot_143
                · have c_131 := bi_n (hw_128.symm.trans c_131)
                  refine lv_aload_n hx hb d_Mo_pilot_134 rfl (lv_at hl 1 rfl) ?_
                  refine lv_iconst (v := 0) hx hb d_Mo_pilot_135 (by decide) ?_
                  refine va_put (D := (dC, dI)) (ci := 6) (v := .int 0) (ty := .int) (C := R_Mo) (T := F_Mo) (N := 19) hx hb hB inC_Mo t_Mo t_Mo_ok n_Mo hown hK hP hD hS 0 rfl rfl 4 (by decide) (hB _ kb_252) (fun _ h9 => h9) rfl (by decide +kernel) rfl rfl (Nat.le_of_ble_eq_true rfl) d_Mo_pilot_136 (fun H locs hP hD hS => ?_)
                  have hP : va_P (dC, dI) classes [(h0, .inr (6, [.int 0, .int 4, .int x_33, .int lo, .int 0, .int di, .long lm, .long en, .long la, .long cu, .long nw, .int sp, .ref b1, .ref b2, .ref b3, .ref b4, .long lk, .int cs, .ref b5]))] H := hP
                  have hD : va_D A [(h0, .inr (6, [.int 0, .int 4, .int x_33, .int lo, .int 0, .int di, .long lm, .long en, .long la, .long cu, .long nw, .int sp, .ref b1, .ref b2, .ref b3, .ref b4, .long lk, .int cs, .ref b5]))] := hD
                  refine lv_aload_n hx hb d_Mo_pilot_139 rfl (lv_at hl 1 rfl) ?_
                  refine va_get (D := (dC, dI)) (ci := 6) (v := .int 4) (C := R_Mo) (T := F_Mo) (N := 19) hx hb hB inC_Mo hown hK hP 0 rfl rfl 1 (by decide) (hB _ kb_244) (fun _ h9 => h9) rfl d_Mo_pilot_140 ?_
                  have hP9 := hP.sub (ws' := [(h0, .inr (6, [.int 0, .int 4, .int x_33, .int lo, .int 0, .int di, .long lm, .long en, .long la, .long cu, .long nw, .int sp, .ref b1, .ref b2, .ref b3, .ref b4, .long lk, .int cs, .ref b5]))]) [0] rfl
                  have hD9 := hD.sub (ws' := [(h0, .inr (6, [.int 0, .int 4, .int x_33, .int lo, .int 0, .int di, .long lm, .long en, .long la, .long cu, .long nw, .int sp, .ref b1, .ref b2, .ref b3, .ref b4, .long lk, .int cs, .ref b5]))]) [0] (by decide) rfl
                  have hK9 := hK.sub (tys' := []) [] rfl
                  exact W.iret (v := 4) hx hb hr (fun t ht hW => ⟨⟨4, (0, 4, x_33, 0), rfl, ⟨(by rw [lvl, if_pos ⟨Int64.not_lt.mp c_8, Int64.not_lt.mp c_16⟩, lev, if_neg c_57, if_neg c_69, if_neg c_81, if_neg c_93, if_pos c_103]), (by rw [lvl, if_pos ⟨Int64.not_lt.mp c_8, Int64.not_lt.mp c_16⟩, lev, if_neg c_57, if_neg c_69, if_neg c_81, if_neg c_93, if_pos c_103]), by rw [shr, if_pos ⟨Int64.not_lt.mp c_8, Int64.not_lt.mp c_16⟩, ex_33]⟩, by rw [ht]; exact hP9, va_K.moved hW.alike hK9, hD9⟩, hS.F ht⟩) hS.2.2 d_Mo_pilot_143
            · have c_93 := (lg_cmp_eq _ _).mp c_93
              refine lv_iconst (v := 3) hx hb d_Mo_pilot_96 (by decide) ?_
              refine lv_goto (tgt := 124) hx hb d_Mo_pilot_97 (by decide) ?_
              refine va_put (D := (dC, dI)) (ci := 6) (v := .int 3) (ty := .int) (C := R_Mo) (T := F_Mo) (N := 19) hx hb hB inC_Mo t_Mo t_Mo_ok n_Mo hown hK hP hD hS 0 rfl rfl 1 (by decide) (hB _ kb_244) (fun _ h9 => h9) rfl (by decide +kernel) rfl rfl (Nat.le_of_ble_eq_true rfl) d_Mo_pilot_124 (fun H locs hP hD hS => ?_)
              have hP : va_P (dC, dI) classes [(h0, .inr (6, [.int 0, .int 3, .int x_33, .int lo, .int ph, .int di, .long lm, .long en, .long la, .long cu, .long nw, .int sp, .ref b1, .ref b2, .ref b3, .ref b4, .long lk, .int cs, .ref b5]))] H := hP
              have hD : va_D A [(h0, .inr (6, [.int 0, .int 3, .int x_33, .int lo, .int ph, .int di, .long lm, .long en, .long la, .long cu, .long nw, .int sp, .ref b1, .ref b2, .ref b3, .ref b4, .long lk, .int cs, .ref b5]))] := hD
              refine lv_aload_n hx hb d_Mo_pilot_127 rfl (lv_at hl 1 rfl) ?_
              refine kc_i (va_runV (As := []) (rest := []) ⟨hx, hb, hml, hown, hts⟩ (c_Mo_isOn l dC dI h0 b1 b2 b3 b4 b5 H.size 0 3 x_33 lo ph di lm en la cu nw sp lk cs  ) (cwV 0 hts (ginV kb_248 kb_249 kb_250 kb_251 kb_247) rfl rfl rfl (by decide +kernel) ⟨Nat.le_of_ble_eq_true rfl, Nat.le_of_ble_eq_true rfl⟩) (preV (ci := 6) (wc := [(h0, .inr (6, [.int 0, .int 3, .int x_33, .int lo, .int ph, .int di, .long lm, .long en, .long la, .long cu, .long nw, .int sp, .ref b1, .ref b2, .ref b3, .ref b4, .long lk, .int cs, .ref b5]))]) hK hN hP hD [0] rfl rfl (by decide) [] rfl rfl rfl) rfl rfl hl.1 rfl (lv_room (Nat.le_of_ble_eq_true rfl)) d_Mo_pilot_128 ⟨Nat.le_of_ble_eq_true rfl, Nat.le_of_ble_eq_true rfl⟩) hP hD hS hA [0] [] (wr := []) rfl rfl (by decide) (by decide) (fun r_128 u_128 H locs hw_128 hP hD hK1 hS => ?_)
              have hw_128 : r_128 = bi (0 < 3 ∧ 3 < 4) := hw_128
              have hP : va_P (dC, dI) classes [(h0, .inr (6, [.int 0, .int 3, .int x_33, .int lo, .int ph, .int di, .long lm, .long en, .long la, .long cu, .long nw, .int sp, .ref b1, .ref b2, .ref b3, .ref b4, .long lk, .int cs, .ref b5]))] H := hP
              have hD : va_D A [(h0, .inr (6, [.int 0, .int 3, .int x_33, .int lo, .int ph, .int di, .long lm, .long en, .long la, .long cu, .long nw, .int sp, .ref b1, .ref b2, .ref b3, .ref b4, .long lk, .int cs, .ref b5]))] := hD
              refine lv_if_ne (tgt := 139) hx hb d_Mo_pilot_131 (by decide) (fun c_131 => ?_) (fun c_131 => ?_)
              · have c_131 := bi_y hw_128 c_131
                refine lv_aload_n hx hb d_Mo_pilot_139 rfl (lv_at hl 1 rfl) ?_
                refine va_get (D := (dC, dI)) (ci := 6) (v := .int 3) (C := R_Mo) (T := F_Mo) (N := 19) hx hb hB inC_Mo hown hK hP 0 rfl rfl 1 (by decide) (hB _ kb_244) (fun _ h9 => h9) rfl d_Mo_pilot_140 ?_
                have hP9 := hP.sub (ws' := [(h0, .inr (6, [.int 0, .int 3, .int x_33, .int lo, .int ph, .int di, .long lm, .long en, .long la, .long cu, .long nw, .int sp, .ref b1, .ref b2, .ref b3, .ref b4, .long lk, .int cs, .ref b5]))]) [0] rfl
                have hD9 := hD.sub (ws' := [(h0, .inr (6, [.int 0, .int 3, .int x_33, .int lo, .int ph, .int di, .long lm, .long en, .long la, .long cu, .long nw, .int sp, .ref b1, .ref b2, .ref b3, .ref b4, .long lk, .int cs, .ref b5]))]) [0] (by decide) rfl
                have hK9 := hK.sub (tys' := []) [] rfl
                exact W.iret (v := 3) hx hb hr (fun t ht hW => ⟨⟨3, (0, 3, x_33, ph), rfl, ⟨(by rw [lvl, if_pos ⟨Int64.not_lt.mp c_8, Int64.not_lt.mp c_16⟩, lev, if_neg c_57, if_neg c_69, if_neg c_81, if_pos c_93]), (by rw [lvl, if_pos ⟨Int64.not_lt.mp c_8, Int64.not_lt.mp c_16⟩, lev, if_neg c_57, if_neg c_69, if_neg c_81, if_pos c_93]), by rw [shr, if_pos ⟨Int64.not_lt.mp c_8, Int64.not_lt.mp c_16⟩, ex_33]⟩, by rw [ht]; exact hP9, va_K.moved hW.alike hK9, hD9⟩, hS.F ht⟩) hS.2.2 d_Mo_pilot_143
              · have c_131 := bi_n (hw_128.symm.trans c_131)
                refine lv_aload_n hx hb d_Mo_pilot_134 rfl (lv_at hl 1 rfl) ?_
                refine lv_iconst (v := 0) hx hb d_Mo_pilot_135 (by decide) ?_
                refine va_put (D := (dC, dI)) (ci := 6) (v := .int 0) (ty := .int) (C := R_Mo) (T := F_Mo) (N := 19) hx hb hB inC_Mo t_Mo t_Mo_ok n_Mo hown hK hP hD hS 0 rfl rfl 4 (by decide) (hB _ kb_252) (fun _ h9 => h9) rfl (by decide +kernel) rfl rfl (Nat.le_of_ble_eq_true rfl) d_Mo_pilot_136 (fun H locs hP hD hS => ?_)
                have hP : va_P (dC, dI) classes [(h0, .inr (6, [.int 0, .int 3, .int x_33, .int lo, .int 0, .int di, .long lm, .long en, .long la, .long cu, .long nw, .int sp, .ref b1, .ref b2, .ref b3, .ref b4, .long lk, .int cs, .ref b5]))] H := hP
                have hD : va_D A [(h0, .inr (6, [.int 0, .int 3, .int x_33, .int lo, .int 0, .int di, .long lm, .long en, .long la, .long cu, .long nw, .int sp, .ref b1, .ref b2, .ref b3, .ref b4, .long lk, .int cs, .ref b5]))] := hD
                refine lv_aload_n hx hb d_Mo_pilot_139 rfl (lv_at hl 1 rfl) ?_
                refine va_get (D := (dC, dI)) (ci := 6) (v := .int 3) (C := R_Mo) (T := F_Mo) (N := 19) hx hb hB inC_Mo hown hK hP 0 rfl rfl 1 (by decide) (hB _ kb_244) (fun _ h9 => h9) rfl d_Mo_pilot_140 ?_
                have hP9 := hP.sub (ws' := [(h0, .inr (6, [.int 0, .int 3, .int x_33, .int lo, .int 0, .int di, .long lm, .long en, .long la, .long cu, .long nw, .int sp, .ref b1, .ref b2, .ref b3, .ref b4, .long lk, .int cs, .ref b5]))]) [0] rfl
                have hD9 := hD.sub (ws' := [(h0, .inr (6, [.int 0, .int 3, .int x_33, .int lo, .int 0, .int di, .long lm, .long en, .long la, .long cu, .long nw, .int sp, .ref b1, .ref b2, .ref b3, .ref b4, .long lk, .int cs, .ref b5]))]) [0] (by decide) rfl
                have hK9 := hK.sub (tys' := []) [] rfl
                exact W.iret (v := 3) hx hb hr (fun t ht hW => ⟨⟨3, (0, 3, x_33, 0), rfl, ⟨(by rw [lvl, if_pos ⟨Int64.not_lt.mp c_8, Int64.not_lt.mp c_16⟩, lev, if_neg c_57, if_neg c_69, if_neg c_81, if_pos c_93]), (by rw [lvl, if_pos ⟨Int64.not_lt.mp c_8, Int64.not_lt.mp c_16⟩, lev, if_neg c_57, if_neg c_69, if_neg c_81, if_pos c_93]), by rw [shr, if_pos ⟨Int64.not_lt.mp c_8, Int64.not_lt.mp c_16⟩, ex_33]⟩, by rw [ht]; exact hP9, va_K.moved hW.alike hK9, hD9⟩, hS.F ht⟩) hS.2.2 d_Mo_pilot_143
          · have c_81 := (lg_cmp_eq _ _).mp c_81
            refine lv_iconst (v := 2) hx hb d_Mo_pilot_84 (by decide) ?_
            refine lv_goto (tgt := 124) hx hb d_Mo_pilot_85 (by decide) ?_
            refine va_put (D := (dC, dI)) (ci := 6) (v := .int 2) (ty := .int) (C := R_Mo) (T := F_Mo) (N := 19) hx hb hB inC_Mo t_Mo t_Mo_ok n_Mo hown hK hP hD hS 0 rfl rfl 1 (by decide) (hB _ kb_244) (fun _ h9 => h9) rfl (by decide +kernel) rfl rfl (Nat.le_of_ble_eq_true rfl) d_Mo_pilot_124 (fun H locs hP hD hS => ?_)
            have hP : va_P (dC, dI) classes [(h0, .inr (6, [.int 0, .int 2, .int x_33, .int lo, .int ph, .int di, .long lm, .long en, .long la, .long cu, .long nw, .int sp, .ref b1, .ref b2, .ref b3, .ref b4, .long lk, .int cs, .ref b5]))] H := hP
            have hD : va_D A [(h0, .inr (6, [.int 0, .int 2, .int x_33, .int lo, .int ph, .int di, .long lm, .long en, .long la, .long cu, .long nw, .int sp, .ref b1, .ref b2, .ref b3, .ref b4, .long lk, .int cs, .ref b5]))] := hD
            refine lv_aload_n hx hb d_Mo_pilot_127 rfl (lv_at hl 1 rfl) ?_
            refine kc_i (va_runV (As := []) (rest := []) ⟨hx, hb, hml, hown, hts⟩ (c_Mo_isOn l dC dI h0 b1 b2 b3 b4 b5 H.size 0 2 x_33 lo ph di lm en la cu nw sp lk cs  ) (cwV 0 hts (ginV kb_248 kb_249 kb_250 kb_251 kb_247) rfl rfl rfl (by decide +kernel) ⟨Nat.le_of_ble_eq_true rfl, Nat.le_of_ble_eq_true rfl⟩) (preV (ci := 6) (wc := [(h0, .inr (6, [.int 0, .int 2, .int x_33, .int lo, .int ph, .int di, .long lm, .long en, .long la, .long cu, .long nw, .int sp, .ref b1, .ref b2, .ref b3, .ref b4, .long lk, .int cs, .ref b5]))]) hK hN hP hD [0] rfl rfl (by decide) [] rfl rfl rfl) rfl rfl hl.1 rfl (lv_room (Nat.le_of_ble_eq_true rfl)) d_Mo_pilot_128 ⟨Nat.le_of_ble_eq_true rfl, Nat.le_of_ble_eq_true rfl⟩) hP hD hS hA [0] [] (wr := []) rfl rfl (by decide) (by decide) (fun r_128 u_128 H locs hw_128 hP hD hK1 hS => ?_)
            have hw_128 : r_128 = bi (0 < 2 ∧ 2 < 4) := hw_128
            have hP : va_P (dC, dI) classes [(h0, .inr (6, [.int 0, .int 2, .int x_33, .int lo, .int ph, .int di, .long lm, .long en, .long la, .long cu, .long nw, .int sp, .ref b1, .ref b2, .ref b3, .ref b4, .long lk, .int cs, .ref b5]))] H := hP
            have hD : va_D A [(h0, .inr (6, [.int 0, .int 2, .int x_33, .int lo, .int ph, .int di, .long lm, .long en, .long la, .long cu, .long nw, .int sp, .ref b1, .ref b2, .ref b3, .ref b4, .long lk, .int cs, .ref b5]))] := hD
            refine lv_if_ne (tgt := 139) hx hb d_Mo_pilot_131 (by decide) (fun c_131 => ?_) (fun c_131 => ?_)
            · have c_131 := bi_y hw_128 c_131
              refine lv_aload_n hx hb d_Mo_pilot_139 rfl (lv_at hl 1 rfl) ?_
              refine va_get (D := (dC, dI)) (ci := 6) (v := .int 2) (C := R_Mo) (T := F_Mo) (N := 19) hx hb hB inC_Mo hown hK hP 0 rfl rfl 1 (by decide) (hB _ kb_244) (fun _ h9 => h9) rfl d_Mo_pilot_140 ?_
              have hP9 := hP.sub (ws' := [(h0, .inr (6, [.int 0, .int 2, .int x_33, .int lo, .int ph, .int di, .long lm, .long en, .long la, .long cu, .long nw, .int sp, .ref b1, .ref b2, .ref b3, .ref b4, .long lk, .int cs, .ref b5]))]) [0] rfl
              have hD9 := hD.sub (ws' := [(h0, .inr (6, [.int 0, .int 2, .int x_33, .int lo, .int ph, .int di, .long lm, .long en, .long la, .long cu, .long nw, .int sp, .ref b1, .ref b2, .ref b3, .ref b4, .long lk, .int cs, .ref b5]))]) [0] (by decide) rfl
              have hK9 := hK.sub (tys' := []) [] rfl
              exact W.iret (v := 2) hx hb hr (fun t ht hW => ⟨⟨2, (0, 2, x_33, ph), rfl, ⟨(by rw [lvl, if_pos ⟨Int64.not_lt.mp c_8, Int64.not_lt.mp c_16⟩, lev, if_neg c_57, if_neg c_69, if_pos c_81]), (by rw [lvl, if_pos ⟨Int64.not_lt.mp c_8, Int64.not_lt.mp c_16⟩, lev, if_neg c_57, if_neg c_69, if_pos c_81]), by rw [shr, if_pos ⟨Int64.not_lt.mp c_8, Int64.not_lt.mp c_16⟩, ex_33]⟩, by rw [ht]; exact hP9, va_K.moved hW.alike hK9, hD9⟩, hS.F ht⟩) hS.2.2 d_Mo_pilot_143
            · have c_131 := bi_n (hw_128.symm.trans c_131)
              refine lv_aload_n hx hb d_Mo_pilot_134 rfl (lv_at hl 1 rfl) ?_
              refine lv_iconst (v := 0) hx hb d_Mo_pilot_135 (by decide) ?_
              refine va_put (D := (dC, dI)) (ci := 6) (v := .int 0) (ty := .int) (C := R_Mo) (T := F_Mo) (N := 19) hx hb hB inC_Mo t_Mo t_Mo_ok n_Mo hown hK hP hD hS 0 rfl rfl 4 (by decide) (hB _ kb_252) (fun _ h9 => h9) rfl (by decide +kernel) rfl rfl (Nat.le_of_ble_eq_true rfl) d_Mo_pilot_136 (fun H locs hP hD hS => ?_)
              have hP : va_P (dC, dI) classes [(h0, .inr (6, [.int 0, .int 2, .int x_33, .int lo, .int 0, .int di, .long lm, .long en, .long la, .long cu, .long nw, .int sp, .ref b1, .ref b2, .ref b3, .ref b4, .long lk, .int cs, .ref b5]))] H := hP
              have hD : va_D A [(h0, .inr (6, [.int 0, .int 2, .int x_33, .int lo, .int 0, .int di, .long lm, .long en, .long la, .long cu, .long nw, .int sp, .ref b1, .ref b2, .ref b3, .ref b4, .long lk, .int cs, .ref b5]))] := hD
              refine lv_aload_n hx hb d_Mo_pilot_139 rfl (lv_at hl 1 rfl) ?_
              refine va_get (D := (dC, dI)) (ci := 6) (v := .int 2) (C := R_Mo) (T := F_Mo) (N := 19) hx hb hB inC_Mo hown hK hP 0 rfl rfl 1 (by decide) (hB _ kb_244) (fun _ h9 => h9) rfl d_Mo_pilot_140 ?_
              have hP9 := hP.sub (ws' := [(h0, .inr (6, [.int 0, .int 2, .int x_33, .int lo, .int 0, .int di, .long lm, .long en, .long la, .long cu, .long nw, .int sp, .ref b1, .ref b2, .ref b3, .ref b4, .long lk, .int cs, .ref b5]))]) [0] rfl
              have hD9 := hD.sub (ws' := [(h0, .inr (6, [.int 0, .int 2, .int x_33, .int lo, .int 0, .int di, .long lm, .long en, .long la, .long cu, .long nw, .int sp, .ref b1, .ref b2, .ref b3, .ref b4, .long lk, .int cs, .ref b5]))]) [0] (by decide) rfl
              have hK9 := hK.sub (tys' := []) [] rfl
              exact W.iret (v := 2) hx hb hr (fun t ht hW => ⟨⟨2, (0, 2, x_33, 0), rfl, ⟨(by rw [lvl, if_pos ⟨Int64.not_lt.mp c_8, Int64.not_lt.mp c_16⟩, lev, if_neg c_57, if_neg c_69, if_pos c_81]), (by rw [lvl, if_pos ⟨Int64.not_lt.mp c_8, Int64.not_lt.mp c_16⟩, lev, if_neg c_57, if_neg c_69, if_pos c_81]), by rw [shr, if_pos ⟨Int64.not_lt.mp c_8, Int64.not_lt.mp c_16⟩, ex_33]⟩, by rw [ht]; exact hP9, va_K.moved hW.alike hK9, hD9⟩, hS.F ht⟩) hS.2.2 d_Mo_pilot_143
        · have c_69 := (lg_cmp_eq _ _).mp c_69
          refine lv_iconst (v := 1) hx hb d_Mo_pilot_72 (by decide) ?_
          refine lv_goto (tgt := 124) hx hb d_Mo_pilot_73 (by decide) ?_
          refine va_put (D := (dC, dI)) (ci := 6) (v := .int 1) (ty := .int) (C := R_Mo) (T := F_Mo) (N := 19) hx hb hB inC_Mo t_Mo t_Mo_ok n_Mo hown hK hP hD hS 0 rfl rfl 1 (by decide) (hB _ kb_244) (fun _ h9 => h9) rfl (by decide +kernel) rfl rfl (Nat.le_of_ble_eq_true rfl) d_Mo_pilot_124 (fun H locs hP hD hS => ?_)
          have hP : va_P (dC, dI) classes [(h0, .inr (6, [.int 0, .int 1, .int x_33, .int lo, .int ph, .int di, .long lm, .long en, .long la, .long cu, .long nw, .int sp, .ref b1, .ref b2, .ref b3, .ref b4, .long lk, .int cs, .ref b5]))] H := hP
          have hD : va_D A [(h0, .inr (6, [.int 0, .int 1, .int x_33, .int lo, .int ph, .int di, .long lm, .long en, .long la, .long cu, .long nw, .int sp, .ref b1, .ref b2, .ref b3, .ref b4, .long lk, .int cs, .ref b5]))] := hD
          refine lv_aload_n hx hb d_Mo_pilot_127 rfl (lv_at hl 1 rfl) ?_
          refine kc_i (va_runV (As := []) (rest := []) ⟨hx, hb, hml, hown, hts⟩ (c_Mo_isOn l dC dI h0 b1 b2 b3 b4 b5 H.size 0 1 x_33 lo ph di lm en la cu nw sp lk cs  ) (cwV 0 hts (ginV kb_248 kb_249 kb_250 kb_251 kb_247) rfl rfl rfl (by decide +kernel) ⟨Nat.le_of_ble_eq_true rfl, Nat.le_of_ble_eq_true rfl⟩) (preV (ci := 6) (wc := [(h0, .inr (6, [.int 0, .int 1, .int x_33, .int lo, .int ph, .int di, .long lm, .long en, .long la, .long cu, .long nw, .int sp, .ref b1, .ref b2, .ref b3, .ref b4, .long lk, .int cs, .ref b5]))]) hK hN hP hD [0] rfl rfl (by decide) [] rfl rfl rfl) rfl rfl hl.1 rfl (lv_room (Nat.le_of_ble_eq_true rfl)) d_Mo_pilot_128 ⟨Nat.le_of_ble_eq_true rfl, Nat.le_of_ble_eq_true rfl⟩) hP hD hS hA [0] [] (wr := []) rfl rfl (by decide) (by decide) (fun r_128 u_128 H locs hw_128 hP hD hK1 hS => ?_)
          have hw_128 : r_128 = bi (0 < 1 ∧ 1 < 4) := hw_128
          have hP : va_P (dC, dI) classes [(h0, .inr (6, [.int 0, .int 1, .int x_33, .int lo, .int ph, .int di, .long lm, .long en, .long la, .long cu, .long nw, .int sp, .ref b1, .ref b2, .ref b3, .ref b4, .long lk, .int cs, .ref b5]))] H := hP
          have hD : va_D A [(h0, .inr (6, [.int 0, .int 1, .int x_33, .int lo, .int ph, .int di, .long lm, .long en, .long la, .long cu, .long nw, .int sp, .ref b1, .ref b2, .ref b3, .ref b4, .long lk, .int cs, .ref b5]))] := hD
          refine lv_if_ne (tgt := 139) hx hb d_Mo_pilot_131 (by decide) (fun c_131 => ?_) (fun c_131 => ?_)
          · have c_131 := bi_y hw_128 c_131
            refine lv_aload_n hx hb d_Mo_pilot_139 rfl (lv_at hl 1 rfl) ?_
            refine va_get (D := (dC, dI)) (ci := 6) (v := .int 1) (C := R_Mo) (T := F_Mo) (N := 19) hx hb hB inC_Mo hown hK hP 0 rfl rfl 1 (by decide) (hB _ kb_244) (fun _ h9 => h9) rfl d_Mo_pilot_140 ?_
            have hP9 := hP.sub (ws' := [(h0, .inr (6, [.int 0, .int 1, .int x_33, .int lo, .int ph, .int di, .long lm, .long en, .long la, .long cu, .long nw, .int sp, .ref b1, .ref b2, .ref b3, .ref b4, .long lk, .int cs, .ref b5]))]) [0] rfl
            have hD9 := hD.sub (ws' := [(h0, .inr (6, [.int 0, .int 1, .int x_33, .int lo, .int ph, .int di, .long lm, .long en, .long la, .long cu, .long nw, .int sp, .ref b1, .ref b2, .ref b3, .ref b4, .long lk, .int cs, .ref b5]))]) [0] (by decide) rfl
            have hK9 := hK.sub (tys' := []) [] rfl
            exact W.iret (v := 1) hx hb hr (fun t ht hW => ⟨⟨1, (0, 1, x_33, ph), rfl, ⟨(by rw [lvl, if_pos ⟨Int64.not_lt.mp c_8, Int64.not_lt.mp c_16⟩, lev, if_neg c_57, if_pos c_69]), (by rw [lvl, if_pos ⟨Int64.not_lt.mp c_8, Int64.not_lt.mp c_16⟩, lev, if_neg c_57, if_pos c_69]), by rw [shr, if_pos ⟨Int64.not_lt.mp c_8, Int64.not_lt.mp c_16⟩, ex_33]⟩, by rw [ht]; exact hP9, va_K.moved hW.alike hK9, hD9⟩, hS.F ht⟩) hS.2.2 d_Mo_pilot_143
          · have c_131 := bi_n (hw_128.symm.trans c_131)
            refine lv_aload_n hx hb d_Mo_pilot_134 rfl (lv_at hl 1 rfl) ?_
            refine lv_iconst (v := 0) hx hb d_Mo_pilot_135 (by decide) ?_
            refine va_put (D := (dC, dI)) (ci := 6) (v := .int 0) (ty := .int) (C := R_Mo) (T := F_Mo) (N := 19) hx hb hB inC_Mo t_Mo t_Mo_ok n_Mo hown hK hP hD hS 0 rfl rfl 4 (by decide) (hB _ kb_252) (fun _ h9 => h9) rfl (by decide +kernel) rfl rfl (Nat.le_of_ble_eq_true rfl) d_Mo_pilot_136 (fun H locs hP hD hS => ?_)
            have hP : va_P (dC, dI) classes [(h0, .inr (6, [.int 0, .int 1, .int x_33, .int lo, .int 0, .int di, .long lm, .long en, .long la, .long cu, .long nw, .int sp, .ref b1, .ref b2, .ref b3, .ref b4, .long lk, .int cs, .ref b5]))] H := hP
            have hD : va_D A [(h0, .inr (6, [.int 0, .int 1, .int x_33, .int lo, .int 0, .int di, .long lm, .long en, .long la, .long cu, .long nw, .int sp, .ref b1, .ref b2, .ref b3, .ref b4, .long lk, .int cs, .ref b5]))] := hD
            refine lv_aload_n hx hb d_Mo_pilot_139 rfl (lv_at hl 1 rfl) ?_
            refine va_get (D := (dC, dI)) (ci := 6) (v := .int 1) (C := R_Mo) (T := F_Mo) (N := 19) hx hb hB inC_Mo hown hK hP 0 rfl rfl 1 (by decide) (hB _ kb_244) (fun _ h9 => h9) rfl d_Mo_pilot_140 ?_
            have hP9 := hP.sub (ws' := [(h0, .inr (6, [.int 0, .int 1, .int x_33, .int lo, .int 0, .int di, .long lm, .long en, .long la, .long cu, .long nw, .int sp, .ref b1, .ref b2, .ref b3, .ref b4, .long lk, .int cs, .ref b5]))]) [0] rfl
            have hD9 := hD.sub (ws' := [(h0, .inr (6, [.int 0, .int 1, .int x_33, .int lo, .int 0, .int di, .long lm, .long en, .long la, .long cu, .long nw, .int sp, .ref b1, .ref b2, .ref b3, .ref b4, .long lk, .int cs, .ref b5]))]) [0] (by decide) rfl
            have hK9 := hK.sub (tys' := []) [] rfl
            exact W.iret (v := 1) hx hb hr (fun t ht hW => ⟨⟨1, (0, 1, x_33, 0), rfl, ⟨(by rw [lvl, if_pos ⟨Int64.not_lt.mp c_8, Int64.not_lt.mp c_16⟩, lev, if_neg c_57, if_pos c_69]), (by rw [lvl, if_pos ⟨Int64.not_lt.mp c_8, Int64.not_lt.mp c_16⟩, lev, if_neg c_57, if_pos c_69]), by rw [shr, if_pos ⟨Int64.not_lt.mp c_8, Int64.not_lt.mp c_16⟩, ex_33]⟩, by rw [ht]; exact hP9, va_K.moved hW.alike hK9, hD9⟩, hS.F ht⟩) hS.2.2 d_Mo_pilot_143
      · have c_57 := (lg_cmp_eq _ _).mp c_57
        refine lv_iconst (v := 0) hx hb d_Mo_pilot_60 (by decide) ?_
        refine lv_goto (tgt := 124) hx hb d_Mo_pilot_61 (by decide) ?_
        refine va_put (D := (dC, dI)) (ci := 6) (v := .int 0) (ty := .int) (C := R_Mo) (T := F_Mo) (N := 19) hx hb hB inC_Mo t_Mo t_Mo_ok n_Mo hown hK hP hD hS 0 rfl rfl 1 (by decide) (hB _ kb_244) (fun _ h9 => h9) rfl (by decide +kernel) rfl rfl (Nat.le_of_ble_eq_true rfl) d_Mo_pilot_124 (fun H locs hP hD hS => ?_)
        have hP : va_P (dC, dI) classes [(h0, .inr (6, [.int 0, .int 0, .int x_33, .int lo, .int ph, .int di, .long lm, .long en, .long la, .long cu, .long nw, .int sp, .ref b1, .ref b2, .ref b3, .ref b4, .long lk, .int cs, .ref b5]))] H := hP
        have hD : va_D A [(h0, .inr (6, [.int 0, .int 0, .int x_33, .int lo, .int ph, .int di, .long lm, .long en, .long la, .long cu, .long nw, .int sp, .ref b1, .ref b2, .ref b3, .ref b4, .long lk, .int cs, .ref b5]))] := hD
        refine lv_aload_n hx hb d_Mo_pilot_127 rfl (lv_at hl 1 rfl) ?_
        refine kc_i (va_runV (As := []) (rest := []) ⟨hx, hb, hml, hown, hts⟩ (c_Mo_isOn l dC dI h0 b1 b2 b3 b4 b5 H.size 0 0 x_33 lo ph di lm en la cu nw sp lk cs  ) (cwV 0 hts (ginV kb_248 kb_249 kb_250 kb_251 kb_247) rfl rfl rfl (by decide +kernel) ⟨Nat.le_of_ble_eq_true rfl, Nat.le_of_ble_eq_true rfl⟩) (preV (ci := 6) (wc := [(h0, .inr (6, [.int 0, .int 0, .int x_33, .int lo, .int ph, .int di, .long lm, .long en, .long la, .long cu, .long nw, .int sp, .ref b1, .ref b2, .ref b3, .ref b4, .long lk, .int cs, .ref b5]))]) hK hN hP hD [0] rfl rfl (by decide) [] rfl rfl rfl) rfl rfl hl.1 rfl (lv_room (Nat.le_of_ble_eq_true rfl)) d_Mo_pilot_128 ⟨Nat.le_of_ble_eq_true rfl, Nat.le_of_ble_eq_true rfl⟩) hP hD hS hA [0] [] (wr := []) rfl rfl (by decide) (by decide) (fun r_128 u_128 H locs hw_128 hP hD hK1 hS => ?_)
        have hw_128 : r_128 = bi (0 < 0 ∧ 0 < 4) := hw_128
        have hP : va_P (dC, dI) classes [(h0, .inr (6, [.int 0, .int 0, .int x_33, .int lo, .int ph, .int di, .long lm, .long en, .long la, .long cu, .long nw, .int sp, .ref b1, .ref b2, .ref b3, .ref b4, .long lk, .int cs, .ref b5]))] H := hP
        have hD : va_D A [(h0, .inr (6, [.int 0, .int 0, .int x_33, .int lo, .int ph, .int di, .long lm, .long en, .long la, .long cu, .long nw, .int sp, .ref b1, .ref b2, .ref b3, .ref b4, .long lk, .int cs, .ref b5]))] := hD
        refine lv_if_ne (tgt := 139) hx hb d_Mo_pilot_131 (by decide) (fun c_131 => ?_) (fun c_131 => ?_)
        · have c_131 := bi_y hw_128 c_131
          refine lv_aload_n hx hb d_Mo_pilot_139 rfl (lv_at hl 1 rfl) ?_
          refine va_get (D := (dC, dI)) (ci := 6) (v := .int 0) (C := R_Mo) (T := F_Mo) (N := 19) hx hb hB inC_Mo hown hK hP 0 rfl rfl 1 (by decide) (hB _ kb_244) (fun _ h9 => h9) rfl d_Mo_pilot_140 ?_
          have hP9 := hP.sub (ws' := [(h0, .inr (6, [.int 0, .int 0, .int x_33, .int lo, .int ph, .int di, .long lm, .long en, .long la, .long cu, .long nw, .int sp, .ref b1, .ref b2, .ref b3, .ref b4, .long lk, .int cs, .ref b5]))]) [0] rfl
          have hD9 := hD.sub (ws' := [(h0, .inr (6, [.int 0, .int 0, .int x_33, .int lo, .int ph, .int di, .long lm, .long en, .long la, .long cu, .long nw, .int sp, .ref b1, .ref b2, .ref b3, .ref b4, .long lk, .int cs, .ref b5]))]) [0] (by decide) rfl
          have hK9 := hK.sub (tys' := []) [] rfl
          exact W.iret (v := 0) hx hb hr (fun t ht hW => ⟨⟨0, (0, 0, x_33, ph), rfl, ⟨(by rw [lvl, if_pos ⟨Int64.not_lt.mp c_8, Int64.not_lt.mp c_16⟩, lev, if_pos c_57]), (by rw [lvl, if_pos ⟨Int64.not_lt.mp c_8, Int64.not_lt.mp c_16⟩, lev, if_pos c_57]), by rw [shr, if_pos ⟨Int64.not_lt.mp c_8, Int64.not_lt.mp c_16⟩, ex_33]⟩, by rw [ht]; exact hP9, va_K.moved hW.alike hK9, hD9⟩, hS.F ht⟩) hS.2.2 d_Mo_pilot_143
        · have c_131 := bi_n (hw_128.symm.trans c_131)
          refine lv_aload_n hx hb d_Mo_pilot_134 rfl (lv_at hl 1 rfl) ?_
          refine lv_iconst (v := 0) hx hb d_Mo_pilot_135 (by decide) ?_
          refine va_put (D := (dC, dI)) (ci := 6) (v := .int 0) (ty := .int) (C := R_Mo) (T := F_Mo) (N := 19) hx hb hB inC_Mo t_Mo t_Mo_ok n_Mo hown hK hP hD hS 0 rfl rfl 4 (by decide) (hB _ kb_252) (fun _ h9 => h9) rfl (by decide +kernel) rfl rfl (Nat.le_of_ble_eq_true rfl) d_Mo_pilot_136 (fun H locs hP hD hS => ?_)
          have hP : va_P (dC, dI) classes [(h0, .inr (6, [.int 0, .int 0, .int x_33, .int lo, .int 0, .int di, .long lm, .long en, .long la, .long cu, .long nw, .int sp, .ref b1, .ref b2, .ref b3, .ref b4, .long lk, .int cs, .ref b5]))] H := hP
          have hD : va_D A [(h0, .inr (6, [.int 0, .int 0, .int x_33, .int lo, .int 0, .int di, .long lm, .long en, .long la, .long cu, .long nw, .int sp, .ref b1, .ref b2, .ref b3, .ref b4, .long lk, .int cs, .ref b5]))] := hD
          refine lv_aload_n hx hb d_Mo_pilot_139 rfl (lv_at hl 1 rfl) ?_
          refine va_get (D := (dC, dI)) (ci := 6) (v := .int 0) (C := R_Mo) (T := F_Mo) (N := 19) hx hb hB inC_Mo hown hK hP 0 rfl rfl 1 (by decide) (hB _ kb_244) (fun _ h9 => h9) rfl d_Mo_pilot_140 ?_
          have hP9 := hP.sub (ws' := [(h0, .inr (6, [.int 0, .int 0, .int x_33, .int lo, .int 0, .int di, .long lm, .long en, .long la, .long cu, .long nw, .int sp, .ref b1, .ref b2, .ref b3, .ref b4, .long lk, .int cs, .ref b5]))]) [0] rfl
          have hD9 := hD.sub (ws' := [(h0, .inr (6, [.int 0, .int 0, .int x_33, .int lo, .int 0, .int di, .long lm, .long en, .long la, .long cu, .long nw, .int sp, .ref b1, .ref b2, .ref b3, .ref b4, .long lk, .int cs, .ref b5]))]) [0] (by decide) rfl
          have hK9 := hK.sub (tys' := []) [] rfl
          exact W.iret (v := 0) hx hb hr (fun t ht hW => ⟨⟨0, (0, 0, x_33, 0), rfl, ⟨(by rw [lvl, if_pos ⟨Int64.not_lt.mp c_8, Int64.not_lt.mp c_16⟩, lev, if_pos c_57]), (by rw [lvl, if_pos ⟨Int64.not_lt.mp c_8, Int64.not_lt.mp c_16⟩, lev, if_pos c_57]), by rw [shr, if_pos ⟨Int64.not_lt.mp c_8, Int64.not_lt.mp c_16⟩, ex_33]⟩, by rw [ht]; exact hP9, va_K.moved hW.alike hK9, hD9⟩, hS.F ht⟩) hS.2.2 d_Mo_pilot_143
set_option maxHeartbeats 4000000 in
set_option maxRecDepth 100000 in
theorem c_Mo_behind (l : Launch) (dC : Nat → ClassId) (dI : Nat → Nat → Nat) (h0 : Nat) (b1 : Nat) (b2 : Nat) (b3 : Nat) (b4 : Nat) (b5 : Nat) (sz : Nat) (co : Int32) (pi : Int32) (sh : Int32) (lo : Int32) (ph : Int32) (di : Int32) (lm : Int64) (en : Int64) (la : Int64) (cu : Int64) (nw : Int64) (sp : Int32) (lk : Int64) (cs : Int32) (p0 : Int32) (p1 : Int64) (p2 : Int64) : Met l y_Mo_behind w_Mo_behind ({ frames := 1, cells := 0, slots := 0, locals := 20 }) (cPre dC dI [.ref h0, .int p0, .long p1, .long p2] sz [] [(h0, .inr (6, [.int co, .int pi, .int sh, .int lo, .int ph, .int di, .long lm, .long en, .long la, .long cu, .long nw, .int sp, .ref b1, .ref b2, .ref b3, .ref b4, .long lk, .int cs, .ref b5]))]) (va_Qi (fun (r : Int32) (u : Unit) => True) (fun (u : Unit) (t : State) => cB dC dI (va_A [(h0, .inr (6, [.int co, .int pi, .int sh, .int lo, .int ph, .int di, .long lm, .long en, .long la, .long cu, .long nw, .int sp, .ref b1, .ref b2, .ref b3, .ref b4, .long lk, .int cs, .ref b5]))] sz) [] [(h0, .inr (6, [.int co, .int pi, .int sh, .int lo, .int ph, .int di, .long lm, .long en, .long la, .long cu, .long nw, .int sp, .ref b1, .ref b2, .ref b3, .ref b4, .long lk, .int cs, .ref b5]))] t) (va_A [(h0, .inr (6, [.int co, .int pi, .int sh, .int lo, .int ph, .int di, .long lm, .long en, .long la, .long cu, .long nw, .int sp, .ref b1, .ref b2, .ref b3, .ref b4, .long lk, .int cs, .ref b5]))] sz)) 0 0 (va_A [(h0, .inr (6, [.int co, .int pi, .int sh, .int lo, .int ph, .int di, .long lm, .long en, .long la, .long cu, .long nw, .int sp, .ref b1, .ref b2, .ref b3, .ref b4, .long lk, .int cs, .ref b5]))] sz) := by
  refine Met.ofW (cc := b_Mo_behind) (maxL := 6) (ret := (some .int)) (by decide) rfl ?_
  intro p e s m args below meth c s₁ B hml hv
  obtain ⟨rfl, hsz, hN, hP, hK, hD0⟩ := hv
  have hx := B.exec
  have hb := B.bytes
  have hr := B.returns
  have hts := atoms_spec (ws := w_Mo_behind) B.pre
  have hB := big_of hts
  have hown : s.vm.findClass R_Mo = some m.cls := findClass_of_methodNamed B.named
  have hlocks := B.notSynchronized
  subst hsz
  have hD := hD0.self (sz := s.heap.size)
  generalize hAe : va_A [(h0, .inr (6, [.int co, .int pi, .int sh, .int lo, .int ph, .int di, .long lm, .long en, .long la, .long cu, .long nw, .int sp, .ref b1, .ref b2, .ref b3, .ref b4, .long lk, .int cs, .ref b5]))] s.heap.size = A at hD ⊢
  have hA : ∀ q : Nat, s.heap.size ≤ q → A q := fun q h => by rw [← hAe]; exact Or.inr h
  have hS : va_S A s.heap s.heap [] := va_S.rf
  have hP : va_P (dC, dI) classes [(h0, .inr (6, [.int co, .int pi, .int sh, .int lo, .int ph, .int di, .long lm, .long en, .long la, .long cu, .long nw, .int sp, .ref b1, .ref b2, .ref b3, .ref b4, .long lk, .int cs, .ref b5]))] s.heap := hP
  have hl := lv_entry ([.ref h0, .int p0, .long p1, .long p2]) (n := 6) (Nat.le_of_ble_eq_true rfl)
  rw [lg_entry_eq]
  generalize (lg_sl ([.ref h0, .int p0, .long p1, .long p2]) ++ List.replicate (6 - (lg_sl ([.ref h0, .int p0, .long p1, .long p2])).length) Slot.unset).toArray = ls at hl ⊢
  have hl : lv_has ls 6 [(0, .ref h0), (1, .int p0), (2, .long p1), (4, .long p2)] := hl
  refine lv_iload_n hx hb d_Mo_behind_0 rfl (lv_at hl 1 rfl) ?_
  rcases swx 0 9 p0 with c_1 | c_1
  · refine lv_tableOut (tgt := 347) hx hb d_Mo_behind_1 (by omega) (by decide) ?_
    refine lv_aload_n hx hb d_Mo_behind_347 rfl (lv_at hl 0 rfl) ?_
    refine va_get (D := (dC, dI)) (ci := 6) (v := .int ph) (C := R_Mo) (T := F_Mo) (N := 19) hx hb hB inC_Mo hown hK hP 0 rfl rfl 4 (by decide) (hB _ kb_252) (fun _ h9 => h9) rfl d_Mo_behind_348 ?_
    refine lv_bipush (v := 8) hx hb d_Mo_behind_351 (by decide) ?_
    refine lv_icmp_ne (tgt := 360) hx hb d_Mo_behind_353 (by decide) (fun c_353 => ?_) (fun c_353 => ?_)
    · skip
      refine lv_iconst (v := (-1)) hx hb d_Mo_behind_360 (by decide) ?_
      have hP9 := hP.sub (ws' := [(h0, .inr (6, [.int co, .int pi, .int sh, .int lo, .int ph, .int di, .long lm, .long en, .long la, .long cu, .long nw, .int sp, .ref b1, .ref b2, .ref b3, .ref b4, .long lk, .int cs, .ref b5]))]) [0] rfl
      have hD9 := hD.sub (ws' := [(h0, .inr (6, [.int co, .int pi, .int sh, .int lo, .int ph, .int di, .long lm, .long en, .long la, .long cu, .long nw, .int sp, .ref b1, .ref b2, .ref b3, .ref b4, .long lk, .int cs, .ref b5]))]) [0] (by decide) rfl
      have hK9 := hK.sub (tys' := []) [] rfl
      exact W.iret (v := (-1)) hx hb hr (fun t ht hW => ⟨⟨(-1), (), rfl, trivial, by rw [ht]; exact hP9, va_K.moved hW.alike hK9, hD9⟩, hS.F ht⟩) hS.2.2 d_Mo_behind_361
    · skip
      refine lv_iconst (v := 0) hx hb d_Mo_behind_356 (by decide) ?_
      refine lv_goto (tgt := 361) hx hb d_Mo_behind_357 (by decide) ?_
      have hP9 := hP.sub (ws' := [(h0, .inr (6, [.int co, .int pi, .int sh, .int lo, .int ph, .int di, .long lm, .long en, .long la, .long cu, .long nw, .int sp, .ref b1, .ref b2, .ref b3, .ref b4, .long lk, .int cs, .ref b5]))]) [0] rfl
      have hD9 := hD.sub (ws' := [(h0, .inr (6, [.int co, .int pi, .int sh, .int lo, .int ph, .int di, .long lm, .long en, .long la, .long cu, .long nw, .int sp, .ref b1, .ref b2, .ref b3, .ref b4, .long lk, .int cs, .ref b5]))]) [0] (by decide) rfl
      have hK9 := hK.sub (tys' := []) [] rfl
      exact W.iret (v := 0) hx hb hr (fun t ht hW => ⟨⟨0, (), rfl, trivial, by rw [ht]; exact hP9, va_K.moved hW.alike hK9, hD9⟩, hS.F ht⟩) hS.2.2 d_Mo_behind_361
  · obtain ⟨j_1, hj_1⟩ : ∃ j : Nat, p0.toInt = 0 + (j : Int) ∧ j < 10 := ⟨(p0.toInt - 0).toNat, by omega, by omega⟩
    rcases (show j_1 = 0 ∨ j_1 = 1 ∨ j_1 = 2 ∨ j_1 = 3 ∨ j_1 = 4 ∨ j_1 = 5 ∨ j_1 = 6 ∨ j_1 = 7 ∨ j_1 = 8 ∨ j_1 = 9 by omega) with h_1 | h_1 | h_1 | h_1 | h_1 | h_1 | h_1 | h_1 | h_1 | h_1
    · have t_1 : p0.toInt = 0 := by omega
      have i_1 : p0 = 0 := Int32.toInt_inj.mp (t_1.trans (by decide))
      refine lv_tableIn (tgt := 56) hx hb d_Mo_behind_1 (by omega) (by omega) (by rw [t_1]; rfl) (by decide) ?_
      refine lv_aload_n hx hb d_Mo_behind_56 rfl (lv_at hl 0 rfl) ?_
      refine va_get (D := (dC, dI)) (ci := 6) (v := .int ph) (C := R_Mo) (T := F_Mo) (N := 19) hx hb hB inC_Mo hown hK hP 0 rfl rfl 4 (by decide) (hB _ kb_252) (fun _ h9 => h9) rfl d_Mo_behind_57 ?_
      refine lv_if_ne (tgt := 99) hx hb d_Mo_behind_60 (by decide) (fun c_60 => ?_) (fun c_60 => ?_)
      · skip
        refine lv_iconst (v := (-1)) hx hb d_Mo_behind_99 (by decide) ?_
        have hP9 := hP.sub (ws' := [(h0, .inr (6, [.int co, .int pi, .int sh, .int lo, .int ph, .int di, .long lm, .long en, .long la, .long cu, .long nw, .int sp, .ref b1, .ref b2, .ref b3, .ref b4, .long lk, .int cs, .ref b5]))]) [0] rfl
        have hD9 := hD.sub (ws' := [(h0, .inr (6, [.int co, .int pi, .int sh, .int lo, .int ph, .int di, .long lm, .long en, .long la, .long cu, .long nw, .int sp, .ref b1, .ref b2, .ref b3, .ref b4, .long lk, .int cs, .ref b5]))]) [0] (by decide) rfl
        have hK9 := hK.sub (tys' := []) [] rfl
        exact W.iret (v := (-1)) hx hb hr (fun t ht hW => ⟨⟨(-1), (), rfl, trivial, by rw [ht]; exact hP9, va_K.moved hW.alike hK9, hD9⟩, hS.F ht⟩) hS.2.2 d_Mo_behind_100
      · skip
        refine lv_aload_n hx hb d_Mo_behind_63 rfl (lv_at hl 0 rfl) ?_
        refine kc_i (va_runV (As := []) (rest := []) ⟨hx, hb, hml, hown, hts⟩ (c_Mo_isOn l dC dI h0 b1 b2 b3 b4 b5 s.heap.size co pi sh lo ph di lm en la cu nw sp lk cs  ) (cwV 0 hts (ginV kb_248 kb_249 kb_250 kb_251 kb_247) rfl rfl rfl (by decide +kernel) ⟨Nat.le_of_ble_eq_true rfl, Nat.le_of_ble_eq_true rfl⟩) (preV (ci := 6) (wc := [(h0, .inr (6, [.int co, .int pi, .int sh, .int lo, .int ph, .int di, .long lm, .long en, .long la, .long cu, .long nw, .int sp, .ref b1, .ref b2, .ref b3, .ref b4, .long lk, .int cs, .ref b5]))]) hK hN hP hD [0] rfl rfl (by decide) [] rfl rfl rfl) rfl rfl hl.1 rfl (lv_room (Nat.le_of_ble_eq_true rfl)) d_Mo_behind_64 ⟨Nat.le_of_ble_eq_true rfl, Nat.le_of_ble_eq_true rfl⟩) hP hD hS hA [0] [] (wr := []) rfl rfl (by decide) (by decide) (fun r_64 u_64 H locs hw_64 hP hD hK1 hS => ?_)
        have hw_64 : r_64 = bi (0 < pi ∧ pi < 4) := hw_64
        have hP : va_P (dC, dI) classes [(h0, .inr (6, [.int co, .int pi, .int sh, .int lo, .int ph, .int di, .long lm, .long en, .long la, .long cu, .long nw, .int sp, .ref b1, .ref b2, .ref b3, .ref b4, .long lk, .int cs, .ref b5]))] H := hP
        have hD : va_D A [(h0, .inr (6, [.int co, .int pi, .int sh, .int lo, .int ph, .int di, .long lm, .long en, .long la, .long cu, .long nw, .int sp, .ref b1, .ref b2, .ref b3, .ref b4, .long lk, .int cs, .ref b5]))] := hD
        refine lv_if_eq (tgt := 99) hx hb d_Mo_behind_67 (by decide) (fun c_67 => ?_) (fun c_67 => ?_)
        · have c_67 := bi_n (hw_64.symm.trans c_67)
          refine lv_iconst (v := (-1)) hx hb d_Mo_behind_99 (by decide) ?_
          have hP9 := hP.sub (ws' := [(h0, .inr (6, [.int co, .int pi, .int sh, .int lo, .int ph, .int di, .long lm, .long en, .long la, .long cu, .long nw, .int sp, .ref b1, .ref b2, .ref b3, .ref b4, .long lk, .int cs, .ref b5]))]) [0] rfl
          have hD9 := hD.sub (ws' := [(h0, .inr (6, [.int co, .int pi, .int sh, .int lo, .int ph, .int di, .long lm, .long en, .long la, .long cu, .long nw, .int sp, .ref b1, .ref b2, .ref b3, .ref b4, .long lk, .int cs, .ref b5]))]) [0] (by decide) rfl
          have hK9 := hK.sub (tys' := []) [] rfl
          exact W.iret (v := (-1)) hx hb hr (fun t ht hW => ⟨⟨(-1), (), rfl, trivial, by rw [ht]; exact hP9, va_K.moved hW.alike hK9, hD9⟩, hS.F ht⟩) hS.2.2 d_Mo_behind_100
        · have c_67 := bi_y hw_64 c_67
          refine lv_aload_n hx hb d_Mo_behind_70 rfl (lv_at hl 0 rfl) ?_
          refine va_get (D := (dC, dI)) (ci := 6) (v := .int sh) (C := R_Mo) (T := F_Mo) (N := 19) hx hb hB inC_Mo hown hK hP 0 rfl rfl 2 (by decide) (hB _ kb_246) (fun _ h9 => h9) rfl d_Mo_behind_71 ?_
          refine lv_bipush (v := 30) hx hb d_Mo_behind_74 (by decide) ?_
          refine lv_icmp_lt (tgt := 99) hx hb d_Mo_behind_76 (by decide) (fun c_76 => ?_) (fun c_76 => ?_)
          · skip
            refine lv_iconst (v := (-1)) hx hb d_Mo_behind_99 (by decide) ?_
            have hP9 := hP.sub (ws' := [(h0, .inr (6, [.int co, .int pi, .int sh, .int lo, .int ph, .int di, .long lm, .long en, .long la, .long cu, .long nw, .int sp, .ref b1, .ref b2, .ref b3, .ref b4, .long lk, .int cs, .ref b5]))]) [0] rfl
            have hD9 := hD.sub (ws' := [(h0, .inr (6, [.int co, .int pi, .int sh, .int lo, .int ph, .int di, .long lm, .long en, .long la, .long cu, .long nw, .int sp, .ref b1, .ref b2, .ref b3, .ref b4, .long lk, .int cs, .ref b5]))]) [0] (by decide) rfl
            have hK9 := hK.sub (tys' := []) [] rfl
            exact W.iret (v := (-1)) hx hb hr (fun t ht hW => ⟨⟨(-1), (), rfl, trivial, by rw [ht]; exact hP9, va_K.moved hW.alike hK9, hD9⟩, hS.F ht⟩) hS.2.2 d_Mo_behind_100
          · skip
            refine lv_aload_n hx hb d_Mo_behind_79 rfl (lv_at hl 0 rfl) ?_
            refine va_get (D := (dC, dI)) (ci := 6) (v := .int sh) (C := R_Mo) (T := F_Mo) (N := 19) hx hb hB inC_Mo hown hK hP 0 rfl rfl 2 (by decide) (hB _ kb_246) (fun _ h9 => h9) rfl d_Mo_behind_80 ?_
            refine lv_bipush (v := 70) hx hb d_Mo_behind_83 (by decide) ?_
            refine lv_icmp_gt (tgt := 99) hx hb d_Mo_behind_85 (by decide) (fun c_85 => ?_) (fun c_85 => ?_)
            · skip
              refine lv_iconst (v := (-1)) hx hb d_Mo_behind_99 (by decide) ?_
              have hP9 := hP.sub (ws' := [(h0, .inr (6, [.int co, .int pi, .int sh, .int lo, .int ph, .int di, .long lm, .long en, .long la, .long cu, .long nw, .int sp, .ref b1, .ref b2, .ref b3, .ref b4, .long lk, .int cs, .ref b5]))]) [0] rfl
              have hD9 := hD.sub (ws' := [(h0, .inr (6, [.int co, .int pi, .int sh, .int lo, .int ph, .int di, .long lm, .long en, .long la, .long cu, .long nw, .int sp, .ref b1, .ref b2, .ref b3, .ref b4, .long lk, .int cs, .ref b5]))]) [0] (by decide) rfl
              have hK9 := hK.sub (tys' := []) [] rfl
              exact W.iret (v := (-1)) hx hb hr (fun t ht hW => ⟨⟨(-1), (), rfl, trivial, by rw [ht]; exact hP9, va_K.moved hW.alike hK9, hD9⟩, hS.F ht⟩) hS.2.2 d_Mo_behind_100
            · skip
              refine lv_aload_n hx hb d_Mo_behind_88 rfl (lv_at hl 0 rfl) ?_
              refine va_get (D := (dC, dI)) (ci := 6) (v := .int lo) (C := R_Mo) (T := F_Mo) (N := 19) hx hb hB inC_Mo hown hK hP 0 rfl rfl 3 (by decide) (hB _ kb_265) (fun _ h9 => h9) rfl d_Mo_behind_89 ?_
              refine lv_if_eq (tgt := 99) hx hb d_Mo_behind_92 (by decide) (fun c_92 => ?_) (fun c_92 => ?_)
              · skip
                refine lv_iconst (v := (-1)) hx hb d_Mo_behind_99 (by decide) ?_
                have hP9 := hP.sub (ws' := [(h0, .inr (6, [.int co, .int pi, .int sh, .int lo, .int ph, .int di, .long lm, .long en, .long la, .long cu, .long nw, .int sp, .ref b1, .ref b2, .ref b3, .ref b4, .long lk, .int cs, .ref b5]))]) [0] rfl
                have hD9 := hD.sub (ws' := [(h0, .inr (6, [.int co, .int pi, .int sh, .int lo, .int ph, .int di, .long lm, .long en, .long la, .long cu, .long nw, .int sp, .ref b1, .ref b2, .ref b3, .ref b4, .long lk, .int cs, .ref b5]))]) [0] (by decide) rfl
                have hK9 := hK.sub (tys' := []) [] rfl
                exact W.iret (v := (-1)) hx hb hr (fun t ht hW => ⟨⟨(-1), (), rfl, trivial, by rw [ht]; exact hP9, va_K.moved hW.alike hK9, hD9⟩, hS.F ht⟩) hS.2.2 d_Mo_behind_100
              · skip
                refine lv_iconst (v := 1) hx hb d_Mo_behind_95 (by decide) ?_
                refine lv_goto (tgt := 100) hx hb d_Mo_behind_96 (by decide) ?_
                have hP9 := hP.sub (ws' := [(h0, .inr (6, [.int co, .int pi, .int sh, .int lo, .int ph, .int di, .long lm, .long en, .long la, .long cu, .long nw, .int sp, .ref b1, .ref b2, .ref b3, .ref b4, .long lk, .int cs, .ref b5]))]) [0] rfl
                have hD9 := hD.sub (ws' := [(h0, .inr (6, [.int co, .int pi, .int sh, .int lo, .int ph, .int di, .long lm, .long en, .long la, .long cu, .long nw, .int sp, .ref b1, .ref b2, .ref b3, .ref b4, .long lk, .int cs, .ref b5]))]) [0] (by decide) rfl
                have hK9 := hK.sub (tys' := []) [] rfl
                exact W.iret (v := 1) hx hb hr (fun t ht hW => ⟨⟨1, (), rfl, trivial, by rw [ht]; exact hP9, va_K.moved hW.alike hK9, hD9⟩, hS.F ht⟩) hS.2.2 d_Mo_behind_100
    · have t_1 : p0.toInt = 1 := by omega
      have i_1 : p0 = 1 := Int32.toInt_inj.mp (t_1.trans (by decide))
      refine lv_tableIn (tgt := 101) hx hb d_Mo_behind_1 (by omega) (by omega) (by rw [t_1]; rfl) (by decide) ?_
      refine lv_aload_n hx hb d_Mo_behind_101 rfl (lv_at hl 0 rfl) ?_
      refine va_get (D := (dC, dI)) (ci := 6) (v := .int ph) (C := R_Mo) (T := F_Mo) (N := 19) hx hb hB inC_Mo hown hK hP 0 rfl rfl 4 (by decide) (hB _ kb_252) (fun _ h9 => h9) rfl d_Mo_behind_102 ?_
      refine lv_iconst (v := 1) hx hb d_Mo_behind_105 (by decide) ?_
      refine lv_icmp_ne (tgt := 125) hx hb d_Mo_behind_106 (by decide) (fun c_106 => ?_) (fun c_106 => ?_)
      · skip
        refine lv_iconst (v := (-1)) hx hb d_Mo_behind_125 (by decide) ?_
        have hP9 := hP.sub (ws' := [(h0, .inr (6, [.int co, .int pi, .int sh, .int lo, .int ph, .int di, .long lm, .long en, .long la, .long cu, .long nw, .int sp, .ref b1, .ref b2, .ref b3, .ref b4, .long lk, .int cs, .ref b5]))]) [0] rfl
        have hD9 := hD.sub (ws' := [(h0, .inr (6, [.int co, .int pi, .int sh, .int lo, .int ph, .int di, .long lm, .long en, .long la, .long cu, .long nw, .int sp, .ref b1, .ref b2, .ref b3, .ref b4, .long lk, .int cs, .ref b5]))]) [0] (by decide) rfl
        have hK9 := hK.sub (tys' := []) [] rfl
        exact W.iret (v := (-1)) hx hb hr (fun t ht hW => ⟨⟨(-1), (), rfl, trivial, by rw [ht]; exact hP9, va_K.moved hW.alike hK9, hD9⟩, hS.F ht⟩) hS.2.2 d_Mo_behind_126
      · skip
        refine lv_lload_n hx hb d_Mo_behind_109 rfl (lv_at hl 2 rfl) ?_
        refine lv_lconst (v := 0) hx hb d_Mo_behind_110 (by decide) ?_
        refine W.lcmp hx hb d_Mo_behind_111 ?_
        refine lv_if_eq (tgt := 121) hx hb d_Mo_behind_112 (by decide) (fun c_112 => ?_) (fun c_112 => ?_)
        · have c_112 := (lg_cmp_eq _ _).mp c_112
          refine lv_iconst (v := 2) hx hb d_Mo_behind_121 (by decide) ?_
          refine lv_goto (tgt := 126) hx hb d_Mo_behind_122 (by decide) ?_
          have hP9 := hP.sub (ws' := [(h0, .inr (6, [.int co, .int pi, .int sh, .int lo, .int ph, .int di, .long lm, .long en, .long la, .long cu, .long nw, .int sp, .ref b1, .ref b2, .ref b3, .ref b4, .long lk, .int cs, .ref b5]))]) [0] rfl
          have hD9 := hD.sub (ws' := [(h0, .inr (6, [.int co, .int pi, .int sh, .int lo, .int ph, .int di, .long lm, .long en, .long la, .long cu, .long nw, .int sp, .ref b1, .ref b2, .ref b3, .ref b4, .long lk, .int cs, .ref b5]))]) [0] (by decide) rfl
          have hK9 := hK.sub (tys' := []) [] rfl
          exact W.iret (v := 2) hx hb hr (fun t ht hW => ⟨⟨2, (), rfl, trivial, by rw [ht]; exact hP9, va_K.moved hW.alike hK9, hD9⟩, hS.F ht⟩) hS.2.2 d_Mo_behind_126
        · have c_112 := mt (lg_cmp_eq _ _).mpr c_112
          refine lv_lload_n hx hb d_Mo_behind_115 rfl (lv_at hl 2 rfl) ?_
          refine lv_lconst (v := 1) hx hb d_Mo_behind_116 (by decide) ?_
          refine W.lcmp hx hb d_Mo_behind_117 ?_
          refine lv_if_ne (tgt := 125) hx hb d_Mo_behind_118 (by decide) (fun c_118 => ?_) (fun c_118 => ?_)
          · have c_118 := mt (lg_cmp_eq _ _).mpr c_118
            refine lv_iconst (v := (-1)) hx hb d_Mo_behind_125 (by decide) ?_
            have hP9 := hP.sub (ws' := [(h0, .inr (6, [.int co, .int pi, .int sh, .int lo, .int ph, .int di, .long lm, .long en, .long la, .long cu, .long nw, .int sp, .ref b1, .ref b2, .ref b3, .ref b4, .long lk, .int cs, .ref b5]))]) [0] rfl
            have hD9 := hD.sub (ws' := [(h0, .inr (6, [.int co, .int pi, .int sh, .int lo, .int ph, .int di, .long lm, .long en, .long la, .long cu, .long nw, .int sp, .ref b1, .ref b2, .ref b3, .ref b4, .long lk, .int cs, .ref b5]))]) [0] (by decide) rfl
            have hK9 := hK.sub (tys' := []) [] rfl
            exact W.iret (v := (-1)) hx hb hr (fun t ht hW => ⟨⟨(-1), (), rfl, trivial, by rw [ht]; exact hP9, va_K.moved hW.alike hK9, hD9⟩, hS.F ht⟩) hS.2.2 d_Mo_behind_126
          · have c_118 := (lg_cmp_eq _ _).mp c_118
            refine lv_iconst (v := 2) hx hb d_Mo_behind_121 (by decide) ?_
            refine lv_goto (tgt := 126) hx hb d_Mo_behind_122 (by decide) ?_
            have hP9 := hP.sub (ws' := [(h0, .inr (6, [.int co, .int pi, .int sh, .int lo, .int ph, .int di, .long lm, .long en, .long la, .long cu, .long nw, .int sp, .ref b1, .ref b2, .ref b3, .ref b4, .long lk, .int cs, .ref b5]))]) [0] rfl
            have hD9 := hD.sub (ws' := [(h0, .inr (6, [.int co, .int pi, .int sh, .int lo, .int ph, .int di, .long lm, .long en, .long la, .long cu, .long nw, .int sp, .ref b1, .ref b2, .ref b3, .ref b4, .long lk, .int cs, .ref b5]))]) [0] (by decide) rfl
            have hK9 := hK.sub (tys' := []) [] rfl
            exact W.iret (v := 2) hx hb hr (fun t ht hW => ⟨⟨2, (), rfl, trivial, by rw [ht]; exact hP9, va_K.moved hW.alike hK9, hD9⟩, hS.F ht⟩) hS.2.2 d_Mo_behind_126
    · have t_1 : p0.toInt = 2 := by omega
      have i_1 : p0 = 2 := Int32.toInt_inj.mp (t_1.trans (by decide))
      refine lv_tableIn (tgt := 127) hx hb d_Mo_behind_1 (by omega) (by omega) (by rw [t_1]; rfl) (by decide) ?_
      refine lv_aload_n hx hb d_Mo_behind_127 rfl (lv_at hl 0 rfl) ?_
      refine va_get (D := (dC, dI)) (ci := 6) (v := .int ph) (C := R_Mo) (T := F_Mo) (N := 19) hx hb hB inC_Mo hown hK hP 0 rfl rfl 4 (by decide) (hB _ kb_252) (fun _ h9 => h9) rfl d_Mo_behind_128 ?_
      refine lv_iconst (v := 2) hx hb d_Mo_behind_131 (by decide) ?_
      refine lv_icmp_ne (tgt := 145) hx hb d_Mo_behind_132 (by decide) (fun c_132 => ?_) (fun c_132 => ?_)
      · skip
        refine lv_iconst (v := (-1)) hx hb d_Mo_behind_145 (by decide) ?_
        have hP9 := hP.sub (ws' := [(h0, .inr (6, [.int co, .int pi, .int sh, .int lo, .int ph, .int di, .long lm, .long en, .long la, .long cu, .long nw, .int sp, .ref b1, .ref b2, .ref b3, .ref b4, .long lk, .int cs, .ref b5]))]) [0] rfl
        have hD9 := hD.sub (ws' := [(h0, .inr (6, [.int co, .int pi, .int sh, .int lo, .int ph, .int di, .long lm, .long en, .long la, .long cu, .long nw, .int sp, .ref b1, .ref b2, .ref b3, .ref b4, .long lk, .int cs, .ref b5]))]) [0] (by decide) rfl
        have hK9 := hK.sub (tys' := []) [] rfl
        exact W.iret (v := (-1)) hx hb hr (fun t ht hW => ⟨⟨(-1), (), rfl, trivial, by rw [ht]; exact hP9, va_K.moved hW.alike hK9, hD9⟩, hS.F ht⟩) hS.2.2 d_Mo_behind_146
      · skip
        refine lv_lload_n hx hb d_Mo_behind_135 rfl (lv_at hl 2 rfl) ?_
        refine lv_lconst (v := 1) hx hb d_Mo_behind_136 (by decide) ?_
        refine W.lcmp hx hb d_Mo_behind_137 ?_
        refine lv_if_ne (tgt := 145) hx hb d_Mo_behind_138 (by decide) (fun c_138 => ?_) (fun c_138 => ?_)
        · have c_138 := mt (lg_cmp_eq _ _).mpr c_138
          refine lv_iconst (v := (-1)) hx hb d_Mo_behind_145 (by decide) ?_
          have hP9 := hP.sub (ws' := [(h0, .inr (6, [.int co, .int pi, .int sh, .int lo, .int ph, .int di, .long lm, .long en, .long la, .long cu, .long nw, .int sp, .ref b1, .ref b2, .ref b3, .ref b4, .long lk, .int cs, .ref b5]))]) [0] rfl
          have hD9 := hD.sub (ws' := [(h0, .inr (6, [.int co, .int pi, .int sh, .int lo, .int ph, .int di, .long lm, .long en, .long la, .long cu, .long nw, .int sp, .ref b1, .ref b2, .ref b3, .ref b4, .long lk, .int cs, .ref b5]))]) [0] (by decide) rfl
          have hK9 := hK.sub (tys' := []) [] rfl
          exact W.iret (v := (-1)) hx hb hr (fun t ht hW => ⟨⟨(-1), (), rfl, trivial, by rw [ht]; exact hP9, va_K.moved hW.alike hK9, hD9⟩, hS.F ht⟩) hS.2.2 d_Mo_behind_146
        · have c_138 := (lg_cmp_eq _ _).mp c_138
          refine lv_iconst (v := 3) hx hb d_Mo_behind_141 (by decide) ?_
          refine lv_goto (tgt := 146) hx hb d_Mo_behind_142 (by decide) ?_
          have hP9 := hP.sub (ws' := [(h0, .inr (6, [.int co, .int pi, .int sh, .int lo, .int ph, .int di, .long lm, .long en, .long la, .long cu, .long nw, .int sp, .ref b1, .ref b2, .ref b3, .ref b4, .long lk, .int cs, .ref b5]))]) [0] rfl
          have hD9 := hD.sub (ws' := [(h0, .inr (6, [.int co, .int pi, .int sh, .int lo, .int ph, .int di, .long lm, .long en, .long la, .long cu, .long nw, .int sp, .ref b1, .ref b2, .ref b3, .ref b4, .long lk, .int cs, .ref b5]))]) [0] (by decide) rfl
          have hK9 := hK.sub (tys' := []) [] rfl
          exact W.iret (v := 3) hx hb hr (fun t ht hW => ⟨⟨3, (), rfl, trivial, by rw [ht]; exact hP9, va_K.moved hW.alike hK9, hD9⟩, hS.F ht⟩) hS.2.2 d_Mo_behind_146
    · have t_1 : p0.toInt = 3 := by omega
      have i_1 : p0 = 3 := Int32.toInt_inj.mp (t_1.trans (by decide))
      refine lv_tableIn (tgt := 147) hx hb d_Mo_behind_1 (by omega) (by omega) (by rw [t_1]; rfl) (by decide) ?_
      refine lv_aload_n hx hb d_Mo_behind_147 rfl (lv_at hl 0 rfl) ?_
      refine va_get (D := (dC, dI)) (ci := 6) (v := .int ph) (C := R_Mo) (T := F_Mo) (N := 19) hx hb hB inC_Mo hown hK hP 0 rfl rfl 4 (by decide) (hB _ kb_252) (fun _ h9 => h9) rfl d_Mo_behind_148 ?_
      refine lv_iconst (v := 3) hx hb d_Mo_behind_151 (by decide) ?_
      refine lv_icmp_ne (tgt := 173) hx hb d_Mo_behind_152 (by decide) (fun c_152 => ?_) (fun c_152 => ?_)
      · skip
        refine lv_iconst (v := (-1)) hx hb d_Mo_behind_173 (by decide) ?_
        have hP9 := hP.sub (ws' := [(h0, .inr (6, [.int co, .int pi, .int sh, .int lo, .int ph, .int di, .long lm, .long en, .long la, .long cu, .long nw, .int sp, .ref b1, .ref b2, .ref b3, .ref b4, .long lk, .int cs, .ref b5]))]) [0] rfl
        have hD9 := hD.sub (ws' := [(h0, .inr (6, [.int co, .int pi, .int sh, .int lo, .int ph, .int di, .long lm, .long en, .long la, .long cu, .long nw, .int sp, .ref b1, .ref b2, .ref b3, .ref b4, .long lk, .int cs, .ref b5]))]) [0] (by decide) rfl
        have hK9 := hK.sub (tys' := []) [] rfl
        exact W.iret (v := (-1)) hx hb hr (fun t ht hW => ⟨⟨(-1), (), rfl, trivial, by rw [ht]; exact hP9, va_K.moved hW.alike hK9, hD9⟩, hS.F ht⟩) hS.2.2 d_Mo_behind_174
      · skip
        refine lv_lload_n hx hb d_Mo_behind_155 rfl (lv_at hl 2 rfl) ?_
        refine lv_lconst (v := 0) hx hb d_Mo_behind_156 (by decide) ?_
        refine W.lcmp hx hb d_Mo_behind_157 ?_
        refine lv_if_le (tgt := 173) hx hb d_Mo_behind_158 (by decide) (fun c_158 => ?_) (fun c_158 => ?_)
        · have c_158 := (lg_cmp_le _ _).mp c_158
          refine lv_iconst (v := (-1)) hx hb d_Mo_behind_173 (by decide) ?_
          have hP9 := hP.sub (ws' := [(h0, .inr (6, [.int co, .int pi, .int sh, .int lo, .int ph, .int di, .long lm, .long en, .long la, .long cu, .long nw, .int sp, .ref b1, .ref b2, .ref b3, .ref b4, .long lk, .int cs, .ref b5]))]) [0] rfl
          have hD9 := hD.sub (ws' := [(h0, .inr (6, [.int co, .int pi, .int sh, .int lo, .int ph, .int di, .long lm, .long en, .long la, .long cu, .long nw, .int sp, .ref b1, .ref b2, .ref b3, .ref b4, .long lk, .int cs, .ref b5]))]) [0] (by decide) rfl
          have hK9 := hK.sub (tys' := []) [] rfl
          exact W.iret (v := (-1)) hx hb hr (fun t ht hW => ⟨⟨(-1), (), rfl, trivial, by rw [ht]; exact hP9, va_K.moved hW.alike hK9, hD9⟩, hS.F ht⟩) hS.2.2 d_Mo_behind_174
        · have c_158 := mt (lg_cmp_le _ _).mpr c_158
          refine lv_lload_n hx hb d_Mo_behind_161 rfl (lv_at hl 2 rfl) ?_
          refine lv_ldc2 (v := 5000) hx hb hown (hB _ kb_266) d_Mo_behind_162 ?_
          refine W.lcmp hx hb d_Mo_behind_165 ?_
          refine lv_if_gt (tgt := 173) hx hb d_Mo_behind_166 (by decide) (fun c_166 => ?_) (fun c_166 => ?_)
          · have c_166 := (lg_cmp_gt _ _).mp c_166
            refine lv_iconst (v := (-1)) hx hb d_Mo_behind_173 (by decide) ?_
            have hP9 := hP.sub (ws' := [(h0, .inr (6, [.int co, .int pi, .int sh, .int lo, .int ph, .int di, .long lm, .long en, .long la, .long cu, .long nw, .int sp, .ref b1, .ref b2, .ref b3, .ref b4, .long lk, .int cs, .ref b5]))]) [0] rfl
            have hD9 := hD.sub (ws' := [(h0, .inr (6, [.int co, .int pi, .int sh, .int lo, .int ph, .int di, .long lm, .long en, .long la, .long cu, .long nw, .int sp, .ref b1, .ref b2, .ref b3, .ref b4, .long lk, .int cs, .ref b5]))]) [0] (by decide) rfl
            have hK9 := hK.sub (tys' := []) [] rfl
            exact W.iret (v := (-1)) hx hb hr (fun t ht hW => ⟨⟨(-1), (), rfl, trivial, by rw [ht]; exact hP9, va_K.moved hW.alike hK9, hD9⟩, hS.F ht⟩) hS.2.2 d_Mo_behind_174
          · have c_166 := mt (lg_cmp_gt _ _).mpr c_166
            refine lv_iconst (v := 4) hx hb d_Mo_behind_169 (by decide) ?_
            refine lv_goto (tgt := 174) hx hb d_Mo_behind_170 (by decide) ?_
            have hP9 := hP.sub (ws' := [(h0, .inr (6, [.int co, .int pi, .int sh, .int lo, .int ph, .int di, .long lm, .long en, .long la, .long cu, .long nw, .int sp, .ref b1, .ref b2, .ref b3, .ref b4, .long lk, .int cs, .ref b5]))]) [0] rfl
            have hD9 := hD.sub (ws' := [(h0, .inr (6, [.int co, .int pi, .int sh, .int lo, .int ph, .int di, .long lm, .long en, .long la, .long cu, .long nw, .int sp, .ref b1, .ref b2, .ref b3, .ref b4, .long lk, .int cs, .ref b5]))]) [0] (by decide) rfl
            have hK9 := hK.sub (tys' := []) [] rfl
            exact W.iret (v := 4) hx hb hr (fun t ht hW => ⟨⟨4, (), rfl, trivial, by rw [ht]; exact hP9, va_K.moved hW.alike hK9, hD9⟩, hS.F ht⟩) hS.2.2 d_Mo_behind_174
    · have t_1 : p0.toInt = 4 := by omega
      have i_1 : p0 = 4 := Int32.toInt_inj.mp (t_1.trans (by decide))
      refine lv_tableIn (tgt := 175) hx hb d_Mo_behind_1 (by omega) (by omega) (by rw [t_1]; rfl) (by decide) ?_
      refine lv_aload_n hx hb d_Mo_behind_175 rfl (lv_at hl 0 rfl) ?_
      refine va_get (D := (dC, dI)) (ci := 6) (v := .int ph) (C := R_Mo) (T := F_Mo) (N := 19) hx hb hB inC_Mo hown hK hP 0 rfl rfl 4 (by decide) (hB _ kb_252) (fun _ h9 => h9) rfl d_Mo_behind_176 ?_
      refine lv_iconst (v := 4) hx hb d_Mo_behind_179 (by decide) ?_
      refine lv_icmp_ne (tgt := 202) hx hb d_Mo_behind_180 (by decide) (fun c_180 => ?_) (fun c_180 => ?_)
      · skip
        refine lv_iconst (v := (-1)) hx hb d_Mo_behind_202 (by decide) ?_
        have hP9 := hP.sub (ws' := [(h0, .inr (6, [.int co, .int pi, .int sh, .int lo, .int ph, .int di, .long lm, .long en, .long la, .long cu, .long nw, .int sp, .ref b1, .ref b2, .ref b3, .ref b4, .long lk, .int cs, .ref b5]))]) [0] rfl
        have hD9 := hD.sub (ws' := [(h0, .inr (6, [.int co, .int pi, .int sh, .int lo, .int ph, .int di, .long lm, .long en, .long la, .long cu, .long nw, .int sp, .ref b1, .ref b2, .ref b3, .ref b4, .long lk, .int cs, .ref b5]))]) [0] (by decide) rfl
        have hK9 := hK.sub (tys' := []) [] rfl
        exact W.iret (v := (-1)) hx hb hr (fun t ht hW => ⟨⟨(-1), (), rfl, trivial, by rw [ht]; exact hP9, va_K.moved hW.alike hK9, hD9⟩, hS.F ht⟩) hS.2.2 d_Mo_behind_203
      · skip
        refine lv_aload_n hx hb d_Mo_behind_183 rfl (lv_at hl 0 rfl) ?_
        refine va_get (D := (dC, dI)) (ci := 6) (v := .int di) (C := R_Mo) (T := F_Mo) (N := 19) hx hb hB inC_Mo hown hK hP 0 rfl rfl 5 (by decide) (hB _ kb_267) (fun _ h9 => h9) rfl d_Mo_behind_184 ?_
        refine lv_if_eq (tgt := 202) hx hb d_Mo_behind_187 (by decide) (fun c_187 => ?_) (fun c_187 => ?_)
        · skip
          refine lv_iconst (v := (-1)) hx hb d_Mo_behind_202 (by decide) ?_
          have hP9 := hP.sub (ws' := [(h0, .inr (6, [.int co, .int pi, .int sh, .int lo, .int ph, .int di, .long lm, .long en, .long la, .long cu, .long nw, .int sp, .ref b1, .ref b2, .ref b3, .ref b4, .long lk, .int cs, .ref b5]))]) [0] rfl
          have hD9 := hD.sub (ws' := [(h0, .inr (6, [.int co, .int pi, .int sh, .int lo, .int ph, .int di, .long lm, .long en, .long la, .long cu, .long nw, .int sp, .ref b1, .ref b2, .ref b3, .ref b4, .long lk, .int cs, .ref b5]))]) [0] (by decide) rfl
          have hK9 := hK.sub (tys' := []) [] rfl
          exact W.iret (v := (-1)) hx hb hr (fun t ht hW => ⟨⟨(-1), (), rfl, trivial, by rw [ht]; exact hP9, va_K.moved hW.alike hK9, hD9⟩, hS.F ht⟩) hS.2.2 d_Mo_behind_203
        · skip
          refine lv_lload_n hx hb d_Mo_behind_190 rfl (lv_at hl 2 rfl) ?_
          refine lv_ldc2 (v := 100) hx hb hown (hB _ kb_268) d_Mo_behind_191 ?_
          refine W.lcmp hx hb d_Mo_behind_194 ?_
          refine lv_if_lt (tgt := 202) hx hb d_Mo_behind_195 (by decide) (fun c_195 => ?_) (fun c_195 => ?_)
          · have c_195 := (lg_cmp_lt _ _).mp c_195
            refine lv_iconst (v := (-1)) hx hb d_Mo_behind_202 (by decide) ?_
            have hP9 := hP.sub (ws' := [(h0, .inr (6, [.int co, .int pi, .int sh, .int lo, .int ph, .int di, .long lm, .long en, .long la, .long cu, .long nw, .int sp, .ref b1, .ref b2, .ref b3, .ref b4, .long lk, .int cs, .ref b5]))]) [0] rfl
            have hD9 := hD.sub (ws' := [(h0, .inr (6, [.int co, .int pi, .int sh, .int lo, .int ph, .int di, .long lm, .long en, .long la, .long cu, .long nw, .int sp, .ref b1, .ref b2, .ref b3, .ref b4, .long lk, .int cs, .ref b5]))]) [0] (by decide) rfl
            have hK9 := hK.sub (tys' := []) [] rfl
            exact W.iret (v := (-1)) hx hb hr (fun t ht hW => ⟨⟨(-1), (), rfl, trivial, by rw [ht]; exact hP9, va_K.moved hW.alike hK9, hD9⟩, hS.F ht⟩) hS.2.2 d_Mo_behind_203
          · have c_195 := mt (lg_cmp_lt _ _).mpr c_195
            refine lv_iconst (v := 5) hx hb d_Mo_behind_198 (by decide) ?_
            refine lv_goto (tgt := 203) hx hb d_Mo_behind_199 (by decide) ?_
            have hP9 := hP.sub (ws' := [(h0, .inr (6, [.int co, .int pi, .int sh, .int lo, .int ph, .int di, .long lm, .long en, .long la, .long cu, .long nw, .int sp, .ref b1, .ref b2, .ref b3, .ref b4, .long lk, .int cs, .ref b5]))]) [0] rfl
            have hD9 := hD.sub (ws' := [(h0, .inr (6, [.int co, .int pi, .int sh, .int lo, .int ph, .int di, .long lm, .long en, .long la, .long cu, .long nw, .int sp, .ref b1, .ref b2, .ref b3, .ref b4, .long lk, .int cs, .ref b5]))]) [0] (by decide) rfl
            have hK9 := hK.sub (tys' := []) [] rfl
            exact W.iret (v := 5) hx hb hr (fun t ht hW => ⟨⟨5, (), rfl, trivial, by rw [ht]; exact hP9, va_K.moved hW.alike hK9, hD9⟩, hS.F ht⟩) hS.2.2 d_Mo_behind_203
    · have t_1 : p0.toInt = 5 := by omega
      have i_1 : p0 = 5 := Int32.toInt_inj.mp (t_1.trans (by decide))
      refine lv_tableIn (tgt := 204) hx hb d_Mo_behind_1 (by omega) (by omega) (by rw [t_1]; rfl) (by decide) ?_
      refine lv_aload_n hx hb d_Mo_behind_204 rfl (lv_at hl 0 rfl) ?_
      refine va_get (D := (dC, dI)) (ci := 6) (v := .int ph) (C := R_Mo) (T := F_Mo) (N := 19) hx hb hB inC_Mo hown hK hP 0 rfl rfl 4 (by decide) (hB _ kb_252) (fun _ h9 => h9) rfl d_Mo_behind_205 ?_
      refine lv_iconst (v := 5) hx hb d_Mo_behind_208 (by decide) ?_
      refine lv_icmp_eq (tgt := 216) hx hb d_Mo_behind_209 (by decide) (fun c_209 => ?_) (fun c_209 => ?_)
      · skip
        refine lv_lload_n hx hb d_Mo_behind_216 rfl (lv_at hl 2 rfl) ?_
        refine lv_ldc2 (v := 380) hx hb hown (hB _ kb_269) d_Mo_behind_217 ?_
        refine W.lcmp hx hb d_Mo_behind_220 ?_
        refine lv_if_lt (tgt := 237) hx hb d_Mo_behind_221 (by decide) (fun c_221 => ?_) (fun c_221 => ?_)
        · have c_221 := (lg_cmp_lt _ _).mp c_221
          refine lv_iconst (v := 5) hx hb d_Mo_behind_237 (by decide) ?_
          have hP9 := hP.sub (ws' := [(h0, .inr (6, [.int co, .int pi, .int sh, .int lo, .int ph, .int di, .long lm, .long en, .long la, .long cu, .long nw, .int sp, .ref b1, .ref b2, .ref b3, .ref b4, .long lk, .int cs, .ref b5]))]) [0] rfl
          have hD9 := hD.sub (ws' := [(h0, .inr (6, [.int co, .int pi, .int sh, .int lo, .int ph, .int di, .long lm, .long en, .long la, .long cu, .long nw, .int sp, .ref b1, .ref b2, .ref b3, .ref b4, .long lk, .int cs, .ref b5]))]) [0] (by decide) rfl
          have hK9 := hK.sub (tys' := []) [] rfl
          exact W.iret (v := 5) hx hb hr (fun t ht hW => ⟨⟨5, (), rfl, trivial, by rw [ht]; exact hP9, va_K.moved hW.alike hK9, hD9⟩, hS.F ht⟩) hS.2.2 d_Mo_behind_238
        · have c_221 := mt (lg_cmp_lt _ _).mpr c_221
          refine lv_lload_n hx hb d_Mo_behind_224 rfl (lv_at hl 2 rfl) ?_
          refine lv_ldc2 (v := 420) hx hb hown (hB _ kb_270) d_Mo_behind_225 ?_
          refine W.lcmp hx hb d_Mo_behind_228 ?_
          refine lv_if_gt (tgt := 237) hx hb d_Mo_behind_229 (by decide) (fun c_229 => ?_) (fun c_229 => ?_)
          · have c_229 := (lg_cmp_gt _ _).mp c_229
            refine lv_iconst (v := 5) hx hb d_Mo_behind_237 (by decide) ?_
            have hP9 := hP.sub (ws' := [(h0, .inr (6, [.int co, .int pi, .int sh, .int lo, .int ph, .int di, .long lm, .long en, .long la, .long cu, .long nw, .int sp, .ref b1, .ref b2, .ref b3, .ref b4, .long lk, .int cs, .ref b5]))]) [0] rfl
            have hD9 := hD.sub (ws' := [(h0, .inr (6, [.int co, .int pi, .int sh, .int lo, .int ph, .int di, .long lm, .long en, .long la, .long cu, .long nw, .int sp, .ref b1, .ref b2, .ref b3, .ref b4, .long lk, .int cs, .ref b5]))]) [0] (by decide) rfl
            have hK9 := hK.sub (tys' := []) [] rfl
            exact W.iret (v := 5) hx hb hr (fun t ht hW => ⟨⟨5, (), rfl, trivial, by rw [ht]; exact hP9, va_K.moved hW.alike hK9, hD9⟩, hS.F ht⟩) hS.2.2 d_Mo_behind_238
          · have c_229 := mt (lg_cmp_gt _ _).mpr c_229
            refine lv_bipush (v := 6) hx hb d_Mo_behind_232 (by decide) ?_
            refine lv_goto (tgt := 238) hx hb d_Mo_behind_234 (by decide) ?_
            have hP9 := hP.sub (ws' := [(h0, .inr (6, [.int co, .int pi, .int sh, .int lo, .int ph, .int di, .long lm, .long en, .long la, .long cu, .long nw, .int sp, .ref b1, .ref b2, .ref b3, .ref b4, .long lk, .int cs, .ref b5]))]) [0] rfl
            have hD9 := hD.sub (ws' := [(h0, .inr (6, [.int co, .int pi, .int sh, .int lo, .int ph, .int di, .long lm, .long en, .long la, .long cu, .long nw, .int sp, .ref b1, .ref b2, .ref b3, .ref b4, .long lk, .int cs, .ref b5]))]) [0] (by decide) rfl
            have hK9 := hK.sub (tys' := []) [] rfl
            exact W.iret (v := 6) hx hb hr (fun t ht hW => ⟨⟨6, (), rfl, trivial, by rw [ht]; exact hP9, va_K.moved hW.alike hK9, hD9⟩, hS.F ht⟩) hS.2.2 d_Mo_behind_238
      · skip
        refine lv_iconst (v := (-1)) hx hb d_Mo_behind_212 (by decide) ?_
        refine lv_goto (tgt := 238) hx hb d_Mo_behind_213 (by decide) ?_
        have hP9 := hP.sub (ws' := [(h0, .inr (6, [.int co, .int pi, .int sh, .int lo, .int ph, .int di, .long lm, .long en, .long la, .long cu, .long nw, .int sp, .ref b1, .ref b2, .ref b3, .ref b4, .long lk, .int cs, .ref b5]))]) [0] rfl
        have hD9 := hD.sub (ws' := [(h0, .inr (6, [.int co, .int pi, .int sh, .int lo, .int ph, .int di, .long lm, .long en, .long la, .long cu, .long nw, .int sp, .ref b1, .ref b2, .ref b3, .ref b4, .long lk, .int cs, .ref b5]))]) [0] (by decide) rfl
        have hK9 := hK.sub (tys' := []) [] rfl
        exact W.iret (v := (-1)) hx hb hr (fun t ht hW => ⟨⟨(-1), (), rfl, trivial, by rw [ht]; exact hP9, va_K.moved hW.alike hK9, hD9⟩, hS.F ht⟩) hS.2.2 d_Mo_behind_238
    · have t_1 : p0.toInt = 6 := by omega
      have i_1 : p0 = 6 := Int32.toInt_inj.mp (t_1.trans (by decide))
      refine lv_tableIn (tgt := 239) hx hb d_Mo_behind_1 (by omega) (by omega) (by rw [t_1]; rfl) (by decide) ?_
      refine lv_aload_n hx hb d_Mo_behind_239 rfl (lv_at hl 0 rfl) ?_
      refine va_get (D := (dC, dI)) (ci := 6) (v := .int ph) (C := R_Mo) (T := F_Mo) (N := 19) hx hb hB inC_Mo hown hK hP 0 rfl rfl 4 (by decide) (hB _ kb_252) (fun _ h9 => h9) rfl d_Mo_behind_240 ?_
      refine lv_iconst (v := 4) hx hb d_Mo_behind_243 (by decide) ?_
      refine lv_icmp_ne (tgt := 254) hx hb d_Mo_behind_244 (by decide) (fun c_244 => ?_) (fun c_244 => ?_)
      · skip
        refine lv_aload_n hx hb d_Mo_behind_254 rfl (lv_at hl 0 rfl) ?_
        refine va_get (D := (dC, dI)) (ci := 6) (v := .int ph) (C := R_Mo) (T := F_Mo) (N := 19) hx hb hB inC_Mo hown hK hP 0 rfl rfl 4 (by decide) (hB _ kb_252) (fun _ h9 => h9) rfl d_Mo_behind_255 ?_
        refine lv_bipush (v := 6) hx hb d_Mo_behind_258 (by decide) ?_
        refine lv_icmp_ne (tgt := 268) hx hb d_Mo_behind_260 (by decide) (fun c_260 => ?_) (fun c_260 => ?_)
        · skip
          refine lv_iconst (v := (-1)) hx hb d_Mo_behind_268 (by decide) ?_
          have hP9 := hP.sub (ws' := [(h0, .inr (6, [.int co, .int pi, .int sh, .int lo, .int ph, .int di, .long lm, .long en, .long la, .long cu, .long nw, .int sp, .ref b1, .ref b2, .ref b3, .ref b4, .long lk, .int cs, .ref b5]))]) [0] rfl
          have hD9 := hD.sub (ws' := [(h0, .inr (6, [.int co, .int pi, .int sh, .int lo, .int ph, .int di, .long lm, .long en, .long la, .long cu, .long nw, .int sp, .ref b1, .ref b2, .ref b3, .ref b4, .long lk, .int cs, .ref b5]))]) [0] (by decide) rfl
          have hK9 := hK.sub (tys' := []) [] rfl
          exact W.iret (v := (-1)) hx hb hr (fun t ht hW => ⟨⟨(-1), (), rfl, trivial, by rw [ht]; exact hP9, va_K.moved hW.alike hK9, hD9⟩, hS.F ht⟩) hS.2.2 d_Mo_behind_269
        · skip
          refine lv_bipush (v := 7) hx hb d_Mo_behind_263 (by decide) ?_
          refine lv_goto (tgt := 269) hx hb d_Mo_behind_265 (by decide) ?_
          have hP9 := hP.sub (ws' := [(h0, .inr (6, [.int co, .int pi, .int sh, .int lo, .int ph, .int di, .long lm, .long en, .long la, .long cu, .long nw, .int sp, .ref b1, .ref b2, .ref b3, .ref b4, .long lk, .int cs, .ref b5]))]) [0] rfl
          have hD9 := hD.sub (ws' := [(h0, .inr (6, [.int co, .int pi, .int sh, .int lo, .int ph, .int di, .long lm, .long en, .long la, .long cu, .long nw, .int sp, .ref b1, .ref b2, .ref b3, .ref b4, .long lk, .int cs, .ref b5]))]) [0] (by decide) rfl
          have hK9 := hK.sub (tys' := []) [] rfl
          exact W.iret (v := 7) hx hb hr (fun t ht hW => ⟨⟨7, (), rfl, trivial, by rw [ht]; exact hP9, va_K.moved hW.alike hK9, hD9⟩, hS.F ht⟩) hS.2.2 d_Mo_behind_269
      · skip
        refine lv_aload_n hx hb d_Mo_behind_247 rfl (lv_at hl 0 rfl) ?_
        refine va_get (D := (dC, dI)) (ci := 6) (v := .int di) (C := R_Mo) (T := F_Mo) (N := 19) hx hb hB inC_Mo hown hK hP 0 rfl rfl 5 (by decide) (hB _ kb_267) (fun _ h9 => h9) rfl d_Mo_behind_248 ?_
        refine lv_if_eq (tgt := 263) hx hb d_Mo_behind_251 (by decide) (fun c_251 => ?_) (fun c_251 => ?_)
        · skip
          refine lv_bipush (v := 7) hx hb d_Mo_behind_263 (by decide) ?_
          refine lv_goto (tgt := 269) hx hb d_Mo_behind_265 (by decide) ?_
          have hP9 := hP.sub (ws' := [(h0, .inr (6, [.int co, .int pi, .int sh, .int lo, .int ph, .int di, .long lm, .long en, .long la, .long cu, .long nw, .int sp, .ref b1, .ref b2, .ref b3, .ref b4, .long lk, .int cs, .ref b5]))]) [0] rfl
          have hD9 := hD.sub (ws' := [(h0, .inr (6, [.int co, .int pi, .int sh, .int lo, .int ph, .int di, .long lm, .long en, .long la, .long cu, .long nw, .int sp, .ref b1, .ref b2, .ref b3, .ref b4, .long lk, .int cs, .ref b5]))]) [0] (by decide) rfl
          have hK9 := hK.sub (tys' := []) [] rfl
          exact W.iret (v := 7) hx hb hr (fun t ht hW => ⟨⟨7, (), rfl, trivial, by rw [ht]; exact hP9, va_K.moved hW.alike hK9, hD9⟩, hS.F ht⟩) hS.2.2 d_Mo_behind_269
        · skip
          refine lv_aload_n hx hb d_Mo_behind_254 rfl (lv_at hl 0 rfl) ?_
          refine va_get (D := (dC, dI)) (ci := 6) (v := .int ph) (C := R_Mo) (T := F_Mo) (N := 19) hx hb hB inC_Mo hown hK hP 0 rfl rfl 4 (by decide) (hB _ kb_252) (fun _ h9 => h9) rfl d_Mo_behind_255 ?_
          refine lv_bipush (v := 6) hx hb d_Mo_behind_258 (by decide) ?_
          refine lv_icmp_ne (tgt := 268) hx hb d_Mo_behind_260 (by decide) (fun c_260 => ?_) (fun c_260 => ?_)
          · skip
            refine lv_iconst (v := (-1)) hx hb d_Mo_behind_268 (by decide) ?_
            have hP9 := hP.sub (ws' := [(h0, .inr (6, [.int co, .int pi, .int sh, .int lo, .int ph, .int di, .long lm, .long en, .long la, .long cu, .long nw, .int sp, .ref b1, .ref b2, .ref b3, .ref b4, .long lk, .int cs, .ref b5]))]) [0] rfl
            have hD9 := hD.sub (ws' := [(h0, .inr (6, [.int co, .int pi, .int sh, .int lo, .int ph, .int di, .long lm, .long en, .long la, .long cu, .long nw, .int sp, .ref b1, .ref b2, .ref b3, .ref b4, .long lk, .int cs, .ref b5]))]) [0] (by decide) rfl
            have hK9 := hK.sub (tys' := []) [] rfl
            exact W.iret (v := (-1)) hx hb hr (fun t ht hW => ⟨⟨(-1), (), rfl, trivial, by rw [ht]; exact hP9, va_K.moved hW.alike hK9, hD9⟩, hS.F ht⟩) hS.2.2 d_Mo_behind_269
          · skip
            refine lv_bipush (v := 7) hx hb d_Mo_behind_263 (by decide) ?_
            refine lv_goto (tgt := 269) hx hb d_Mo_behind_265 (by decide) ?_
            have hP9 := hP.sub (ws' := [(h0, .inr (6, [.int co, .int pi, .int sh, .int lo, .int ph, .int di, .long lm, .long en, .long la, .long cu, .long nw, .int sp, .ref b1, .ref b2, .ref b3, .ref b4, .long lk, .int cs, .ref b5]))]) [0] rfl
            have hD9 := hD.sub (ws' := [(h0, .inr (6, [.int co, .int pi, .int sh, .int lo, .int ph, .int di, .long lm, .long en, .long la, .long cu, .long nw, .int sp, .ref b1, .ref b2, .ref b3, .ref b4, .long lk, .int cs, .ref b5]))]) [0] (by decide) rfl
            have hK9 := hK.sub (tys' := []) [] rfl
            exact W.iret (v := 7) hx hb hr (fun t ht hW => ⟨⟨7, (), rfl, trivial, by rw [ht]; exact hP9, va_K.moved hW.alike hK9, hD9⟩, hS.F ht⟩) hS.2.2 d_Mo_behind_269
    · have t_1 : p0.toInt = 7 := by omega
      have i_1 : p0 = 7 := Int32.toInt_inj.mp (t_1.trans (by decide))
      refine lv_tableIn (tgt := 270) hx hb d_Mo_behind_1 (by omega) (by omega) (by rw [t_1]; rfl) (by decide) ?_
      refine lv_aload_n hx hb d_Mo_behind_270 rfl (lv_at hl 0 rfl) ?_
      refine va_get (D := (dC, dI)) (ci := 6) (v := .int ph) (C := R_Mo) (T := F_Mo) (N := 19) hx hb hB inC_Mo hown hK hP 0 rfl rfl 4 (by decide) (hB _ kb_252) (fun _ h9 => h9) rfl d_Mo_behind_271 ?_
      refine lv_bipush (v := 7) hx hb d_Mo_behind_274 (by decide) ?_
      refine lv_icmp_ne (tgt := 299) hx hb d_Mo_behind_276 (by decide) (fun c_276 => ?_) (fun c_276 => ?_)
      · skip
        refine lv_iconst (v := (-1)) hx hb d_Mo_behind_299 (by decide) ?_
        have hP9 := hP.sub (ws' := [(h0, .inr (6, [.int co, .int pi, .int sh, .int lo, .int ph, .int di, .long lm, .long en, .long la, .long cu, .long nw, .int sp, .ref b1, .ref b2, .ref b3, .ref b4, .long lk, .int cs, .ref b5]))]) [0] rfl
        have hD9 := hD.sub (ws' := [(h0, .inr (6, [.int co, .int pi, .int sh, .int lo, .int ph, .int di, .long lm, .long en, .long la, .long cu, .long nw, .int sp, .ref b1, .ref b2, .ref b3, .ref b4, .long lk, .int cs, .ref b5]))]) [0] (by decide) rfl
        have hK9 := hK.sub (tys' := []) [] rfl
        exact W.iret (v := (-1)) hx hb hr (fun t ht hW => ⟨⟨(-1), (), rfl, trivial, by rw [ht]; exact hP9, va_K.moved hW.alike hK9, hD9⟩, hS.F ht⟩) hS.2.2 d_Mo_behind_300
      · skip
        refine lv_lload_n hx hb d_Mo_behind_279 rfl (lv_at hl 2 rfl) ?_
        refine lv_lconst (v := 0) hx hb d_Mo_behind_280 (by decide) ?_
        refine W.lcmp hx hb d_Mo_behind_281 ?_
        refine lv_if_lt (tgt := 299) hx hb d_Mo_behind_282 (by decide) (fun c_282 => ?_) (fun c_282 => ?_)
        · have c_282 := (lg_cmp_lt _ _).mp c_282
          refine lv_iconst (v := (-1)) hx hb d_Mo_behind_299 (by decide) ?_
          have hP9 := hP.sub (ws' := [(h0, .inr (6, [.int co, .int pi, .int sh, .int lo, .int ph, .int di, .long lm, .long en, .long la, .long cu, .long nw, .int sp, .ref b1, .ref b2, .ref b3, .ref b4, .long lk, .int cs, .ref b5]))]) [0] rfl
          have hD9 := hD.sub (ws' := [(h0, .inr (6, [.int co, .int pi, .int sh, .int lo, .int ph, .int di, .long lm, .long en, .long la, .long cu, .long nw, .int sp, .ref b1, .ref b2, .ref b3, .ref b4, .long lk, .int cs, .ref b5]))]) [0] (by decide) rfl
          have hK9 := hK.sub (tys' := []) [] rfl
          exact W.iret (v := (-1)) hx hb hr (fun t ht hW => ⟨⟨(-1), (), rfl, trivial, by rw [ht]; exact hP9, va_K.moved hW.alike hK9, hD9⟩, hS.F ht⟩) hS.2.2 d_Mo_behind_300
        · have c_282 := mt (lg_cmp_lt _ _).mpr c_282
          refine lv_lload_n hx hb d_Mo_behind_285 rfl (lv_at hl 2 rfl) ?_
          refine lv_aload_n hx hb d_Mo_behind_286 rfl (lv_at hl 0 rfl) ?_
          refine va_get (D := (dC, dI)) (ci := 6) (v := .long lm) (C := R_Mo) (T := F_Mo) (N := 19) hx hb hB inC_Mo hown hK hP 0 rfl rfl 6 (by decide) (hB _ kb_271) (fun _ h9 => h9) rfl d_Mo_behind_287 ?_
          refine W.lcmp hx hb d_Mo_behind_290 ?_
          refine lv_if_gt (tgt := 299) hx hb d_Mo_behind_291 (by decide) (fun c_291 => ?_) (fun c_291 => ?_)
          · have c_291 := (lg_cmp_gt _ _).mp c_291
            refine lv_iconst (v := (-1)) hx hb d_Mo_behind_299 (by decide) ?_
            have hP9 := hP.sub (ws' := [(h0, .inr (6, [.int co, .int pi, .int sh, .int lo, .int ph, .int di, .long lm, .long en, .long la, .long cu, .long nw, .int sp, .ref b1, .ref b2, .ref b3, .ref b4, .long lk, .int cs, .ref b5]))]) [0] rfl
            have hD9 := hD.sub (ws' := [(h0, .inr (6, [.int co, .int pi, .int sh, .int lo, .int ph, .int di, .long lm, .long en, .long la, .long cu, .long nw, .int sp, .ref b1, .ref b2, .ref b3, .ref b4, .long lk, .int cs, .ref b5]))]) [0] (by decide) rfl
            have hK9 := hK.sub (tys' := []) [] rfl
            exact W.iret (v := (-1)) hx hb hr (fun t ht hW => ⟨⟨(-1), (), rfl, trivial, by rw [ht]; exact hP9, va_K.moved hW.alike hK9, hD9⟩, hS.F ht⟩) hS.2.2 d_Mo_behind_300
          · have c_291 := mt (lg_cmp_gt _ _).mpr c_291
            refine lv_bipush (v := 7) hx hb d_Mo_behind_294 (by decide) ?_
            refine lv_goto (tgt := 300) hx hb d_Mo_behind_296 (by decide) ?_
            have hP9 := hP.sub (ws' := [(h0, .inr (6, [.int co, .int pi, .int sh, .int lo, .int ph, .int di, .long lm, .long en, .long la, .long cu, .long nw, .int sp, .ref b1, .ref b2, .ref b3, .ref b4, .long lk, .int cs, .ref b5]))]) [0] rfl
            have hD9 := hD.sub (ws' := [(h0, .inr (6, [.int co, .int pi, .int sh, .int lo, .int ph, .int di, .long lm, .long en, .long la, .long cu, .long nw, .int sp, .ref b1, .ref b2, .ref b3, .ref b4, .long lk, .int cs, .ref b5]))]) [0] (by decide) rfl
            have hK9 := hK.sub (tys' := []) [] rfl
            exact W.iret (v := 7) hx hb hr (fun t ht hW => ⟨⟨7, (), rfl, trivial, by rw [ht]; exact hP9, va_K.moved hW.alike hK9, hD9⟩, hS.F ht⟩) hS.2.2 d_Mo_behind_300
    · have t_1 : p0.toInt = 8 := by omega
      have i_1 : p0 = 8 := Int32.toInt_inj.mp (t_1.trans (by decide))
      refine lv_tableIn (tgt := 301) hx hb d_Mo_behind_1 (by omega) (by omega) (by rw [t_1]; rfl) (by decide) ?_
      refine lv_aload_n hx hb d_Mo_behind_301 rfl (lv_at hl 0 rfl) ?_
      refine va_get (D := (dC, dI)) (ci := 6) (v := .int ph) (C := R_Mo) (T := F_Mo) (N := 19) hx hb hB inC_Mo hown hK hP 0 rfl rfl 4 (by decide) (hB _ kb_252) (fun _ h9 => h9) rfl d_Mo_behind_302 ?_
      refine lv_bipush (v := 7) hx hb d_Mo_behind_305 (by decide) ?_
      refine lv_icmp_ne (tgt := 329) hx hb d_Mo_behind_307 (by decide) (fun c_307 => ?_) (fun c_307 => ?_)
      · skip
        refine lv_iconst (v := (-1)) hx hb d_Mo_behind_329 (by decide) ?_
        have hP9 := hP.sub (ws' := [(h0, .inr (6, [.int co, .int pi, .int sh, .int lo, .int ph, .int di, .long lm, .long en, .long la, .long cu, .long nw, .int sp, .ref b1, .ref b2, .ref b3, .ref b4, .long lk, .int cs, .ref b5]))]) [0] rfl
        have hD9 := hD.sub (ws' := [(h0, .inr (6, [.int co, .int pi, .int sh, .int lo, .int ph, .int di, .long lm, .long en, .long la, .long cu, .long nw, .int sp, .ref b1, .ref b2, .ref b3, .ref b4, .long lk, .int cs, .ref b5]))]) [0] (by decide) rfl
        have hK9 := hK.sub (tys' := []) [] rfl
        exact W.iret (v := (-1)) hx hb hr (fun t ht hW => ⟨⟨(-1), (), rfl, trivial, by rw [ht]; exact hP9, va_K.moved hW.alike hK9, hD9⟩, hS.F ht⟩) hS.2.2 d_Mo_behind_330
      · skip
        refine lv_lload_n hx hb d_Mo_behind_310 rfl (lv_at hl 2 rfl) ?_
        refine lv_lconst (v := 0) hx hb d_Mo_behind_311 (by decide) ?_
        refine W.lcmp hx hb d_Mo_behind_312 ?_
        refine lv_if_le (tgt := 329) hx hb d_Mo_behind_313 (by decide) (fun c_313 => ?_) (fun c_313 => ?_)
        · have c_313 := (lg_cmp_le _ _).mp c_313
          refine lv_iconst (v := (-1)) hx hb d_Mo_behind_329 (by decide) ?_
          have hP9 := hP.sub (ws' := [(h0, .inr (6, [.int co, .int pi, .int sh, .int lo, .int ph, .int di, .long lm, .long en, .long la, .long cu, .long nw, .int sp, .ref b1, .ref b2, .ref b3, .ref b4, .long lk, .int cs, .ref b5]))]) [0] rfl
          have hD9 := hD.sub (ws' := [(h0, .inr (6, [.int co, .int pi, .int sh, .int lo, .int ph, .int di, .long lm, .long en, .long la, .long cu, .long nw, .int sp, .ref b1, .ref b2, .ref b3, .ref b4, .long lk, .int cs, .ref b5]))]) [0] (by decide) rfl
          have hK9 := hK.sub (tys' := []) [] rfl
          exact W.iret (v := (-1)) hx hb hr (fun t ht hW => ⟨⟨(-1), (), rfl, trivial, by rw [ht]; exact hP9, va_K.moved hW.alike hK9, hD9⟩, hS.F ht⟩) hS.2.2 d_Mo_behind_330
        · have c_313 := mt (lg_cmp_le _ _).mpr c_313
          refine lv_lload_n hx hb d_Mo_behind_316 rfl (lv_at hl 2 rfl) ?_
          refine lv_ldc2 (v := 5000) hx hb hown (hB _ kb_266) d_Mo_behind_317 ?_
          refine W.lcmp hx hb d_Mo_behind_320 ?_
          refine lv_if_gt (tgt := 329) hx hb d_Mo_behind_321 (by decide) (fun c_321 => ?_) (fun c_321 => ?_)
          · have c_321 := (lg_cmp_gt _ _).mp c_321
            refine lv_iconst (v := (-1)) hx hb d_Mo_behind_329 (by decide) ?_
            have hP9 := hP.sub (ws' := [(h0, .inr (6, [.int co, .int pi, .int sh, .int lo, .int ph, .int di, .long lm, .long en, .long la, .long cu, .long nw, .int sp, .ref b1, .ref b2, .ref b3, .ref b4, .long lk, .int cs, .ref b5]))]) [0] rfl
            have hD9 := hD.sub (ws' := [(h0, .inr (6, [.int co, .int pi, .int sh, .int lo, .int ph, .int di, .long lm, .long en, .long la, .long cu, .long nw, .int sp, .ref b1, .ref b2, .ref b3, .ref b4, .long lk, .int cs, .ref b5]))]) [0] (by decide) rfl
            have hK9 := hK.sub (tys' := []) [] rfl
            exact W.iret (v := (-1)) hx hb hr (fun t ht hW => ⟨⟨(-1), (), rfl, trivial, by rw [ht]; exact hP9, va_K.moved hW.alike hK9, hD9⟩, hS.F ht⟩) hS.2.2 d_Mo_behind_330
          · have c_321 := mt (lg_cmp_gt _ _).mpr c_321
            refine lv_bipush (v := 7) hx hb d_Mo_behind_324 (by decide) ?_
            refine lv_goto (tgt := 330) hx hb d_Mo_behind_326 (by decide) ?_
            have hP9 := hP.sub (ws' := [(h0, .inr (6, [.int co, .int pi, .int sh, .int lo, .int ph, .int di, .long lm, .long en, .long la, .long cu, .long nw, .int sp, .ref b1, .ref b2, .ref b3, .ref b4, .long lk, .int cs, .ref b5]))]) [0] rfl
            have hD9 := hD.sub (ws' := [(h0, .inr (6, [.int co, .int pi, .int sh, .int lo, .int ph, .int di, .long lm, .long en, .long la, .long cu, .long nw, .int sp, .ref b1, .ref b2, .ref b3, .ref b4, .long lk, .int cs, .ref b5]))]) [0] (by decide) rfl
            have hK9 := hK.sub (tys' := []) [] rfl
            exact W.iret (v := 7) hx hb hr (fun t ht hW => ⟨⟨7, (), rfl, trivial, by rw [ht]; exact hP9, va_K.moved hW.alike hK9, hD9⟩, hS.F ht⟩) hS.2.2 d_Mo_behind_330
    · have t_1 : p0.toInt = 9 := by omega
      have i_1 : p0 = 9 := Int32.toInt_inj.mp (t_1.trans (by decide))
      refine lv_tableIn (tgt := 331) hx hb d_Mo_behind_1 (by omega) (by omega) (by rw [t_1]; rfl) (by decide) ?_
      refine lv_aload_n hx hb d_Mo_behind_331 rfl (lv_at hl 0 rfl) ?_
      refine va_get (D := (dC, dI)) (ci := 6) (v := .int ph) (C := R_Mo) (T := F_Mo) (N := 19) hx hb hB inC_Mo hown hK hP 0 rfl rfl 4 (by decide) (hB _ kb_252) (fun _ h9 => h9) rfl d_Mo_behind_332 ?_
      refine lv_bipush (v := 7) hx hb d_Mo_behind_335 (by decide) ?_
      refine lv_icmp_ne (tgt := 345) hx hb d_Mo_behind_337 (by decide) (fun c_337 => ?_) (fun c_337 => ?_)
      · skip
        refine lv_iconst (v := (-1)) hx hb d_Mo_behind_345 (by decide) ?_
        have hP9 := hP.sub (ws' := [(h0, .inr (6, [.int co, .int pi, .int sh, .int lo, .int ph, .int di, .long lm, .long en, .long la, .long cu, .long nw, .int sp, .ref b1, .ref b2, .ref b3, .ref b4, .long lk, .int cs, .ref b5]))]) [0] rfl
        have hD9 := hD.sub (ws' := [(h0, .inr (6, [.int co, .int pi, .int sh, .int lo, .int ph, .int di, .long lm, .long en, .long la, .long cu, .long nw, .int sp, .ref b1, .ref b2, .ref b3, .ref b4, .long lk, .int cs, .ref b5]))]) [0] (by decide) rfl
        have hK9 := hK.sub (tys' := []) [] rfl
        exact W.iret (v := (-1)) hx hb hr (fun t ht hW => ⟨⟨(-1), (), rfl, trivial, by rw [ht]; exact hP9, va_K.moved hW.alike hK9, hD9⟩, hS.F ht⟩) hS.2.2 d_Mo_behind_346
      · skip
        refine lv_bipush (v := 8) hx hb d_Mo_behind_340 (by decide) ?_
        refine lv_goto (tgt := 346) hx hb d_Mo_behind_342 (by decide) ?_
        have hP9 := hP.sub (ws' := [(h0, .inr (6, [.int co, .int pi, .int sh, .int lo, .int ph, .int di, .long lm, .long en, .long la, .long cu, .long nw, .int sp, .ref b1, .ref b2, .ref b3, .ref b4, .long lk, .int cs, .ref b5]))]) [0] rfl
        have hD9 := hD.sub (ws' := [(h0, .inr (6, [.int co, .int pi, .int sh, .int lo, .int ph, .int di, .long lm, .long en, .long la, .long cu, .long nw, .int sp, .ref b1, .ref b2, .ref b3, .ref b4, .long lk, .int cs, .ref b5]))]) [0] (by decide) rfl
        have hK9 := hK.sub (tys' := []) [] rfl
        exact W.iret (v := 8) hx hb hr (fun t ht hW => ⟨⟨8, (), rfl, trivial, by rw [ht]; exact hP9, va_K.moved hW.alike hK9, hD9⟩, hS.F ht⟩) hS.2.2 d_Mo_behind_346
