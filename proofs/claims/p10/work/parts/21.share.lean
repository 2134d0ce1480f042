set_option maxHeartbeats 4000000 in
set_option maxRecDepth 100000 in
theorem c_X_isWithin0 (l : Launch) (dC : Nat → ClassId) (dI : Nat → Nat → Nat) (sz : Nat) (p0 : Int64) (p1 : Int64) (p2 : Int64) : Met l y_X_isWithin w_X_isWithin ({ frames := 0, cells := 0, slots := 0, locals := 0 }) (cPre dC dI [.long p0, .long p1, .long p2] sz [] []) (va_Qi (fun (r : Int32) (u : Unit) => r = bi (p1 ≤ p0 ∧ p0 ≤ p2)) (fun (u : Unit) (t : State) => cB dC dI (va_A [] sz) [] [] t) (va_A [] sz)) 0 0 (fun _ => False) := by
  refine Met.ofW (cc := b_X_isWithin) (maxL := 6) (ret := (some .boolean)) (by decide) rfl ?_
  intro p e s m args below meth c s₁ B hml hv
  obtain ⟨rfl, hsz, hN, hP, hK, hD0⟩ := hv
  have hx := B.exec
  have hb := B.bytes
  have hr := B.returns
  have hts := atoms_spec (ws := w_X_isWithin) B.pre
  have hB := big_of hts
  have hown : s.vm.findClass R_X = some m.cls := findClass_of_methodNamed B.named
  have hlocks := B.notSynchronized
  subst hsz
  have hD := hD0.self (sz := s.heap.size)
  generalize hAe : va_A [] s.heap.size = A at hD ⊢
  have hA : ∀ q : Nat, s.heap.size ≤ q → A q := fun q h => by rw [← hAe]; exact Or.inr h
  have hS : va_S A s.heap s.heap [] := va_S.rf
  have hP : va_P (dC, dI) classes [] s.heap := hP
  have hl := lv_entry ([.long p0, .long p1, .long p2]) (n := 6) (Nat.le_of_ble_eq_true rfl)
  rw [lg_entry_eq]
  generalize (lg_sl ([.long p0, .long p1, .long p2]) ++ List.replicate (6 - (lg_sl ([.long p0, .long p1, .long p2])).length) Slot.unset).toArray = ls at hl ⊢
  have hl : lv_has ls 6 [(0, .long p0), (2, .long p1), (4, .long p2)] := hl
  refine lv_lload_n hx hb d_X_isWithin_0 rfl (lv_at hl 0 rfl) ?_
  refine lv_lload_n hx hb d_X_isWithin_1 rfl (lv_at hl 1 rfl) ?_
  refine W.lcmp hx hb d_X_isWithin_2 ?_
  refine lv_if_lt (tgt := 17) hx hb d_X_isWithin_3 (by decide) (fun c_3 => ?_) (fun c_3 => ?_)
  · have c_3 := (lg_cmp_lt _ _).mp c_3
    refine lv_iconst (v := 0) hx hb d_X_isWithin_17 (by decide) ?_
    have hP9 := hP.sub (ws' := []) [] rfl
    have hD9 := hD.sub (ws' := []) [] (by decide) rfl
    have hK9 := hK.sub (tys' := []) [] rfl
    exact W.zret (v := 0) (ty := .boolean) hx hb hr (rfl) (fun t ht hW => ⟨⟨0, (), rfl, (bi_f (fun h => absurd h.1 (Int64.not_le.mpr c_3))).symm, by rw [ht]; exact hP9, va_K.moved hW.alike hK9, hD9⟩, hS.F ht⟩) (fun q h => absurd h List.not_mem_nil) d_X_isWithin_18
  · have c_3 := mt (lg_cmp_lt _ _).mpr c_3
    refine lv_lload_n hx hb d_X_isWithin_6 rfl (lv_at hl 0 rfl) ?_
    refine lv_lload hx hb d_X_isWithin_7 (lv_at hl 2 rfl) ?_
    refine W.lcmp hx hb d_X_isWithin_9 ?_
    refine lv_if_gt (tgt := 17) hx hb d_X_isWithin_10 (by decide) (fun c_10 => ?_) (fun c_10 => ?_)
    · have c_10 := (lg_cmp_gt _ _).mp c_10
      refine lv_iconst (v := 0) hx hb d_X_isWithin_17 (by decide) ?_
      have hP9 := hP.sub (ws' := []) [] rfl
      have hD9 := hD.sub (ws' := []) [] (by decide) rfl
      have hK9 := hK.sub (tys' := []) [] rfl
      exact W.zret (v := 0) (ty := .boolean) hx hb hr (rfl) (fun t ht hW => ⟨⟨0, (), rfl, (bi_f (fun h => absurd h.2 (Int64.not_le.mpr c_10))).symm, by rw [ht]; exact hP9, va_K.moved hW.alike hK9, hD9⟩, hS.F ht⟩) (fun q h => absurd h List.not_mem_nil) d_X_isWithin_18
    · have c_10 := mt (lg_cmp_gt _ _).mpr c_10
      refine lv_iconst (v := 1) hx hb d_X_isWithin_13 (by decide) ?_
      refine lv_goto (tgt := 18) hx hb d_X_isWithin_14 (by decide) ?_
      have hP9 := hP.sub (ws' := []) [] rfl
      have hD9 := hD.sub (ws' := []) [] (by decide) rfl
      have hK9 := hK.sub (tys' := []) [] rfl
      exact W.zret (v := 1) (ty := .boolean) hx hb hr (rfl) (fun t ht hW => ⟨⟨1, (), rfl, (bi_t ⟨Int64.not_lt.mp c_3, Int64.not_lt.mp c_10⟩).symm, by rw [ht]; exact hP9, va_K.moved hW.alike hK9, hD9⟩, hS.F ht⟩) (fun q h => absurd h List.not_mem_nil) d_X_isWithin_18
set_option maxHeartbeats 4000000 in
set_option maxRecDepth 100000 in
theorem c_Li_has0 (l : Launch) (dC : Nat → ClassId) (dI : Nat → Nat → Nat) (h0 : Nat) (a4 : Nat) (sz : Nat) (cn : Int32) (to : Int64) (p0 : Int32) : Met l y_Li_has w_Li_has ({ frames := 0, cells := 0, slots := 0, locals := 0 }) (cPre dC dI [.ref h0, .int p0] sz [] [(h0, .inr (4, [.ref a4, .int cn, .long to]))]) (va_Qi (fun (r : Int32) (u : Unit) => r = bi (1 ≤ p0 ∧ p0 ≤ cn)) (fun (u : Unit) (t : State) => cB dC dI (va_A [(h0, .inr (4, [.ref a4, .int cn, .long to]))] sz) [] [(h0, .inr (4, [.ref a4, .int cn, .long to]))] t) (va_A [(h0, .inr (4, [.ref a4, .int cn, .long to]))] sz)) 0 0 (fun _ => False) := by
  refine Met.ofW (cc := b_Li_has) (maxL := 2) (ret := (some .boolean)) (by decide) rfl ?_
  intro p e s m args below meth c s₁ B hml hv
  obtain ⟨rfl, hsz, hN, hP, hK, hD0⟩ := hv
  have hx := B.exec
  have hb := B.bytes
  have hr := B.returns
  have hts := atoms_spec (ws := w_Li_has) B.pre
  have hB := big_of hts
  have hown : s.vm.findClass R_Li = some m.cls := findClass_of_methodNamed B.named
  have hlocks := B.notSynchronized
  subst hsz
  have hD := hD0.self (sz := s.heap.size)
  generalize hAe : va_A [(h0, .inr (4, [.ref a4, .int cn, .long to]))] s.heap.size = A at hD ⊢
  have hA : ∀ q : Nat, s.heap.size ≤ q → A q := fun q h => by rw [← hAe]; exact Or.inr h
  have hS : va_S A s.heap s.heap [] := va_S.rf
  have hP : va_P (dC, dI) classes [(h0, .inr (4, [.ref a4, .int cn, .long to]))] s.heap := hP
  have hl := lv_entry ([.ref h0, .int p0]) (n := 2) (Nat.le_of_ble_eq_true rfl)
  rw [lg_entry_eq]
  generalize (lg_sl ([.ref h0, .int p0]) ++ List.replicate (2 - (lg_sl ([.ref h0, .int p0])).length) Slot.unset).toArray = ls at hl ⊢
  have hl : lv_has ls 2 [(0, .ref h0), (1, .int p0)] := hl
  refine lv_iload_n hx hb d_Li_has_0 rfl (lv_at hl 1 rfl) ?_
  refine lv_iconst (v := 1) hx hb d_Li_has_1 (by decide) ?_
  refine lv_icmp_lt (tgt := 17) hx hb d_Li_has_2 (by decide) (fun c_2 => ?_) (fun c_2 => ?_)
  · skip
    refine lv_iconst (v := 0) hx hb d_Li_has_17 (by decide) ?_
    have hP9 := hP.sub (ws' := [(h0, .inr (4, [.ref a4, .int cn, .long to]))]) [0] rfl
    have hD9 := hD.sub (ws' := [(h0, .inr (4, [.ref a4, .int cn, .long to]))]) [0] (by decide) rfl
    have hK9 := hK.sub (tys' := []) [] rfl
    exact W.zret (v := 0) (ty := .boolean) hx hb hr (rfl) (fun t ht hW => ⟨⟨0, (), rfl, (bi_f (fun h => absurd h.1 (Int32.not_le.mpr c_2))).symm, by rw [ht]; exact hP9, va_K.moved hW.alike hK9, hD9⟩, hS.F ht⟩) (fun q h => absurd h List.not_mem_nil) d_Li_has_18
  · skip
    refine lv_iload_n hx hb d_Li_has_5 rfl (lv_at hl 1 rfl) ?_
    refine lv_aload_n hx hb d_Li_has_6 rfl (lv_at hl 0 rfl) ?_
    refine va_get (D := (dC, dI)) (ci := 4) (v := .int cn) (C := R_Li) (T := F_Li) (N := 3) hx hb hB inC_Li hown hK hP 0 rfl rfl 1 (by decide) (hB _ kb_110) (fun _ h9 => h9) rfl d_Li_has_7 ?_
    refine lv_icmp_gt (tgt := 17) hx hb d_Li_has_10 (by decide) (fun c_10 => ?_) (fun c_10 => ?_)
    · skip
      refine lv_iconst (v := 0) hx hb d_Li_has_17 (by decide) ?_
      have hP9 := hP.sub (ws' := [(h0, .inr (4, [.ref a4, .int cn, .long to]))]) [0] rfl
      have hD9 := hD.sub (ws' := [(h0, .inr (4, [.ref a4, .int cn, .long to]))]) [0] (by decide) rfl
      have hK9 := hK.sub (tys' := []) [] rfl
      exact W.zret (v := 0) (ty := .boolean) hx hb hr (rfl) (fun t ht hW => ⟨⟨0, (), rfl, (bi_f (fun h => absurd h.2 (Int32.not_le.mpr c_10))).symm, by rw [ht]; exact hP9, va_K.moved hW.alike hK9, hD9⟩, hS.F ht⟩) (fun q h => absurd h List.not_mem_nil) d_Li_has_18
    · skip
      refine lv_iconst (v := 1) hx hb d_Li_has_13 (by decide) ?_
      refine lv_goto (tgt := 18) hx hb d_Li_has_14 (by decide) ?_
      have hP9 := hP.sub (ws' := [(h0, .inr (4, [.ref a4, .int cn, .long to]))]) [0] rfl
      have hD9 := hD.sub (ws' := [(h0, .inr (4, [.ref a4, .int cn, .long to]))]) [0] (by decide) rfl
      have hK9 := hK.sub (tys' := []) [] rfl
      exact W.zret (v := 1) (ty := .boolean) hx hb hr (rfl) (fun t ht hW => ⟨⟨1, (), rfl, (bi_t ⟨Int32.not_lt.mp c_2, Int32.not_lt.mp c_10⟩).symm, by rw [ht]; exact hP9, va_K.moved hW.alike hK9, hD9⟩, hS.F ht⟩) (fun q h => absurd h List.not_mem_nil) d_Li_has_18
set_option maxHeartbeats 4000000 in
set_option maxRecDepth 100000 in
theorem c_X_share (l : Launch) (dC : Nat → ClassId) (dI : Nat → Nat → Nat) (h0 : Nat) (k1 : Nat) (k2 : Nat) (k3 : Nat) (k4 : Nat) (k5 : Nat) (a4 : Nat) (e4 : ClassId) (sz : Nat) (pl : Int32) (cn : Int32) (to : Int64) (f4 : Nat → Int32) (p0 : Int32) (p1 : Int64) (p2 : Int32) (hne : ¬ shT p0 p1 cn to.toInt) (hq1 : 0 ≤ to.toInt) (hq2 : to.toInt ≤ 10000) (hq3 : ∀ k : Nat, (k : Int) < cn.toInt → 0 ≤ (f4 k).toInt ∧ (f4 k).toInt ≤ 1000) (hq4 : cn.toInt ≤ 10) : Met l y_X_share w_X_share ({ frames := 6, cells := 0, slots := 0, locals := 90 }) (cPre dC dI [.ref h0, .int p0, .long p1, .int p2] sz [(e4, .int)] [(h0, .inr (5, [.ref k1, .ref k2, .ref k3, .ref k4, .ref k5, .int pl])), (k5, .inr (4, [.ref a4, .int cn, .long to])), (a4, .inl (e4, 10, .inl f4))]) (va_Ql (fun (r : Int64) (u : Unit) => shP p0 p1 p2 cn to.toInt (f4 (p0 - 1).toNatClampNeg).toInt64 r) (fun (u : Unit) (t : State) => cB dC dI (va_A [(h0, .inr (5, [.ref k1, .ref k2, .ref k3, .ref k4, .ref k5, .int pl])), (k5, .inr (4, [.ref a4, .int cn, .long to])), (a4, .inl (e4, 10, .inl f4))] sz) [(e4, .int)] [(h0, .inr (5, [.ref k1, .ref k2, .ref k3, .ref k4, .ref k5, .int pl])), (k5, .inr (4, [.ref a4, .int cn, .long to])), (a4, .inl (e4, 10, .inl f4))] t) (va_A [(h0, .inr (5, [.ref k1, .ref k2, .ref k3, .ref k4, .ref k5, .int pl])), (k5, .inr (4, [.ref a4, .int cn, .long to])), (a4, .inl (e4, 10, .inl f4))] sz)) 0 0 (va_A [(h0, .inr (5, [.ref k1, .ref k2, .ref k3, .ref k4, .ref k5, .int pl])), (k5, .inr (4, [.ref a4, .int cn, .long to])), (a4, .inl (e4, 10, .inl f4))] sz) := by
  refine Met.ofW (cc := b_X_share) (maxL := 11) (ret := (some .long)) (by decide) rfl ?_
  intro p e s m args below meth c s₁ B hml hv
  obtain ⟨rfl, hsz, hN, hP, hK, hD0⟩ := hv
  have hx := B.exec
  have hb := B.bytes
  have hr := B.returns
  have hts := atoms_spec (ws := w_X_share) B.pre
  have hB := big_of hts
  have hown : s.vm.findClass R_X = some m.cls := findClass_of_methodNamed B.named
  have hlocks := B.notSynchronized
  subst hsz
  have hD := hD0.self (sz := s.heap.size)
  generalize hAe : va_A [(h0, .inr (5, [.ref k1, .ref k2, .ref k3, .ref k4, .ref k5, .int pl])), (k5, .inr (4, [.ref a4, .int cn, .long to])), (a4, .inl (e4, 10, .inl f4))] s.heap.size = A at hD ⊢
  have hA : ∀ q : Nat, s.heap.size ≤ q → A q := fun q h => by rw [← hAe]; exact Or.inr h
  have hS : va_S A s.heap s.heap [] := va_S.rf
  have hP : va_P (dC, dI) classes [(h0, .inr (5, [.ref k1, .ref k2, .ref k3, .ref k4, .ref k5, .int pl])), (k5, .inr (4, [.ref a4, .int cn, .long to])), (a4, .inl (e4, 10, .inl f4))] s.heap := hP
  have hl := lv_entry ([.ref h0, .int p0, .long p1, .int p2]) (n := 11) (Nat.le_of_ble_eq_true rfl)
  rw [lg_entry_eq]
  generalize (lg_sl ([.ref h0, .int p0, .long p1, .int p2]) ++ List.replicate (11 - (lg_sl ([.ref h0, .int p0, .long p1, .int p2])).length) Slot.unset).toArray = ls at hl ⊢
  have hl : lv_has ls 11 [(0, .ref h0), (1, .int p0), (2, .long p1), (4, .int p2)] := hl
  refine lv_aload_n hx hb d_X_share_0 rfl (lv_at hl 0 rfl) ?_
  refine va_get (D := (dC, dI)) (ci := 5) (v := .ref k5) (C := R_X) (T := F_X) (N := 6) hx hb hB inC_X hown hK hP 0 rfl rfl 4 (by decide) (hB _ kb_140) (fun _ h9 => h9) rfl d_X_share_1 ?_
  refine lv_iload_n hx hb d_X_share_4 rfl (lv_at hl 1 rfl) ?_
  refine kc_i (va_runV (As := [.int p0]) (rest := []) ⟨hx, hb, hml, hown, hts⟩ (c_Li_has l dC dI k5 a4 s.heap.size cn to p0 ) (cwV 1 hts (ginV kb_214 kb_215 kb_216 kb_137 kb_213) rfl rfl rfl (by decide +kernel) ⟨Nat.le_of_ble_eq_true rfl, Nat.le_of_ble_eq_true rfl⟩) (preV (ci := 4) (wc := [(k5, .inr (4, [.ref a4, .int cn, .long to]))]) hK hN hP hD [1] rfl rfl (by decide) [] rfl rfl rfl) rfl rfl hl.1 rfl (lv_room (Nat.le_of_ble_eq_true rfl)) d_X_share_5 ⟨Nat.le_of_ble_eq_true rfl, Nat.le_of_ble_eq_true rfl⟩) hP hD hS hA [1] [0, 2] (wr := [(h0, .inr (5, [.ref k1, .ref k2, .ref k3, .ref k4, .ref k5, .int pl])), (a4, .inl (e4, 10, .inl f4))]) rfl rfl (by decide) (by decide) (fun r_5 u_5 H locs hw_5 hP hD hK1 hS => ?_)
  have hw_5 : r_5 = bi (1 ≤ p0 ∧ p0 ≤ cn) := hw_5
  have hP : va_P (dC, dI) classes [(h0, .inr (5, [.ref k1, .ref k2, .ref k3, .ref k4, .ref k5, .int pl])), (a4, .inl (e4, 10, .inl f4)), (k5, .inr (4, [.ref a4, .int cn, .long to]))] H := hP
  have hD : va_D A [(h0, .inr (5, [.ref k1, .ref k2, .ref k3, .ref k4, .ref k5, .int pl])), (a4, .inl (e4, 10, .inl f4)), (k5, .inr (4, [.ref a4, .int cn, .long to]))] := hD
  refine lv_if_ne (tgt := 15) hx hb d_X_share_8 (by decide) (fun c_8 => ?_) (fun c_8 => ?_)
  · have c_8 := bi_y hw_5 c_8
    refine lv_lload_n hx hb d_X_share_15 rfl (lv_at hl 2 rfl) ?_
    refine lv_lconst (v := 0) hx hb d_X_share_16 (by decide) ?_
    refine lv_ldc2 (v := 1000000000000) hx hb hown (hB _ kb_217) d_X_share_17 ?_
    refine kc_i (va_runS (As := [.long p1, .long 0, .long 1000000000000]) (rest := []) ⟨hx, hb, hml, hown, hts⟩ (c_X_isWithin l dC dI  H.size  p1 0 1000000000000 ) (cwS 3 hts (ginS kb_150 kb_8 kb_7 kb_6) rfl rfl rfl (by decide +kernel) ⟨Nat.le_of_ble_eq_true rfl, Nat.le_of_ble_eq_true rfl⟩) (preS (wc := []) hK hN hP hD [] rfl rfl (by decide) [] rfl) rfl rfl hl.1 rfl (lv_room (Nat.le_of_ble_eq_true rfl)) d_X_share_20 ⟨Nat.le_of_ble_eq_true rfl, Nat.le_of_ble_eq_true rfl⟩) hP hD hS hA [] [0, 1, 2] (wr := [(h0, .inr (5, [.ref k1, .ref k2, .ref k3, .ref k4, .ref k5, .int pl])), (a4, .inl (e4, 10, .inl f4)), (k5, .inr (4, [.ref a4, .int cn, .long to]))]) rfl rfl (by decide) (by decide) (fun r_20 u_20 H locs hw_20 hP hD hK1 hS => ?_)
    have hw_20 : r_20 = bi (0 ≤ p1 ∧ p1 ≤ 1000000000000) := hw_20
    have hP : va_P (dC, dI) classes [(h0, .inr (5, [.ref k1, .ref k2, .ref k3, .ref k4, .ref k5, .int pl])), (a4, .inl (e4, 10, .inl f4)), (k5, .inr (4, [.ref a4, .int cn, .long to]))] H := hP
    have hD : va_D A [(h0, .inr (5, [.ref k1, .ref k2, .ref k3, .ref k4, .ref k5, .int pl])), (a4, .inl (e4, 10, .inl f4)), (k5, .inr (4, [.ref a4, .int cn, .long to]))] := hD
    refine lv_if_ne (tgt := 30) hx hb d_X_share_23 (by decide) (fun c_23 => ?_) (fun c_23 => ?_)
    · have c_23 := bi_y hw_20 c_23
      refine lv_aload_n hx hb d_X_share_30 rfl (lv_at hl 0 rfl) ?_
      refine va_get (D := (dC, dI)) (ci := 5) (v := .ref k5) (C := R_X) (T := F_X) (N := 6) hx hb hB inC_X hown hK hP 0 rfl rfl 4 (by decide) (hB _ kb_140) (fun _ h9 => h9) rfl d_X_share_31 ?_
      refine va_getN (host := "ChargeTalk") (D := (dC, dI)) (ci := 4) (v := .long to) (C := R_Li) (T := F_Li) (N := 3) hx hb hB inC_Li hown hK hP 2 rfl rfl 2 (by decide) (va_Nw.use rfl (hN _ kn_10)) (fun _ h9 => h9) rfl d_X_share_34 ?_
      refine lv_lconst (v := 0) hx hb d_X_share_37 (by decide) ?_
      refine W.lcmp hx hb d_X_share_38 ?_
      refine lv_if_ne (tgt := 52) hx hb d_X_share_39 (by decide) (fun c_39 => ?_) (fun c_39 => ?_)
      · have c_39 := mt (lg_cmp_eq _ _).mpr c_39
        refine lv_lload_n hx hb d_X_share_52 rfl (lv_at hl 2 rfl) ?_
        refine lv_aload_n hx hb d_X_share_53 rfl (lv_at hl 0 rfl) ?_
        refine va_get (D := (dC, dI)) (ci := 5) (v := .ref k5) (C := R_X) (T := F_X) (N := 6) hx hb hB inC_X hown hK hP 0 rfl rfl 4 (by decide) (hB _ kb_140) (fun _ h9 => h9) rfl d_X_share_54 ?_
        refine lv_iload_n hx hb d_X_share_57 rfl (lv_at hl 1 rfl) ?_
        refine kc_i (va_runV (As := [.int p0]) (rest := [.long p1]) ⟨hx, hb, hml, hown, hts⟩ (c_Li_weightOf l dC dI k5 a4 e4 H.size cn to f4 p0 ) (cwV 1 hts (ginV kb_219 kb_220 kb_221 kb_137 kb_218) rfl rfl rfl (by decide +kernel) ⟨Nat.le_of_ble_eq_true rfl, Nat.le_of_ble_eq_true rfl⟩) (preV (ci := 4) (wc := [(k5, .inr (4, [.ref a4, .int cn, .long to])), (a4, .inl (e4, 10, .inl f4))]) hK hN hP hD [2, 1] rfl rfl (by decide) [0] rfl rfl rfl) rfl rfl hl.1 rfl (lv_room (Nat.le_of_ble_eq_true rfl)) d_X_share_58 ⟨Nat.le_of_ble_eq_true rfl, Nat.le_of_ble_eq_true rfl⟩) hP hD hS hA [2, 1] [0] (wr := [(h0, .inr (5, [.ref k1, .ref k2, .ref k3, .ref k4, .ref k5, .int pl]))]) rfl rfl (by decide) (by decide) (fun r_58 u_58 H locs hw_58 hP hD hK1 hS => ?_)
        have hw_58 : r_58 = wof f4 p0 := hw_58
        have hP : va_P (dC, dI) classes [(h0, .inr (5, [.ref k1, .ref k2, .ref k3, .ref k4, .ref k5, .int pl])), (k5, .inr (4, [.ref a4, .int cn, .long to])), (a4, .inl (e4, 10, .inl f4))] H := hP
        have hD : va_D A [(h0, .inr (5, [.ref k1, .ref k2, .ref k3, .ref k4, .ref k5, .int pl])), (k5, .inr (4, [.ref a4, .int cn, .long to])), (a4, .inl (e4, 10, .inl f4))] := hD
        obtain ⟨w_1, w_2⟩ := wofb hq3 hq4 c_8 hw_58
        refine lv_i2l hx hb d_X_share_61 rfl ?_
        refine lv_topl (fun x_61 ex_61 => ?_)
        refine lv_lmul hx hb d_X_share_62 ?_
        refine lv_topl (fun x_62 ex_62 => ?_)
        refine lv_lstore (lv' := [(5, .long x_62), (0, .ref h0), (1, .int p0), (2, .long p1), (4, .int p2)]) hx hb d_X_share_63 hl (by decide) rfl (fun ls hl => ?_)
        refine lv_aload_n hx hb d_X_share_65 rfl (lv_at hl 1 rfl) ?_
        refine va_get (D := (dC, dI)) (ci := 5) (v := .ref k5) (C := R_X) (T := F_X) (N := 6) hx hb hB inC_X hown hK hP 0 rfl rfl 4 (by decide) (hB _ kb_140) (fun _ h9 => h9) rfl d_X_share_66 ?_
        refine va_getN (host := "ChargeTalk") (D := (dC, dI)) (ci := 4) (v := .long to) (C := R_Li) (T := F_Li) (N := 3) hx hb hB inC_Li hown hK hP 1 rfl rfl 2 (by decide) (va_Nw.use rfl (hN _ kn_10)) (fun _ h9 => h9) rfl d_X_share_69 ?_
        refine lv_lstore (lv' := [(7, .long to), (5, .long x_62), (0, .ref h0), (1, .int p0), (2, .long p1), (4, .int p2)]) hx hb d_X_share_72 hl (by decide) rfl (fun ls hl => ?_)
        refine lv_lconst (v := 1) hx hb d_X_share_74 (by decide) ?_
        refine lv_lload hx hb d_X_share_75 (lv_at hl 1 rfl) ?_
        refine lv_lload hx hb d_X_share_77 (lv_at hl 0 rfl) ?_
        refine kc_l (va_runS (As := [.long x_62, .long to]) (rest := [.long 1]) ⟨hx, hb, hml, hown, hts⟩ (c_X_commonFactor l dC dI  H.size  x_62 to (upB c_23 w_2 ex_61 ex_62) (hq1) (by omega)) (cwS 2 hts (ginS kb_223 kb_224 kb_7 kb_222) rfl rfl rfl (by decide +kernel) ⟨Nat.le_of_ble_eq_true rfl, Nat.le_of_ble_eq_true rfl⟩) (preS (wc := []) hK hN hP hD [] rfl rfl (by decide) [] rfl) rfl rfl hl.1 rfl (lv_room (Nat.le_of_ble_eq_true rfl)) d_X_share_79 ⟨Nat.le_of_ble_eq_true rfl, Nat.le_of_ble_eq_true rfl⟩) hP hD hS hA [] [0, 1, 2] (wr := [(h0, .inr (5, [.ref k1, .ref k2, .ref k3, .ref k4, .ref k5, .int pl])), (k5, .inr (4, [.ref a4, .int cn, .long to])), (a4, .inl (e4, 10, .inl f4))]) rfl rfl (by decide) (by decide) (fun r_79 u_79 H locs hw_79 hP hD hK1 hS => ?_)
        have hw_79 : r_79.toInt = (Nat.gcd x_62.toInt.toNat to.toInt.toNat : Nat) := hw_79
        have hP : va_P (dC, dI) classes [(h0, .inr (5, [.ref k1, .ref k2, .ref k3, .ref k4, .ref k5, .int pl])), (k5, .inr (4, [.ref a4, .int cn, .long to])), (a4, .inl (e4, 10, .inl f4))] H := hP
        have hD : va_D A [(h0, .inr (5, [.ref k1, .ref k2, .ref k3, .ref k4, .ref k5, .int pl])), (k5, .inr (4, [.ref a4, .int cn, .long to])), (a4, .inl (e4, 10, .inl f4))] := hD
        refine va_mmax_long hx hb (by rw [hml]; exact hl.1.symm) hown (hB _ kb_225) (hB _ kb_226) (hB _ kb_41) (hB _ kb_227) (Nat.le_of_ble_eq_true rfl) (Nat.le_of_ble_eq_true rfl) (Nat.le_of_ble_eq_true rfl) (Nat.le_of_ble_eq_true rfl) d_X_share_82 ?_
        refine lv_topl (fun x_82 ex_82 => ?_)
        have m_1 : x_82 = r_79 := mxg (Nat.gcd_pos_of_pos_right _ (by have h9 : to.toInt ≠ 0 := fun h => c_39 (i6z.mpr h); omega)) hw_79 ex_82
        refine lv_lstore (lv' := [(9, .long x_82), (7, .long to), (5, .long x_62), (0, .ref h0), (1, .int p0), (2, .long p1), (4, .int p2)]) hx hb d_X_share_85 hl (by decide) rfl (fun ls hl => ?_)
        refine lv_iload hx hb d_X_share_87 (lv_at hl 6 rfl) ?_
        refine lv_if_ne (tgt := 100) hx hb d_X_share_89 (by decide) (fun c_89 => ?_) (fun c_89 => ?_)
        · skip
          refine lv_lload hx hb d_X_share_100 (lv_at hl 1 rfl) ?_
          refine lv_lload hx hb d_X_share_102 (lv_at hl 0 rfl) ?_
          refine lv_ldiv hx hb d_X_share_104 (mx1 ex_82) ?_
          refine lv_topl (fun x_104 ex_104 => ?_)
          have hP9 := hP.sub (ws' := [(h0, .inr (5, [.ref k1, .ref k2, .ref k3, .ref k4, .ref k5, .int pl])), (k5, .inr (4, [.ref a4, .int cn, .long to])), (a4, .inl (e4, 10, .inl f4))]) [0, 1, 2] rfl
          have hD9 := hD.sub (ws' := [(h0, .inr (5, [.ref k1, .ref k2, .ref k3, .ref k4, .ref k5, .int pl])), (k5, .inr (4, [.ref a4, .int cn, .long to])), (a4, .inl (e4, 10, .inl f4))]) [0, 1, 2] (by decide) rfl
          have hK9 := hK.sub (tys' := [(e4, .int)]) [0] rfl
          exact W.lret (v := x_104) hx hb hr (fun t ht hW => ⟨⟨x_104, (), rfl, ⟨fun h => absurd c_8 h, fun _ h => absurd c_23 h, fun _ _ => ⟨x_82, to, rfl, by rw [m_1, hw_79, ex_62, ex_61, w_1], by rw [if_neg c_89, ex_104]⟩⟩, by rw [ht]; exact hP9, va_K.moved hW.alike hK9, hD9⟩, hS.F ht⟩) hS.2.2 d_X_share_105
        · skip
          refine lv_lload hx hb d_X_share_92 (lv_at hl 2 rfl) ?_
          refine lv_lload hx hb d_X_share_94 (lv_at hl 0 rfl) ?_
          refine lv_ldiv hx hb d_X_share_96 (mx1 ex_82) ?_
          refine lv_topl (fun x_96 ex_96 => ?_)
          refine lv_goto (tgt := 105) hx hb d_X_share_97 (by decide) ?_
          have hP9 := hP.sub (ws' := [(h0, .inr (5, [.ref k1, .ref k2, .ref k3, .ref k4, .ref k5, .int pl])), (k5, .inr (4, [.ref a4, .int cn, .long to])), (a4, .inl (e4, 10, .inl f4))]) [0, 1, 2] rfl
          have hD9 := hD.sub (ws' := [(h0, .inr (5, [.ref k1, .ref k2, .ref k3, .ref k4, .ref k5, .int pl])), (k5, .inr (4, [.ref a4, .int cn, .long to])), (a4, .inl (e4, 10, .inl f4))]) [0, 1, 2] (by decide) rfl
          have hK9 := hK.sub (tys' := [(e4, .int)]) [0] rfl
          exact W.lret (v := x_96) hx hb hr (fun t ht hW => ⟨⟨x_96, (), rfl, ⟨fun h => absurd c_8 h, fun _ h => absurd c_23 h, fun _ _ => ⟨x_82, to, rfl, by rw [m_1, hw_79, ex_62, ex_61, w_1], by rw [if_pos c_89, ex_96, ex_62, ex_61, w_1]⟩⟩, by rw [ht]; exact hP9, va_K.moved hW.alike hK9, hD9⟩, hS.F ht⟩) hS.2.2 d_X_share_105
      · have c_39 := (lg_cmp_eq _ _).mp c_39
        exact absurd ⟨c_8, c_23, i6z.mp c_39⟩ hne
    · have c_23 := bi_n (hw_20.symm.trans c_23)
      refine lv_ldc2 (v := (-2)) hx hb hown (hB _ kb_228) d_X_share_26 ?_
      have hP9 := hP.sub (ws' := [(h0, .inr (5, [.ref k1, .ref k2, .ref k3, .ref k4, .ref k5, .int pl])), (k5, .inr (4, [.ref a4, .int cn, .long to])), (a4, .inl (e4, 10, .inl f4))]) [0, 2, 1] rfl
      have hD9 := hD.sub (ws' := [(h0, .inr (5, [.ref k1, .ref k2, .ref k3, .ref k4, .ref k5, .int pl])), (k5, .inr (4, [.ref a4, .int cn, .long to])), (a4, .inl (e4, 10, .inl f4))]) [0, 2, 1] (by decide) rfl
      have hK9 := hK.sub (tys' := [(e4, .int)]) [0] rfl
      exact W.lret (v := (-2)) hx hb hr (fun t ht hW => ⟨⟨(-2), (), rfl, ⟨fun h => absurd c_8 h, fun _ _ => rfl, fun _ h => absurd h c_23⟩, by rw [ht]; exact hP9, va_K.moved hW.alike hK9, hD9⟩, hS.F ht⟩) hS.2.2 d_X_share_29
  · have c_8 := bi_n (hw_5.symm.trans c_8)
    refine lv_ldc2 (v := (-1)) hx hb hown (hB _ kb_229) d_X_share_11 ?_
    have hP9 := hP.sub (ws' := [(h0, .inr (5, [.ref k1, .ref k2, .ref k3, .ref k4, .ref k5, .int pl])), (k5, .inr (4, [.ref a4, .int cn, .long to])), (a4, .inl (e4, 10, .inl f4))]) [0, 2, 1] rfl
    have hD9 := hD.sub (ws' := [(h0, .inr (5, [.ref k1, .ref k2, .ref k3, .ref k4, .ref k5, .int pl])), (k5, .inr (4, [.ref a4, .int cn, .long to])), (a4, .inl (e4, 10, .inl f4))]) [0, 2, 1] (by decide) rfl
    have hK9 := hK.sub (tys' := [(e4, .int)]) [0] rfl
    exact W.lret (v := (-1)) hx hb hr (fun t ht hW => ⟨⟨(-1), (), rfl, ⟨fun _ => rfl, fun h => absurd h c_8, fun h => absurd h c_8⟩, by rw [ht]; exact hP9, va_K.moved hW.alike hK9, hD9⟩, hS.F ht⟩) hS.2.2 d_X_share_14
set_option maxHeartbeats 4000000 in
set_option maxRecDepth 100000 in
theorem c_X_shareT (l : Launch) (dC : Nat → ClassId) (dI : Nat → Nat → Nat) (h0 : Nat) (k1 : Nat) (k2 : Nat) (k3 : Nat) (k4 : Nat) (k5 : Nat) (a4 : Nat) (e4 : ClassId) (sa : Nat) (sz : Nat) (pl : Int32) (cn : Int32) (to : Int64) (f4 : Nat → Int32) (p0 : Int32) (p1 : Int64) (p2 : Int32) (hst : l.stackTraces = false) (ht1 : 1 ≤ p0 ∧ p0 ≤ cn) (ht2 : 0 ≤ p1 ∧ p1 ≤ 1000000000000) (ht3 : to.toInt = 0) : MetFree l y_X_share (headSpec w_X_share ({ frames := 6, cells := 1, slots := 6, locals := 90 })) (fun v U => cPre dC dI [.ref h0, .int p0, .long p1, .int p2] sz [(e4, .int)] [(h0, .inr (5, [.ref k1, .ref k2, .ref k3, .ref k4, .ref k5, .int pl])), (k5, .inr (4, [.ref a4, .int cn, .long to])), (a4, .inl (e4, 10, .inl f4))] v U ∧ thr sa U) (fun _ _ _ _ _ => True) (xT 1 6) := by
  refine xT_ofW (cc := b_X_share) (maxL := 11) (ret := (some .long)) (by decide) rfl ?_
  intro p e s m args below meth c s₁ B hml hEx hv
  obtain ⟨⟨rfl, hsz, hN, hP, hK, hD0⟩, hth⟩ := hv
  have hx := B.exec
  have hb := B.bytes
  have hr := B.returns
  have hts := atoms_spec (ws := w_X_share) B.pre
  have hB := big_of hts
  have hown : s.vm.findClass R_X = some m.cls := findClass_of_methodNamed B.named
  have hlocks := B.notSynchronized
  subst hsz
  have hD := hD0.self (sz := s.heap.size)
  have hns := ns_of (ws := [(h0, .inr (5, [.ref k1, .ref k2, .ref k3, .ref k4, .ref k5, .int pl])), (k5, .inr (4, [.ref a4, .int cn, .long to])), (a4, .inl (e4, 10, .inl f4))]) hP
  generalize hAe : va_A [(h0, .inr (5, [.ref k1, .ref k2, .ref k3, .ref k4, .ref k5, .int pl])), (k5, .inr (4, [.ref a4, .int cn, .long to])), (a4, .inl (e4, 10, .inl f4))] s.heap.size = A at hD hns
  have hA : ∀ q : Nat, s.heap.size ≤ q → A q := fun q h => by rw [← hAe]; exact Or.inr h
  have hS : va_S A s.heap s.heap [] := va_S.rf
  have hP : va_P (dC, dI) classes [(h0, .inr (5, [.ref k1, .ref k2, .ref k3, .ref k4, .ref k5, .int pl])), (k5, .inr (4, [.ref a4, .int cn, .long to])), (a4, .inl (e4, 10, .inl f4))] s.heap := hP
  have hl := lv_entry ([.ref h0, .int p0, .long p1, .int p2]) (n := 11) (Nat.le_of_ble_eq_true rfl)
  rw [lg_entry_eq]
  generalize (lg_sl ([.ref h0, .int p0, .long p1, .int p2]) ++ List.replicate (11 - (lg_sl ([.ref h0, .int p0, .long p1, .int p2])).length) Slot.unset).toArray = ls at hl ⊢
  have hl : lv_has ls 11 [(0, .ref h0), (1, .int p0), (2, .long p1), (4, .int p2)] := hl
  refine lv_aload_n hx hb d_X_share_0 rfl (lv_at hl 0 rfl) ?_
  refine va_get (D := (dC, dI)) (ci := 5) (v := .ref k5) (C := R_X) (T := F_X) (N := 6) hx hb hB inC_X hown hK hP 0 rfl rfl 4 (by decide) (hB _ kb_140) (fun _ h9 => h9) rfl d_X_share_1 ?_
  refine lv_iload_n hx hb d_X_share_4 rfl (lv_at hl 1 rfl) ?_
  refine kc0_i (va_runV (As := [.int p0]) (rest := []) ⟨hx, hb, hml, hown, hts⟩ (c_Li_has0 l dC dI k5 a4 s.heap.size cn to p0 ) (cwV 1 hts (ginV kb_214 kb_215 kb_216 kb_137 kb_213) rfl rfl rfl (by decide +kernel) ⟨Nat.le_of_ble_eq_true rfl, Nat.le_of_ble_eq_true rfl⟩) (preV (ci := 4) (wc := [(k5, .inr (4, [.ref a4, .int cn, .long to]))]) hK hN hP hD [1] rfl rfl (by decide) [] rfl rfl rfl) rfl rfl hl.1 rfl (lv_room (Nat.le_of_ble_eq_true rfl)) d_X_share_5 ⟨Nat.le_of_ble_eq_true rfl, Nat.le_of_ble_eq_true rfl⟩) hP hD hS hA [1] [0, 2] (wr := [(h0, .inr (5, [.ref k1, .ref k2, .ref k3, .ref k4, .ref k5, .int pl])), (a4, .inl (e4, 10, .inl f4))]) rfl rfl (by decide) (by decide) (fun r_5 u_5 H hw_5 hP hD hK1 hS => ?_)
  have hw_5 : r_5 = bi (1 ≤ p0 ∧ p0 ≤ cn) := hw_5
  have hP : va_P (dC, dI) classes [(h0, .inr (5, [.ref k1, .ref k2, .ref k3, .ref k4, .ref k5, .int pl])), (a4, .inl (e4, 10, .inl f4)), (k5, .inr (4, [.ref a4, .int cn, .long to]))] H := hP
  have hD : va_D A [(h0, .inr (5, [.ref k1, .ref k2, .ref k3, .ref k4, .ref k5, .int pl])), (a4, .inl (e4, 10, .inl f4)), (k5, .inr (4, [.ref a4, .int cn, .long to]))] := hD
  refine lv_if_ne (tgt := 15) hx hb d_X_share_8 (by decide) (fun c_8 => ?_) (fun c_8 => absurd c_8 (by rw [hw_5, bi_t ht1]; decide))
  refine lv_lload_n hx hb d_X_share_15 rfl (lv_at hl 2 rfl) ?_
  refine lv_lconst (v := 0) hx hb d_X_share_16 (by decide) ?_
  refine lv_ldc2 (v := 1000000000000) hx hb hown (hB _ kb_217) d_X_share_17 ?_
  refine kc0_i (va_runS (As := [.long p1, .long 0, .long 1000000000000]) (rest := []) ⟨hx, hb, hml, hown, hts⟩ (c_X_isWithin0 l dC dI  H.size  p1 0 1000000000000 ) (cwS 3 hts (ginS kb_150 kb_8 kb_7 kb_6) rfl rfl rfl (by decide +kernel) ⟨Nat.le_of_ble_eq_true rfl, Nat.le_of_ble_eq_true rfl⟩) (preS (wc := []) hK hN hP hD [] rfl rfl (by decide) [] rfl) rfl rfl hl.1 rfl (lv_room (Nat.le_of_ble_eq_true rfl)) d_X_share_20 ⟨Nat.le_of_ble_eq_true rfl, Nat.le_of_ble_eq_true rfl⟩) hP hD hS hA [] [0, 1, 2] (wr := [(h0, .inr (5, [.ref k1, .ref k2, .ref k3, .ref k4, .ref k5, .int pl])), (a4, .inl (e4, 10, .inl f4)), (k5, .inr (4, [.ref a4, .int cn, .long to]))]) rfl rfl (by decide) (by decide) (fun r_20 u_20 H hw_20 hP hD hK1 hS => ?_)
  have hw_20 : r_20 = bi (0 ≤ p1 ∧ p1 ≤ 1000000000000) := hw_20
  have hP : va_P (dC, dI) classes [(h0, .inr (5, [.ref k1, .ref k2, .ref k3, .ref k4, .ref k5, .int pl])), (a4, .inl (e4, 10, .inl f4)), (k5, .inr (4, [.ref a4, .int cn, .long to]))] H := hP
  have hD : va_D A [(h0, .inr (5, [.ref k1, .ref k2, .ref k3, .ref k4, .ref k5, .int pl])), (a4, .inl (e4, 10, .inl f4)), (k5, .inr (4, [.ref a4, .int cn, .long to]))] := hD
  refine lv_if_ne (tgt := 30) hx hb d_X_share_23 (by decide) (fun c_23 => ?_) (fun c_23 => absurd c_23 (by rw [hw_20, bi_t ht2]; decide))
  refine lv_aload_n hx hb d_X_share_30 rfl (lv_at hl 0 rfl) ?_
  refine va_get (D := (dC, dI)) (ci := 5) (v := .ref k5) (C := R_X) (T := F_X) (N := 6) hx hb hB inC_X hown hK hP 0 rfl rfl 4 (by decide) (hB _ kb_140) (fun _ h9 => h9) rfl d_X_share_31 ?_
  refine va_getN (host := "ChargeTalk") (D := (dC, dI)) (ci := 4) (v := .long to) (C := R_Li) (T := F_Li) (N := 3) hx hb hB inC_Li hown hK hP 2 rfl rfl 2 (by decide) (va_Nw.use rfl (hN _ kn_10)) (fun _ h9 => h9) rfl d_X_share_34 ?_
  refine lv_lconst (v := 0) hx hb d_X_share_37 (by decide) ?_
  refine W.lcmp hx hb d_X_share_38 ?_
  refine lv_if_ne (tgt := 52) hx hb d_X_share_39 (by decide) (fun c_39 => absurd ((lg_cmp_eq _ _).mpr (i6z.mpr ht3)) c_39) (fun c_39 => ?_)
  exact x_throw hx hb hst hown (hB _ kb_230) (hB _ kb_231) (hB _ kb_232) hth hEx hlocks (hl.1.trans hml.symm) hS.1 (Nat.le_of_ble_eq_true rfl) (Nat.le_of_ble_eq_true rfl) (Nat.le_of_ble_eq_true rfl) (Nat.le_of_ble_eq_true rfl) d_X_share_42 d_X_share_45 d_X_share_46 d_X_share_48 d_X_share_51
