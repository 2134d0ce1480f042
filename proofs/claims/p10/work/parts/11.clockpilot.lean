set_option maxHeartbeats 4000000 in
set_option maxRecDepth 100000 in
theorem c_Ck_init (l : Launch) (dC : Nat → ClassId) (dI : Nat → Nat → Nat) (h0 : Nat) (sz : Nat) (told : Int64) : Met l y_Ck_init w_Ck_init ({ frames := 1, cells := 0, slots := 0, locals := 20 }) (cPre dC dI [.ref h0] sz [] [(h0, .inr (0, [.long told]))]) (va_Qv (fun (u : Int64) => True) (fun (u : Int64) (t : State) => cB dC dI (va_A [(h0, .inr (0, [.long told]))] sz) [] [(h0, .inr (0, [.long u]))] t) (va_A [(h0, .inr (0, [.long told]))] sz)) 0 0 (va_A [(h0, .inr (0, [.long told]))] sz) := by
  refine Met.ofW (cc := b_Ck_init) (maxL := 1) (ret := none) (by decide) rfl ?_
  intro p e s m args below meth c s₁ B hml hv
  obtain ⟨rfl, hsz, hN, hP, hK, hD0⟩ := hv
  have hx := B.exec
  have hb := B.bytes
  have hr := B.returns
  have hts := atoms_spec (ws := w_Ck_init) B.pre
  have hB := big_of hts
  have hown : s.vm.findClass R_Ck = some m.cls := findClass_of_methodNamed B.named
  have hlocks := B.notSynchronized
  have hin : meth.name = "<init>" := (name_of_methodNamed B.named B.method).1
  subst hsz
  have hD := hD0.self (sz := s.heap.size)
  generalize hAe : va_A [(h0, .inr (0, [.long told]))] s.heap.size = A at hD ⊢
  have hA : ∀ q : Nat, s.heap.size ≤ q → A q := fun q h => by rw [← hAe]; exact Or.inr h
  have hS : va_S A s.heap s.heap [] := va_S.rf
  have hP : va_P (dC, dI) classes [(h0, .inr (0, [.long told]))] s.heap := hP
  have hl := lv_entry ([.ref h0]) (n := 1) (Nat.le_of_ble_eq_true rfl)
  rw [lg_entry_eq]
  generalize (lg_sl ([.ref h0]) ++ List.replicate (1 - (lg_sl ([.ref h0])).length) Slot.unset).toArray = ls at hl ⊢
  have hl : lv_has ls 1 [(0, .ref h0)] := hl
  refine lv_aload_n hx hb d_Ck_init_0 rfl (lv_at hl 0 rfl) ?_
  refine W.objInit hx hb hown (hB _ kb_0) (hB _ kb_1) (hB _ kb_2) rfl (by rw [hml]; exact hl.1) rfl d_Ck_init_1 (Nat.le_of_ble_eq_true rfl) (Nat.le_of_ble_eq_true rfl) ?_
  refine W.eq (g2 := F0 m 4 ls []) rfl ?_
  refine lv_aload_n hx hb d_Ck_init_4 rfl (lv_at hl 0 rfl) ?_
  refine lv_ldc2 (v := (-9223372036854775808)) hx hb hown (hB _ kb_3) d_Ck_init_5 ?_
  refine va_put (D := (dC, dI)) (ci := 0) (v := .long (-9223372036854775808)) (ty := .long) (C := R_Ck) (T := F_Ck) (N := 1) hx hb hB inC_Ck t_Ck t_Ck_ok n_Ck hown hK hP hD hS 0 rfl rfl 0 (by decide) (hB _ kb_4) (fun _ h9 => h9) rfl (by decide +kernel) rfl rfl (Nat.le_of_ble_eq_true rfl) d_Ck_init_8 (fun H locs hP hD hS => ?_)
  have hP : va_P (dC, dI) classes [(h0, .inr (0, [.long (-9223372036854775808)]))] H := hP
  have hD : va_D A [(h0, .inr (0, [.long (-9223372036854775808)]))] := hD
  have hP9 := hP.sub (ws' := [(h0, .inr (0, [.long (-9223372036854775808)]))]) [0] rfl
  have hD9 := hD.sub (ws' := [(h0, .inr (0, [.long (-9223372036854775808)]))]) [0] (by decide) rfl
  have hK9 := hK.sub (tys' := []) [] rfl
  exact W.vret hx hb hr (fun t ht hW => ⟨⟨((-9223372036854775808)), rfl, trivial, by rw [ht]; exact hP9, va_K.moved hW.alike hK9, hD9⟩, hS.F ht⟩) hS.2.2 d_Ck_init_11
set_option maxHeartbeats 4000000 in
set_option maxRecDepth 100000 in
theorem c_Ck_canTell (l : Launch) (dC : Nat → ClassId) (dI : Nat → Nat → Nat) (h0 : Nat) (sz : Nat) (told : Int64) (p0 : Int64) : Met l y_Ck_canTell w_Ck_canTell ({ frames := 1, cells := 0, slots := 0, locals := 25 }) (cPre dC dI [.ref h0, .long p0] sz [] [(h0, .inr (0, [.long told]))]) (va_Qi (fun (r : Int32) (u : Unit) => r = bi (told ≤ p0 ∧ p0 ≤ 1125899906842624)) (fun (u : Unit) (t : State) => cB dC dI (va_A [(h0, .inr (0, [.long told]))] sz) [] [(h0, .inr (0, [.long told]))] t) (va_A [(h0, .inr (0, [.long told]))] sz)) 0 0 (va_A [(h0, .inr (0, [.long told]))] sz) := by
  refine Met.ofW (cc := b_Ck_canTell) (maxL := 3) (ret := (some .boolean)) (by decide) rfl ?_
  intro p e s m args below meth c s₁ B hml hv
  obtain ⟨rfl, hsz, hN, hP, hK, hD0⟩ := hv
  have hx := B.exec
  have hb := B.bytes
  have hr := B.returns
  have hts := atoms_spec (ws := w_Ck_canTell) B.pre
  have hB := big_of hts
  have hown : s.vm.findClass R_Ck = some m.cls := findClass_of_methodNamed B.named
  have hlocks := B.notSynchronized
  subst hsz
  have hD := hD0.self (sz := s.heap.size)
  generalize hAe : va_A [(h0, .inr (0, [.long told]))] s.heap.size = A at hD ⊢
  have hA : ∀ q : Nat, s.heap.size ≤ q → A q := fun q h => by rw [← hAe]; exact Or.inr h
  have hS : va_S A s.heap s.heap [] := va_S.rf
  have hP : va_P (dC, dI) classes [(h0, .inr (0, [.long told]))] s.heap := hP
  have hl := lv_entry ([.ref h0, .long p0]) (n := 3) (Nat.le_of_ble_eq_true rfl)
  rw [lg_entry_eq]
  generalize (lg_sl ([.ref h0, .long p0]) ++ List.replicate (3 - (lg_sl ([.ref h0, .long p0])).length) Slot.unset).toArray = ls at hl ⊢
  have hl : lv_has ls 3 [(0, .ref h0), (1, .long p0)] := hl
  refine lv_lload_n hx hb d_Ck_canTell_0 rfl (lv_at hl 1 rfl) ?_
  refine lv_aload_n hx hb d_Ck_canTell_1 rfl (lv_at hl 0 rfl) ?_
  refine va_get (D := (dC, dI)) (ci := 0) (v := .long told) (C := R_Ck) (T := F_Ck) (N := 1) hx hb hB inC_Ck hown hK hP 0 rfl rfl 0 (by decide) (hB _ kb_4) (fun _ h9 => h9) rfl d_Ck_canTell_2 ?_
  refine lv_ldc2 (v := 1125899906842624) hx hb hown (hB _ kb_5) d_Ck_canTell_5 ?_
  refine kc_i (va_runSN (As := [.long p0, .long told, .long 1125899906842624]) (rest := []) ⟨hx, hb, hml, hown, hts⟩ (c_X_isWithin l dC dI  s.heap.size  p0 told 1125899906842624 ) ⟨va_cnB 3 hts (gin kb_6) rfl rfl rfl (hN _ kn_0) (hB _ kb_7) (by decide +kernel) ⟨Nat.le_of_ble_eq_true rfl, Nat.le_of_ble_eq_true rfl⟩, (hB _ kb_8), trivial⟩ (preS (wc := []) hK hN hP hD [] rfl rfl (by decide) [] rfl) rfl rfl hl.1 rfl (lv_room (Nat.le_of_ble_eq_true rfl)) d_Ck_canTell_8 ⟨Nat.le_of_ble_eq_true rfl, Nat.le_of_ble_eq_true rfl⟩) hP hD hS hA [] [0] (wr := [(h0, .inr (0, [.long told]))]) rfl rfl (by decide) (by decide) (fun r_8 u_8 H locs hw_8 hP hD hK1 hS => ?_)
  have hw_8 : r_8 = bi (told ≤ p0 ∧ p0 ≤ 1125899906842624) := hw_8
  have hP : va_P (dC, dI) classes [(h0, .inr (0, [.long told]))] H := hP
  have hD : va_D A [(h0, .inr (0, [.long told]))] := hD
  have hP9 := hP.sub (ws' := [(h0, .inr (0, [.long told]))]) [0] rfl
  have hD9 := hD.sub (ws' := [(h0, .inr (0, [.long told]))]) [0] (by decide) rfl
  have hK9 := hK.sub (tys' := []) [] rfl
  exact W.zret (v := r_8) (ty := .boolean) hx hb hr (nar_bi hw_8) (fun t ht hW => ⟨⟨r_8, (), rfl, hw_8, by rw [ht]; exact hP9, va_K.moved hW.alike hK9, hD9⟩, hS.F ht⟩) hS.2.2 d_Ck_canTell_11
set_option maxHeartbeats 4000000 in
set_option maxRecDepth 100000 in
theorem c_Ck_tell (l : Launch) (dC : Nat → ClassId) (dI : Nat → Nat → Nat) (h0 : Nat) (sz : Nat) (told : Int64) (p0 : Int64) : Met l y_Ck_tell w_Ck_tell ({ frames := 0, cells := 0, slots := 0, locals := 0 }) (cPre dC dI [.ref h0, .long p0] sz [] [(h0, .inr (0, [.long told]))]) (va_Qv (fun (u : Int64) => u = p0) (fun (u : Int64) (t : State) => cB dC dI (va_A [(h0, .inr (0, [.long told]))] sz) [] [(h0, .inr (0, [.long u]))] t) (va_A [(h0, .inr (0, [.long told]))] sz)) 0 0 (va_A [(h0, .inr (0, [.long told]))] sz) := by
  refine Met.ofW (cc := b_Ck_tell) (maxL := 3) (ret := none) (by decide) rfl ?_
  intro p e s m args below meth c s₁ B hml hv
  obtain ⟨rfl, hsz, hN, hP, hK, hD0⟩ := hv
  have hx := B.exec
  have hb := B.bytes
  have hr := B.returns
  have hts := atoms_spec (ws := w_Ck_tell) B.pre
  have hB := big_of hts
  have hown : s.vm.findClass R_Ck = some m.cls := findClass_of_methodNamed B.named
  have hlocks := B.notSynchronized
  subst hsz
  have hD := hD0.self (sz := s.heap.size)
  generalize hAe : va_A [(h0, .inr (0, [.long told]))] s.heap.size = A at hD ⊢
  have hA : ∀ q : Nat, s.heap.size ≤ q → A q := fun q h => by rw [← hAe]; exact Or.inr h
  have hS : va_S A s.heap s.heap [] := va_S.rf
  have hP : va_P (dC, dI) classes [(h0, .inr (0, [.long told]))] s.heap := hP
  have hl := lv_entry ([.ref h0, .long p0]) (n := 3) (Nat.le_of_ble_eq_true rfl)
  rw [lg_entry_eq]
  generalize (lg_sl ([.ref h0, .long p0]) ++ List.replicate (3 - (lg_sl ([.ref h0, .long p0])).length) Slot.unset).toArray = ls at hl ⊢
  have hl : lv_has ls 3 [(0, .ref h0), (1, .long p0)] := hl
  refine lv_aload_n hx hb d_Ck_tell_0 rfl (lv_at hl 0 rfl) ?_
  refine lv_lload_n hx hb d_Ck_tell_1 rfl (lv_at hl 1 rfl) ?_
  refine va_put (D := (dC, dI)) (ci := 0) (v := .long p0) (ty := .long) (C := R_Ck) (T := F_Ck) (N := 1) hx hb hB inC_Ck t_Ck t_Ck_ok n_Ck hown hK hP hD hS 0 rfl rfl 0 (by decide) (hB _ kb_4) (fun _ h9 => h9) rfl (by decide +kernel) rfl rfl (Nat.le_of_ble_eq_true rfl) d_Ck_tell_2 (fun H locs hP hD hS => ?_)
  have hP : va_P (dC, dI) classes [(h0, .inr (0, [.long p0]))] H := hP
  have hD : va_D A [(h0, .inr (0, [.long p0]))] := hD
  have hP9 := hP.sub (ws' := [(h0, .inr (0, [.long p0]))]) [0] rfl
  have hD9 := hD.sub (ws' := [(h0, .inr (0, [.long p0]))]) [0] (by decide) rfl
  have hK9 := hK.sub (tys' := []) [] rfl
  exact W.vret hx hb hr (fun t ht hW => ⟨⟨(p0), rfl, rfl, by rw [ht]; exact hP9, va_K.moved hW.alike hK9, hD9⟩, hS.F ht⟩) hS.2.2 d_Ck_tell_5
set_option maxHeartbeats 4000000 in
set_option maxRecDepth 100000 in
theorem c_Pi_init (l : Launch) (dC : Nat → ClassId) (dI : Nat → Nat → Nat) (h0 : Nat) (sz : Nat) (lv : Int32) (th : Int64) : Met l y_Pi_init w_Pi_init ({ frames := 1, cells := 0, slots := 0, locals := 20 }) (cPre dC dI [.ref h0] sz [] [(h0, .inr (1, [.int lv, .long th]))]) (va_Qv (fun (u : Int32 × Int64) => u.1 = 0 ∧ u.2 = 0) (fun (u : Int32 × Int64) (t : State) => cB dC dI (va_A [(h0, .inr (1, [.int lv, .long th]))] sz) [] [(h0, .inr (1, [.int u.1, .long u.2]))] t) (va_A [(h0, .inr (1, [.int lv, .long th]))] sz)) 0 0 (va_A [(h0, .inr (1, [.int lv, .long th]))] sz) := by
  refine Met.ofW (cc := b_Pi_init) (maxL := 1) (ret := none) (by decide) rfl ?_
  intro p e s m args below meth c s₁ B hml hv
  obtain ⟨rfl, hsz, hN, hP, hK, hD0⟩ := hv
  have hx := B.exec
  have hb := B.bytes
  have hr := B.returns
  have hts := atoms_spec (ws := w_Pi_init) B.pre
  have hB := big_of hts
  have hown : s.vm.findClass R_Pi = some m.cls := findClass_of_methodNamed B.named
  have hlocks := B.notSynchronized
  have hin : meth.name = "<init>" := (name_of_methodNamed B.named B.method).1
  subst hsz
  have hD := hD0.self (sz := s.heap.size)
  generalize hAe : va_A [(h0, .inr (1, [.int lv, .long th]))] s.heap.size = A at hD ⊢
  have hA : ∀ q : Nat, s.heap.size ≤ q → A q := fun q h => by rw [← hAe]; exact Or.inr h
  have hS : va_S A s.heap s.heap [] := va_S.rf
  have hP : va_P (dC, dI) classes [(h0, .inr (1, [.int lv, .long th]))] s.heap := hP
  have hl := lv_entry ([.ref h0]) (n := 1) (Nat.le_of_ble_eq_true rfl)
  rw [lg_entry_eq]
  generalize (lg_sl ([.ref h0]) ++ List.replicate (1 - (lg_sl ([.ref h0])).length) Slot.unset).toArray = ls at hl ⊢
  have hl : lv_has ls 1 [(0, .ref h0)] := hl
  refine lv_aload_n hx hb d_Pi_init_0 rfl (lv_at hl 0 rfl) ?_
  refine W.objInit hx hb hown (hB _ kb_9) (hB _ kb_1) (hB _ kb_2) rfl (by rw [hml]; exact hl.1) rfl d_Pi_init_1 (Nat.le_of_ble_eq_true rfl) (Nat.le_of_ble_eq_true rfl) ?_
  refine W.eq (g2 := F0 m 4 ls []) rfl ?_
  refine lv_aload_n hx hb d_Pi_init_4 rfl (lv_at hl 0 rfl) ?_
  refine lv_iconst (v := 0) hx hb d_Pi_init_5 (by decide) ?_
  refine va_put (D := (dC, dI)) (ci := 1) (v := .int 0) (ty := .int) (C := R_Pi) (T := F_Pi) (N := 2) hx hb hB inC_Pi t_Pi t_Pi_ok n_Pi hown hK hP hD hS 0 rfl rfl 0 (by decide) (hB _ kb_10) (fun _ h9 => h9) rfl (by decide +kernel) rfl rfl (Nat.le_of_ble_eq_true rfl) d_Pi_init_6 (fun H locs hP hD hS => ?_)
  have hP : va_P (dC, dI) classes [(h0, .inr (1, [.int 0, .long th]))] H := hP
  have hD : va_D A [(h0, .inr (1, [.int 0, .long th]))] := hD
  refine lv_aload_n hx hb d_Pi_init_9 rfl (lv_at hl 0 rfl) ?_
  refine lv_lconst (v := 0) hx hb d_Pi_init_10 (by decide) ?_
  refine va_put (D := (dC, dI)) (ci := 1) (v := .long 0) (ty := .long) (C := R_Pi) (T := F_Pi) (N := 2) hx hb hB inC_Pi t_Pi t_Pi_ok n_Pi hown hK hP hD hS 0 rfl rfl 1 (by decide) (hB _ kb_11) (fun _ h9 => h9) rfl (by decide +kernel) rfl rfl (Nat.le_of_ble_eq_true rfl) d_Pi_init_11 (fun H locs hP hD hS => ?_)
  have hP : va_P (dC, dI) classes [(h0, .inr (1, [.int 0, .long 0]))] H := hP
  have hD : va_D A [(h0, .inr (1, [.int 0, .long 0]))] := hD
  have hP9 := hP.sub (ws' := [(h0, .inr (1, [.int 0, .long 0]))]) [0] rfl
  have hD9 := hD.sub (ws' := [(h0, .inr (1, [.int 0, .long 0]))]) [0] (by decide) rfl
  have hK9 := hK.sub (tys' := []) [] rfl
  exact W.vret hx hb hr (fun t ht hW => ⟨⟨(0, 0), rfl, ⟨rfl, rfl⟩, by rw [ht]; exact hP9, va_K.moved hW.alike hK9, hD9⟩, hS.F ht⟩) hS.2.2 d_Pi_init_14
set_option maxHeartbeats 4000000 in
set_option maxRecDepth 100000 in
theorem c_Pi_levelOf (l : Launch) (dC : Nat → ClassId) (dI : Nat → Nat → Nat) (sz : Nat) (p0 : Int64) : Met l y_Pi_levelOf w_Pi_levelOf ({ frames := 0, cells := 0, slots := 0, locals := 0 }) (cPre dC dI [.long p0] sz [] []) (va_Qi (fun (r : Int32) (u : Unit) => r = lev p0) (fun (u : Unit) (t : State) => cB dC dI (va_A [] sz) [] [] t) (va_A [] sz)) 0 0 (va_A [] sz) := by
  refine Met.ofW (cc := b_Pi_levelOf) (maxL := 2) (ret := (some .int)) (by decide) rfl ?_
  intro p e s m args below meth c s₁ B hml hv
  obtain ⟨rfl, hsz, hN, hP, hK, hD0⟩ := hv
  have hx := B.exec
  have hb := B.bytes
  have hr := B.returns
  have hts := atoms_spec (ws := w_Pi_levelOf) B.pre
  have hB := big_of hts
  have hown : s.vm.findClass R_Pi = some m.cls := findClass_of_methodNamed B.named
  have hlocks := B.notSynchronized
  subst hsz
  have hD := hD0.self (sz := s.heap.size)
  generalize hAe : va_A [] s.heap.size = A at hD ⊢
  have hA : ∀ q : Nat, s.heap.size ≤ q → A q := fun q h => by rw [← hAe]; exact Or.inr h
  have hS : va_S A s.heap s.heap [] := va_S.rf
  have hP : va_P (dC, dI) classes [] s.heap := hP
  have hl := lv_entry ([.long p0]) (n := 2) (Nat.le_of_ble_eq_true rfl)
  rw [lg_entry_eq]
  generalize (lg_sl ([.long p0]) ++ List.replicate (2 - (lg_sl ([.long p0])).length) Slot.unset).toArray = ls at hl ⊢
  have hl : lv_has ls 2 [(0, .long p0)] := hl
  refine lv_lload_n hx hb d_Pi_levelOf_0 rfl (lv_at hl 0 rfl) ?_
  refine lv_ldc2 (v := 12) hx hb hown (hB _ kb_12) d_Pi_levelOf_1 ?_
  refine W.lcmp hx hb d_Pi_levelOf_4 ?_
  refine lv_if_ne (tgt := 10) hx hb d_Pi_levelOf_5 (by decide) (fun c_5 => ?_) (fun c_5 => ?_)
  · have c_5 := mt (lg_cmp_eq _ _).mpr c_5
    refine lv_lload_n hx hb d_Pi_levelOf_10 rfl (lv_at hl 0 rfl) ?_
    refine lv_ldc2 (v := 9) hx hb hown (hB _ kb_13) d_Pi_levelOf_11 ?_
    refine W.lcmp hx hb d_Pi_levelOf_14 ?_
    refine lv_if_ne (tgt := 20) hx hb d_Pi_levelOf_15 (by decide) (fun c_15 => ?_) (fun c_15 => ?_)
    · have c_15 := mt (lg_cmp_eq _ _).mpr c_15
      refine lv_lload_n hx hb d_Pi_levelOf_20 rfl (lv_at hl 0 rfl) ?_
      refine lv_ldc2 (v := 6) hx hb hown (hB _ kb_14) d_Pi_levelOf_21 ?_
      refine W.lcmp hx hb d_Pi_levelOf_24 ?_
      refine lv_if_ne (tgt := 30) hx hb d_Pi_levelOf_25 (by decide) (fun c_25 => ?_) (fun c_25 => ?_)
      · have c_25 := mt (lg_cmp_eq _ _).mpr c_25
        refine lv_lload_n hx hb d_Pi_levelOf_30 rfl (lv_at hl 0 rfl) ?_
        refine lv_ldc2 (v := 3) hx hb hown (hB _ kb_15) d_Pi_levelOf_31 ?_
        refine W.lcmp hx hb d_Pi_levelOf_34 ?_
        refine lv_if_ne (tgt := 40) hx hb d_Pi_levelOf_35 (by decide) (fun c_35 => ?_) (fun c_35 => ?_)
        · have c_35 := mt (lg_cmp_eq _ _).mpr c_35
          refine lv_lload_n hx hb d_Pi_levelOf_40 rfl (lv_at hl 0 rfl) ?_
          refine lv_lconst (v := 0) hx hb d_Pi_levelOf_41 (by decide) ?_
          refine W.lcmp hx hb d_Pi_levelOf_42 ?_
          refine lv_if_ne (tgt := 48) hx hb d_Pi_levelOf_43 (by decide) (fun c_43 => ?_) (fun c_43 => ?_)
          · have c_43 := mt (lg_cmp_eq _ _).mpr c_43
            refine lv_lload_n hx hb d_Pi_levelOf_48 rfl (lv_at hl 0 rfl) ?_
            refine lv_ldc2 (v := (-12)) hx hb hown (hB _ kb_16) d_Pi_levelOf_49 ?_
            refine W.lcmp hx hb d_Pi_levelOf_52 ?_
            refine lv_if_ne (tgt := 60) hx hb d_Pi_levelOf_53 (by decide) (fun c_53 => ?_) (fun c_53 => ?_)
            · have c_53 := mt (lg_cmp_eq _ _).mpr c_53
              refine lv_bipush (v := 6) hx hb d_Pi_levelOf_60 (by decide) ?_
              have hP9 := hP.sub (ws' := []) [] rfl
              have hD9 := hD.sub (ws' := []) [] (by decide) rfl
              have hK9 := hK.sub (tys' := []) [] rfl
              exact W.iret (v := 6) hx hb hr (fun t ht hW => ⟨⟨6, (), rfl, by rw [lev, if_neg c_5, if_neg c_15, if_neg c_25, if_neg c_35, if_neg c_43, if_neg c_53], by rw [ht]; exact hP9, va_K.moved hW.alike hK9, hD9⟩, hS.F ht⟩) hS.2.2 d_Pi_levelOf_62
            · have c_53 := (lg_cmp_eq _ _).mp c_53
              refine lv_iconst (v := 5) hx hb d_Pi_levelOf_56 (by decide) ?_
              refine lv_goto (tgt := 62) hx hb d_Pi_levelOf_57 (by decide) ?_
              have hP9 := hP.sub (ws' := []) [] rfl
              have hD9 := hD.sub (ws' := []) [] (by decide) rfl
              have hK9 := hK.sub (tys' := []) [] rfl
              exact W.iret (v := 5) hx hb hr (fun t ht hW => ⟨⟨5, (), rfl, by rw [lev, if_neg c_5, if_neg c_15, if_neg c_25, if_neg c_35, if_neg c_43, if_pos c_53], by rw [ht]; exact hP9, va_K.moved hW.alike hK9, hD9⟩, hS.F ht⟩) hS.2.2 d_Pi_levelOf_62
          · have c_43 := (lg_cmp_eq _ _).mp c_43
            refine lv_iconst (v := 4) hx hb d_Pi_levelOf_46 (by decide) ?_
            have hP9 := hP.sub (ws' := []) [] rfl
            have hD9 := hD.sub (ws' := []) [] (by decide) rfl
            have hK9 := hK.sub (tys' := []) [] rfl
            exact W.iret (v := 4) hx hb hr (fun t ht hW => ⟨⟨4, (), rfl, by rw [lev, if_neg c_5, if_neg c_15, if_neg c_25, if_neg c_35, if_pos c_43], by rw [ht]; exact hP9, va_K.moved hW.alike hK9, hD9⟩, hS.F ht⟩) hS.2.2 d_Pi_levelOf_47
        · have c_35 := (lg_cmp_eq _ _).mp c_35
          refine lv_iconst (v := 3) hx hb d_Pi_levelOf_38 (by decide) ?_
          have hP9 := hP.sub (ws' := []) [] rfl
          have hD9 := hD.sub (ws' := []) [] (by decide) rfl
          have hK9 := hK.sub (tys' := []) [] rfl
          exact W.iret (v := 3) hx hb hr (fun t ht hW => ⟨⟨3, (), rfl, by rw [lev, if_neg c_5, if_neg c_15, if_neg c_25, if_pos c_35], by rw [ht]; exact hP9, va_K.moved hW.alike hK9, hD9⟩, hS.F ht⟩) hS.2.2 d_Pi_levelOf_39
      · have c_25 := (lg_cmp_eq _ _).mp c_25
        refine lv_iconst (v := 2) hx hb d_Pi_levelOf_28 (by decide) ?_
        have hP9 := hP.sub (ws' := []) [] rfl
        have hD9 := hD.sub (ws' := []) [] (by decide) rfl
        have hK9 := hK.sub (tys' := []) [] rfl
        exact W.iret (v := 2) hx hb hr (fun t ht hW => ⟨⟨2, (), rfl, by rw [lev, if_neg c_5, if_neg c_15, if_pos c_25], by rw [ht]; exact hP9, va_K.moved hW.alike hK9, hD9⟩, hS.F ht⟩) hS.2.2 d_Pi_levelOf_29
    · have c_15 := (lg_cmp_eq _ _).mp c_15
      refine lv_iconst (v := 1) hx hb d_Pi_levelOf_18 (by decide) ?_
      have hP9 := hP.sub (ws' := []) [] rfl
      have hD9 := hD.sub (ws' := []) [] (by decide) rfl
      have hK9 := hK.sub (tys' := []) [] rfl
      exact W.iret (v := 1) hx hb hr (fun t ht hW => ⟨⟨1, (), rfl, by rw [lev, if_neg c_5, if_pos c_15], by rw [ht]; exact hP9, va_K.moved hW.alike hK9, hD9⟩, hS.F ht⟩) hS.2.2 d_Pi_levelOf_19
  · have c_5 := (lg_cmp_eq _ _).mp c_5
    refine lv_iconst (v := 0) hx hb d_Pi_levelOf_8 (by decide) ?_
    have hP9 := hP.sub (ws' := []) [] rfl
    have hD9 := hD.sub (ws' := []) [] (by decide) rfl
    have hK9 := hK.sub (tys' := []) [] rfl
    exact W.iret (v := 0) hx hb hr (fun t ht hW => ⟨⟨0, (), rfl, by rw [lev, if_pos c_5], by rw [ht]; exact hP9, va_K.moved hW.alike hK9, hD9⟩, hS.F ht⟩) hS.2.2 d_Pi_levelOf_9
set_option maxHeartbeats 4000000 in
set_option maxRecDepth 100000 in
theorem c_Pi_tenthsFor (l : Launch) (dC : Nat → ClassId) (dI : Nat → Nat → Nat) (sz : Nat) (p0 : Int32) : Met l y_Pi_tenthsFor w_Pi_tenthsFor ({ frames := 0, cells := 0, slots := 0, locals := 0 }) (cPre dC dI [.int p0] sz [] []) (va_Qi (fun (r : Int32) (u : Unit) => r = tf p0) (fun (u : Unit) (t : State) => cB dC dI (va_A [] sz) [] [] t) (va_A [] sz)) 0 0 (va_A [] sz) := by
  refine Met.ofW (cc := b_Pi_tenthsFor) (maxL := 1) (ret := (some .int)) (by decide) rfl ?_
  intro p e s m args below meth c s₁ B hml hv
  obtain ⟨rfl, hsz, hN, hP, hK, hD0⟩ := hv
  have hx := B.exec
  have hb := B.bytes
  have hr := B.returns
  have hts := atoms_spec (ws := w_Pi_tenthsFor) B.pre
  have hB := big_of hts
  have hown : s.vm.findClass R_Pi = some m.cls := findClass_of_methodNamed B.named
  have hlocks := B.notSynchronized
  subst hsz
  have hD := hD0.self (sz := s.heap.size)
  generalize hAe : va_A [] s.heap.size = A at hD ⊢
  have hA : ∀ q : Nat, s.heap.size ≤ q → A q := fun q h => by rw [← hAe]; exact Or.inr h
  have hS : va_S A s.heap s.heap [] := va_S.rf
  have hP : va_P (dC, dI) classes [] s.heap := hP
  have hl := lv_entry ([.int p0]) (n := 1) (Nat.le_of_ble_eq_true rfl)
  rw [lg_entry_eq]
  generalize (lg_sl ([.int p0]) ++ List.replicate (1 - (lg_sl ([.int p0])).length) Slot.unset).toArray = ls at hl ⊢
  have hl : lv_has ls 1 [(0, .int p0)] := hl
  refine lv_iload_n hx hb d_Pi_tenthsFor_0 rfl (lv_at hl 0 rfl) ?_
  refine lv_bipush (v := 80) hx hb d_Pi_tenthsFor_1 (by decide) ?_
  refine lv_icmp_lt (tgt := 13) hx hb d_Pi_tenthsFor_3 (by decide) (fun c_3 => ?_) (fun c_3 => ?_)
  · skip
    refine lv_iconst (v := 0) hx hb d_Pi_tenthsFor_13 (by decide) ?_
    have hP9 := hP.sub (ws' := []) [] rfl
    have hD9 := hD.sub (ws' := []) [] (by decide) rfl
    have hK9 := hK.sub (tys' := []) [] rfl
    exact W.iret (v := 0) hx hb hr (fun t ht hW => ⟨⟨0, (), rfl, by rw [tf, if_pos (Or.inl c_3)], by rw [ht]; exact hP9, va_K.moved hW.alike hK9, hD9⟩, hS.F ht⟩) hS.2.2 d_Pi_tenthsFor_14
  · skip
    refine lv_iload_n hx hb d_Pi_tenthsFor_6 rfl (lv_at hl 0 rfl) ?_
    refine lv_sipush (v := 970) hx hb d_Pi_tenthsFor_7 (by decide) ?_
    refine lv_icmp_le (tgt := 15) hx hb d_Pi_tenthsFor_10 (by decide) (fun c_10 => ?_) (fun c_10 => ?_)
    · skip
      refine lv_iload_n hx hb d_Pi_tenthsFor_15 rfl (lv_at hl 0 rfl) ?_
      refine lv_bipush (v := 100) hx hb d_Pi_tenthsFor_16 (by decide) ?_
      refine lv_icmp_ge (tgt := 24) hx hb d_Pi_tenthsFor_18 (by decide) (fun c_18 => ?_) (fun c_18 => ?_)
      · skip
        refine lv_iload_n hx hb d_Pi_tenthsFor_24 rfl (lv_at hl 0 rfl) ?_
        refine lv_sipush (v := 850) hx hb d_Pi_tenthsFor_25 (by decide) ?_
        refine lv_icmp_gt (tgt := 39) hx hb d_Pi_tenthsFor_28 (by decide) (fun c_28 => ?_) (fun c_28 => ?_)
        · skip
          refine lv_iload_n hx hb d_Pi_tenthsFor_39 rfl (lv_at hl 0 rfl) ?_
          refine lv_sipush (v := 960) hx hb d_Pi_tenthsFor_40 (by decide) ?_
          refine lv_icmp_gt (tgt := 60) hx hb d_Pi_tenthsFor_43 (by decide) (fun c_43 => ?_) (fun c_43 => ?_)
          · skip
            refine lv_sipush (v := 800) hx hb d_Pi_tenthsFor_60 (by decide) ?_
            have hP9 := hP.sub (ws' := []) [] rfl
            have hD9 := hD.sub (ws' := []) [] (by decide) rfl
            have hK9 := hK.sub (tys' := []) [] rfl
            exact W.iret (v := 800) hx hb hr (fun t ht hW => ⟨⟨800, (), rfl, by rw [tf, if_neg (fun h => h.elim c_3 (Int32.not_lt.mpr c_10)), if_neg (Int32.not_lt.mpr c_18), if_neg (Int32.not_le.mpr c_28), if_neg (Int32.not_le.mpr c_43)], by rw [ht]; exact hP9, va_K.moved hW.alike hK9, hD9⟩, hS.F ht⟩) hS.2.2 d_Pi_tenthsFor_63
          · skip
            refine lv_bipush (v := 25) hx hb d_Pi_tenthsFor_46 (by decide) ?_
            refine lv_iload_n hx hb d_Pi_tenthsFor_48 rfl (lv_at hl 0 rfl) ?_
            refine lv_sipush (v := 640) hx hb d_Pi_tenthsFor_49 (by decide) ?_
            refine lv_isub hx hb d_Pi_tenthsFor_52 ?_
            refine lv_topi (fun x_52 ex_52 => ?_)
            refine lv_imul hx hb d_Pi_tenthsFor_53 ?_
            refine lv_topi (fun x_53 ex_53 => ?_)
            refine lv_bipush (v := 10) hx hb d_Pi_tenthsFor_54 (by decide) ?_
            refine lv_idiv hx hb d_Pi_tenthsFor_56 (by decide) ?_
            refine lv_topi (fun x_56 ex_56 => ?_)
            refine lv_goto (tgt := 63) hx hb d_Pi_tenthsFor_57 (by decide) ?_
            have hP9 := hP.sub (ws' := []) [] rfl
            have hD9 := hD.sub (ws' := []) [] (by decide) rfl
            have hK9 := hK.sub (tys' := []) [] rfl
            exact W.iret (v := x_56) hx hb hr (fun t ht hW => ⟨⟨x_56, (), rfl, by rw [tf, if_neg (fun h => h.elim c_3 (Int32.not_lt.mpr c_10)), if_neg (Int32.not_lt.mpr c_18), if_neg (Int32.not_le.mpr c_28), if_pos (Int32.not_lt.mp c_43), ex_56, ex_53, ex_52], by rw [ht]; exact hP9, va_K.moved hW.alike hK9, hD9⟩, hS.F ht⟩) hS.2.2 d_Pi_tenthsFor_63
        · skip
          refine lv_bipush (v := 6) hx hb d_Pi_tenthsFor_31 (by decide) ?_
          refine lv_iload_n hx hb d_Pi_tenthsFor_33 rfl (lv_at hl 0 rfl) ?_
          refine lv_imul hx hb d_Pi_tenthsFor_34 ?_
          refine lv_topi (fun x_34 ex_34 => ?_)
          refine lv_bipush (v := 10) hx hb d_Pi_tenthsFor_35 (by decide) ?_
          refine lv_idiv hx hb d_Pi_tenthsFor_37 (by decide) ?_
          refine lv_topi (fun x_37 ex_37 => ?_)
          have hP9 := hP.sub (ws' := []) [] rfl
          have hD9 := hD.sub (ws' := []) [] (by decide) rfl
          have hK9 := hK.sub (tys' := []) [] rfl
          exact W.iret (v := x_37) hx hb hr (fun t ht hW => ⟨⟨x_37, (), rfl, by rw [tf, if_neg (fun h => h.elim c_3 (Int32.not_lt.mpr c_10)), if_neg (Int32.not_lt.mpr c_18), if_pos (Int32.not_lt.mp c_28), ex_37, ex_34], by rw [ht]; exact hP9, va_K.moved hW.alike hK9, hD9⟩, hS.F ht⟩) hS.2.2 d_Pi_tenthsFor_38
      · skip
        refine lv_bipush (v := 60) hx hb d_Pi_tenthsFor_21 (by decide) ?_
        have hP9 := hP.sub (ws' := []) [] rfl
        have hD9 := hD.sub (ws' := []) [] (by decide) rfl
        have hK9 := hK.sub (tys' := []) [] rfl
        exact W.iret (v := 60) hx hb hr (fun t ht hW => ⟨⟨60, (), rfl, by rw [tf, if_neg (fun h => h.elim c_3 (Int32.not_lt.mpr c_10)), if_pos (Int32.not_le.mp c_18)], by rw [ht]; exact hP9, va_K.moved hW.alike hK9, hD9⟩, hS.F ht⟩) hS.2.2 d_Pi_tenthsFor_23
    · skip
      refine lv_iconst (v := 0) hx hb d_Pi_tenthsFor_13 (by decide) ?_
      have hP9 := hP.sub (ws' := []) [] rfl
      have hD9 := hD.sub (ws' := []) [] (by decide) rfl
      have hK9 := hK.sub (tys' := []) [] rfl
      exact W.iret (v := 0) hx hb hr (fun t ht hW => ⟨⟨0, (), rfl, by rw [tf, if_pos (Or.inr (Int32.not_le.mp c_10))], by rw [ht]; exact hP9, va_K.moved hW.alike hK9, hD9⟩, hS.F ht⟩) hS.2.2 d_Pi_tenthsFor_14
set_option maxHeartbeats 4000000 in
set_option maxRecDepth 100000 in
theorem c_Pi_set (l : Launch) (dC : Nat → ClassId) (dI : Nat → Nat → Nat) (h0 : Nat) (sz : Nat) (lv : Int32) (th : Int64) (p0 : Int64) (p1 : Int64) : Met l y_Pi_set w_Pi_set ({ frames := 1, cells := 0, slots := 0, locals := 25 }) (cPre dC dI [.ref h0, .long p0, .long p1] sz [] [(h0, .inr (1, [.int lv, .long th]))]) (va_Qv (fun (u : Int32 × Int64) => u.1 = lvl p0 p1 ∧ u.2 = p0) (fun (u : Int32 × Int64) (t : State) => cB dC dI (va_A [(h0, .inr (1, [.int lv, .long th]))] sz) [] [(h0, .inr (1, [.int u.1, .long u.2]))] t) (va_A [(h0, .inr (1, [.int lv, .long th]))] sz)) 0 0 (va_A [(h0, .inr (1, [.int lv, .long th]))] sz) := by
  refine Met.ofW (cc := b_Pi_set) (maxL := 5) (ret := none) (by decide) rfl ?_
  intro p e s m args below meth c s₁ B hml hv
  obtain ⟨rfl, hsz, hN, hP, hK, hD0⟩ := hv
  have hx := B.exec
  have hb := B.bytes
  have hr := B.returns
  have hts := atoms_spec (ws := w_Pi_set) B.pre
  have hB := big_of hts
  have hown : s.vm.findClass R_Pi = some m.cls := findClass_of_methodNamed B.named
  have hlocks := B.notSynchronized
  subst hsz
  have hD := hD0.self (sz := s.heap.size)
  generalize hAe : va_A [(h0, .inr (1, [.int lv, .long th]))] s.heap.size = A at hD ⊢
  have hA : ∀ q : Nat, s.heap.size ≤ q → A q := fun q h => by rw [← hAe]; exact Or.inr h
  have hS : va_S A s.heap s.heap [] := va_S.rf
  have hP : va_P (dC, dI) classes [(h0, .inr (1, [.int lv, .long th]))] s.heap := hP
  have hl := lv_entry ([.ref h0, .long p0, .long p1]) (n := 5) (Nat.le_of_ble_eq_true rfl)
  rw [lg_entry_eq]
  generalize (lg_sl ([.ref h0, .long p0, .long p1]) ++ List.replicate (5 - (lg_sl ([.ref h0, .long p0, .long p1])).length) Slot.unset).toArray = ls at hl ⊢
  have hl : lv_has ls 5 [(0, .ref h0), (1, .long p0), (3, .long p1)] := hl
  refine lv_aload_n hx hb d_Pi_set_0 rfl (lv_at hl 0 rfl) ?_
  refine lv_lload_n hx hb d_Pi_set_1 rfl (lv_at hl 1 rfl) ?_
  refine va_put (D := (dC, dI)) (ci := 1) (v := .long p0) (ty := .long) (C := R_Pi) (T := F_Pi) (N := 2) hx hb hB inC_Pi t_Pi t_Pi_ok n_Pi hown hK hP hD hS 0 rfl rfl 1 (by decide) (hB _ kb_11) (fun _ h9 => h9) rfl (by decide +kernel) rfl rfl (Nat.le_of_ble_eq_true rfl) d_Pi_set_2 (fun H locs hP hD hS => ?_)
  have hP : va_P (dC, dI) classes [(h0, .inr (1, [.int lv, .long p0]))] H := hP
  have hD : va_D A [(h0, .inr (1, [.int lv, .long p0]))] := hD
  refine lv_aload_n hx hb d_Pi_set_5 rfl (lv_at hl 0 rfl) ?_
  refine lv_lload_n hx hb d_Pi_set_6 rfl (lv_at hl 1 rfl) ?_
  refine lv_lconst (v := 0) hx hb d_Pi_set_7 (by decide) ?_
  refine lv_ldc2 (v := 1000) hx hb hown (hB _ kb_17) d_Pi_set_8 ?_
  refine kc_i (va_runSN (As := [.long p0, .long 0, .long 1000]) (rest := [.ref h0]) ⟨hx, hb, hml, hown, hts⟩ (c_X_isWithin l dC dI  H.size  p0 0 1000 ) ⟨va_cnB 3 hts (gin kb_6) rfl rfl rfl (hN _ kn_1) (hB _ kb_7) (by decide +kernel) ⟨Nat.le_of_ble_eq_true rfl, Nat.le_of_ble_eq_true rfl⟩, (hB _ kb_8), trivial⟩ (preS (wc := []) hK hN hP hD [] rfl rfl (by decide) [] rfl) rfl rfl hl.1 rfl (lv_room (Nat.le_of_ble_eq_true rfl)) d_Pi_set_11 ⟨Nat.le_of_ble_eq_true rfl, Nat.le_of_ble_eq_true rfl⟩) hP hD hS hA [] [0] (wr := [(h0, .inr (1, [.int lv, .long p0]))]) rfl rfl (by decide) (by decide) (fun r_11 u_11 H locs hw_11 hP hD hK1 hS => ?_)
  have hw_11 : r_11 = bi (0 ≤ p0 ∧ p0 ≤ 1000) := hw_11
  have hP : va_P (dC, dI) classes [(h0, .inr (1, [.int lv, .long p0]))] H := hP
  have hD : va_D A [(h0, .inr (1, [.int lv, .long p0]))] := hD
  refine lv_if_eq (tgt := 24) hx hb d_Pi_set_14 (by decide) (fun c_14 => ?_) (fun c_14 => ?_)
  · have c_14 := bi_n (hw_11.symm.trans c_14)
    refine lv_bipush (v := 6) hx hb d_Pi_set_24 (by decide) ?_
    refine va_put (D := (dC, dI)) (ci := 1) (v := .int 6) (ty := .int) (C := R_Pi) (T := F_Pi) (N := 2) hx hb hB inC_Pi t_Pi t_Pi_ok n_Pi hown hK hP hD hS 0 rfl rfl 0 (by decide) (hB _ kb_10) (fun _ h9 => h9) rfl (by decide +kernel) rfl rfl (Nat.le_of_ble_eq_true rfl) d_Pi_set_26 (fun H locs hP hD hS => ?_)
    have hP : va_P (dC, dI) classes [(h0, .inr (1, [.int 6, .long p0]))] H := hP
    have hD : va_D A [(h0, .inr (1, [.int 6, .long p0]))] := hD
    have hP9 := hP.sub (ws' := [(h0, .inr (1, [.int 6, .long p0]))]) [0] rfl
    have hD9 := hD.sub (ws' := [(h0, .inr (1, [.int 6, .long p0]))]) [0] (by decide) rfl
    have hK9 := hK.sub (tys' := []) [] rfl
    exact W.vret hx hb hr (fun t ht hW => ⟨⟨(6, p0), rfl, ⟨(if_neg c_14).symm, rfl⟩, by rw [ht]; exact hP9, va_K.moved hW.alike hK9, hD9⟩, hS.F ht⟩) hS.2.2 d_Pi_set_29
  · have c_14 := bi_y hw_11 c_14
    refine lv_lload_n hx hb d_Pi_set_17 rfl (lv_at hl 2 rfl) ?_
    refine kc_i (va_runS (As := [.long p1]) (rest := [.ref h0]) ⟨hx, hb, hml, hown, hts⟩ (c_Pi_levelOf l dC dI  H.size  p1 ) (cwS 1 hts (ginS kb_19 kb_20 kb_21 kb_18) rfl rfl rfl (by decide +kernel) ⟨Nat.le_of_ble_eq_true rfl, Nat.le_of_ble_eq_true rfl⟩) (preS (wc := []) hK hN hP hD [] rfl rfl (by decide) [] rfl) rfl rfl hl.1 rfl (lv_room (Nat.le_of_ble_eq_true rfl)) d_Pi_set_18 ⟨Nat.le_of_ble_eq_true rfl, Nat.le_of_ble_eq_true rfl⟩) hP hD hS hA [] [0] (wr := [(h0, .inr (1, [.int lv, .long p0]))]) rfl rfl (by decide) (by decide) (fun r_18 u_18 H locs hw_18 hP hD hK1 hS => ?_)
    have hw_18 : r_18 = lev p1 := hw_18
    have hP : va_P (dC, dI) classes [(h0, .inr (1, [.int lv, .long p0]))] H := hP
    have hD : va_D A [(h0, .inr (1, [.int lv, .long p0]))] := hD
    refine lv_goto (tgt := 26) hx hb d_Pi_set_21 (by decide) ?_
    refine va_put (D := (dC, dI)) (ci := 1) (v := .int r_18) (ty := .int) (C := R_Pi) (T := F_Pi) (N := 2) hx hb hB inC_Pi t_Pi t_Pi_ok n_Pi hown hK hP hD hS 0 rfl rfl 0 (by decide) (hB _ kb_10) (fun _ h9 => h9) rfl (by decide +kernel) rfl rfl (Nat.le_of_ble_eq_true rfl) d_Pi_set_26 (fun H locs hP hD hS => ?_)
    have hP : va_P (dC, dI) classes [(h0, .inr (1, [.int r_18, .long p0]))] H := hP
    have hD : va_D A [(h0, .inr (1, [.int r_18, .long p0]))] := hD
    have hP9 := hP.sub (ws' := [(h0, .inr (1, [.int r_18, .long p0]))]) [0] rfl
    have hD9 := hD.sub (ws' := [(h0, .inr (1, [.int r_18, .long p0]))]) [0] (by decide) rfl
    have hK9 := hK.sub (tys' := []) [] rfl
    exact W.vret hx hb hr (fun t ht hW => ⟨⟨(r_18, p0), rfl, ⟨hw_18.trans (if_pos c_14).symm, rfl⟩, by rw [ht]; exact hP9, va_K.moved hW.alike hK9, hD9⟩, hS.F ht⟩) hS.2.2 d_Pi_set_29
set_option maxHeartbeats 4000000 in
set_option maxRecDepth 100000 in
theorem c_Pi_isConnected (l : Launch) (dC : Nat → ClassId) (dI : Nat → Nat → Nat) (h0 : Nat) (sz : Nat) (lv : Int32) (th : Int64) : Met l y_Pi_isConnected w_Pi_isConnected ({ frames := 0, cells := 0, slots := 0, locals := 0 }) (cPre dC dI [.ref h0] sz [] [(h0, .inr (1, [.int lv, .long th]))]) (va_Qi (fun (r : Int32) (u : Unit) => r = bi (1 ≤ lv ∧ lv ≤ 3)) (fun (u : Unit) (t : State) => cB dC dI (va_A [(h0, .inr (1, [.int lv, .long th]))] sz) [] [(h0, .inr (1, [.int lv, .long th]))] t) (va_A [(h0, .inr (1, [.int lv, .long th]))] sz)) 0 0 (va_A [(h0, .inr (1, [.int lv, .long th]))] sz) := by
  refine Met.ofW (cc := b_Pi_isConnected) (maxL := 1) (ret := (some .boolean)) (by decide) rfl ?_
  intro p e s m args below meth c s₁ B hml hv
  obtain ⟨rfl, hsz, hN, hP, hK, hD0⟩ := hv
  have hx := B.exec
  have hb := B.bytes
  have hr := B.returns
  have hts := atoms_spec (ws := w_Pi_isConnected) B.pre
  have hB := big_of hts
  have hown : s.vm.findClass R_Pi = some m.cls := findClass_of_methodNamed B.named
  have hlocks := B.notSynchronized
  subst hsz
  have hD := hD0.self (sz := s.heap.size)
  generalize hAe : va_A [(h0, .inr (1, [.int lv, .long th]))] s.heap.size = A at hD ⊢
  have hA : ∀ q : Nat, s.heap.size ≤ q → A q := fun q h => by rw [← hAe]; exact Or.inr h
  have hS : va_S A s.heap s.heap [] := va_S.rf
  have hP : va_P (dC, dI) classes [(h0, .inr (1, [.int lv, .long th]))] s.heap := hP
  have hl := lv_entry ([.ref h0]) (n := 1) (Nat.le_of_ble_eq_true rfl)
  rw [lg_entry_eq]
  generalize (lg_sl ([.ref h0]) ++ List.replicate (1 - (lg_sl ([.ref h0])).length) Slot.unset).toArray = ls at hl ⊢
  have hl : lv_has ls 1 [(0, .ref h0)] := hl
  refine lv_aload_n hx hb d_Pi_isConnected_0 rfl (lv_at hl 0 rfl) ?_
  refine va_get (D := (dC, dI)) (ci := 1) (v := .int lv) (C := R_Pi) (T := F_Pi) (N := 2) hx hb hB inC_Pi hown hK hP 0 rfl rfl 0 (by decide) (hB _ kb_10) (fun _ h9 => h9) rfl d_Pi_isConnected_1 ?_
  refine lv_iconst (v := 1) hx hb d_Pi_isConnected_4 (by decide) ?_
  refine lv_icmp_lt (tgt := 20) hx hb d_Pi_isConnected_5 (by decide) (fun c_5 => ?_) (fun c_5 => ?_)
  · skip
    refine lv_iconst (v := 0) hx hb d_Pi_isConnected_20 (by decide) ?_
    have hP9 := hP.sub (ws' := [(h0, .inr (1, [.int lv, .long th]))]) [0] rfl
    have hD9 := hD.sub (ws' := [(h0, .inr (1, [.int lv, .long th]))]) [0] (by decide) rfl
    have hK9 := hK.sub (tys' := []) [] rfl
    exact W.zret (v := 0) (ty := .boolean) hx hb hr (rfl) (fun t ht hW => ⟨⟨0, (), rfl, (bi_f (fun h => absurd h.1 (Int32.not_le.mpr c_5))).symm, by rw [ht]; exact hP9, va_K.moved hW.alike hK9, hD9⟩, hS.F ht⟩) hS.2.2 d_Pi_isConnected_21
  · skip
    refine lv_aload_n hx hb d_Pi_isConnected_8 rfl (lv_at hl 0 rfl) ?_
    refine va_get (D := (dC, dI)) (ci := 1) (v := .int lv) (C := R_Pi) (T := F_Pi) (N := 2) hx hb hB inC_Pi hown hK hP 0 rfl rfl 0 (by decide) (hB _ kb_10) (fun _ h9 => h9) rfl d_Pi_isConnected_9 ?_
    refine lv_iconst (v := 3) hx hb d_Pi_isConnected_12 (by decide) ?_
    refine lv_icmp_gt (tgt := 20) hx hb d_Pi_isConnected_13 (by decide) (fun c_13 => ?_) (fun c_13 => ?_)
    · skip
      refine lv_iconst (v := 0) hx hb d_Pi_isConnected_20 (by decide) ?_
      have hP9 := hP.sub (ws' := [(h0, .inr (1, [.int lv, .long th]))]) [0] rfl
      have hD9 := hD.sub (ws' := [(h0, .inr (1, [.int lv, .long th]))]) [0] (by decide) rfl
      have hK9 := hK.sub (tys' := []) [] rfl
      exact W.zret (v := 0) (ty := .boolean) hx hb hr (rfl) (fun t ht hW => ⟨⟨0, (), rfl, (bi_f (fun h => absurd h.2 (Int32.not_le.mpr c_13))).symm, by rw [ht]; exact hP9, va_K.moved hW.alike hK9, hD9⟩, hS.F ht⟩) hS.2.2 d_Pi_isConnected_21
    · skip
      refine lv_iconst (v := 1) hx hb d_Pi_isConnected_16 (by decide) ?_
      refine lv_goto (tgt := 21) hx hb d_Pi_isConnected_17 (by decide) ?_
      have hP9 := hP.sub (ws' := [(h0, .inr (1, [.int lv, .long th]))]) [0] rfl
      have hD9 := hD.sub (ws' := [(h0, .inr (1, [.int lv, .long th]))]) [0] (by decide) rfl
      have hK9 := hK.sub (tys' := []) [] rfl
      exact W.zret (v := 1) (ty := .boolean) hx hb hr (rfl) (fun t ht hW => ⟨⟨1, (), rfl, (bi_t ⟨Int32.not_lt.mp c_5, Int32.not_lt.mp c_13⟩).symm, by rw [ht]; exact hP9, va_K.moved hW.alike hK9, hD9⟩, hS.F ht⟩) hS.2.2 d_Pi_isConnected_21
set_option maxHeartbeats 4000000 in
set_option maxRecDepth 100000 in
theorem c_Pi_isDigital (l : Launch) (dC : Nat → ClassId) (dI : Nat → Nat → Nat) (h0 : Nat) (sz : Nat) (lv : Int32) (th : Int64) : Met l y_Pi_isDigital w_Pi_isDigital ({ frames := 1, cells := 0, slots := 0, locals := 25 }) (cPre dC dI [.ref h0] sz [] [(h0, .inr (1, [.int lv, .long th]))]) (va_Qi (fun (r : Int32) (u : Unit) => True) (fun (u : Unit) (t : State) => cB dC dI (va_A [(h0, .inr (1, [.int lv, .long th]))] sz) [] [(h0, .inr (1, [.int lv, .long th]))] t) (va_A [(h0, .inr (1, [.int lv, .long th]))] sz)) 0 0 (va_A [(h0, .inr (1, [.int lv, .long th]))] sz) := by
  refine Met.ofW (cc := b_Pi_isDigital) (maxL := 1) (ret := (some .boolean)) (by decide) rfl ?_
  intro p e s m args below meth c s₁ B hml hv
  obtain ⟨rfl, hsz, hN, hP, hK, hD0⟩ := hv
  have hx := B.exec
  have hb := B.bytes
  have hr := B.returns
  have hts := atoms_spec (ws := w_Pi_isDigital) B.pre
  have hB := big_of hts
  have hown : s.vm.findClass R_Pi = some m.cls := findClass_of_methodNamed B.named
  have hlocks := B.notSynchronized
  subst hsz
  have hD := hD0.self (sz := s.heap.size)
  generalize hAe : va_A [(h0, .inr (1, [.int lv, .long th]))] s.heap.size = A at hD ⊢
  have hA : ∀ q : Nat, s.heap.size ≤ q → A q := fun q h => by rw [← hAe]; exact Or.inr h
  have hS : va_S A s.heap s.heap [] := va_S.rf
  have hP : va_P (dC, dI) classes [(h0, .inr (1, [.int lv, .long th]))] s.heap := hP
  have hl := lv_entry ([.ref h0]) (n := 1) (Nat.le_of_ble_eq_true rfl)
  rw [lg_entry_eq]
  generalize (lg_sl ([.ref h0]) ++ List.replicate (1 - (lg_sl ([.ref h0])).length) Slot.unset).toArray = ls at hl ⊢
  have hl : lv_has ls 1 [(0, .ref h0)] := hl
  refine lv_aload_n hx hb d_Pi_isDigital_0 rfl (lv_at hl 0 rfl) ?_
  refine kc_i (va_runV (As := []) (rest := []) ⟨hx, hb, hml, hown, hts⟩ (c_Pi_isConnected l dC dI h0 s.heap.size lv th  ) (cwV 0 hts (ginV kb_23 kb_24 kb_25 kb_21 kb_22) rfl rfl rfl (by decide +kernel) ⟨Nat.le_of_ble_eq_true rfl, Nat.le_of_ble_eq_true rfl⟩) (preV (ci := 1) (wc := [(h0, .inr (1, [.int lv, .long th]))]) hK hN hP hD [0] rfl rfl (by decide) [] rfl rfl rfl) rfl rfl hl.1 rfl (lv_room (Nat.le_of_ble_eq_true rfl)) d_Pi_isDigital_1 ⟨Nat.le_of_ble_eq_true rfl, Nat.le_of_ble_eq_true rfl⟩) hP hD hS hA [0] [] (wr := []) rfl rfl (by decide) (by decide) (fun r_1 u_1 H locs hw_1 hP hD hK1 hS => ?_)
  have hw_1 : r_1 = bi (1 ≤ lv ∧ lv ≤ 3) := hw_1
  have hP : va_P (dC, dI) classes [(h0, .inr (1, [.int lv, .long th]))] H := hP
  have hD : va_D A [(h0, .inr (1, [.int lv, .long th]))] := hD
  refine lv_if_eq (tgt := 27) hx hb d_Pi_isDigital_4 (by decide) (fun c_4 => ?_) (fun c_4 => ?_)
  · have c_4 := bi_n (hw_1.symm.trans c_4)
    refine lv_iconst (v := 0) hx hb d_Pi_isDigital_27 (by decide) ?_
    have hP9 := hP.sub (ws' := [(h0, .inr (1, [.int lv, .long th]))]) [0] rfl
    have hD9 := hD.sub (ws' := [(h0, .inr (1, [.int lv, .long th]))]) [0] (by decide) rfl
    have hK9 := hK.sub (tys' := []) [] rfl
    exact W.zret (v := 0) (ty := .boolean) hx hb hr (rfl) (fun t ht hW => ⟨⟨0, (), rfl, trivial, by rw [ht]; exact hP9, va_K.moved hW.alike hK9, hD9⟩, hS.F ht⟩) hS.2.2 d_Pi_isDigital_28
  · have c_4 := bi_y hw_1 c_4
    refine lv_aload_n hx hb d_Pi_isDigital_7 rfl (lv_at hl 0 rfl) ?_
    refine va_get (D := (dC, dI)) (ci := 1) (v := .long th) (C := R_Pi) (T := F_Pi) (N := 2) hx hb hB inC_Pi hown hK hP 0 rfl rfl 1 (by decide) (hB _ kb_11) (fun _ h9 => h9) rfl d_Pi_isDigital_8 ?_
    refine lv_ldc2 (v := 30) hx hb hown (hB _ kb_26) d_Pi_isDigital_11 ?_
    refine lv_ldc2 (v := 70) hx hb hown (hB _ kb_27) d_Pi_isDigital_14 ?_
    refine kc_i (va_runSN (As := [.long th, .long 30, .long 70]) (rest := []) ⟨hx, hb, hml, hown, hts⟩ (c_X_isWithin l dC dI  H.size  th 30 70 ) ⟨va_cnB 3 hts (gin kb_6) rfl rfl rfl (hN _ kn_1) (hB _ kb_7) (by decide +kernel) ⟨Nat.le_of_ble_eq_true rfl, Nat.le_of_ble_eq_true rfl⟩, (hB _ kb_8), trivial⟩ (preS (wc := []) hK hN hP hD [] rfl rfl (by decide) [] rfl) rfl rfl hl.1 rfl (lv_room (Nat.le_of_ble_eq_true rfl)) d_Pi_isDigital_17 ⟨Nat.le_of_ble_eq_true rfl, Nat.le_of_ble_eq_true rfl⟩) hP hD hS hA [] [0] (wr := [(h0, .inr (1, [.int lv, .long th]))]) rfl rfl (by decide) (by decide) (fun r_17 u_17 H locs hw_17 hP hD hK1 hS => ?_)
    have hw_17 : r_17 = bi (30 ≤ th ∧ th ≤ 70) := hw_17
    have hP : va_P (dC, dI) classes [(h0, .inr (1, [.int lv, .long th]))] H := hP
    have hD : va_D A [(h0, .inr (1, [.int lv, .long th]))] := hD
    refine lv_if_eq (tgt := 27) hx hb d_Pi_isDigital_20 (by decide) (fun c_20 => ?_) (fun c_20 => ?_)
    · have c_20 := bi_n (hw_17.symm.trans c_20)
      refine lv_iconst (v := 0) hx hb d_Pi_isDigital_27 (by decide) ?_
      have hP9 := hP.sub (ws' := [(h0, .inr (1, [.int lv, .long th]))]) [0] rfl
      have hD9 := hD.sub (ws' := [(h0, .inr (1, [.int lv, .long th]))]) [0] (by decide) rfl
      have hK9 := hK.sub (tys' := []) [] rfl
      exact W.zret (v := 0) (ty := .boolean) hx hb hr (rfl) (fun t ht hW => ⟨⟨0, (), rfl, trivial, by rw [ht]; exact hP9, va_K.moved hW.alike hK9, hD9⟩, hS.F ht⟩) hS.2.2 d_Pi_isDigital_28
    · have c_20 := bi_y hw_17 c_20
      refine lv_iconst (v := 1) hx hb d_Pi_isDigital_23 (by decide) ?_
      refine lv_goto (tgt := 28) hx hb d_Pi_isDigital_24 (by decide) ?_
      have hP9 := hP.sub (ws' := [(h0, .inr (1, [.int lv, .long th]))]) [0] rfl
      have hD9 := hD.sub (ws' := [(h0, .inr (1, [.int lv, .long th]))]) [0] (by decide) rfl
      have hK9 := hK.sub (tys' := []) [] rfl
      exact W.zret (v := 1) (ty := .boolean) hx hb hr (rfl) (fun t ht hW => ⟨⟨1, (), rfl, trivial, by rw [ht]; exact hP9, va_K.moved hW.alike hK9, hD9⟩, hS.F ht⟩) hS.2.2 d_Pi_isDigital_28
set_option maxHeartbeats 4000000 in
set_option maxRecDepth 100000 in
theorem c_Pi_tenthsOfAmpere (l : Launch) (dC : Nat → ClassId) (dI : Nat → Nat → Nat) (h0 : Nat) (sz : Nat) (lv : Int32) (th : Int64) : Met l y_Pi_tenthsOfAmpere w_Pi_tenthsOfAmpere ({ frames := 1, cells := 0, slots := 0, locals := 20 }) (cPre dC dI [.ref h0] sz [] [(h0, .inr (1, [.int lv, .long th]))]) (va_Qi (fun (r : Int32) (u : Unit) => r = ten lv th) (fun (u : Unit) (t : State) => cB dC dI (va_A [(h0, .inr (1, [.int lv, .long th]))] sz) [] [(h0, .inr (1, [.int lv, .long th]))] t) (va_A [(h0, .inr (1, [.int lv, .long th]))] sz)) 0 0 (va_A [(h0, .inr (1, [.int lv, .long th]))] sz) := by
  refine Met.ofW (cc := b_Pi_tenthsOfAmpere) (maxL := 1) (ret := (some .int)) (by decide) rfl ?_
  intro p e s m args below meth c s₁ B hml hv
  obtain ⟨rfl, hsz, hN, hP, hK, hD0⟩ := hv
  have hx := B.exec
  have hb := B.bytes
  have hr := B.returns
  have hts := atoms_spec (ws := w_Pi_tenthsOfAmpere) B.pre
  have hB := big_of hts
  have hown : s.vm.findClass R_Pi = some m.cls := findClass_of_methodNamed B.named
  have hlocks := B.notSynchronized
  subst hsz
  have hD := hD0.self (sz := s.heap.size)
  generalize hAe : va_A [(h0, .inr (1, [.int lv, .long th]))] s.heap.size = A at hD ⊢
  have hA : ∀ q : Nat, s.heap.size ≤ q → A q := fun q h => by rw [← hAe]; exact Or.inr h
  have hS : va_S A s.heap s.heap [] := va_S.rf
  have hP : va_P (dC, dI) classes [(h0, .inr (1, [.int lv, .long th]))] s.heap := hP
  have hl := lv_entry ([.ref h0]) (n := 1) (Nat.le_of_ble_eq_true rfl)
  rw [lg_entry_eq]
  generalize (lg_sl ([.ref h0]) ++ List.replicate (1 - (lg_sl ([.ref h0])).length) Slot.unset).toArray = ls at hl ⊢
  have hl : lv_has ls 1 [(0, .ref h0)] := hl
  refine lv_aload_n hx hb d_Pi_tenthsOfAmpere_0 rfl (lv_at hl 0 rfl) ?_
  refine kc_i (va_runV (As := []) (rest := []) ⟨hx, hb, hml, hown, hts⟩ (c_Pi_isConnected l dC dI h0 s.heap.size lv th  ) (cwV 0 hts (ginV kb_23 kb_24 kb_25 kb_21 kb_22) rfl rfl rfl (by decide +kernel) ⟨Nat.le_of_ble_eq_true rfl, Nat.le_of_ble_eq_true rfl⟩) (preV (ci := 1) (wc := [(h0, .inr (1, [.int lv, .long th]))]) hK hN hP hD [0] rfl rfl (by decide) [] rfl rfl rfl) rfl rfl hl.1 rfl (lv_room (Nat.le_of_ble_eq_true rfl)) d_Pi_tenthsOfAmpere_1 ⟨Nat.le_of_ble_eq_true rfl, Nat.le_of_ble_eq_true rfl⟩) hP hD hS hA [0] [] (wr := []) rfl rfl (by decide) (by decide) (fun r_1 u_1 H locs hw_1 hP hD hK1 hS => ?_)
  have hw_1 : r_1 = bi (1 ≤ lv ∧ lv ≤ 3) := hw_1
  have hP : va_P (dC, dI) classes [(h0, .inr (1, [.int lv, .long th]))] H := hP
  have hD : va_D A [(h0, .inr (1, [.int lv, .long th]))] := hD
  refine lv_if_eq (tgt := 18) hx hb d_Pi_tenthsOfAmpere_4 (by decide) (fun c_4 => ?_) (fun c_4 => ?_)
  · have c_4 := bi_n (hw_1.symm.trans c_4)
    refine lv_iconst (v := 0) hx hb d_Pi_tenthsOfAmpere_18 (by decide) ?_
    have hP9 := hP.sub (ws' := [(h0, .inr (1, [.int lv, .long th]))]) [0] rfl
    have hD9 := hD.sub (ws' := [(h0, .inr (1, [.int lv, .long th]))]) [0] (by decide) rfl
    have hK9 := hK.sub (tys' := []) [] rfl
    exact W.iret (v := 0) hx hb hr (fun t ht hW => ⟨⟨0, (), rfl, (if_neg c_4).symm, by rw [ht]; exact hP9, va_K.moved hW.alike hK9, hD9⟩, hS.F ht⟩) hS.2.2 d_Pi_tenthsOfAmpere_19
  · have c_4 := bi_y hw_1 c_4
    refine lv_aload_n hx hb d_Pi_tenthsOfAmpere_7 rfl (lv_at hl 0 rfl) ?_
    refine va_get (D := (dC, dI)) (ci := 1) (v := .long th) (C := R_Pi) (T := F_Pi) (N := 2) hx hb hB inC_Pi hown hK hP 0 rfl rfl 1 (by decide) (hB _ kb_11) (fun _ h9 => h9) rfl d_Pi_tenthsOfAmpere_8 ?_
    refine lv_l2i hx hb d_Pi_tenthsOfAmpere_11 rfl ?_
    refine lv_topi (fun x_11 ex_11 => ?_)
    refine kc_i (va_runS (As := [.int x_11]) (rest := []) ⟨hx, hb, hml, hown, hts⟩ (c_Pi_tenthsFor l dC dI  H.size  x_11 ) (cwS 1 hts (ginS kb_29 kb_30 kb_21 kb_28) rfl rfl rfl (by decide +kernel) ⟨Nat.le_of_ble_eq_true rfl, Nat.le_of_ble_eq_true rfl⟩) (preS (wc := []) hK hN hP hD [] rfl rfl (by decide) [] rfl) rfl rfl hl.1 rfl (lv_room (Nat.le_of_ble_eq_true rfl)) d_Pi_tenthsOfAmpere_12 ⟨Nat.le_of_ble_eq_true rfl, Nat.le_of_ble_eq_true rfl⟩) hP hD hS hA [] [0] (wr := [(h0, .inr (1, [.int lv, .long th]))]) rfl rfl (by decide) (by decide) (fun r_12 u_12 H locs hw_12 hP hD hK1 hS => ?_)
    have hw_12 : r_12 = tf x_11 := hw_12
    have hP : va_P (dC, dI) classes [(h0, .inr (1, [.int lv, .long th]))] H := hP
    have hD : va_D A [(h0, .inr (1, [.int lv, .long th]))] := hD
    refine lv_goto (tgt := 19) hx hb d_Pi_tenthsOfAmpere_15 (by decide) ?_
    have hP9 := hP.sub (ws' := [(h0, .inr (1, [.int lv, .long th]))]) [0] rfl
    have hD9 := hD.sub (ws' := [(h0, .inr (1, [.int lv, .long th]))]) [0] (by decide) rfl
    have hK9 := hK.sub (tys' := []) [] rfl
    exact W.iret (v := r_12) hx hb hr (fun t ht hW => ⟨⟨r_12, (), rfl, (hw_12.trans (by rw [ex_11])).trans (if_pos c_4).symm, by rw [ht]; exact hP9, va_K.moved hW.alike hK9, hD9⟩, hS.F ht⟩) hS.2.2 d_Pi_tenthsOfAmpere_19
