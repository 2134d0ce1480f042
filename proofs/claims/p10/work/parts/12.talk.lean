set_option maxHeartbeats 4000000 in
set_option maxRecDepth 100000 in
theorem c_Ta_init (l : Launch) (dC : Nat → ClassId) (dI : Nat → Nat → Nat) (h0 : Nat) (sz : Nat) (ph : Int32) (di : Int32) (lm : Int64) (cu : Int64) (la : Int64) (en : Int64) : Met l y_Ta_init w_Ta_init ({ frames := 1, cells := 0, slots := 0, locals := 20 }) (cPre dC dI [.ref h0] sz [] [(h0, .inr (2, [.int ph, .int di, .long lm, .long cu, .long la, .long en]))]) (va_Qv (fun (u : Int32 × Int32 × Int64 × Int64 × Int64 × Int64) => True) (fun (u : Int32 × Int32 × Int64 × Int64 × Int64 × Int64) (t : State) => cB dC dI (va_A [(h0, .inr (2, [.int ph, .int di, .long lm, .long cu, .long la, .long en]))] sz) [] [(h0, .inr (2, [.int u.1, .int u.2.1, .long u.2.2.1, .long u.2.2.2.1, .long u.2.2.2.2.1, .long u.2.2.2.2.2]))] t) (va_A [(h0, .inr (2, [.int ph, .int di, .long lm, .long cu, .long la, .long en]))] sz)) 0 0 (va_A [(h0, .inr (2, [.int ph, .int di, .long lm, .long cu, .long la, .long en]))] sz) := by
  refine Met.ofW (cc := b_Ta_init) (maxL := 1) (ret := none) (by decide) rfl ?_
  intro p e s m args below meth c s₁ B hml hv
  obtain ⟨rfl, hsz, hN, hP, hK, hD0⟩ := hv
  have hx := B.exec
  have hb := B.bytes
  have hr := B.returns
  have hts := atoms_spec (ws := w_Ta_init) B.pre
  have hB := big_of hts
  have hown : s.vm.findClass R_Ta = some m.cls := findClass_of_methodNamed B.named
  have hlocks := B.notSynchronized
  have hin : meth.name = "<init>" := (name_of_methodNamed B.named B.method).1
  subst hsz
  have hD := hD0.self (sz := s.heap.size)
  generalize hAe : va_A [(h0, .inr (2, [.int ph, .int di, .long lm, .long cu, .long la, .long en]))] s.heap.size = A at hD ⊢
  have hA : ∀ q : Nat, s.heap.size ≤ q → A q := fun q h => by rw [← hAe]; exact Or.inr h
  have hS : va_S A s.heap s.heap [] := va_S.rf
  have hP : va_P (dC, dI) classes [(h0, .inr (2, [.int ph, .int di, .long lm, .long cu, .long la, .long en]))] s.heap := hP
  have hl := lv_entry ([.ref h0]) (n := 1) (Nat.le_of_ble_eq_true rfl)
  rw [lg_entry_eq]
  generalize (lg_sl ([.ref h0]) ++ List.replicate (1 - (lg_sl ([.ref h0])).length) Slot.unset).toArray = ls at hl ⊢
  have hl : lv_has ls 1 [(0, .ref h0)] := hl
  refine lv_aload_n hx hb d_Ta_init_0 rfl (lv_at hl 0 rfl) ?_
  refine W.objInit hx hb hown (hB _ kb_31) (hB _ kb_1) (hB _ kb_2) rfl (by rw [hml]; exact hl.1) rfl d_Ta_init_1 (Nat.le_of_ble_eq_true rfl) (Nat.le_of_ble_eq_true rfl) ?_
  refine W.eq (g2 := F0 m 4 ls []) rfl ?_
  refine lv_aload_n hx hb d_Ta_init_4 rfl (lv_at hl 0 rfl) ?_
  refine lv_iconst (v := 0) hx hb d_Ta_init_5 (by decide) ?_
  refine va_put (D := (dC, dI)) (ci := 2) (v := .int 0) (ty := .int) (C := R_Ta) (T := F_Ta) (N := 6) hx hb hB inC_Ta t_Ta t_Ta_ok n_Ta hown hK hP hD hS 0 rfl rfl 0 (by decide) (hB _ kb_32) (fun _ h9 => h9) rfl (by decide +kernel) rfl rfl (Nat.le_of_ble_eq_true rfl) d_Ta_init_6 (fun H locs hP hD hS => ?_)
  have hP : va_P (dC, dI) classes [(h0, .inr (2, [.int 0, .int di, .long lm, .long cu, .long la, .long en]))] H := hP
  have hD : va_D A [(h0, .inr (2, [.int 0, .int di, .long lm, .long cu, .long la, .long en]))] := hD
  refine lv_aload_n hx hb d_Ta_init_9 rfl (lv_at hl 0 rfl) ?_
  refine lv_iconst (v := 0) hx hb d_Ta_init_10 (by decide) ?_
  refine va_put (D := (dC, dI)) (ci := 2) (v := .int 0) (ty := .boolean) (C := R_Ta) (T := F_Ta) (N := 6) hx hb hB inC_Ta t_Ta t_Ta_ok n_Ta hown hK hP hD hS 0 rfl rfl 1 (by decide) (hB _ kb_33) (fun _ h9 => h9) rfl (by decide +kernel) rfl rfl (Nat.le_of_ble_eq_true rfl) d_Ta_init_11 (fun H locs hP hD hS => ?_)
  have hP : va_P (dC, dI) classes [(h0, .inr (2, [.int 0, .int 0, .long lm, .long cu, .long la, .long en]))] H := hP
  have hD : va_D A [(h0, .inr (2, [.int 0, .int 0, .long lm, .long cu, .long la, .long en]))] := hD
  refine lv_aload_n hx hb d_Ta_init_14 rfl (lv_at hl 0 rfl) ?_
  refine lv_lconst (v := 0) hx hb d_Ta_init_15 (by decide) ?_
  refine va_put (D := (dC, dI)) (ci := 2) (v := .long 0) (ty := .long) (C := R_Ta) (T := F_Ta) (N := 6) hx hb hB inC_Ta t_Ta t_Ta_ok n_Ta hown hK hP hD hS 0 rfl rfl 2 (by decide) (hB _ kb_34) (fun _ h9 => h9) rfl (by decide +kernel) rfl rfl (Nat.le_of_ble_eq_true rfl) d_Ta_init_16 (fun H locs hP hD hS => ?_)
  have hP : va_P (dC, dI) classes [(h0, .inr (2, [.int 0, .int 0, .long 0, .long cu, .long la, .long en]))] H := hP
  have hD : va_D A [(h0, .inr (2, [.int 0, .int 0, .long 0, .long cu, .long la, .long en]))] := hD
  refine lv_aload_n hx hb d_Ta_init_19 rfl (lv_at hl 0 rfl) ?_
  refine lv_lconst (v := 0) hx hb d_Ta_init_20 (by decide) ?_
  refine va_put (D := (dC, dI)) (ci := 2) (v := .long 0) (ty := .long) (C := R_Ta) (T := F_Ta) (N := 6) hx hb hB inC_Ta t_Ta t_Ta_ok n_Ta hown hK hP hD hS 0 rfl rfl 3 (by decide) (hB _ kb_35) (fun _ h9 => h9) rfl (by decide +kernel) rfl rfl (Nat.le_of_ble_eq_true rfl) d_Ta_init_21 (fun H locs hP hD hS => ?_)
  have hP : va_P (dC, dI) classes [(h0, .inr (2, [.int 0, .int 0, .long 0, .long 0, .long la, .long en]))] H := hP
  have hD : va_D A [(h0, .inr (2, [.int 0, .int 0, .long 0, .long 0, .long la, .long en]))] := hD
  refine lv_aload_n hx hb d_Ta_init_24 rfl (lv_at hl 0 rfl) ?_
  refine lv_lconst (v := 0) hx hb d_Ta_init_25 (by decide) ?_
  refine va_put (D := (dC, dI)) (ci := 2) (v := .long 0) (ty := .long) (C := R_Ta) (T := F_Ta) (N := 6) hx hb hB inC_Ta t_Ta t_Ta_ok n_Ta hown hK hP hD hS 0 rfl rfl 4 (by decide) (hB _ kb_36) (fun _ h9 => h9) rfl (by decide +kernel) rfl rfl (Nat.le_of_ble_eq_true rfl) d_Ta_init_26 (fun H locs hP hD hS => ?_)
  have hP : va_P (dC, dI) classes [(h0, .inr (2, [.int 0, .int 0, .long 0, .long 0, .long 0, .long en]))] H := hP
  have hD : va_D A [(h0, .inr (2, [.int 0, .int 0, .long 0, .long 0, .long 0, .long en]))] := hD
  refine lv_aload_n hx hb d_Ta_init_29 rfl (lv_at hl 0 rfl) ?_
  refine lv_lconst (v := 0) hx hb d_Ta_init_30 (by decide) ?_
  refine va_put (D := (dC, dI)) (ci := 2) (v := .long 0) (ty := .long) (C := R_Ta) (T := F_Ta) (N := 6) hx hb hB inC_Ta t_Ta t_Ta_ok n_Ta hown hK hP hD hS 0 rfl rfl 5 (by decide) (hB _ kb_37) (fun _ h9 => h9) rfl (by decide +kernel) rfl rfl (Nat.le_of_ble_eq_true rfl) d_Ta_init_31 (fun H locs hP hD hS => ?_)
  have hP : va_P (dC, dI) classes [(h0, .inr (2, [.int 0, .int 0, .long 0, .long 0, .long 0, .long 0]))] H := hP
  have hD : va_D A [(h0, .inr (2, [.int 0, .int 0, .long 0, .long 0, .long 0, .long 0]))] := hD
  have hP9 := hP.sub (ws' := [(h0, .inr (2, [.int 0, .int 0, .long 0, .long 0, .long 0, .long 0]))]) [0] rfl
  have hD9 := hD.sub (ws' := [(h0, .inr (2, [.int 0, .int 0, .long 0, .long 0, .long 0, .long 0]))]) [0] (by decide) rfl
  have hK9 := hK.sub (tys' := []) [] rfl
  exact W.vret hx hb hr (fun t ht hW => ⟨⟨(0, 0, 0, 0, 0, 0), rfl, trivial, by rw [ht]; exact hP9, va_K.moved hW.alike hK9, hD9⟩, hS.F ht⟩) hS.2.2 d_Ta_init_34
set_option maxHeartbeats 4000000 in
set_option maxRecDepth 100000 in
theorem c_Ta_isOn (l : Launch) (dC : Nat → ClassId) (dI : Nat → Nat → Nat) (h0 : Nat) (sz : Nat) (ph : Int32) (di : Int32) (lm : Int64) (cu : Int64) (la : Int64) (en : Int64) : Met l y_Ta_isOn w_Ta_isOn ({ frames := 0, cells := 0, slots := 0, locals := 0 }) (cPre dC dI [.ref h0] sz [] [(h0, .inr (2, [.int ph, .int di, .long lm, .long cu, .long la, .long en]))]) (va_Qi (fun (r : Int32) (u : Unit) => True) (fun (u : Unit) (t : State) => cB dC dI (va_A [(h0, .inr (2, [.int ph, .int di, .long lm, .long cu, .long la, .long en]))] sz) [] [(h0, .inr (2, [.int ph, .int di, .long lm, .long cu, .long la, .long en]))] t) (va_A [(h0, .inr (2, [.int ph, .int di, .long lm, .long cu, .long la, .long en]))] sz)) 0 0 (va_A [(h0, .inr (2, [.int ph, .int di, .long lm, .long cu, .long la, .long en]))] sz) := by
  refine Met.ofW (cc := b_Ta_isOn) (maxL := 1) (ret := (some .boolean)) (by decide) rfl ?_
  intro p e s m args below meth c s₁ B hml hv
  obtain ⟨rfl, hsz, hN, hP, hK, hD0⟩ := hv
  have hx := B.exec
  have hb := B.bytes
  have hr := B.returns
  have hts := atoms_spec (ws := w_Ta_isOn) B.pre
  have hB := big_of hts
  have hown : s.vm.findClass R_Ta = some m.cls := findClass_of_methodNamed B.named
  have hlocks := B.notSynchronized
  subst hsz
  have hD := hD0.self (sz := s.heap.size)
  generalize hAe : va_A [(h0, .inr (2, [.int ph, .int di, .long lm, .long cu, .long la, .long en]))] s.heap.size = A at hD ⊢
  have hA : ∀ q : Nat, s.heap.size ≤ q → A q := fun q h => by rw [← hAe]; exact Or.inr h
  have hS : va_S A s.heap s.heap [] := va_S.rf
  have hP : va_P (dC, dI) classes [(h0, .inr (2, [.int ph, .int di, .long lm, .long cu, .long la, .long en]))] s.heap := hP
  have hl := lv_entry ([.ref h0]) (n := 1) (Nat.le_of_ble_eq_true rfl)
  rw [lg_entry_eq]
  generalize (lg_sl ([.ref h0]) ++ List.replicate (1 - (lg_sl ([.ref h0])).length) Slot.unset).toArray = ls at hl ⊢
  have hl : lv_has ls 1 [(0, .ref h0)] := hl
  refine lv_aload_n hx hb d_Ta_isOn_0 rfl (lv_at hl 0 rfl) ?_
  refine va_get (D := (dC, dI)) (ci := 2) (v := .int ph) (C := R_Ta) (T := F_Ta) (N := 6) hx hb hB inC_Ta hown hK hP 0 rfl rfl 0 (by decide) (hB _ kb_32) (fun _ h9 => h9) rfl d_Ta_isOn_1 ?_
  refine lv_if_eq (tgt := 11) hx hb d_Ta_isOn_4 (by decide) (fun c_4 => ?_) (fun c_4 => ?_)
  · skip
    refine lv_iconst (v := 0) hx hb d_Ta_isOn_11 (by decide) ?_
    have hP9 := hP.sub (ws' := [(h0, .inr (2, [.int ph, .int di, .long lm, .long cu, .long la, .long en]))]) [0] rfl
    have hD9 := hD.sub (ws' := [(h0, .inr (2, [.int ph, .int di, .long lm, .long cu, .long la, .long en]))]) [0] (by decide) rfl
    have hK9 := hK.sub (tys' := []) [] rfl
    exact W.zret (v := 0) (ty := .boolean) hx hb hr (rfl) (fun t ht hW => ⟨⟨0, (), rfl, trivial, by rw [ht]; exact hP9, va_K.moved hW.alike hK9, hD9⟩, hS.F ht⟩) hS.2.2 d_Ta_isOn_12
  · skip
    refine lv_iconst (v := 1) hx hb d_Ta_isOn_7 (by decide) ?_
    refine lv_goto (tgt := 12) hx hb d_Ta_isOn_8 (by decide) ?_
    have hP9 := hP.sub (ws' := [(h0, .inr (2, [.int ph, .int di, .long lm, .long cu, .long la, .long en]))]) [0] rfl
    have hD9 := hD.sub (ws' := [(h0, .inr (2, [.int ph, .int di, .long lm, .long cu, .long la, .long en]))]) [0] (by decide) rfl
    have hK9 := hK.sub (tys' := []) [] rfl
    exact W.zret (v := 1) (ty := .boolean) hx hb hr (rfl) (fun t ht hW => ⟨⟨1, (), rfl, trivial, by rw [ht]; exact hP9, va_K.moved hW.alike hK9, hD9⟩, hS.F ht⟩) hS.2.2 d_Ta_isOn_12
set_option maxHeartbeats 4000000 in
set_option maxRecDepth 100000 in
theorem c_Ta_isCharging (l : Launch) (dC : Nat → ClassId) (dI : Nat → Nat → Nat) (h0 : Nat) (sz : Nat) (ph : Int32) (di : Int32) (lm : Int64) (cu : Int64) (la : Int64) (en : Int64) : Met l y_Ta_isCharging w_Ta_isCharging ({ frames := 0, cells := 0, slots := 0, locals := 0 }) (cPre dC dI [.ref h0] sz [] [(h0, .inr (2, [.int ph, .int di, .long lm, .long cu, .long la, .long en]))]) (va_Qi (fun (r : Int32) (u : Unit) => True) (fun (u : Unit) (t : State) => cB dC dI (va_A [(h0, .inr (2, [.int ph, .int di, .long lm, .long cu, .long la, .long en]))] sz) [] [(h0, .inr (2, [.int ph, .int di, .long lm, .long cu, .long la, .long en]))] t) (va_A [(h0, .inr (2, [.int ph, .int di, .long lm, .long cu, .long la, .long en]))] sz)) 0 0 (va_A [(h0, .inr (2, [.int ph, .int di, .long lm, .long cu, .long la, .long en]))] sz) := by
  refine Met.ofW (cc := b_Ta_isCharging) (maxL := 1) (ret := (some .boolean)) (by decide) rfl ?_
  intro p e s m args below meth c s₁ B hml hv
  obtain ⟨rfl, hsz, hN, hP, hK, hD0⟩ := hv
  have hx := B.exec
  have hb := B.bytes
  have hr := B.returns
  have hts := atoms_spec (ws := w_Ta_isCharging) B.pre
  have hB := big_of hts
  have hown : s.vm.findClass R_Ta = some m.cls := findClass_of_methodNamed B.named
  have hlocks := B.notSynchronized
  subst hsz
  have hD := hD0.self (sz := s.heap.size)
  generalize hAe : va_A [(h0, .inr (2, [.int ph, .int di, .long lm, .long cu, .long la, .long en]))] s.heap.size = A at hD ⊢
  have hA : ∀ q : Nat, s.heap.size ≤ q → A q := fun q h => by rw [← hAe]; exact Or.inr h
  have hS : va_S A s.heap s.heap [] := va_S.rf
  have hP : va_P (dC, dI) classes [(h0, .inr (2, [.int ph, .int di, .long lm, .long cu, .long la, .long en]))] s.heap := hP
  have hl := lv_entry ([.ref h0]) (n := 1) (Nat.le_of_ble_eq_true rfl)
  rw [lg_entry_eq]
  generalize (lg_sl ([.ref h0]) ++ List.replicate (1 - (lg_sl ([.ref h0])).length) Slot.unset).toArray = ls at hl ⊢
  have hl : lv_has ls 1 [(0, .ref h0)] := hl
  refine lv_aload_n hx hb d_Ta_isCharging_0 rfl (lv_at hl 0 rfl) ?_
  refine va_get (D := (dC, dI)) (ci := 2) (v := .int ph) (C := R_Ta) (T := F_Ta) (N := 6) hx hb hB inC_Ta hown hK hP 0 rfl rfl 0 (by decide) (hB _ kb_32) (fun _ h9 => h9) rfl d_Ta_isCharging_1 ?_
  refine lv_bipush (v := 7) hx hb d_Ta_isCharging_4 (by decide) ?_
  refine lv_icmp_ne (tgt := 13) hx hb d_Ta_isCharging_6 (by decide) (fun c_6 => ?_) (fun c_6 => ?_)
  · skip
    refine lv_iconst (v := 0) hx hb d_Ta_isCharging_13 (by decide) ?_
    have hP9 := hP.sub (ws' := [(h0, .inr (2, [.int ph, .int di, .long lm, .long cu, .long la, .long en]))]) [0] rfl
    have hD9 := hD.sub (ws' := [(h0, .inr (2, [.int ph, .int di, .long lm, .long cu, .long la, .long en]))]) [0] (by decide) rfl
    have hK9 := hK.sub (tys' := []) [] rfl
    exact W.zret (v := 0) (ty := .boolean) hx hb hr (rfl) (fun t ht hW => ⟨⟨0, (), rfl, trivial, by rw [ht]; exact hP9, va_K.moved hW.alike hK9, hD9⟩, hS.F ht⟩) hS.2.2 d_Ta_isCharging_14
  · skip
    refine lv_iconst (v := 1) hx hb d_Ta_isCharging_9 (by decide) ?_
    refine lv_goto (tgt := 14) hx hb d_Ta_isCharging_10 (by decide) ?_
    have hP9 := hP.sub (ws' := [(h0, .inr (2, [.int ph, .int di, .long lm, .long cu, .long la, .long en]))]) [0] rfl
    have hD9 := hD.sub (ws' := [(h0, .inr (2, [.int ph, .int di, .long lm, .long cu, .long la, .long en]))]) [0] (by decide) rfl
    have hK9 := hK.sub (tys' := []) [] rfl
    exact W.zret (v := 1) (ty := .boolean) hx hb hr (rfl) (fun t ht hW => ⟨⟨1, (), rfl, trivial, by rw [ht]; exact hP9, va_K.moved hW.alike hK9, hD9⟩, hS.F ht⟩) hS.2.2 d_Ta_isCharging_14
set_option maxHeartbeats 4000000 in
set_option maxRecDepth 100000 in
theorem c_Ta_end (l : Launch) (dC : Nat → ClassId) (dI : Nat → Nat → Nat) (h0 : Nat) (sz : Nat) (ph : Int32) (di : Int32) (lm : Int64) (cu : Int64) (la : Int64) (en : Int64) : Met l y_Ta_end w_Ta_end ({ frames := 0, cells := 0, slots := 0, locals := 0 }) (cPre dC dI [.ref h0] sz [] [(h0, .inr (2, [.int ph, .int di, .long lm, .long cu, .long la, .long en]))]) (va_Qv (fun (u : Int32) => True) (fun (u : Int32) (t : State) => cB dC dI (va_A [(h0, .inr (2, [.int ph, .int di, .long lm, .long cu, .long la, .long en]))] sz) [] [(h0, .inr (2, [.int u, .int di, .long lm, .long cu, .long la, .long en]))] t) (va_A [(h0, .inr (2, [.int ph, .int di, .long lm, .long cu, .long la, .long en]))] sz)) 0 0 (va_A [(h0, .inr (2, [.int ph, .int di, .long lm, .long cu, .long la, .long en]))] sz) := by
  refine Met.ofW (cc := b_Ta_end) (maxL := 1) (ret := none) (by decide) rfl ?_
  intro p e s m args below meth c s₁ B hml hv
  obtain ⟨rfl, hsz, hN, hP, hK, hD0⟩ := hv
  have hx := B.exec
  have hb := B.bytes
  have hr := B.returns
  have hts := atoms_spec (ws := w_Ta_end) B.pre
  have hB := big_of hts
  have hown : s.vm.findClass R_Ta = some m.cls := findClass_of_methodNamed B.named
  have hlocks := B.notSynchronized
  subst hsz
  have hD := hD0.self (sz := s.heap.size)
  generalize hAe : va_A [(h0, .inr (2, [.int ph, .int di, .long lm, .long cu, .long la, .long en]))] s.heap.size = A at hD ⊢
  have hA : ∀ q : Nat, s.heap.size ≤ q → A q := fun q h => by rw [← hAe]; exact Or.inr h
  have hS : va_S A s.heap s.heap [] := va_S.rf
  have hP : va_P (dC, dI) classes [(h0, .inr (2, [.int ph, .int di, .long lm, .long cu, .long la, .long en]))] s.heap := hP
  have hl := lv_entry ([.ref h0]) (n := 1) (Nat.le_of_ble_eq_true rfl)
  rw [lg_entry_eq]
  generalize (lg_sl ([.ref h0]) ++ List.replicate (1 - (lg_sl ([.ref h0])).length) Slot.unset).toArray = ls at hl ⊢
  have hl : lv_has ls 1 [(0, .ref h0)] := hl
  refine lv_aload_n hx hb d_Ta_end_0 rfl (lv_at hl 0 rfl) ?_
  refine lv_iconst (v := 0) hx hb d_Ta_end_1 (by decide) ?_
  refine va_put (D := (dC, dI)) (ci := 2) (v := .int 0) (ty := .int) (C := R_Ta) (T := F_Ta) (N := 6) hx hb hB inC_Ta t_Ta t_Ta_ok n_Ta hown hK hP hD hS 0 rfl rfl 0 (by decide) (hB _ kb_32) (fun _ h9 => h9) rfl (by decide +kernel) rfl rfl (Nat.le_of_ble_eq_true rfl) d_Ta_end_2 (fun H locs hP hD hS => ?_)
  have hP : va_P (dC, dI) classes [(h0, .inr (2, [.int 0, .int di, .long lm, .long cu, .long la, .long en]))] H := hP
  have hD : va_D A [(h0, .inr (2, [.int 0, .int di, .long lm, .long cu, .long la, .long en]))] := hD
  have hP9 := hP.sub (ws' := [(h0, .inr (2, [.int 0, .int di, .long lm, .long cu, .long la, .long en]))]) [0] rfl
  have hD9 := hD.sub (ws' := [(h0, .inr (2, [.int 0, .int di, .long lm, .long cu, .long la, .long en]))]) [0] (by decide) rfl
  have hK9 := hK.sub (tys' := []) [] rfl
  exact W.vret hx hb hr (fun t ht hW => ⟨⟨(0), rfl, trivial, by rw [ht]; exact hP9, va_K.moved hW.alike hK9, hD9⟩, hS.F ht⟩) hS.2.2 d_Ta_end_5
set_option maxHeartbeats 4000000 in
set_option maxRecDepth 100000 in
theorem c_Ta_runDown (l : Launch) (dC : Nat → ClassId) (dI : Nat → Nat → Nat) (h0 : Nat) (sz : Nat) (ph : Int32) (di : Int32) (lm : Int64) (cu : Int64) (la : Int64) (en : Int64) : Met l y_Ta_runDown w_Ta_runDown ({ frames := 1, cells := 0, slots := 0, locals := 23 }) (cPre dC dI [.ref h0] sz [] [(h0, .inr (2, [.int ph, .int di, .long lm, .long cu, .long la, .long en]))]) (va_Qi (fun (r : Int32) (u : Int32) => True) (fun (u : Int32) (t : State) => cB dC dI (va_A [(h0, .inr (2, [.int ph, .int di, .long lm, .long cu, .long la, .long en]))] sz) [] [(h0, .inr (2, [.int u, .int di, .long lm, .long cu, .long la, .long en]))] t) (va_A [(h0, .inr (2, [.int ph, .int di, .long lm, .long cu, .long la, .long en]))] sz)) 0 0 (va_A [(h0, .inr (2, [.int ph, .int di, .long lm, .long cu, .long la, .long en]))] sz) := by
  refine Met.ofW (cc := b_Ta_runDown) (maxL := 2) (ret := (some .int)) (by decide) rfl ?_
  intro p e s m args below meth c s₁ B hml hv
  obtain ⟨rfl, hsz, hN, hP, hK, hD0⟩ := hv
  have hx := B.exec
  have hb := B.bytes
  have hr := B.returns
  have hts := atoms_spec (ws := w_Ta_runDown) B.pre
  have hB := big_of hts
  have hown : s.vm.findClass R_Ta = some m.cls := findClass_of_methodNamed B.named
  have hlocks := B.notSynchronized
  subst hsz
  have hD := hD0.self (sz := s.heap.size)
  generalize hAe : va_A [(h0, .inr (2, [.int ph, .int di, .long lm, .long cu, .long la, .long en]))] s.heap.size = A at hD ⊢
  have hA : ∀ q : Nat, s.heap.size ≤ q → A q := fun q h => by rw [← hAe]; exact Or.inr h
  have hS : va_S A s.heap s.heap [] := va_S.rf
  have hP : va_P (dC, dI) classes [(h0, .inr (2, [.int ph, .int di, .long lm, .long cu, .long la, .long en]))] s.heap := hP
  have hl := lv_entry ([.ref h0]) (n := 2) (Nat.le_of_ble_eq_true rfl)
  rw [lg_entry_eq]
  generalize (lg_sl ([.ref h0]) ++ List.replicate (2 - (lg_sl ([.ref h0])).length) Slot.unset).toArray = ls at hl ⊢
  have hl : lv_has ls 2 [(0, .ref h0)] := hl
  refine lv_aload_n hx hb d_Ta_runDown_0 rfl (lv_at hl 0 rfl) ?_
  refine lv_bipush (v := 8) hx hb d_Ta_runDown_1 (by decide) ?_
  refine va_put (D := (dC, dI)) (ci := 2) (v := .int 8) (ty := .int) (C := R_Ta) (T := F_Ta) (N := 6) hx hb hB inC_Ta t_Ta t_Ta_ok n_Ta hown hK hP hD hS 0 rfl rfl 0 (by decide) (hB _ kb_32) (fun _ h9 => h9) rfl (by decide +kernel) rfl rfl (Nat.le_of_ble_eq_true rfl) d_Ta_runDown_3 (fun H locs hP hD hS => ?_)
  have hP : va_P (dC, dI) classes [(h0, .inr (2, [.int 8, .int di, .long lm, .long cu, .long la, .long en]))] H := hP
  have hD : va_D A [(h0, .inr (2, [.int 8, .int di, .long lm, .long cu, .long la, .long en]))] := hD
  refine lv_aload_n hx hb d_Ta_runDown_6 rfl (lv_at hl 0 rfl) ?_
  refine va_get (D := (dC, dI)) (ci := 2) (v := .long cu) (C := R_Ta) (T := F_Ta) (N := 6) hx hb hB inC_Ta hown hK hP 0 rfl rfl 3 (by decide) (hB _ kb_35) (fun _ h9 => h9) rfl d_Ta_runDown_7 ?_
  refine lv_ldc2 (v := 10) hx hb hown (hB _ kb_38) d_Ta_runDown_10 ?_
  refine lv_ldiv hx hb d_Ta_runDown_13 (by decide) ?_
  refine lv_topl (fun x_13 ex_13 => ?_)
  refine lv_l2i hx hb d_Ta_runDown_14 rfl ?_
  refine lv_topi (fun x_14 ex_14 => ?_)
  refine lv_istore_n (lv' := [(1, .int x_14), (0, .ref h0)]) hx hb d_Ta_runDown_15 rfl hl (by decide) rfl (fun ls hl => ?_)
  refine lv_sipush (v := 5000) hx hb d_Ta_runDown_16 (by decide) ?_
  refine lv_sipush (v := 1000) hx hb d_Ta_runDown_19 (by decide) ?_
  refine lv_iload_n hx hb d_Ta_runDown_22 rfl (lv_at hl 0 rfl) ?_
  refine lv_imul hx hb d_Ta_runDown_23 ?_
  refine lv_topi (fun x_23 ex_23 => ?_)
  refine va_mmax hx hb (by rw [hml]; exact hl.1.symm) hown (hB _ kb_39) (hB _ kb_40) (hB _ kb_41) (hB _ kb_42) (Nat.le_of_ble_eq_true rfl) (Nat.le_of_ble_eq_true rfl) (Nat.le_of_ble_eq_true rfl) (Nat.le_of_ble_eq_true rfl) d_Ta_runDown_24 ?_
  refine lv_topi (fun x_24 ex_24 => ?_)
  have hP9 := hP.sub (ws' := [(h0, .inr (2, [.int 8, .int di, .long lm, .long cu, .long la, .long en]))]) [0] rfl
  have hD9 := hD.sub (ws' := [(h0, .inr (2, [.int 8, .int di, .long lm, .long cu, .long la, .long en]))]) [0] (by decide) rfl
  have hK9 := hK.sub (tys' := []) [] rfl
  exact W.iret (v := x_24) hx hb hr (fun t ht hW => ⟨⟨x_24, (8), rfl, trivial, by rw [ht]; exact hP9, va_K.moved hW.alike hK9, hD9⟩, hS.F ht⟩) hS.2.2 d_Ta_runDown_27
set_option maxHeartbeats 4000000 in
set_option maxRecDepth 100000 in
theorem c_Ta_breakOff (l : Launch) (dC : Nat → ClassId) (dI : Nat → Nat → Nat) (h0 : Nat) (sz : Nat) (ph : Int32) (di : Int32) (lm : Int64) (cu : Int64) (la : Int64) (en : Int64) : Met l y_Ta_breakOff w_Ta_breakOff ({ frames := 1, cells := 0, slots := 0, locals := 20 }) (cPre dC dI [.ref h0] sz [] [(h0, .inr (2, [.int ph, .int di, .long lm, .long cu, .long la, .long en]))]) (va_Qi (fun (r : Int32) (u : Int32) => True) (fun (u : Int32) (t : State) => cB dC dI (va_A [(h0, .inr (2, [.int ph, .int di, .long lm, .long cu, .long la, .long en]))] sz) [] [(h0, .inr (2, [.int u, .int di, .long lm, .long cu, .long la, .long en]))] t) (va_A [(h0, .inr (2, [.int ph, .int di, .long lm, .long cu, .long la, .long en]))] sz)) 0 0 (va_A [(h0, .inr (2, [.int ph, .int di, .long lm, .long cu, .long la, .long en]))] sz) := by
  refine Met.ofW (cc := b_Ta_breakOff) (maxL := 1) (ret := (some .int)) (by decide) rfl ?_
  intro p e s m args below meth c s₁ B hml hv
  obtain ⟨rfl, hsz, hN, hP, hK, hD0⟩ := hv
  have hx := B.exec
  have hb := B.bytes
  have hr := B.returns
  have hts := atoms_spec (ws := w_Ta_breakOff) B.pre
  have hB := big_of hts
  have hown : s.vm.findClass R_Ta = some m.cls := findClass_of_methodNamed B.named
  have hlocks := B.notSynchronized
  subst hsz
  have hD := hD0.self (sz := s.heap.size)
  generalize hAe : va_A [(h0, .inr (2, [.int ph, .int di, .long lm, .long cu, .long la, .long en]))] s.heap.size = A at hD ⊢
  have hA : ∀ q : Nat, s.heap.size ≤ q → A q := fun q h => by rw [← hAe]; exact Or.inr h
  have hS : va_S A s.heap s.heap [] := va_S.rf
  have hP : va_P (dC, dI) classes [(h0, .inr (2, [.int ph, .int di, .long lm, .long cu, .long la, .long en]))] s.heap := hP
  have hl := lv_entry ([.ref h0]) (n := 1) (Nat.le_of_ble_eq_true rfl)
  rw [lg_entry_eq]
  generalize (lg_sl ([.ref h0]) ++ List.replicate (1 - (lg_sl ([.ref h0])).length) Slot.unset).toArray = ls at hl ⊢
  have hl : lv_has ls 1 [(0, .ref h0)] := hl
  refine lv_aload_n hx hb d_Ta_breakOff_0 rfl (lv_at hl 0 rfl) ?_
  refine kc_v (va_runV (As := []) (rest := []) ⟨hx, hb, hml, hown, hts⟩ (c_Ta_end l dC dI h0 s.heap.size ph di lm cu la en  ) (cwV 0 hts (ginV kb_44 kb_45 kb_46 kb_47 kb_43) rfl rfl rfl (by decide +kernel) ⟨Nat.le_of_ble_eq_true rfl, Nat.le_of_ble_eq_true rfl⟩) (preV (ci := 2) (wc := [(h0, .inr (2, [.int ph, .int di, .long lm, .long cu, .long la, .long en]))]) hK hN hP hD [0] rfl rfl (by decide) [] rfl rfl rfl) rfl rfl hl.1 rfl (lv_room (Nat.le_of_ble_eq_true rfl)) d_Ta_breakOff_1 ⟨Nat.le_of_ble_eq_true rfl, Nat.le_of_ble_eq_true rfl⟩) hP hD hS hA [0] [] (wr := []) rfl rfl (by decide) (by decide) (fun u_1 H locs hw_1 hP hD hK1 hS => ?_)
  obtain ⟨ph2_1, rfl⟩ : ∃ z, z = u_1 := ⟨_, rfl⟩
  have hw_1 : True := hw_1
  have hP : va_P (dC, dI) classes [(h0, .inr (2, [.int ph2_1, .int di, .long lm, .long cu, .long la, .long en]))] H := hP
  have hD : va_D A [(h0, .inr (2, [.int ph2_1, .int di, .long lm, .long cu, .long la, .long en]))] := hD
  refine lv_sipush (v := 5000) hx hb d_Ta_breakOff_4 (by decide) ?_
  have hP9 := hP.sub (ws' := [(h0, .inr (2, [.int ph2_1, .int di, .long lm, .long cu, .long la, .long en]))]) [0] rfl
  have hD9 := hD.sub (ws' := [(h0, .inr (2, [.int ph2_1, .int di, .long lm, .long cu, .long la, .long en]))]) [0] (by decide) rfl
  have hK9 := hK.sub (tys' := []) [] rfl
  exact W.iret (v := 5000) hx hb hr (fun t ht hW => ⟨⟨5000, (ph2_1), rfl, trivial, by rw [ht]; exact hP9, va_K.moved hW.alike hK9, hD9⟩, hS.F ht⟩) hS.2.2 d_Ta_breakOff_7
set_option maxHeartbeats 4000000 in
set_option maxRecDepth 100000 in
theorem c_Ta_wholeEnergy (l : Launch) (dC : Nat → ClassId) (dI : Nat → Nat → Nat) (h0 : Nat) (sz : Nat) (ph : Int32) (di : Int32) (lm : Int64) (cu : Int64) (la : Int64) (en : Int64) : Met l y_Ta_wholeEnergy w_Ta_wholeEnergy ({ frames := 0, cells := 0, slots := 0, locals := 0 }) (cPre dC dI [.ref h0] sz [] [(h0, .inr (2, [.int ph, .int di, .long lm, .long cu, .long la, .long en]))]) (va_Ql (fun (r : Int64) (u : Unit) => True) (fun (u : Unit) (t : State) => cB dC dI (va_A [(h0, .inr (2, [.int ph, .int di, .long lm, .long cu, .long la, .long en]))] sz) [] [(h0, .inr (2, [.int ph, .int di, .long lm, .long cu, .long la, .long en]))] t) (va_A [(h0, .inr (2, [.int ph, .int di, .long lm, .long cu, .long la, .long en]))] sz)) 0 0 (va_A [(h0, .inr (2, [.int ph, .int di, .long lm, .long cu, .long la, .long en]))] sz) := by
  refine Met.ofW (cc := b_Ta_wholeEnergy) (maxL := 1) (ret := (some .long)) (by decide) rfl ?_
  intro p e s m args below meth c s₁ B hml hv
  obtain ⟨rfl, hsz, hN, hP, hK, hD0⟩ := hv
  have hx := B.exec
  have hb := B.bytes
  have hr := B.returns
  have hts := atoms_spec (ws := w_Ta_wholeEnergy) B.pre
  have hB := big_of hts
  have hown : s.vm.findClass R_Ta = some m.cls := findClass_of_methodNamed B.named
  have hlocks := B.notSynchronized
  subst hsz
  have hD := hD0.self (sz := s.heap.size)
  generalize hAe : va_A [(h0, .inr (2, [.int ph, .int di, .long lm, .long cu, .long la, .long en]))] s.heap.size = A at hD ⊢
  have hA : ∀ q : Nat, s.heap.size ≤ q → A q := fun q h => by rw [← hAe]; exact Or.inr h
  have hS : va_S A s.heap s.heap [] := va_S.rf
  have hP : va_P (dC, dI) classes [(h0, .inr (2, [.int ph, .int di, .long lm, .long cu, .long la, .long en]))] s.heap := hP
  have hl := lv_entry ([.ref h0]) (n := 1) (Nat.le_of_ble_eq_true rfl)
  rw [lg_entry_eq]
  generalize (lg_sl ([.ref h0]) ++ List.replicate (1 - (lg_sl ([.ref h0])).length) Slot.unset).toArray = ls at hl ⊢
  have hl : lv_has ls 1 [(0, .ref h0)] := hl
  refine lv_aload_n hx hb d_Ta_wholeEnergy_0 rfl (lv_at hl 0 rfl) ?_
  refine va_get (D := (dC, dI)) (ci := 2) (v := .long en) (C := R_Ta) (T := F_Ta) (N := 6) hx hb hB inC_Ta hown hK hP 0 rfl rfl 5 (by decide) (hB _ kb_37) (fun _ h9 => h9) rfl d_Ta_wholeEnergy_1 ?_
  refine lv_ldc2 (v := 36000) hx hb hown (hB _ kb_48) d_Ta_wholeEnergy_4 ?_
  refine lv_ldiv hx hb d_Ta_wholeEnergy_7 (by decide) ?_
  refine lv_topl (fun x_7 ex_7 => ?_)
  have hP9 := hP.sub (ws' := [(h0, .inr (2, [.int ph, .int di, .long lm, .long cu, .long la, .long en]))]) [0] rfl
  have hD9 := hD.sub (ws' := [(h0, .inr (2, [.int ph, .int di, .long lm, .long cu, .long la, .long en]))]) [0] (by decide) rfl
  have hK9 := hK.sub (tys' := []) [] rfl
  exact W.lret (v := x_7) hx hb hr (fun t ht hW => ⟨⟨x_7, (), rfl, trivial, by rw [ht]; exact hP9, va_K.moved hW.alike hK9, hD9⟩, hS.F ht⟩) hS.2.2 d_Ta_wholeEnergy_8
set_option maxHeartbeats 4000000 in
set_option maxRecDepth 100000 in
theorem c_Ta_isLate (l : Launch) (dC : Nat → ClassId) (dI : Nat → Nat → Nat) (h0 : Nat) (sz : Nat) (ph : Int32) (di : Int32) (lm : Int64) (cu : Int64) (la : Int64) (en : Int64) (p0 : Int64) : Met l y_Ta_isLate w_Ta_isLate ({ frames := 1, cells := 0, slots := 0, locals := 20 }) (cPre dC dI [.ref h0, .long p0] sz [] [(h0, .inr (2, [.int ph, .int di, .long lm, .long cu, .long la, .long en]))]) (va_Qi (fun (r : Int32) (u : Unit) => True) (fun (u : Unit) (t : State) => cB dC dI (va_A [(h0, .inr (2, [.int ph, .int di, .long lm, .long cu, .long la, .long en]))] sz) [] [(h0, .inr (2, [.int ph, .int di, .long lm, .long cu, .long la, .long en]))] t) (va_A [(h0, .inr (2, [.int ph, .int di, .long lm, .long cu, .long la, .long en]))] sz)) 0 0 (va_A [(h0, .inr (2, [.int ph, .int di, .long lm, .long cu, .long la, .long en]))] sz) := by
  refine Met.ofW (cc := b_Ta_isLate) (maxL := 3) (ret := (some .boolean)) (by decide) rfl ?_
  intro p e s m args below meth c s₁ B hml hv
  obtain ⟨rfl, hsz, hN, hP, hK, hD0⟩ := hv
  have hx := B.exec
  have hb := B.bytes
  have hr := B.returns
  have hts := atoms_spec (ws := w_Ta_isLate) B.pre
  have hB := big_of hts
  have hown : s.vm.findClass R_Ta = some m.cls := findClass_of_methodNamed B.named
  have hlocks := B.notSynchronized
  subst hsz
  have hD := hD0.self (sz := s.heap.size)
  generalize hAe : va_A [(h0, .inr (2, [.int ph, .int di, .long lm, .long cu, .long la, .long en]))] s.heap.size = A at hD ⊢
  have hA : ∀ q : Nat, s.heap.size ≤ q → A q := fun q h => by rw [← hAe]; exact Or.inr h
  have hS : va_S A s.heap s.heap [] := va_S.rf
  have hP : va_P (dC, dI) classes [(h0, .inr (2, [.int ph, .int di, .long lm, .long cu, .long la, .long en]))] s.heap := hP
  have hl := lv_entry ([.ref h0, .long p0]) (n := 3) (Nat.le_of_ble_eq_true rfl)
  rw [lg_entry_eq]
  generalize (lg_sl ([.ref h0, .long p0]) ++ List.replicate (3 - (lg_sl ([.ref h0, .long p0])).length) Slot.unset).toArray = ls at hl ⊢
  have hl : lv_has ls 3 [(0, .ref h0), (1, .long p0)] := hl
  refine lv_aload_n hx hb d_Ta_isLate_0 rfl (lv_at hl 0 rfl) ?_
  refine kc_i (va_runV (As := []) (rest := []) ⟨hx, hb, hml, hown, hts⟩ (c_Ta_isOn l dC dI h0 s.heap.size ph di lm cu la en  ) (cwV 0 hts (ginV kb_50 kb_51 kb_52 kb_47 kb_49) rfl rfl rfl (by decide +kernel) ⟨Nat.le_of_ble_eq_true rfl, Nat.le_of_ble_eq_true rfl⟩) (preV (ci := 2) (wc := [(h0, .inr (2, [.int ph, .int di, .long lm, .long cu, .long la, .long en]))]) hK hN hP hD [0] rfl rfl (by decide) [] rfl rfl rfl) rfl rfl hl.1 rfl (lv_room (Nat.le_of_ble_eq_true rfl)) d_Ta_isLate_1 ⟨Nat.le_of_ble_eq_true rfl, Nat.le_of_ble_eq_true rfl⟩) hP hD hS hA [0] [] (wr := []) rfl rfl (by decide) (by decide) (fun r_1 u_1 H locs hw_1 hP hD hK1 hS => ?_)
  have hw_1 : True := hw_1
  have hP : va_P (dC, dI) classes [(h0, .inr (2, [.int ph, .int di, .long lm, .long cu, .long la, .long en]))] H := hP
  have hD : va_D A [(h0, .inr (2, [.int ph, .int di, .long lm, .long cu, .long la, .long en]))] := hD
  refine lv_if_eq (tgt := 24) hx hb d_Ta_isLate_4 (by decide) (fun c_4 => ?_) (fun c_4 => ?_)
  · skip
    refine lv_iconst (v := 0) hx hb d_Ta_isLate_24 (by decide) ?_
    have hP9 := hP.sub (ws' := [(h0, .inr (2, [.int ph, .int di, .long lm, .long cu, .long la, .long en]))]) [0] rfl
    have hD9 := hD.sub (ws' := [(h0, .inr (2, [.int ph, .int di, .long lm, .long cu, .long la, .long en]))]) [0] (by decide) rfl
    have hK9 := hK.sub (tys' := []) [] rfl
    exact W.zret (v := 0) (ty := .boolean) hx hb hr (rfl) (fun t ht hW => ⟨⟨0, (), rfl, trivial, by rw [ht]; exact hP9, va_K.moved hW.alike hK9, hD9⟩, hS.F ht⟩) hS.2.2 d_Ta_isLate_25
  · skip
    refine lv_lload_n hx hb d_Ta_isLate_7 rfl (lv_at hl 1 rfl) ?_
    refine lv_aload_n hx hb d_Ta_isLate_8 rfl (lv_at hl 0 rfl) ?_
    refine va_get (D := (dC, dI)) (ci := 2) (v := .long la) (C := R_Ta) (T := F_Ta) (N := 6) hx hb hB inC_Ta hown hK hP 0 rfl rfl 4 (by decide) (hB _ kb_36) (fun _ h9 => h9) rfl d_Ta_isLate_9 ?_
    refine lv_ldc2 (v := 5000) hx hb hown (hB _ kb_53) d_Ta_isLate_12 ?_
    refine lv_ladd hx hb d_Ta_isLate_15 ?_
    refine lv_topl (fun x_15 ex_15 => ?_)
    refine W.lcmp hx hb d_Ta_isLate_16 ?_
    refine lv_if_le (tgt := 24) hx hb d_Ta_isLate_17 (by decide) (fun c_17 => ?_) (fun c_17 => ?_)
    · have c_17 := (lg_cmp_le _ _).mp c_17
      refine lv_iconst (v := 0) hx hb d_Ta_isLate_24 (by decide) ?_
      have hP9 := hP.sub (ws' := [(h0, .inr (2, [.int ph, .int di, .long lm, .long cu, .long la, .long en]))]) [0] rfl
      have hD9 := hD.sub (ws' := [(h0, .inr (2, [.int ph, .int di, .long lm, .long cu, .long la, .long en]))]) [0] (by decide) rfl
      have hK9 := hK.sub (tys' := []) [] rfl
      exact W.zret (v := 0) (ty := .boolean) hx hb hr (rfl) (fun t ht hW => ⟨⟨0, (), rfl, trivial, by rw [ht]; exact hP9, va_K.moved hW.alike hK9, hD9⟩, hS.F ht⟩) hS.2.2 d_Ta_isLate_25
    · have c_17 := mt (lg_cmp_le _ _).mpr c_17
      refine lv_iconst (v := 1) hx hb d_Ta_isLate_20 (by decide) ?_
      refine lv_goto (tgt := 25) hx hb d_Ta_isLate_21 (by decide) ?_
      have hP9 := hP.sub (ws' := [(h0, .inr (2, [.int ph, .int di, .long lm, .long cu, .long la, .long en]))]) [0] rfl
      have hD9 := hD.sub (ws' := [(h0, .inr (2, [.int ph, .int di, .long lm, .long cu, .long la, .long en]))]) [0] (by decide) rfl
      have hK9 := hK.sub (tys' := []) [] rfl
      exact W.zret (v := 1) (ty := .boolean) hx hb hr (rfl) (fun t ht hW => ⟨⟨1, (), rfl, trivial, by rw [ht]; exact hP9, va_K.moved hW.alike hK9, hD9⟩, hS.F ht⟩) hS.2.2 d_Ta_isLate_25
set_option maxHeartbeats 4000000 in
set_option maxRecDepth 100000 in
theorem c_Ta_phaseAtVolts (l : Launch) (dC : Nat → ClassId) (dI : Nat → Nat → Nat) (sz : Nat) (p0 : Int64) : Met l y_Ta_phaseAtVolts w_Ta_phaseAtVolts ({ frames := 1, cells := 0, slots := 0, locals := 25 }) (cPre dC dI [.long p0] sz [] []) (va_Qi (fun (r : Int32) (u : Unit) => True) (fun (u : Unit) (t : State) => cB dC dI (va_A [] sz) [] [] t) (va_A [] sz)) 0 0 (va_A [] sz) := by
  refine Met.ofW (cc := b_Ta_phaseAtVolts) (maxL := 2) (ret := (some .int)) (by decide) rfl ?_
  intro p e s m args below meth c s₁ B hml hv
  obtain ⟨rfl, hsz, hN, hP, hK, hD0⟩ := hv
  have hx := B.exec
  have hb := B.bytes
  have hr := B.returns
  have hts := atoms_spec (ws := w_Ta_phaseAtVolts) B.pre
  have hB := big_of hts
  have hown : s.vm.findClass R_Ta = some m.cls := findClass_of_methodNamed B.named
  have hlocks := B.notSynchronized
  subst hsz
  have hD := hD0.self (sz := s.heap.size)
  generalize hAe : va_A [] s.heap.size = A at hD ⊢
  have hA : ∀ q : Nat, s.heap.size ≤ q → A q := fun q h => by rw [← hAe]; exact Or.inr h
  have hS : va_S A s.heap s.heap [] := va_S.rf
  have hP : va_P (dC, dI) classes [] s.heap := hP
  have hl := lv_entry ([.long p0]) (n := 2) (Nat.le_of_ble_eq_true rfl)
  rw [lg_entry_eq]
  generalize (lg_sl ([.long p0]) ++ List.replicate (2 - (lg_sl ([.long p0])).length) Slot.unset).toArray = ls at hl ⊢
  have hl : lv_has ls 2 [(0, .long p0)] := hl
  refine lv_lload_n hx hb d_Ta_phaseAtVolts_0 rfl (lv_at hl 0 rfl) ?_
  refine lv_ldc2 (v := 380) hx hb hown (hB _ kb_54) d_Ta_phaseAtVolts_1 ?_
  refine lv_ldc2 (v := 420) hx hb hown (hB _ kb_55) d_Ta_phaseAtVolts_4 ?_
  refine kc_i (va_runSN (As := [.long p0, .long 380, .long 420]) (rest := []) ⟨hx, hb, hml, hown, hts⟩ (c_X_isWithin l dC dI  s.heap.size  p0 380 420 ) ⟨va_cnB 3 hts (gin kb_6) rfl rfl rfl (hN _ kn_2) (hB _ kb_7) (by decide +kernel) ⟨Nat.le_of_ble_eq_true rfl, Nat.le_of_ble_eq_true rfl⟩, (hB _ kb_8), trivial⟩ (preS (wc := []) hK hN hP hD [] rfl rfl (by decide) [] rfl) rfl rfl hl.1 rfl (lv_room (Nat.le_of_ble_eq_true rfl)) d_Ta_phaseAtVolts_7 ⟨Nat.le_of_ble_eq_true rfl, Nat.le_of_ble_eq_true rfl⟩) hP hD hS hA [] [] (wr := []) rfl rfl (by decide) (by decide) (fun r_7 u_7 H locs hw_7 hP hD hK1 hS => ?_)
  have hw_7 : r_7 = bi (380 ≤ p0 ∧ p0 ≤ 420) := hw_7
  have hP : va_P (dC, dI) classes [] H := hP
  have hD : va_D A [] := hD
  refine lv_if_eq (tgt := 18) hx hb d_Ta_phaseAtVolts_10 (by decide) (fun c_10 => ?_) (fun c_10 => ?_)
  · have c_10 := bi_n (hw_7.symm.trans c_10)
    refine lv_iconst (v := 5) hx hb d_Ta_phaseAtVolts_18 (by decide) ?_
    have hP9 := hP.sub (ws' := []) [] rfl
    have hD9 := hD.sub (ws' := []) [] (by decide) rfl
    have hK9 := hK.sub (tys' := []) [] rfl
    exact W.iret (v := 5) hx hb hr (fun t ht hW => ⟨⟨5, (), rfl, trivial, by rw [ht]; exact hP9, va_K.moved hW.alike hK9, hD9⟩, hS.F ht⟩) hS.2.2 d_Ta_phaseAtVolts_19
  · have c_10 := bi_y hw_7 c_10
    refine lv_bipush (v := 6) hx hb d_Ta_phaseAtVolts_13 (by decide) ?_
    refine lv_goto (tgt := 19) hx hb d_Ta_phaseAtVolts_15 (by decide) ?_
    have hP9 := hP.sub (ws' := []) [] rfl
    have hD9 := hD.sub (ws' := []) [] (by decide) rfl
    have hK9 := hK.sub (tys' := []) [] rfl
    exact W.iret (v := 6) hx hb hr (fun t ht hW => ⟨⟨6, (), rfl, trivial, by rw [ht]; exact hP9, va_K.moved hW.alike hK9, hD9⟩, hS.F ht⟩) hS.2.2 d_Ta_phaseAtVolts_19
set_option maxHeartbeats 4000000 in
set_option maxRecDepth 100000 in
theorem c_Ta_isLimit (l : Launch) (dC : Nat → ClassId) (dI : Nat → Nat → Nat) (sz : Nat) (p0 : Int64) : Met l y_Ta_isLimit w_Ta_isLimit ({ frames := 1, cells := 0, slots := 0, locals := 25 }) (cPre dC dI [.long p0] sz [] []) (va_Qi (fun (r : Int32) (u : Unit) => r = bi (1 ≤ p0 ∧ p0 ≤ 5000)) (fun (u : Unit) (t : State) => cB dC dI (va_A [] sz) [] [] t) (va_A [] sz)) 0 0 (va_A [] sz) := by
  refine Met.ofW (cc := b_Ta_isLimit) (maxL := 2) (ret := (some .boolean)) (by decide) rfl ?_
  intro p e s m args below meth c s₁ B hml hv
  obtain ⟨rfl, hsz, hN, hP, hK, hD0⟩ := hv
  have hx := B.exec
  have hb := B.bytes
  have hr := B.returns
  have hts := atoms_spec (ws := w_Ta_isLimit) B.pre
  have hB := big_of hts
  have hown : s.vm.findClass R_Ta = some m.cls := findClass_of_methodNamed B.named
  have hlocks := B.notSynchronized
  subst hsz
  have hD := hD0.self (sz := s.heap.size)
  generalize hAe : va_A [] s.heap.size = A at hD ⊢
  have hA : ∀ q : Nat, s.heap.size ≤ q → A q := fun q h => by rw [← hAe]; exact Or.inr h
  have hS : va_S A s.heap s.heap [] := va_S.rf
  have hP : va_P (dC, dI) classes [] s.heap := hP
  have hl := lv_entry ([.long p0]) (n := 2) (Nat.le_of_ble_eq_true rfl)
  rw [lg_entry_eq]
  generalize (lg_sl ([.long p0]) ++ List.replicate (2 - (lg_sl ([.long p0])).length) Slot.unset).toArray = ls at hl ⊢
  have hl : lv_has ls 2 [(0, .long p0)] := hl
  refine lv_lload_n hx hb d_Ta_isLimit_0 rfl (lv_at hl 0 rfl) ?_
  refine lv_lconst (v := 1) hx hb d_Ta_isLimit_1 (by decide) ?_
  refine lv_ldc2 (v := 5000) hx hb hown (hB _ kb_53) d_Ta_isLimit_2 ?_
  refine kc_i (va_runSN (As := [.long p0, .long 1, .long 5000]) (rest := []) ⟨hx, hb, hml, hown, hts⟩ (c_X_isWithin l dC dI  s.heap.size  p0 1 5000 ) ⟨va_cnB 3 hts (gin kb_6) rfl rfl rfl (hN _ kn_2) (hB _ kb_7) (by decide +kernel) ⟨Nat.le_of_ble_eq_true rfl, Nat.le_of_ble_eq_true rfl⟩, (hB _ kb_8), trivial⟩ (preS (wc := []) hK hN hP hD [] rfl rfl (by decide) [] rfl) rfl rfl hl.1 rfl (lv_room (Nat.le_of_ble_eq_true rfl)) d_Ta_isLimit_5 ⟨Nat.le_of_ble_eq_true rfl, Nat.le_of_ble_eq_true rfl⟩) hP hD hS hA [] [] (wr := []) rfl rfl (by decide) (by decide) (fun r_5 u_5 H locs hw_5 hP hD hK1 hS => ?_)
  have hw_5 : r_5 = bi (1 ≤ p0 ∧ p0 ≤ 5000) := hw_5
  have hP : va_P (dC, dI) classes [] H := hP
  have hD : va_D A [] := hD
  have hP9 := hP.sub (ws' := []) [] rfl
  have hD9 := hD.sub (ws' := []) [] (by decide) rfl
  have hK9 := hK.sub (tys' := []) [] rfl
  exact W.zret (v := r_5) (ty := .boolean) hx hb hr (nar_bi hw_5) (fun t ht hW => ⟨⟨r_5, (), rfl, hw_5, by rw [ht]; exact hP9, va_K.moved hW.alike hK9, hD9⟩, hS.F ht⟩) hS.2.2 d_Ta_isLimit_8
set_option maxHeartbeats 4000000 in
set_option maxRecDepth 100000 in
theorem c_Ta_phaseAfter (l : Launch) (dC : Nat → ClassId) (dI : Nat → Nat → Nat) (h0 : Nat) (sz : Nat) (ph : Int32) (di : Int32) (lm : Int64) (cu : Int64) (la : Int64) (en : Int64) (p0 : Int32) (p1 : Int64) (p2 : Int32) : Met l y_Ta_phaseAfter w_Ta_phaseAfter ({ frames := 2, cells := 0, slots := 0, locals := 46 }) (cPre dC dI [.ref h0, .int p0, .long p1, .int p2] sz [] [(h0, .inr (2, [.int ph, .int di, .long lm, .long cu, .long la, .long en]))]) (va_Qi (fun (r : Int32) (u : Unit) => True) (fun (u : Unit) (t : State) => cB dC dI (va_A [(h0, .inr (2, [.int ph, .int di, .long lm, .long cu, .long la, .long en]))] sz) [] [(h0, .inr (2, [.int ph, .int di, .long lm, .long cu, .long la, .long en]))] t) (va_A [(h0, .inr (2, [.int ph, .int di, .long lm, .long cu, .long la, .long en]))] sz)) 0 0 (va_A [(h0, .inr (2, [.int ph, .int di, .long lm, .long cu, .long la, .long en]))] sz) := by
  refine Met.ofW (cc := b_Ta_phaseAfter) (maxL := 5) (ret := (some .int)) (by decide) rfl ?_
  intro p e s m args below meth c s₁ B hml hv
  obtain ⟨rfl, hsz, hN, hP, hK, hD0⟩ := hv
  have hx := B.exec
  have hb := B.bytes
  have hr := B.returns
  have hts := atoms_spec (ws := w_Ta_phaseAfter) B.pre
  have hB := big_of hts
  have hown : s.vm.findClass R_Ta = some m.cls := findClass_of_methodNamed B.named
  have hlocks := B.notSynchronized
  subst hsz
  have hD := hD0.self (sz := s.heap.size)
  generalize hAe : va_A [(h0, .inr (2, [.int ph, .int di, .long lm, .long cu, .long la, .long en]))] s.heap.size = A at hD ⊢
  have hA : ∀ q : Nat, s.heap.size ≤ q → A q := fun q h => by rw [← hAe]; exact Or.inr h
  have hS : va_S A s.heap s.heap [] := va_S.rf
  have hP : va_P (dC, dI) classes [(h0, .inr (2, [.int ph, .int di, .long lm, .long cu, .long la, .long en]))] s.heap := hP
  have hl := lv_entry ([.ref h0, .int p0, .long p1, .int p2]) (n := 5) (Nat.le_of_ble_eq_true rfl)
  rw [lg_entry_eq]
  generalize (lg_sl ([.ref h0, .int p0, .long p1, .int p2]) ++ List.replicate (5 - (lg_sl ([.ref h0, .int p0, .long p1, .int p2])).length) Slot.unset).toArray = ls at hl ⊢
  have hl : lv_has ls 5 [(0, .ref h0), (1, .int p0), (2, .long p1), (4, .int p2)] := hl
  refine lv_iload_n hx hb d_Ta_phaseAfter_0 rfl (lv_at hl 1 rfl) ?_
  rcases swx 0 10 p0 with c_1 | c_1
  · refine lv_tableOut (tgt := 298) hx hb d_Ta_phaseAfter_1 (by omega) (by decide) ?_
    refine lv_iconst (v := (-1)) hx hb d_Ta_phaseAfter_298 (by decide) ?_
    have hP9 := hP.sub (ws' := [(h0, .inr (2, [.int ph, .int di, .long lm, .long cu, .long la, .long en]))]) [0] rfl
    have hD9 := hD.sub (ws' := [(h0, .inr (2, [.int ph, .int di, .long lm, .long cu, .long la, .long en]))]) [0] (by decide) rfl
    have hK9 := hK.sub (tys' := []) [] rfl
    exact W.iret (v := (-1)) hx hb hr (fun t ht hW => ⟨⟨(-1), (), rfl, trivial, by rw [ht]; exact hP9, va_K.moved hW.alike hK9, hD9⟩, hS.F ht⟩) hS.2.2 d_Ta_phaseAfter_299
  · obtain ⟨j_1, hj_1⟩ : ∃ j : Nat, p0.toInt = 0 + (j : Int) ∧ j < 11 := ⟨(p0.toInt - 0).toNat, by omega, by omega⟩
    rcases (show j_1 = 0 ∨ j_1 = 1 ∨ j_1 = 2 ∨ j_1 = 3 ∨ j_1 = 4 ∨ j_1 = 5 ∨ j_1 = 6 ∨ j_1 = 7 ∨ j_1 = 8 ∨ j_1 = 9 ∨ j_1 = 10 by omega) with h_1 | h_1 | h_1 | h_1 | h_1 | h_1 | h_1 | h_1 | h_1 | h_1 | h_1
    · have t_1 : p0.toInt = 0 := by omega
      have i_1 : p0 = 0 := Int32.toInt_inj.mp (t_1.trans (by decide))
      refine lv_tableIn (tgt := 60) hx hb d_Ta_phaseAfter_1 (by omega) (by omega) (by rw [t_1]; rfl) (by decide) ?_
      refine lv_aload_n hx hb d_Ta_phaseAfter_60 rfl (lv_at hl 0 rfl) ?_
      refine va_get (D := (dC, dI)) (ci := 2) (v := .int ph) (C := R_Ta) (T := F_Ta) (N := 6) hx hb hB inC_Ta hown hK hP 0 rfl rfl 0 (by decide) (hB _ kb_32) (fun _ h9 => h9) rfl d_Ta_phaseAfter_61 ?_
      refine lv_if_ne (tgt := 76) hx hb d_Ta_phaseAfter_64 (by decide) (fun c_64 => ?_) (fun c_64 => ?_)
      · skip
        refine lv_iconst (v := (-1)) hx hb d_Ta_phaseAfter_76 (by decide) ?_
        have hP9 := hP.sub (ws' := [(h0, .inr (2, [.int ph, .int di, .long lm, .long cu, .long la, .long en]))]) [0] rfl
        have hD9 := hD.sub (ws' := [(h0, .inr (2, [.int ph, .int di, .long lm, .long cu, .long la, .long en]))]) [0] (by decide) rfl
        have hK9 := hK.sub (tys' := []) [] rfl
        exact W.iret (v := (-1)) hx hb hr (fun t ht hW => ⟨⟨(-1), (), rfl, trivial, by rw [ht]; exact hP9, va_K.moved hW.alike hK9, hD9⟩, hS.F ht⟩) hS.2.2 d_Ta_phaseAfter_77
      · skip
        refine lv_iload hx hb d_Ta_phaseAfter_67 (lv_at hl 3 rfl) ?_
        refine lv_if_eq (tgt := 76) hx hb d_Ta_phaseAfter_69 (by decide) (fun c_69 => ?_) (fun c_69 => ?_)
        · skip
          refine lv_iconst (v := (-1)) hx hb d_Ta_phaseAfter_76 (by decide) ?_
          have hP9 := hP.sub (ws' := [(h0, .inr (2, [.int ph, .int di, .long lm, .long cu, .long la, .long en]))]) [0] rfl
          have hD9 := hD.sub (ws' := [(h0, .inr (2, [.int ph, .int di, .long lm, .long cu, .long la, .long en]))]) [0] (by decide) rfl
          have hK9 := hK.sub (tys' := []) [] rfl
          exact W.iret (v := (-1)) hx hb hr (fun t ht hW => ⟨⟨(-1), (), rfl, trivial, by rw [ht]; exact hP9, va_K.moved hW.alike hK9, hD9⟩, hS.F ht⟩) hS.2.2 d_Ta_phaseAfter_77
        · skip
          refine lv_iconst (v := 1) hx hb d_Ta_phaseAfter_72 (by decide) ?_
          refine lv_goto (tgt := 77) hx hb d_Ta_phaseAfter_73 (by decide) ?_
          have hP9 := hP.sub (ws' := [(h0, .inr (2, [.int ph, .int di, .long lm, .long cu, .long la, .long en]))]) [0] rfl
          have hD9 := hD.sub (ws' := [(h0, .inr (2, [.int ph, .int di, .long lm, .long cu, .long la, .long en]))]) [0] (by decide) rfl
          have hK9 := hK.sub (tys' := []) [] rfl
          exact W.iret (v := 1) hx hb hr (fun t ht hW => ⟨⟨1, (), rfl, trivial, by rw [ht]; exact hP9, va_K.moved hW.alike hK9, hD9⟩, hS.F ht⟩) hS.2.2 d_Ta_phaseAfter_77
    · have t_1 : p0.toInt = 1 := by omega
      have i_1 : p0 = 1 := Int32.toInt_inj.mp (t_1.trans (by decide))
      refine lv_tableIn (tgt := 78) hx hb d_Ta_phaseAfter_1 (by omega) (by omega) (by rw [t_1]; rfl) (by decide) ?_
      refine lv_aload_n hx hb d_Ta_phaseAfter_78 rfl (lv_at hl 0 rfl) ?_
      refine va_get (D := (dC, dI)) (ci := 2) (v := .int ph) (C := R_Ta) (T := F_Ta) (N := 6) hx hb hB inC_Ta hown hK hP 0 rfl rfl 0 (by decide) (hB _ kb_32) (fun _ h9 => h9) rfl d_Ta_phaseAfter_79 ?_
      refine lv_iconst (v := 1) hx hb d_Ta_phaseAfter_82 (by decide) ?_
      refine lv_icmp_ne (tgt := 102) hx hb d_Ta_phaseAfter_83 (by decide) (fun c_83 => ?_) (fun c_83 => ?_)
      · skip
        refine lv_iconst (v := (-1)) hx hb d_Ta_phaseAfter_102 (by decide) ?_
        have hP9 := hP.sub (ws' := [(h0, .inr (2, [.int ph, .int di, .long lm, .long cu, .long la, .long en]))]) [0] rfl
        have hD9 := hD.sub (ws' := [(h0, .inr (2, [.int ph, .int di, .long lm, .long cu, .long la, .long en]))]) [0] (by decide) rfl
        have hK9 := hK.sub (tys' := []) [] rfl
        exact W.iret (v := (-1)) hx hb hr (fun t ht hW => ⟨⟨(-1), (), rfl, trivial, by rw [ht]; exact hP9, va_K.moved hW.alike hK9, hD9⟩, hS.F ht⟩) hS.2.2 d_Ta_phaseAfter_103
      · skip
        refine lv_lload_n hx hb d_Ta_phaseAfter_86 rfl (lv_at hl 2 rfl) ?_
        refine lv_lconst (v := 0) hx hb d_Ta_phaseAfter_87 (by decide) ?_
        refine W.lcmp hx hb d_Ta_phaseAfter_88 ?_
        refine lv_if_eq (tgt := 98) hx hb d_Ta_phaseAfter_89 (by decide) (fun c_89 => ?_) (fun c_89 => ?_)
        · have c_89 := (lg_cmp_eq _ _).mp c_89
          refine lv_iconst (v := 2) hx hb d_Ta_phaseAfter_98 (by decide) ?_
          refine lv_goto (tgt := 103) hx hb d_Ta_phaseAfter_99 (by decide) ?_
          have hP9 := hP.sub (ws' := [(h0, .inr (2, [.int ph, .int di, .long lm, .long cu, .long la, .long en]))]) [0] rfl
          have hD9 := hD.sub (ws' := [(h0, .inr (2, [.int ph, .int di, .long lm, .long cu, .long la, .long en]))]) [0] (by decide) rfl
          have hK9 := hK.sub (tys' := []) [] rfl
          exact W.iret (v := 2) hx hb hr (fun t ht hW => ⟨⟨2, (), rfl, trivial, by rw [ht]; exact hP9, va_K.moved hW.alike hK9, hD9⟩, hS.F ht⟩) hS.2.2 d_Ta_phaseAfter_103
        · have c_89 := mt (lg_cmp_eq _ _).mpr c_89
          refine lv_lload_n hx hb d_Ta_phaseAfter_92 rfl (lv_at hl 2 rfl) ?_
          refine lv_lconst (v := 1) hx hb d_Ta_phaseAfter_93 (by decide) ?_
          refine W.lcmp hx hb d_Ta_phaseAfter_94 ?_
          refine lv_if_ne (tgt := 102) hx hb d_Ta_phaseAfter_95 (by decide) (fun c_95 => ?_) (fun c_95 => ?_)
          · have c_95 := mt (lg_cmp_eq _ _).mpr c_95
            refine lv_iconst (v := (-1)) hx hb d_Ta_phaseAfter_102 (by decide) ?_
            have hP9 := hP.sub (ws' := [(h0, .inr (2, [.int ph, .int di, .long lm, .long cu, .long la, .long en]))]) [0] rfl
            have hD9 := hD.sub (ws' := [(h0, .inr (2, [.int ph, .int di, .long lm, .long cu, .long la, .long en]))]) [0] (by decide) rfl
            have hK9 := hK.sub (tys' := []) [] rfl
            exact W.iret (v := (-1)) hx hb hr (fun t ht hW => ⟨⟨(-1), (), rfl, trivial, by rw [ht]; exact hP9, va_K.moved hW.alike hK9, hD9⟩, hS.F ht⟩) hS.2.2 d_Ta_phaseAfter_103
          · have c_95 := (lg_cmp_eq _ _).mp c_95
            refine lv_iconst (v := 2) hx hb d_Ta_phaseAfter_98 (by decide) ?_
            refine lv_goto (tgt := 103) hx hb d_Ta_phaseAfter_99 (by decide) ?_
            have hP9 := hP.sub (ws' := [(h0, .inr (2, [.int ph, .int di, .long lm, .long cu, .long la, .long en]))]) [0] rfl
            have hD9 := hD.sub (ws' := [(h0, .inr (2, [.int ph, .int di, .long lm, .long cu, .long la, .long en]))]) [0] (by decide) rfl
            have hK9 := hK.sub (tys' := []) [] rfl
            exact W.iret (v := 2) hx hb hr (fun t ht hW => ⟨⟨2, (), rfl, trivial, by rw [ht]; exact hP9, va_K.moved hW.alike hK9, hD9⟩, hS.F ht⟩) hS.2.2 d_Ta_phaseAfter_103
    · have t_1 : p0.toInt = 2 := by omega
      have i_1 : p0 = 2 := Int32.toInt_inj.mp (t_1.trans (by decide))
      refine lv_tableIn (tgt := 104) hx hb d_Ta_phaseAfter_1 (by omega) (by omega) (by rw [t_1]; rfl) (by decide) ?_
      refine lv_aload_n hx hb d_Ta_phaseAfter_104 rfl (lv_at hl 0 rfl) ?_
      refine va_get (D := (dC, dI)) (ci := 2) (v := .int ph) (C := R_Ta) (T := F_Ta) (N := 6) hx hb hB inC_Ta hown hK hP 0 rfl rfl 0 (by decide) (hB _ kb_32) (fun _ h9 => h9) rfl d_Ta_phaseAfter_105 ?_
      refine lv_iconst (v := 2) hx hb d_Ta_phaseAfter_108 (by decide) ?_
      refine lv_icmp_ne (tgt := 122) hx hb d_Ta_phaseAfter_109 (by decide) (fun c_109 => ?_) (fun c_109 => ?_)
      · skip
        refine lv_iconst (v := (-1)) hx hb d_Ta_phaseAfter_122 (by decide) ?_
        have hP9 := hP.sub (ws' := [(h0, .inr (2, [.int ph, .int di, .long lm, .long cu, .long la, .long en]))]) [0] rfl
        have hD9 := hD.sub (ws' := [(h0, .inr (2, [.int ph, .int di, .long lm, .long cu, .long la, .long en]))]) [0] (by decide) rfl
        have hK9 := hK.sub (tys' := []) [] rfl
        exact W.iret (v := (-1)) hx hb hr (fun t ht hW => ⟨⟨(-1), (), rfl, trivial, by rw [ht]; exact hP9, va_K.moved hW.alike hK9, hD9⟩, hS.F ht⟩) hS.2.2 d_Ta_phaseAfter_123
      · skip
        refine lv_lload_n hx hb d_Ta_phaseAfter_112 rfl (lv_at hl 2 rfl) ?_
        refine lv_lconst (v := 1) hx hb d_Ta_phaseAfter_113 (by decide) ?_
        refine W.lcmp hx hb d_Ta_phaseAfter_114 ?_
        refine lv_if_ne (tgt := 122) hx hb d_Ta_phaseAfter_115 (by decide) (fun c_115 => ?_) (fun c_115 => ?_)
        · have c_115 := mt (lg_cmp_eq _ _).mpr c_115
          refine lv_iconst (v := (-1)) hx hb d_Ta_phaseAfter_122 (by decide) ?_
          have hP9 := hP.sub (ws' := [(h0, .inr (2, [.int ph, .int di, .long lm, .long cu, .long la, .long en]))]) [0] rfl
          have hD9 := hD.sub (ws' := [(h0, .inr (2, [.int ph, .int di, .long lm, .long cu, .long la, .long en]))]) [0] (by decide) rfl
          have hK9 := hK.sub (tys' := []) [] rfl
          exact W.iret (v := (-1)) hx hb hr (fun t ht hW => ⟨⟨(-1), (), rfl, trivial, by rw [ht]; exact hP9, va_K.moved hW.alike hK9, hD9⟩, hS.F ht⟩) hS.2.2 d_Ta_phaseAfter_123
        · have c_115 := (lg_cmp_eq _ _).mp c_115
          refine lv_iconst (v := 3) hx hb d_Ta_phaseAfter_118 (by decide) ?_
          refine lv_goto (tgt := 123) hx hb d_Ta_phaseAfter_119 (by decide) ?_
          have hP9 := hP.sub (ws' := [(h0, .inr (2, [.int ph, .int di, .long lm, .long cu, .long la, .long en]))]) [0] rfl
          have hD9 := hD.sub (ws' := [(h0, .inr (2, [.int ph, .int di, .long lm, .long cu, .long la, .long en]))]) [0] (by decide) rfl
          have hK9 := hK.sub (tys' := []) [] rfl
          exact W.iret (v := 3) hx hb hr (fun t ht hW => ⟨⟨3, (), rfl, trivial, by rw [ht]; exact hP9, va_K.moved hW.alike hK9, hD9⟩, hS.F ht⟩) hS.2.2 d_Ta_phaseAfter_123
    · have t_1 : p0.toInt = 3 := by omega
      have i_1 : p0 = 3 := Int32.toInt_inj.mp (t_1.trans (by decide))
      refine lv_tableIn (tgt := 124) hx hb d_Ta_phaseAfter_1 (by omega) (by omega) (by rw [t_1]; rfl) (by decide) ?_
      refine lv_aload_n hx hb d_Ta_phaseAfter_124 rfl (lv_at hl 0 rfl) ?_
      refine va_get (D := (dC, dI)) (ci := 2) (v := .int ph) (C := R_Ta) (T := F_Ta) (N := 6) hx hb hB inC_Ta hown hK hP 0 rfl rfl 0 (by decide) (hB _ kb_32) (fun _ h9 => h9) rfl d_Ta_phaseAfter_125 ?_
      refine lv_iconst (v := 3) hx hb d_Ta_phaseAfter_128 (by decide) ?_
      refine lv_icmp_ne (tgt := 143) hx hb d_Ta_phaseAfter_129 (by decide) (fun c_129 => ?_) (fun c_129 => ?_)
      · skip
        refine lv_iconst (v := (-1)) hx hb d_Ta_phaseAfter_143 (by decide) ?_
        have hP9 := hP.sub (ws' := [(h0, .inr (2, [.int ph, .int di, .long lm, .long cu, .long la, .long en]))]) [0] rfl
        have hD9 := hD.sub (ws' := [(h0, .inr (2, [.int ph, .int di, .long lm, .long cu, .long la, .long en]))]) [0] (by decide) rfl
        have hK9 := hK.sub (tys' := []) [] rfl
        exact W.iret (v := (-1)) hx hb hr (fun t ht hW => ⟨⟨(-1), (), rfl, trivial, by rw [ht]; exact hP9, va_K.moved hW.alike hK9, hD9⟩, hS.F ht⟩) hS.2.2 d_Ta_phaseAfter_144
      · skip
        refine lv_lload_n hx hb d_Ta_phaseAfter_132 rfl (lv_at hl 2 rfl) ?_
        refine kc_i (va_runS (As := [.long p1]) (rest := []) ⟨hx, hb, hml, hown, hts⟩ (c_Ta_isLimit l dC dI  s.heap.size  p1 ) (cwS 1 hts (ginS kb_57 kb_58 kb_47 kb_56) rfl rfl rfl (by decide +kernel) ⟨Nat.le_of_ble_eq_true rfl, Nat.le_of_ble_eq_true rfl⟩) (preS (wc := []) hK hN hP hD [] rfl rfl (by decide) [] rfl) rfl rfl hl.1 rfl (lv_room (Nat.le_of_ble_eq_true rfl)) d_Ta_phaseAfter_133 ⟨Nat.le_of_ble_eq_true rfl, Nat.le_of_ble_eq_true rfl⟩) hP hD hS hA [] [0] (wr := [(h0, .inr (2, [.int ph, .int di, .long lm, .long cu, .long la, .long en]))]) rfl rfl (by decide) (by decide) (fun r_133 u_133 H locs hw_133 hP hD hK1 hS => ?_)
        have hw_133 : r_133 = bi (1 ≤ p1 ∧ p1 ≤ 5000) := hw_133
        have hP : va_P (dC, dI) classes [(h0, .inr (2, [.int ph, .int di, .long lm, .long cu, .long la, .long en]))] H := hP
        have hD : va_D A [(h0, .inr (2, [.int ph, .int di, .long lm, .long cu, .long la, .long en]))] := hD
        refine lv_if_eq (tgt := 143) hx hb d_Ta_phaseAfter_136 (by decide) (fun c_136 => ?_) (fun c_136 => ?_)
        · have c_136 := bi_n (hw_133.symm.trans c_136)
          refine lv_iconst (v := (-1)) hx hb d_Ta_phaseAfter_143 (by decide) ?_
          have hP9 := hP.sub (ws' := [(h0, .inr (2, [.int ph, .int di, .long lm, .long cu, .long la, .long en]))]) [0] rfl
          have hD9 := hD.sub (ws' := [(h0, .inr (2, [.int ph, .int di, .long lm, .long cu, .long la, .long en]))]) [0] (by decide) rfl
          have hK9 := hK.sub (tys' := []) [] rfl
          exact W.iret (v := (-1)) hx hb hr (fun t ht hW => ⟨⟨(-1), (), rfl, trivial, by rw [ht]; exact hP9, va_K.moved hW.alike hK9, hD9⟩, hS.F ht⟩) hS.2.2 d_Ta_phaseAfter_144
        · have c_136 := bi_y hw_133 c_136
          refine lv_iconst (v := 4) hx hb d_Ta_phaseAfter_139 (by decide) ?_
          refine lv_goto (tgt := 144) hx hb d_Ta_phaseAfter_140 (by decide) ?_
          have hP9 := hP.sub (ws' := [(h0, .inr (2, [.int ph, .int di, .long lm, .long cu, .long la, .long en]))]) [0] rfl
          have hD9 := hD.sub (ws' := [(h0, .inr (2, [.int ph, .int di, .long lm, .long cu, .long la, .long en]))]) [0] (by decide) rfl
          have hK9 := hK.sub (tys' := []) [] rfl
          exact W.iret (v := 4) hx hb hr (fun t ht hW => ⟨⟨4, (), rfl, trivial, by rw [ht]; exact hP9, va_K.moved hW.alike hK9, hD9⟩, hS.F ht⟩) hS.2.2 d_Ta_phaseAfter_144
    · have t_1 : p0.toInt = 4 := by omega
      have i_1 : p0 = 4 := Int32.toInt_inj.mp (t_1.trans (by decide))
      refine lv_tableIn (tgt := 145) hx hb d_Ta_phaseAfter_1 (by omega) (by omega) (by rw [t_1]; rfl) (by decide) ?_
      refine lv_aload_n hx hb d_Ta_phaseAfter_145 rfl (lv_at hl 0 rfl) ?_
      refine va_get (D := (dC, dI)) (ci := 2) (v := .int ph) (C := R_Ta) (T := F_Ta) (N := 6) hx hb hB inC_Ta hown hK hP 0 rfl rfl 0 (by decide) (hB _ kb_32) (fun _ h9 => h9) rfl d_Ta_phaseAfter_146 ?_
      refine lv_iconst (v := 4) hx hb d_Ta_phaseAfter_149 (by decide) ?_
      refine lv_icmp_ne (tgt := 172) hx hb d_Ta_phaseAfter_150 (by decide) (fun c_150 => ?_) (fun c_150 => ?_)
      · skip
        refine lv_iconst (v := (-1)) hx hb d_Ta_phaseAfter_172 (by decide) ?_
        have hP9 := hP.sub (ws' := [(h0, .inr (2, [.int ph, .int di, .long lm, .long cu, .long la, .long en]))]) [0] rfl
        have hD9 := hD.sub (ws' := [(h0, .inr (2, [.int ph, .int di, .long lm, .long cu, .long la, .long en]))]) [0] (by decide) rfl
        have hK9 := hK.sub (tys' := []) [] rfl
        exact W.iret (v := (-1)) hx hb hr (fun t ht hW => ⟨⟨(-1), (), rfl, trivial, by rw [ht]; exact hP9, va_K.moved hW.alike hK9, hD9⟩, hS.F ht⟩) hS.2.2 d_Ta_phaseAfter_173
      · skip
        refine lv_aload_n hx hb d_Ta_phaseAfter_153 rfl (lv_at hl 0 rfl) ?_
        refine va_get (D := (dC, dI)) (ci := 2) (v := .int di) (C := R_Ta) (T := F_Ta) (N := 6) hx hb hB inC_Ta hown hK hP 0 rfl rfl 1 (by decide) (hB _ kb_33) (fun _ h9 => h9) rfl d_Ta_phaseAfter_154 ?_
        refine lv_if_eq (tgt := 172) hx hb d_Ta_phaseAfter_157 (by decide) (fun c_157 => ?_) (fun c_157 => ?_)
        · skip
          refine lv_iconst (v := (-1)) hx hb d_Ta_phaseAfter_172 (by decide) ?_
          have hP9 := hP.sub (ws' := [(h0, .inr (2, [.int ph, .int di, .long lm, .long cu, .long la, .long en]))]) [0] rfl
          have hD9 := hD.sub (ws' := [(h0, .inr (2, [.int ph, .int di, .long lm, .long cu, .long la, .long en]))]) [0] (by decide) rfl
          have hK9 := hK.sub (tys' := []) [] rfl
          exact W.iret (v := (-1)) hx hb hr (fun t ht hW => ⟨⟨(-1), (), rfl, trivial, by rw [ht]; exact hP9, va_K.moved hW.alike hK9, hD9⟩, hS.F ht⟩) hS.2.2 d_Ta_phaseAfter_173
        · skip
          refine lv_lload_n hx hb d_Ta_phaseAfter_160 rfl (lv_at hl 2 rfl) ?_
          refine lv_ldc2 (v := 100) hx hb hown (hB _ kb_59) d_Ta_phaseAfter_161 ?_
          refine W.lcmp hx hb d_Ta_phaseAfter_164 ?_
          refine lv_if_lt (tgt := 172) hx hb d_Ta_phaseAfter_165 (by decide) (fun c_165 => ?_) (fun c_165 => ?_)
          · have c_165 := (lg_cmp_lt _ _).mp c_165
            refine lv_iconst (v := (-1)) hx hb d_Ta_phaseAfter_172 (by decide) ?_
            have hP9 := hP.sub (ws' := [(h0, .inr (2, [.int ph, .int di, .long lm, .long cu, .long la, .long en]))]) [0] rfl
            have hD9 := hD.sub (ws' := [(h0, .inr (2, [.int ph, .int di, .long lm, .long cu, .long la, .long en]))]) [0] (by decide) rfl
            have hK9 := hK.sub (tys' := []) [] rfl
            exact W.iret (v := (-1)) hx hb hr (fun t ht hW => ⟨⟨(-1), (), rfl, trivial, by rw [ht]; exact hP9, va_K.moved hW.alike hK9, hD9⟩, hS.F ht⟩) hS.2.2 d_Ta_phaseAfter_173
          · have c_165 := mt (lg_cmp_lt _ _).mpr c_165
            refine lv_iconst (v := 5) hx hb d_Ta_phaseAfter_168 (by decide) ?_
            refine lv_goto (tgt := 173) hx hb d_Ta_phaseAfter_169 (by decide) ?_
            have hP9 := hP.sub (ws' := [(h0, .inr (2, [.int ph, .int di, .long lm, .long cu, .long la, .long en]))]) [0] rfl
            have hD9 := hD.sub (ws' := [(h0, .inr (2, [.int ph, .int di, .long lm, .long cu, .long la, .long en]))]) [0] (by decide) rfl
            have hK9 := hK.sub (tys' := []) [] rfl
            exact W.iret (v := 5) hx hb hr (fun t ht hW => ⟨⟨5, (), rfl, trivial, by rw [ht]; exact hP9, va_K.moved hW.alike hK9, hD9⟩, hS.F ht⟩) hS.2.2 d_Ta_phaseAfter_173
    · have t_1 : p0.toInt = 5 := by omega
      have i_1 : p0 = 5 := Int32.toInt_inj.mp (t_1.trans (by decide))
      refine lv_tableIn (tgt := 174) hx hb d_Ta_phaseAfter_1 (by omega) (by omega) (by rw [t_1]; rfl) (by decide) ?_
      refine lv_aload_n hx hb d_Ta_phaseAfter_174 rfl (lv_at hl 0 rfl) ?_
      refine va_get (D := (dC, dI)) (ci := 2) (v := .int ph) (C := R_Ta) (T := F_Ta) (N := 6) hx hb hB inC_Ta hown hK hP 0 rfl rfl 0 (by decide) (hB _ kb_32) (fun _ h9 => h9) rfl d_Ta_phaseAfter_175 ?_
      refine lv_iconst (v := 5) hx hb d_Ta_phaseAfter_178 (by decide) ?_
      refine lv_icmp_ne (tgt := 189) hx hb d_Ta_phaseAfter_179 (by decide) (fun c_179 => ?_) (fun c_179 => ?_)
      · skip
        refine lv_iconst (v := (-1)) hx hb d_Ta_phaseAfter_189 (by decide) ?_
        have hP9 := hP.sub (ws' := [(h0, .inr (2, [.int ph, .int di, .long lm, .long cu, .long la, .long en]))]) [0] rfl
        have hD9 := hD.sub (ws' := [(h0, .inr (2, [.int ph, .int di, .long lm, .long cu, .long la, .long en]))]) [0] (by decide) rfl
        have hK9 := hK.sub (tys' := []) [] rfl
        exact W.iret (v := (-1)) hx hb hr (fun t ht hW => ⟨⟨(-1), (), rfl, trivial, by rw [ht]; exact hP9, va_K.moved hW.alike hK9, hD9⟩, hS.F ht⟩) hS.2.2 d_Ta_phaseAfter_190
      · skip
        refine lv_lload_n hx hb d_Ta_phaseAfter_182 rfl (lv_at hl 2 rfl) ?_
        refine kc_i (va_runS (As := [.long p1]) (rest := []) ⟨hx, hb, hml, hown, hts⟩ (c_Ta_phaseAtVolts l dC dI  s.heap.size  p1 ) (cwS 1 hts (ginS kb_61 kb_62 kb_47 kb_60) rfl rfl rfl (by decide +kernel) ⟨Nat.le_of_ble_eq_true rfl, Nat.le_of_ble_eq_true rfl⟩) (preS (wc := []) hK hN hP hD [] rfl rfl (by decide) [] rfl) rfl rfl hl.1 rfl (lv_room (Nat.le_of_ble_eq_true rfl)) d_Ta_phaseAfter_183 ⟨Nat.le_of_ble_eq_true rfl, Nat.le_of_ble_eq_true rfl⟩) hP hD hS hA [] [0] (wr := [(h0, .inr (2, [.int ph, .int di, .long lm, .long cu, .long la, .long en]))]) rfl rfl (by decide) (by decide) (fun r_183 u_183 H locs hw_183 hP hD hK1 hS => ?_)
        have hw_183 : True := hw_183
        have hP : va_P (dC, dI) classes [(h0, .inr (2, [.int ph, .int di, .long lm, .long cu, .long la, .long en]))] H := hP
        have hD : va_D A [(h0, .inr (2, [.int ph, .int di, .long lm, .long cu, .long la, .long en]))] := hD
        refine lv_goto (tgt := 190) hx hb d_Ta_phaseAfter_186 (by decide) ?_
        have hP9 := hP.sub (ws' := [(h0, .inr (2, [.int ph, .int di, .long lm, .long cu, .long la, .long en]))]) [0] rfl
        have hD9 := hD.sub (ws' := [(h0, .inr (2, [.int ph, .int di, .long lm, .long cu, .long la, .long en]))]) [0] (by decide) rfl
        have hK9 := hK.sub (tys' := []) [] rfl
        exact W.iret (v := r_183) hx hb hr (fun t ht hW => ⟨⟨r_183, (), rfl, trivial, by rw [ht]; exact hP9, va_K.moved hW.alike hK9, hD9⟩, hS.F ht⟩) hS.2.2 d_Ta_phaseAfter_190
    · have t_1 : p0.toInt = 6 := by omega
      have i_1 : p0 = 6 := Int32.toInt_inj.mp (t_1.trans (by decide))
      refine lv_tableIn (tgt := 191) hx hb d_Ta_phaseAfter_1 (by omega) (by omega) (by rw [t_1]; rfl) (by decide) ?_
      refine lv_aload_n hx hb d_Ta_phaseAfter_191 rfl (lv_at hl 0 rfl) ?_
      refine va_get (D := (dC, dI)) (ci := 2) (v := .int ph) (C := R_Ta) (T := F_Ta) (N := 6) hx hb hB inC_Ta hown hK hP 0 rfl rfl 0 (by decide) (hB _ kb_32) (fun _ h9 => h9) rfl d_Ta_phaseAfter_192 ?_
      refine lv_iconst (v := 4) hx hb d_Ta_phaseAfter_195 (by decide) ?_
      refine lv_icmp_ne (tgt := 206) hx hb d_Ta_phaseAfter_196 (by decide) (fun c_196 => ?_) (fun c_196 => ?_)
      · skip
        refine lv_aload_n hx hb d_Ta_phaseAfter_206 rfl (lv_at hl 0 rfl) ?_
        refine va_get (D := (dC, dI)) (ci := 2) (v := .int ph) (C := R_Ta) (T := F_Ta) (N := 6) hx hb hB inC_Ta hown hK hP 0 rfl rfl 0 (by decide) (hB _ kb_32) (fun _ h9 => h9) rfl d_Ta_phaseAfter_207 ?_
        refine lv_bipush (v := 6) hx hb d_Ta_phaseAfter_210 (by decide) ?_
        refine lv_icmp_ne (tgt := 220) hx hb d_Ta_phaseAfter_212 (by decide) (fun c_212 => ?_) (fun c_212 => ?_)
        · skip
          refine lv_iconst (v := (-1)) hx hb d_Ta_phaseAfter_220 (by decide) ?_
          have hP9 := hP.sub (ws' := [(h0, .inr (2, [.int ph, .int di, .long lm, .long cu, .long la, .long en]))]) [0] rfl
          have hD9 := hD.sub (ws' := [(h0, .inr (2, [.int ph, .int di, .long lm, .long cu, .long la, .long en]))]) [0] (by decide) rfl
          have hK9 := hK.sub (tys' := []) [] rfl
          exact W.iret (v := (-1)) hx hb hr (fun t ht hW => ⟨⟨(-1), (), rfl, trivial, by rw [ht]; exact hP9, va_K.moved hW.alike hK9, hD9⟩, hS.F ht⟩) hS.2.2 d_Ta_phaseAfter_221
        · skip
          refine lv_bipush (v := 7) hx hb d_Ta_phaseAfter_215 (by decide) ?_
          refine lv_goto (tgt := 221) hx hb d_Ta_phaseAfter_217 (by decide) ?_
          have hP9 := hP.sub (ws' := [(h0, .inr (2, [.int ph, .int di, .long lm, .long cu, .long la, .long en]))]) [0] rfl
          have hD9 := hD.sub (ws' := [(h0, .inr (2, [.int ph, .int di, .long lm, .long cu, .long la, .long en]))]) [0] (by decide) rfl
          have hK9 := hK.sub (tys' := []) [] rfl
          exact W.iret (v := 7) hx hb hr (fun t ht hW => ⟨⟨7, (), rfl, trivial, by rw [ht]; exact hP9, va_K.moved hW.alike hK9, hD9⟩, hS.F ht⟩) hS.2.2 d_Ta_phaseAfter_221
      · skip
        refine lv_aload_n hx hb d_Ta_phaseAfter_199 rfl (lv_at hl 0 rfl) ?_
        refine va_get (D := (dC, dI)) (ci := 2) (v := .int di) (C := R_Ta) (T := F_Ta) (N := 6) hx hb hB inC_Ta hown hK hP 0 rfl rfl 1 (by decide) (hB _ kb_33) (fun _ h9 => h9) rfl d_Ta_phaseAfter_200 ?_
        refine lv_if_eq (tgt := 215) hx hb d_Ta_phaseAfter_203 (by decide) (fun c_203 => ?_) (fun c_203 => ?_)
        · skip
          refine lv_bipush (v := 7) hx hb d_Ta_phaseAfter_215 (by decide) ?_
          refine lv_goto (tgt := 221) hx hb d_Ta_phaseAfter_217 (by decide) ?_
          have hP9 := hP.sub (ws' := [(h0, .inr (2, [.int ph, .int di, .long lm, .long cu, .long la, .long en]))]) [0] rfl
          have hD9 := hD.sub (ws' := [(h0, .inr (2, [.int ph, .int di, .long lm, .long cu, .long la, .long en]))]) [0] (by decide) rfl
          have hK9 := hK.sub (tys' := []) [] rfl
          exact W.iret (v := 7) hx hb hr (fun t ht hW => ⟨⟨7, (), rfl, trivial, by rw [ht]; exact hP9, va_K.moved hW.alike hK9, hD9⟩, hS.F ht⟩) hS.2.2 d_Ta_phaseAfter_221
        · skip
          refine lv_aload_n hx hb d_Ta_phaseAfter_206 rfl (lv_at hl 0 rfl) ?_
          refine va_get (D := (dC, dI)) (ci := 2) (v := .int ph) (C := R_Ta) (T := F_Ta) (N := 6) hx hb hB inC_Ta hown hK hP 0 rfl rfl 0 (by decide) (hB _ kb_32) (fun _ h9 => h9) rfl d_Ta_phaseAfter_207 ?_
          refine lv_bipush (v := 6) hx hb d_Ta_phaseAfter_210 (by decide) ?_
          refine lv_icmp_ne (tgt := 220) hx hb d_Ta_phaseAfter_212 (by decide) (fun c_212 => ?_) (fun c_212 => ?_)
          · skip
            refine lv_iconst (v := (-1)) hx hb d_Ta_phaseAfter_220 (by decide) ?_
            have hP9 := hP.sub (ws' := [(h0, .inr (2, [.int ph, .int di, .long lm, .long cu, .long la, .long en]))]) [0] rfl
            have hD9 := hD.sub (ws' := [(h0, .inr (2, [.int ph, .int di, .long lm, .long cu, .long la, .long en]))]) [0] (by decide) rfl
            have hK9 := hK.sub (tys' := []) [] rfl
            exact W.iret (v := (-1)) hx hb hr (fun t ht hW => ⟨⟨(-1), (), rfl, trivial, by rw [ht]; exact hP9, va_K.moved hW.alike hK9, hD9⟩, hS.F ht⟩) hS.2.2 d_Ta_phaseAfter_221
          · skip
            refine lv_bipush (v := 7) hx hb d_Ta_phaseAfter_215 (by decide) ?_
            refine lv_goto (tgt := 221) hx hb d_Ta_phaseAfter_217 (by decide) ?_
            have hP9 := hP.sub (ws' := [(h0, .inr (2, [.int ph, .int di, .long lm, .long cu, .long la, .long en]))]) [0] rfl
            have hD9 := hD.sub (ws' := [(h0, .inr (2, [.int ph, .int di, .long lm, .long cu, .long la, .long en]))]) [0] (by decide) rfl
            have hK9 := hK.sub (tys' := []) [] rfl
            exact W.iret (v := 7) hx hb hr (fun t ht hW => ⟨⟨7, (), rfl, trivial, by rw [ht]; exact hP9, va_K.moved hW.alike hK9, hD9⟩, hS.F ht⟩) hS.2.2 d_Ta_phaseAfter_221
    · have t_1 : p0.toInt = 7 := by omega
      have i_1 : p0 = 7 := Int32.toInt_inj.mp (t_1.trans (by decide))
      refine lv_tableIn (tgt := 222) hx hb d_Ta_phaseAfter_1 (by omega) (by omega) (by rw [t_1]; rfl) (by decide) ?_
      refine lv_aload_n hx hb d_Ta_phaseAfter_222 rfl (lv_at hl 0 rfl) ?_
      refine kc_i (va_runV (As := []) (rest := []) ⟨hx, hb, hml, hown, hts⟩ (c_Ta_isCharging l dC dI h0 s.heap.size ph di lm cu la en  ) (cwV 0 hts (ginV kb_64 kb_65 kb_66 kb_47 kb_63) rfl rfl rfl (by decide +kernel) ⟨Nat.le_of_ble_eq_true rfl, Nat.le_of_ble_eq_true rfl⟩) (preV (ci := 2) (wc := [(h0, .inr (2, [.int ph, .int di, .long lm, .long cu, .long la, .long en]))]) hK hN hP hD [0] rfl rfl (by decide) [] rfl rfl rfl) rfl rfl hl.1 rfl (lv_room (Nat.le_of_ble_eq_true rfl)) d_Ta_phaseAfter_223 ⟨Nat.le_of_ble_eq_true rfl, Nat.le_of_ble_eq_true rfl⟩) hP hD hS hA [0] [] (wr := []) rfl rfl (by decide) (by decide) (fun r_223 u_223 H locs hw_223 hP hD hK1 hS => ?_)
      have hw_223 : True := hw_223
      have hP : va_P (dC, dI) classes [(h0, .inr (2, [.int ph, .int di, .long lm, .long cu, .long la, .long en]))] H := hP
      have hD : va_D A [(h0, .inr (2, [.int ph, .int di, .long lm, .long cu, .long la, .long en]))] := hD
      refine lv_if_eq (tgt := 246) hx hb d_Ta_phaseAfter_226 (by decide) (fun c_226 => ?_) (fun c_226 => ?_)
      · skip
        refine lv_iconst (v := (-1)) hx hb d_Ta_phaseAfter_246 (by decide) ?_
        have hP9 := hP.sub (ws' := [(h0, .inr (2, [.int ph, .int di, .long lm, .long cu, .long la, .long en]))]) [0] rfl
        have hD9 := hD.sub (ws' := [(h0, .inr (2, [.int ph, .int di, .long lm, .long cu, .long la, .long en]))]) [0] (by decide) rfl
        have hK9 := hK.sub (tys' := []) [] rfl
        exact W.iret (v := (-1)) hx hb hr (fun t ht hW => ⟨⟨(-1), (), rfl, trivial, by rw [ht]; exact hP9, va_K.moved hW.alike hK9, hD9⟩, hS.F ht⟩) hS.2.2 d_Ta_phaseAfter_247
      · skip
        refine lv_lload_n hx hb d_Ta_phaseAfter_229 rfl (lv_at hl 2 rfl) ?_
        refine lv_lconst (v := 0) hx hb d_Ta_phaseAfter_230 (by decide) ?_
        refine lv_aload_n hx hb d_Ta_phaseAfter_231 rfl (lv_at hl 0 rfl) ?_
        refine va_get (D := (dC, dI)) (ci := 2) (v := .long lm) (C := R_Ta) (T := F_Ta) (N := 6) hx hb hB inC_Ta hown hK hP 0 rfl rfl 2 (by decide) (hB _ kb_34) (fun _ h9 => h9) rfl d_Ta_phaseAfter_232 ?_
        refine kc_i (va_runSN (As := [.long p1, .long 0, .long lm]) (rest := []) ⟨hx, hb, hml, hown, hts⟩ (c_X_isWithin l dC dI  H.size  p1 0 lm ) ⟨va_cnB 3 hts (gin kb_6) rfl rfl rfl (hN _ kn_2) (hB _ kb_7) (by decide +kernel) ⟨Nat.le_of_ble_eq_true rfl, Nat.le_of_ble_eq_true rfl⟩, (hB _ kb_8), trivial⟩ (preS (wc := []) hK hN hP hD [] rfl rfl (by decide) [] rfl) rfl rfl hl.1 rfl (lv_room (Nat.le_of_ble_eq_true rfl)) d_Ta_phaseAfter_235 ⟨Nat.le_of_ble_eq_true rfl, Nat.le_of_ble_eq_true rfl⟩) hP hD hS hA [] [0] (wr := [(h0, .inr (2, [.int ph, .int di, .long lm, .long cu, .long la, .long en]))]) rfl rfl (by decide) (by decide) (fun r_235 u_235 H locs hw_235 hP hD hK1 hS => ?_)
        have hw_235 : r_235 = bi (0 ≤ p1 ∧ p1 ≤ lm) := hw_235
        have hP : va_P (dC, dI) classes [(h0, .inr (2, [.int ph, .int di, .long lm, .long cu, .long la, .long en]))] H := hP
        have hD : va_D A [(h0, .inr (2, [.int ph, .int di, .long lm, .long cu, .long la, .long en]))] := hD
        refine lv_if_eq (tgt := 246) hx hb d_Ta_phaseAfter_238 (by decide) (fun c_238 => ?_) (fun c_238 => ?_)
        · have c_238 := bi_n (hw_235.symm.trans c_238)
          refine lv_iconst (v := (-1)) hx hb d_Ta_phaseAfter_246 (by decide) ?_
          have hP9 := hP.sub (ws' := [(h0, .inr (2, [.int ph, .int di, .long lm, .long cu, .long la, .long en]))]) [0] rfl
          have hD9 := hD.sub (ws' := [(h0, .inr (2, [.int ph, .int di, .long lm, .long cu, .long la, .long en]))]) [0] (by decide) rfl
          have hK9 := hK.sub (tys' := []) [] rfl
          exact W.iret (v := (-1)) hx hb hr (fun t ht hW => ⟨⟨(-1), (), rfl, trivial, by rw [ht]; exact hP9, va_K.moved hW.alike hK9, hD9⟩, hS.F ht⟩) hS.2.2 d_Ta_phaseAfter_247
        · have c_238 := bi_y hw_235 c_238
          refine lv_bipush (v := 7) hx hb d_Ta_phaseAfter_241 (by decide) ?_
          refine lv_goto (tgt := 247) hx hb d_Ta_phaseAfter_243 (by decide) ?_
          have hP9 := hP.sub (ws' := [(h0, .inr (2, [.int ph, .int di, .long lm, .long cu, .long la, .long en]))]) [0] rfl
          have hD9 := hD.sub (ws' := [(h0, .inr (2, [.int ph, .int di, .long lm, .long cu, .long la, .long en]))]) [0] (by decide) rfl
          have hK9 := hK.sub (tys' := []) [] rfl
          exact W.iret (v := 7) hx hb hr (fun t ht hW => ⟨⟨7, (), rfl, trivial, by rw [ht]; exact hP9, va_K.moved hW.alike hK9, hD9⟩, hS.F ht⟩) hS.2.2 d_Ta_phaseAfter_247
    · have t_1 : p0.toInt = 8 := by omega
      have i_1 : p0 = 8 := Int32.toInt_inj.mp (t_1.trans (by decide))
      refine lv_tableIn (tgt := 248) hx hb d_Ta_phaseAfter_1 (by omega) (by omega) (by rw [t_1]; rfl) (by decide) ?_
      refine lv_aload_n hx hb d_Ta_phaseAfter_248 rfl (lv_at hl 0 rfl) ?_
      refine kc_i (va_runV (As := []) (rest := []) ⟨hx, hb, hml, hown, hts⟩ (c_Ta_isCharging l dC dI h0 s.heap.size ph di lm cu la en  ) (cwV 0 hts (ginV kb_64 kb_65 kb_66 kb_47 kb_63) rfl rfl rfl (by decide +kernel) ⟨Nat.le_of_ble_eq_true rfl, Nat.le_of_ble_eq_true rfl⟩) (preV (ci := 2) (wc := [(h0, .inr (2, [.int ph, .int di, .long lm, .long cu, .long la, .long en]))]) hK hN hP hD [0] rfl rfl (by decide) [] rfl rfl rfl) rfl rfl hl.1 rfl (lv_room (Nat.le_of_ble_eq_true rfl)) d_Ta_phaseAfter_249 ⟨Nat.le_of_ble_eq_true rfl, Nat.le_of_ble_eq_true rfl⟩) hP hD hS hA [0] [] (wr := []) rfl rfl (by decide) (by decide) (fun r_249 u_249 H locs hw_249 hP hD hK1 hS => ?_)
      have hw_249 : True := hw_249
      have hP : va_P (dC, dI) classes [(h0, .inr (2, [.int ph, .int di, .long lm, .long cu, .long la, .long en]))] H := hP
      have hD : va_D A [(h0, .inr (2, [.int ph, .int di, .long lm, .long cu, .long la, .long en]))] := hD
      refine lv_if_eq (tgt := 267) hx hb d_Ta_phaseAfter_252 (by decide) (fun c_252 => ?_) (fun c_252 => ?_)
      · skip
        refine lv_iconst (v := (-1)) hx hb d_Ta_phaseAfter_267 (by decide) ?_
        have hP9 := hP.sub (ws' := [(h0, .inr (2, [.int ph, .int di, .long lm, .long cu, .long la, .long en]))]) [0] rfl
        have hD9 := hD.sub (ws' := [(h0, .inr (2, [.int ph, .int di, .long lm, .long cu, .long la, .long en]))]) [0] (by decide) rfl
        have hK9 := hK.sub (tys' := []) [] rfl
        exact W.iret (v := (-1)) hx hb hr (fun t ht hW => ⟨⟨(-1), (), rfl, trivial, by rw [ht]; exact hP9, va_K.moved hW.alike hK9, hD9⟩, hS.F ht⟩) hS.2.2 d_Ta_phaseAfter_268
      · skip
        refine lv_lload_n hx hb d_Ta_phaseAfter_255 rfl (lv_at hl 2 rfl) ?_
        refine kc_i (va_runS (As := [.long p1]) (rest := []) ⟨hx, hb, hml, hown, hts⟩ (c_Ta_isLimit l dC dI  H.size  p1 ) (cwS 1 hts (ginS kb_57 kb_58 kb_47 kb_56) rfl rfl rfl (by decide +kernel) ⟨Nat.le_of_ble_eq_true rfl, Nat.le_of_ble_eq_true rfl⟩) (preS (wc := []) hK hN hP hD [] rfl rfl (by decide) [] rfl) rfl rfl hl.1 rfl (lv_room (Nat.le_of_ble_eq_true rfl)) d_Ta_phaseAfter_256 ⟨Nat.le_of_ble_eq_true rfl, Nat.le_of_ble_eq_true rfl⟩) hP hD hS hA [] [0] (wr := [(h0, .inr (2, [.int ph, .int di, .long lm, .long cu, .long la, .long en]))]) rfl rfl (by decide) (by decide) (fun r_256 u_256 H locs hw_256 hP hD hK1 hS => ?_)
        have hw_256 : r_256 = bi (1 ≤ p1 ∧ p1 ≤ 5000) := hw_256
        have hP : va_P (dC, dI) classes [(h0, .inr (2, [.int ph, .int di, .long lm, .long cu, .long la, .long en]))] H := hP
        have hD : va_D A [(h0, .inr (2, [.int ph, .int di, .long lm, .long cu, .long la, .long en]))] := hD
        refine lv_if_eq (tgt := 267) hx hb d_Ta_phaseAfter_259 (by decide) (fun c_259 => ?_) (fun c_259 => ?_)
        · have c_259 := bi_n (hw_256.symm.trans c_259)
          refine lv_iconst (v := (-1)) hx hb d_Ta_phaseAfter_267 (by decide) ?_
          have hP9 := hP.sub (ws' := [(h0, .inr (2, [.int ph, .int di, .long lm, .long cu, .long la, .long en]))]) [0] rfl
          have hD9 := hD.sub (ws' := [(h0, .inr (2, [.int ph, .int di, .long lm, .long cu, .long la, .long en]))]) [0] (by decide) rfl
          have hK9 := hK.sub (tys' := []) [] rfl
          exact W.iret (v := (-1)) hx hb hr (fun t ht hW => ⟨⟨(-1), (), rfl, trivial, by rw [ht]; exact hP9, va_K.moved hW.alike hK9, hD9⟩, hS.F ht⟩) hS.2.2 d_Ta_phaseAfter_268
        · have c_259 := bi_y hw_256 c_259
          refine lv_bipush (v := 7) hx hb d_Ta_phaseAfter_262 (by decide) ?_
          refine lv_goto (tgt := 268) hx hb d_Ta_phaseAfter_264 (by decide) ?_
          have hP9 := hP.sub (ws' := [(h0, .inr (2, [.int ph, .int di, .long lm, .long cu, .long la, .long en]))]) [0] rfl
          have hD9 := hD.sub (ws' := [(h0, .inr (2, [.int ph, .int di, .long lm, .long cu, .long la, .long en]))]) [0] (by decide) rfl
          have hK9 := hK.sub (tys' := []) [] rfl
          exact W.iret (v := 7) hx hb hr (fun t ht hW => ⟨⟨7, (), rfl, trivial, by rw [ht]; exact hP9, va_K.moved hW.alike hK9, hD9⟩, hS.F ht⟩) hS.2.2 d_Ta_phaseAfter_268
    · have t_1 : p0.toInt = 9 := by omega
      have i_1 : p0 = 9 := Int32.toInt_inj.mp (t_1.trans (by decide))
      refine lv_tableIn (tgt := 269) hx hb d_Ta_phaseAfter_1 (by omega) (by omega) (by rw [t_1]; rfl) (by decide) ?_
      refine lv_aload_n hx hb d_Ta_phaseAfter_269 rfl (lv_at hl 0 rfl) ?_
      refine kc_i (va_runV (As := []) (rest := []) ⟨hx, hb, hml, hown, hts⟩ (c_Ta_isCharging l dC dI h0 s.heap.size ph di lm cu la en  ) (cwV 0 hts (ginV kb_64 kb_65 kb_66 kb_47 kb_63) rfl rfl rfl (by decide +kernel) ⟨Nat.le_of_ble_eq_true rfl, Nat.le_of_ble_eq_true rfl⟩) (preV (ci := 2) (wc := [(h0, .inr (2, [.int ph, .int di, .long lm, .long cu, .long la, .long en]))]) hK hN hP hD [0] rfl rfl (by decide) [] rfl rfl rfl) rfl rfl hl.1 rfl (lv_room (Nat.le_of_ble_eq_true rfl)) d_Ta_phaseAfter_270 ⟨Nat.le_of_ble_eq_true rfl, Nat.le_of_ble_eq_true rfl⟩) hP hD hS hA [0] [] (wr := []) rfl rfl (by decide) (by decide) (fun r_270 u_270 H locs hw_270 hP hD hK1 hS => ?_)
      have hw_270 : True := hw_270
      have hP : va_P (dC, dI) classes [(h0, .inr (2, [.int ph, .int di, .long lm, .long cu, .long la, .long en]))] H := hP
      have hD : va_D A [(h0, .inr (2, [.int ph, .int di, .long lm, .long cu, .long la, .long en]))] := hD
      refine lv_if_eq (tgt := 281) hx hb d_Ta_phaseAfter_273 (by decide) (fun c_273 => ?_) (fun c_273 => ?_)
      · skip
        refine lv_iconst (v := (-1)) hx hb d_Ta_phaseAfter_281 (by decide) ?_
        have hP9 := hP.sub (ws' := [(h0, .inr (2, [.int ph, .int di, .long lm, .long cu, .long la, .long en]))]) [0] rfl
        have hD9 := hD.sub (ws' := [(h0, .inr (2, [.int ph, .int di, .long lm, .long cu, .long la, .long en]))]) [0] (by decide) rfl
        have hK9 := hK.sub (tys' := []) [] rfl
        exact W.iret (v := (-1)) hx hb hr (fun t ht hW => ⟨⟨(-1), (), rfl, trivial, by rw [ht]; exact hP9, va_K.moved hW.alike hK9, hD9⟩, hS.F ht⟩) hS.2.2 d_Ta_phaseAfter_282
      · skip
        refine lv_bipush (v := 8) hx hb d_Ta_phaseAfter_276 (by decide) ?_
        refine lv_goto (tgt := 282) hx hb d_Ta_phaseAfter_278 (by decide) ?_
        have hP9 := hP.sub (ws' := [(h0, .inr (2, [.int ph, .int di, .long lm, .long cu, .long la, .long en]))]) [0] rfl
        have hD9 := hD.sub (ws' := [(h0, .inr (2, [.int ph, .int di, .long lm, .long cu, .long la, .long en]))]) [0] (by decide) rfl
        have hK9 := hK.sub (tys' := []) [] rfl
        exact W.iret (v := 8) hx hb hr (fun t ht hW => ⟨⟨8, (), rfl, trivial, by rw [ht]; exact hP9, va_K.moved hW.alike hK9, hD9⟩, hS.F ht⟩) hS.2.2 d_Ta_phaseAfter_282
    · have t_1 : p0.toInt = 10 := by omega
      have i_1 : p0 = 10 := Int32.toInt_inj.mp (t_1.trans (by decide))
      refine lv_tableIn (tgt := 283) hx hb d_Ta_phaseAfter_1 (by omega) (by omega) (by rw [t_1]; rfl) (by decide) ?_
      refine lv_aload_n hx hb d_Ta_phaseAfter_283 rfl (lv_at hl 0 rfl) ?_
      refine va_get (D := (dC, dI)) (ci := 2) (v := .int ph) (C := R_Ta) (T := F_Ta) (N := 6) hx hb hB inC_Ta hown hK hP 0 rfl rfl 0 (by decide) (hB _ kb_32) (fun _ h9 => h9) rfl d_Ta_phaseAfter_284 ?_
      refine lv_bipush (v := 8) hx hb d_Ta_phaseAfter_287 (by decide) ?_
      refine lv_icmp_ne (tgt := 296) hx hb d_Ta_phaseAfter_289 (by decide) (fun c_289 => ?_) (fun c_289 => ?_)
      · skip
        refine lv_iconst (v := (-1)) hx hb d_Ta_phaseAfter_296 (by decide) ?_
        have hP9 := hP.sub (ws' := [(h0, .inr (2, [.int ph, .int di, .long lm, .long cu, .long la, .long en]))]) [0] rfl
        have hD9 := hD.sub (ws' := [(h0, .inr (2, [.int ph, .int di, .long lm, .long cu, .long la, .long en]))]) [0] (by decide) rfl
        have hK9 := hK.sub (tys' := []) [] rfl
        exact W.iret (v := (-1)) hx hb hr (fun t ht hW => ⟨⟨(-1), (), rfl, trivial, by rw [ht]; exact hP9, va_K.moved hW.alike hK9, hD9⟩, hS.F ht⟩) hS.2.2 d_Ta_phaseAfter_297
      · skip
        refine lv_iconst (v := 0) hx hb d_Ta_phaseAfter_292 (by decide) ?_
        refine lv_goto (tgt := 297) hx hb d_Ta_phaseAfter_293 (by decide) ?_
        have hP9 := hP.sub (ws' := [(h0, .inr (2, [.int ph, .int di, .long lm, .long cu, .long la, .long en]))]) [0] rfl
        have hD9 := hD.sub (ws' := [(h0, .inr (2, [.int ph, .int di, .long lm, .long cu, .long la, .long en]))]) [0] (by decide) rfl
        have hK9 := hK.sub (tys' := []) [] rfl
        exact W.iret (v := 0) hx hb hr (fun t ht hW => ⟨⟨0, (), rfl, trivial, by rw [ht]; exact hP9, va_K.moved hW.alike hK9, hD9⟩, hS.F ht⟩) hS.2.2 d_Ta_phaseAfter_297
set_option maxHeartbeats 4000000 in
set_option maxRecDepth 100000 in
theorem c_Ta_keep (l : Launch) (dC : Nat → ClassId) (dI : Nat → Nat → Nat) (h0 : Nat) (sz : Nat) (ph : Int32) (di : Int32) (lm : Int64) (cu : Int64) (la : Int64) (en : Int64) (p0 : Int32) (p1 : Int64) (p2 : Int64) : Met l y_Ta_keep w_Ta_keep ({ frames := 0, cells := 0, slots := 0, locals := 0 }) (cPre dC dI [.ref h0, .int p0, .long p1, .long p2] sz [] [(h0, .inr (2, [.int ph, .int di, .long lm, .long cu, .long la, .long en]))]) (va_Qv (fun (u : Int32 × Int64 × Int64 × Int64 × Int64) => True) (fun (u : Int32 × Int64 × Int64 × Int64 × Int64) (t : State) => cB dC dI (va_A [(h0, .inr (2, [.int ph, .int di, .long lm, .long cu, .long la, .long en]))] sz) [] [(h0, .inr (2, [.int ph, .int u.1, .long u.2.1, .long u.2.2.1, .long u.2.2.2.1, .long u.2.2.2.2]))] t) (va_A [(h0, .inr (2, [.int ph, .int di, .long lm, .long cu, .long la, .long en]))] sz)) 0 0 (va_A [(h0, .inr (2, [.int ph, .int di, .long lm, .long cu, .long la, .long en]))] sz) := by
  refine Met.ofW (cc := b_Ta_keep) (maxL := 6) (ret := none) (by decide) rfl ?_
  intro p e s m args below meth c s₁ B hml hv
  obtain ⟨rfl, hsz, hN, hP, hK, hD0⟩ := hv
  have hx := B.exec
  have hb := B.bytes
  have hr := B.returns
  have hts := atoms_spec (ws := w_Ta_keep) B.pre
  have hB := big_of hts
  have hown : s.vm.findClass R_Ta = some m.cls := findClass_of_methodNamed B.named
  have hlocks := B.notSynchronized
  subst hsz
  have hD := hD0.self (sz := s.heap.size)
  generalize hAe : va_A [(h0, .inr (2, [.int ph, .int di, .long lm, .long cu, .long la, .long en]))] s.heap.size = A at hD ⊢
  have hA : ∀ q : Nat, s.heap.size ≤ q → A q := fun q h => by rw [← hAe]; exact Or.inr h
  have hS : va_S A s.heap s.heap [] := va_S.rf
  have hP : va_P (dC, dI) classes [(h0, .inr (2, [.int ph, .int di, .long lm, .long cu, .long la, .long en]))] s.heap := hP
  have hl := lv_entry ([.ref h0, .int p0, .long p1, .long p2]) (n := 6) (Nat.le_of_ble_eq_true rfl)
  rw [lg_entry_eq]
  generalize (lg_sl ([.ref h0, .int p0, .long p1, .long p2]) ++ List.replicate (6 - (lg_sl ([.ref h0, .int p0, .long p1, .long p2])).length) Slot.unset).toArray = ls at hl ⊢
  have hl : lv_has ls 6 [(0, .ref h0), (1, .int p0), (2, .long p1), (4, .long p2)] := hl
  have cut : ∀ n : Nat, (∀ (dix : Int32) (lmx : Int64) (cux : Int64) (enx : Int64) (H : Heap) (locs : List Loc) (ls : Array Slot), 0 < n → va_P (dC, dI) classes [(h0, .inr (2, [.int ph, .int dix, .long lmx, .long cux, .long la, .long enx]))] H → va_D A [(h0, .inr (2, [.int ph, .int dix, .long lmx, .long cux, .long la, .long enx]))] → va_S A s.heap H locs → lv_has ls 6 [(0, .ref h0), (1, .int p0), (2, .long p1), (4, .long p2)] → W p l e (headSpec w_Ta_keep ({ frames := 0, cells := 0, slots := 0, locals := 0 })).room s m (List.toArray [.ref h0, .int p0, .long p1, .long p2]) below meth c H locs 0 0 (MQ below (va_Qv (fun (u : Int32 × Int64 × Int64 × Int64 × Int64) => True) (fun (u : Int32 × Int64 × Int64 × Int64 × Int64) (t : State) => cB dC dI A [] [(h0, .inr (2, [.int ph, .int u.1, .long u.2.1, .long u.2.2.1, .long u.2.2.2.1, .long u.2.2.2.2]))] t) A) (List.toArray [.ref h0, .int p0, .long p1, .long p2]) s 0 0 A) (F0 m 83 ls [])) := by
    intro n
    induction n with
    | zero => intros; first | exact (Nat.not_lt_zero _ (by assumption)).elim | omega
    | succ n ih =>
      intro dix lmx cux enx H locs ls  hmu hP hD hS hl
      refine lv_aload_n hx hb d_Ta_keep_83 rfl (lv_at hl 0 rfl) ?_
      refine lv_lload hx hb d_Ta_keep_84 (lv_at hl 3 rfl) ?_
      refine va_put (D := (dC, dI)) (ci := 2) (v := .long p2) (ty := .long) (C := R_Ta) (T := F_Ta) (N := 6) hx hb hB inC_Ta t_Ta t_Ta_ok n_Ta hown hK hP hD hS 0 rfl rfl 4 (by decide) (hB _ kb_36) (fun _ h9 => h9) rfl (by decide +kernel) rfl rfl (Nat.le_of_ble_eq_true rfl) d_Ta_keep_86 (fun H locs hP hD hS => ?_)
      have hP : va_P (dC, dI) classes [(h0, .inr (2, [.int ph, .int dix, .long lmx, .long cux, .long p2, .long enx]))] H := hP
      have hD : va_D A [(h0, .inr (2, [.int ph, .int dix, .long lmx, .long cux, .long p2, .long enx]))] := hD
      have hP9 := hP.sub (ws' := [(h0, .inr (2, [.int ph, .int dix, .long lmx, .long cux, .long p2, .long enx]))]) [0] rfl
      have hD9 := hD.sub (ws' := [(h0, .inr (2, [.int ph, .int dix, .long lmx, .long cux, .long p2, .long enx]))]) [0] (by decide) rfl
      have hK9 := hK.sub (tys' := []) [] rfl
      exact W.vret hx hb hr (fun t ht hW => ⟨⟨(dix, lmx, cux, p2, enx), rfl, trivial, by rw [ht]; exact hP9, va_K.moved hW.alike hK9, hD9⟩, hS.F ht⟩) hS.2.2 d_Ta_keep_89
  refine lv_iload_n hx hb d_Ta_keep_0 rfl (lv_at hl 1 rfl) ?_
  refine lv_if_ne (tgt := 12) hx hb d_Ta_keep_1 (by decide) (fun c_1 => ?_) (fun c_1 => ?_)
  · skip
    refine lv_iload_n hx hb d_Ta_keep_12 rfl (lv_at hl 1 rfl) ?_
    refine lv_iconst (v := 1) hx hb d_Ta_keep_13 (by decide) ?_
    refine lv_icmp_ne (tgt := 35) hx hb d_Ta_keep_14 (by decide) (fun c_14 => ?_) (fun c_14 => ?_)
    · skip
      refine lv_iload_n hx hb d_Ta_keep_35 rfl (lv_at hl 1 rfl) ?_
      refine lv_iconst (v := 3) hx hb d_Ta_keep_36 (by decide) ?_
      refine lv_icmp_eq (tgt := 46) hx hb d_Ta_keep_37 (by decide) (fun c_37 => ?_) (fun c_37 => ?_)
      · skip
        refine lv_aload_n hx hb d_Ta_keep_46 rfl (lv_at hl 0 rfl) ?_
        refine lv_lload_n hx hb d_Ta_keep_47 rfl (lv_at hl 2 rfl) ?_
        refine va_put (D := (dC, dI)) (ci := 2) (v := .long p1) (ty := .long) (C := R_Ta) (T := F_Ta) (N := 6) hx hb hB inC_Ta t_Ta t_Ta_ok n_Ta hown hK hP hD hS 0 rfl rfl 2 (by decide) (hB _ kb_34) (fun _ h9 => h9) rfl (by decide +kernel) rfl rfl (Nat.le_of_ble_eq_true rfl) d_Ta_keep_48 (fun H locs hP hD hS => ?_)
        have hP : va_P (dC, dI) classes [(h0, .inr (2, [.int ph, .int di, .long p1, .long cu, .long la, .long en]))] H := hP
        have hD : va_D A [(h0, .inr (2, [.int ph, .int di, .long p1, .long cu, .long la, .long en]))] := hD
        refine lv_goto (tgt := 83) hx hb d_Ta_keep_51 (by decide) ?_
        exact (cut 1) di p1 cu en _ _ _  (by omega) (hP.sub [0] rfl) (hD.sub [0] (by decide) rfl) hS (lv_sub hl [0, 1, 2, 3] rfl)
      · skip
        refine lv_iload_n hx hb d_Ta_keep_40 rfl (lv_at hl 1 rfl) ?_
        refine lv_bipush (v := 8) hx hb d_Ta_keep_41 (by decide) ?_
        refine lv_icmp_ne (tgt := 54) hx hb d_Ta_keep_43 (by decide) (fun c_43 => ?_) (fun c_43 => ?_)
        · skip
          refine lv_iload_n hx hb d_Ta_keep_54 rfl (lv_at hl 1 rfl) ?_
          refine lv_bipush (v := 7) hx hb d_Ta_keep_55 (by decide) ?_
          refine lv_icmp_ne (tgt := 83) hx hb d_Ta_keep_57 (by decide) (fun c_57 => ?_) (fun c_57 => ?_)
          · skip
            exact (cut 1) di lm cu en _ _ _  (by omega) (hP.sub [0] rfl) (hD.sub [0] (by decide) rfl) hS (lv_sub hl [0, 1, 2, 3] rfl)
          · skip
            refine lv_aload_n hx hb d_Ta_keep_60 rfl (lv_at hl 0 rfl) ?_
            refine lv_dup hx hb d_Ta_keep_61 rfl ?_
            refine va_get (D := (dC, dI)) (ci := 2) (v := .long en) (C := R_Ta) (T := F_Ta) (N := 6) hx hb hB inC_Ta hown hK hP 0 rfl rfl 5 (by decide) (hB _ kb_37) (fun _ h9 => h9) rfl d_Ta_keep_62 ?_
            refine lv_lload_n hx hb d_Ta_keep_65 rfl (lv_at hl 2 rfl) ?_
            refine lv_lload hx hb d_Ta_keep_66 (lv_at hl 3 rfl) ?_
            refine lv_aload_n hx hb d_Ta_keep_68 rfl (lv_at hl 0 rfl) ?_
            refine va_get (D := (dC, dI)) (ci := 2) (v := .long la) (C := R_Ta) (T := F_Ta) (N := 6) hx hb hB inC_Ta hown hK hP 0 rfl rfl 4 (by decide) (hB _ kb_36) (fun _ h9 => h9) rfl d_Ta_keep_69 ?_
            refine lv_lsub hx hb d_Ta_keep_72 ?_
            refine lv_topl (fun x_72 ex_72 => ?_)
            refine lv_lmul hx hb d_Ta_keep_73 ?_
            refine lv_topl (fun x_73 ex_73 => ?_)
            refine lv_ladd hx hb d_Ta_keep_74 ?_
            refine lv_topl (fun x_74 ex_74 => ?_)
            refine va_put (D := (dC, dI)) (ci := 2) (v := .long x_74) (ty := .long) (C := R_Ta) (T := F_Ta) (N := 6) hx hb hB inC_Ta t_Ta t_Ta_ok n_Ta hown hK hP hD hS 0 rfl rfl 5 (by decide) (hB _ kb_37) (fun _ h9 => h9) rfl (by decide +kernel) rfl rfl (Nat.le_of_ble_eq_true rfl) d_Ta_keep_75 (fun H locs hP hD hS => ?_)
            have hP : va_P (dC, dI) classes [(h0, .inr (2, [.int ph, .int di, .long lm, .long cu, .long la, .long x_74]))] H := hP
            have hD : va_D A [(h0, .inr (2, [.int ph, .int di, .long lm, .long cu, .long la, .long x_74]))] := hD
            refine lv_aload_n hx hb d_Ta_keep_78 rfl (lv_at hl 0 rfl) ?_
            refine lv_lload_n hx hb d_Ta_keep_79 rfl (lv_at hl 2 rfl) ?_
            refine va_put (D := (dC, dI)) (ci := 2) (v := .long p1) (ty := .long) (C := R_Ta) (T := F_Ta) (N := 6) hx hb hB inC_Ta t_Ta t_Ta_ok n_Ta hown hK hP hD hS 0 rfl rfl 3 (by decide) (hB _ kb_35) (fun _ h9 => h9) rfl (by decide +kernel) rfl rfl (Nat.le_of_ble_eq_true rfl) d_Ta_keep_80 (fun H locs hP hD hS => ?_)
            have hP : va_P (dC, dI) classes [(h0, .inr (2, [.int ph, .int di, .long lm, .long p1, .long la, .long x_74]))] H := hP
            have hD : va_D A [(h0, .inr (2, [.int ph, .int di, .long lm, .long p1, .long la, .long x_74]))] := hD
            exact (cut 1) di lm p1 x_74 _ _ _  (by omega) (hP.sub [0] rfl) (hD.sub [0] (by decide) rfl) hS (lv_sub hl [0, 1, 2, 3] rfl)
        · skip
          refine lv_aload_n hx hb d_Ta_keep_46 rfl (lv_at hl 0 rfl) ?_
          refine lv_lload_n hx hb d_Ta_keep_47 rfl (lv_at hl 2 rfl) ?_
          refine va_put (D := (dC, dI)) (ci := 2) (v := .long p1) (ty := .long) (C := R_Ta) (T := F_Ta) (N := 6) hx hb hB inC_Ta t_Ta t_Ta_ok n_Ta hown hK hP hD hS 0 rfl rfl 2 (by decide) (hB _ kb_34) (fun _ h9 => h9) rfl (by decide +kernel) rfl rfl (Nat.le_of_ble_eq_true rfl) d_Ta_keep_48 (fun H locs hP hD hS => ?_)
          have hP : va_P (dC, dI) classes [(h0, .inr (2, [.int ph, .int di, .long p1, .long cu, .long la, .long en]))] H := hP
          have hD : va_D A [(h0, .inr (2, [.int ph, .int di, .long p1, .long cu, .long la, .long en]))] := hD
          refine lv_goto (tgt := 83) hx hb d_Ta_keep_51 (by decide) ?_
          exact (cut 1) di p1 cu en _ _ _  (by omega) (hP.sub [0] rfl) (hD.sub [0] (by decide) rfl) hS (lv_sub hl [0, 1, 2, 3] rfl)
    · skip
      refine lv_aload_n hx hb d_Ta_keep_17 rfl (lv_at hl 0 rfl) ?_
      refine lv_lload_n hx hb d_Ta_keep_18 rfl (lv_at hl 2 rfl) ?_
      refine lv_lconst (v := 1) hx hb d_Ta_keep_19 (by decide) ?_
      refine W.lcmp hx hb d_Ta_keep_20 ?_
      refine lv_if_ne (tgt := 28) hx hb d_Ta_keep_21 (by decide) (fun c_21 => ?_) (fun c_21 => ?_)
      · have c_21 := mt (lg_cmp_eq _ _).mpr c_21
        refine lv_iconst (v := 0) hx hb d_Ta_keep_28 (by decide) ?_
        refine va_put (D := (dC, dI)) (ci := 2) (v := .int 0) (ty := .boolean) (C := R_Ta) (T := F_Ta) (N := 6) hx hb hB inC_Ta t_Ta t_Ta_ok n_Ta hown hK hP hD hS 0 rfl rfl 1 (by decide) (hB _ kb_33) (fun _ h9 => h9) rfl (by decide +kernel) rfl rfl (Nat.le_of_ble_eq_true rfl) d_Ta_keep_29 (fun H locs hP hD hS => ?_)
        have hP : va_P (dC, dI) classes [(h0, .inr (2, [.int ph, .int 0, .long lm, .long cu, .long la, .long en]))] H := hP
        have hD : va_D A [(h0, .inr (2, [.int ph, .int 0, .long lm, .long cu, .long la, .long en]))] := hD
        refine lv_goto (tgt := 83) hx hb d_Ta_keep_32 (by decide) ?_
        exact (cut 1) 0 lm cu en _ _ _  (by omega) (hP.sub [0] rfl) (hD.sub [0] (by decide) rfl) hS (lv_sub hl [0, 1, 2, 3] rfl)
      · have c_21 := (lg_cmp_eq _ _).mp c_21
        refine lv_iconst (v := 1) hx hb d_Ta_keep_24 (by decide) ?_
        refine lv_goto (tgt := 29) hx hb d_Ta_keep_25 (by decide) ?_
        refine va_put (D := (dC, dI)) (ci := 2) (v := .int 1) (ty := .boolean) (C := R_Ta) (T := F_Ta) (N := 6) hx hb hB inC_Ta t_Ta t_Ta_ok n_Ta hown hK hP hD hS 0 rfl rfl 1 (by decide) (hB _ kb_33) (fun _ h9 => h9) rfl (by decide +kernel) rfl rfl (Nat.le_of_ble_eq_true rfl) d_Ta_keep_29 (fun H locs hP hD hS => ?_)
        have hP : va_P (dC, dI) classes [(h0, .inr (2, [.int ph, .int 1, .long lm, .long cu, .long la, .long en]))] H := hP
        have hD : va_D A [(h0, .inr (2, [.int ph, .int 1, .long lm, .long cu, .long la, .long en]))] := hD
        refine lv_goto (tgt := 83) hx hb d_Ta_keep_32 (by decide) ?_
        exact (cut 1) 1 lm cu en _ _ _  (by omega) (hP.sub [0] rfl) (hD.sub [0] (by decide) rfl) hS (lv_sub hl [0, 1, 2, 3] rfl)
  · skip
    refine lv_aload_n hx hb d_Ta_keep_4 rfl (lv_at hl 0 rfl) ?_
    refine lv_lconst (v := 0) hx hb d_Ta_keep_5 (by decide) ?_
    refine va_put (D := (dC, dI)) (ci := 2) (v := .long 0) (ty := .long) (C := R_Ta) (T := F_Ta) (N := 6) hx hb hB inC_Ta t_Ta t_Ta_ok n_Ta hown hK hP hD hS 0 rfl rfl 3 (by decide) (hB _ kb_35) (fun _ h9 => h9) rfl (by decide +kernel) rfl rfl (Nat.le_of_ble_eq_true rfl) d_Ta_keep_6 (fun H locs hP hD hS => ?_)
    have hP : va_P (dC, dI) classes [(h0, .inr (2, [.int ph, .int di, .long lm, .long 0, .long la, .long en]))] H := hP
    have hD : va_D A [(h0, .inr (2, [.int ph, .int di, .long lm, .long 0, .long la, .long en]))] := hD
    refine lv_goto (tgt := 83) hx hb d_Ta_keep_9 (by decide) ?_
    exact (cut 1) di lm 0 en _ _ _  (by omega) (hP.sub [0] rfl) (hD.sub [0] (by decide) rfl) hS (lv_sub hl [0, 1, 2, 3] rfl)
set_option maxHeartbeats 4000000 in
set_option maxRecDepth 100000 in
theorem c_Ta_take (l : Launch) (dC : Nat → ClassId) (dI : Nat → Nat → Nat) (h0 : Nat) (sz : Nat) (ph : Int32) (di : Int32) (lm : Int64) (cu : Int64) (la : Int64) (en : Int64) (p0 : Int32) (p1 : Int64) (p2 : Int64) (p3 : Int32) : Met l y_Ta_take w_Ta_take ({ frames := 3, cells := 0, slots := 0, locals := 70 }) (cPre dC dI [.ref h0, .int p0, .long p1, .long p2, .int p3] sz [] [(h0, .inr (2, [.int ph, .int di, .long lm, .long cu, .long la, .long en]))]) (va_Qi (fun (r : Int32) (u : Int32 × Int32 × Int64 × Int64 × Int64 × Int64) => True) (fun (u : Int32 × Int32 × Int64 × Int64 × Int64 × Int64) (t : State) => cB dC dI (va_A [(h0, .inr (2, [.int ph, .int di, .long lm, .long cu, .long la, .long en]))] sz) [] [(h0, .inr (2, [.int u.1, .int u.2.1, .long u.2.2.1, .long u.2.2.2.1, .long u.2.2.2.2.1, .long u.2.2.2.2.2]))] t) (va_A [(h0, .inr (2, [.int ph, .int di, .long lm, .long cu, .long la, .long en]))] sz)) 0 0 (va_A [(h0, .inr (2, [.int ph, .int di, .long lm, .long cu, .long la, .long en]))] sz) := by
  refine Met.ofW (cc := b_Ta_take) (maxL := 8) (ret := (some .boolean)) (by decide) rfl ?_
  intro p e s m args below meth c s₁ B hml hv
  obtain ⟨rfl, hsz, hN, hP, hK, hD0⟩ := hv
  have hx := B.exec
  have hb := B.bytes
  have hr := B.returns
  have hts := atoms_spec (ws := w_Ta_take) B.pre
  have hB := big_of hts
  have hown : s.vm.findClass R_Ta = some m.cls := findClass_of_methodNamed B.named
  have hlocks := B.notSynchronized
  subst hsz
  have hD := hD0.self (sz := s.heap.size)
  generalize hAe : va_A [(h0, .inr (2, [.int ph, .int di, .long lm, .long cu, .long la, .long en]))] s.heap.size = A at hD ⊢
  have hA : ∀ q : Nat, s.heap.size ≤ q → A q := fun q h => by rw [← hAe]; exact Or.inr h
  have hS : va_S A s.heap s.heap [] := va_S.rf
  have hP : va_P (dC, dI) classes [(h0, .inr (2, [.int ph, .int di, .long lm, .long cu, .long la, .long en]))] s.heap := hP
  have hl := lv_entry ([.ref h0, .int p0, .long p1, .long p2, .int p3]) (n := 8) (Nat.le_of_ble_eq_true rfl)
  rw [lg_entry_eq]
  generalize (lg_sl ([.ref h0, .int p0, .long p1, .long p2, .int p3]) ++ List.replicate (8 - (lg_sl ([.ref h0, .int p0, .long p1, .long p2, .int p3])).length) Slot.unset).toArray = ls at hl ⊢
  have hl : lv_has ls 8 [(0, .ref h0), (1, .int p0), (2, .long p1), (4, .long p2), (6, .int p3)] := hl
  refine lv_aload_n hx hb d_Ta_take_0 rfl (lv_at hl 0 rfl) ?_
  refine lv_lload hx hb d_Ta_take_1 (lv_at hl 3 rfl) ?_
  refine kc_i (va_runV (As := [.long p2]) (rest := []) ⟨hx, hb, hml, hown, hts⟩ (c_Ta_isLate l dC dI h0 s.heap.size ph di lm cu la en p2 ) (cwV 1 hts (ginV kb_68 kb_69 kb_70 kb_47 kb_67) rfl rfl rfl (by decide +kernel) ⟨Nat.le_of_ble_eq_true rfl, Nat.le_of_ble_eq_true rfl⟩) (preV (ci := 2) (wc := [(h0, .inr (2, [.int ph, .int di, .long lm, .long cu, .long la, .long en]))]) hK hN hP hD [0] rfl rfl (by decide) [] rfl rfl rfl) rfl rfl hl.1 rfl (lv_room (Nat.le_of_ble_eq_true rfl)) d_Ta_take_3 ⟨Nat.le_of_ble_eq_true rfl, Nat.le_of_ble_eq_true rfl⟩) hP hD hS hA [0] [] (wr := []) rfl rfl (by decide) (by decide) (fun r_3 u_3 H locs hw_3 hP hD hK1 hS => ?_)
  have hw_3 : True := hw_3
  have hP : va_P (dC, dI) classes [(h0, .inr (2, [.int ph, .int di, .long lm, .long cu, .long la, .long en]))] H := hP
  have hD : va_D A [(h0, .inr (2, [.int ph, .int di, .long lm, .long cu, .long la, .long en]))] := hD
  refine lv_if_eq (tgt := 13) hx hb d_Ta_take_6 (by decide) (fun c_6 => ?_) (fun c_6 => ?_)
  · skip
    refine lv_aload_n hx hb d_Ta_take_13 rfl (lv_at hl 0 rfl) ?_
    refine lv_iload_n hx hb d_Ta_take_14 rfl (lv_at hl 1 rfl) ?_
    refine lv_lload_n hx hb d_Ta_take_15 rfl (lv_at hl 2 rfl) ?_
    refine lv_iload hx hb d_Ta_take_16 (lv_at hl 4 rfl) ?_
    refine kc_i (va_runV (As := [.int p0, .long p1, .int p3]) (rest := []) ⟨hx, hb, hml, hown, hts⟩ (c_Ta_phaseAfter l dC dI h0 H.size ph di lm cu la en p0 p1 p3 ) (cwV 3 hts (ginV kb_72 kb_73 kb_74 kb_47 kb_71) rfl rfl rfl (by decide +kernel) ⟨Nat.le_of_ble_eq_true rfl, Nat.le_of_ble_eq_true rfl⟩) (preV (ci := 2) (wc := [(h0, .inr (2, [.int ph, .int di, .long lm, .long cu, .long la, .long en]))]) hK hN hP hD [0] rfl rfl (by decide) [] rfl rfl rfl) rfl rfl hl.1 rfl (lv_room (Nat.le_of_ble_eq_true rfl)) d_Ta_take_18 ⟨Nat.le_of_ble_eq_true rfl, Nat.le_of_ble_eq_true rfl⟩) hP hD hS hA [0] [] (wr := []) rfl rfl (by decide) (by decide) (fun r_18 u_18 H locs hw_18 hP hD hK1 hS => ?_)
    have hw_18 : True := hw_18
    have hP : va_P (dC, dI) classes [(h0, .inr (2, [.int ph, .int di, .long lm, .long cu, .long la, .long en]))] H := hP
    have hD : va_D A [(h0, .inr (2, [.int ph, .int di, .long lm, .long cu, .long la, .long en]))] := hD
    refine lv_istore (lv' := [(7, .int r_18), (0, .ref h0), (1, .int p0), (2, .long p1), (4, .long p2), (6, .int p3)]) hx hb d_Ta_take_21 hl (by decide) rfl (fun ls hl => ?_)
    refine lv_iload hx hb d_Ta_take_23 (lv_at hl 0 rfl) ?_
    refine lv_iconst (v := (-1)) hx hb d_Ta_take_25 (by decide) ?_
    refine lv_icmp_ne (tgt := 35) hx hb d_Ta_take_26 (by decide) (fun c_26 => ?_) (fun c_26 => ?_)
    · skip
      refine lv_aload_n hx hb d_Ta_take_35 rfl (lv_at hl 1 rfl) ?_
      refine lv_iload_n hx hb d_Ta_take_36 rfl (lv_at hl 2 rfl) ?_
      refine lv_lload_n hx hb d_Ta_take_37 rfl (lv_at hl 3 rfl) ?_
      refine lv_lload hx hb d_Ta_take_38 (lv_at hl 4 rfl) ?_
      refine kc_v (va_runV (As := [.int p0, .long p1, .long p2]) (rest := []) ⟨hx, hb, hml, hown, hts⟩ (c_Ta_keep l dC dI h0 H.size ph di lm cu la en p0 p1 p2 ) (cwV 3 hts (ginV kb_76 kb_77 kb_78 kb_47 kb_75) rfl rfl rfl (by decide +kernel) ⟨Nat.le_of_ble_eq_true rfl, Nat.le_of_ble_eq_true rfl⟩) (preV (ci := 2) (wc := [(h0, .inr (2, [.int ph, .int di, .long lm, .long cu, .long la, .long en]))]) hK hN hP hD [0] rfl rfl (by decide) [] rfl rfl rfl) rfl rfl hl.1 rfl (lv_room (Nat.le_of_ble_eq_true rfl)) d_Ta_take_40 ⟨Nat.le_of_ble_eq_true rfl, Nat.le_of_ble_eq_true rfl⟩) hP hD hS hA [0] [] (wr := []) rfl rfl (by decide) (by decide) (fun u_40 H locs hw_40 hP hD hK1 hS => ?_)
      obtain ⟨di2_40, lm2_40, cu2_40, la2_40, en2_40⟩ := u_40
      have hw_40 : True := hw_40
      have hP : va_P (dC, dI) classes [(h0, .inr (2, [.int ph, .int di2_40, .long lm2_40, .long cu2_40, .long la2_40, .long en2_40]))] H := hP
      have hD : va_D A [(h0, .inr (2, [.int ph, .int di2_40, .long lm2_40, .long cu2_40, .long la2_40, .long en2_40]))] := hD
      refine lv_aload_n hx hb d_Ta_take_43 rfl (lv_at hl 1 rfl) ?_
      refine lv_iload hx hb d_Ta_take_44 (lv_at hl 0 rfl) ?_
      refine va_put (D := (dC, dI)) (ci := 2) (v := .int r_18) (ty := .int) (C := R_Ta) (T := F_Ta) (N := 6) hx hb hB inC_Ta t_Ta t_Ta_ok n_Ta hown hK hP hD hS 0 rfl rfl 0 (by decide) (hB _ kb_32) (fun _ h9 => h9) rfl (by decide +kernel) rfl rfl (Nat.le_of_ble_eq_true rfl) d_Ta_take_46 (fun H locs hP hD hS => ?_)
      have hP : va_P (dC, dI) classes [(h0, .inr (2, [.int r_18, .int di2_40, .long lm2_40, .long cu2_40, .long la2_40, .long en2_40]))] H := hP
      have hD : va_D A [(h0, .inr (2, [.int r_18, .int di2_40, .long lm2_40, .long cu2_40, .long la2_40, .long en2_40]))] := hD
      refine lv_iconst (v := 1) hx hb d_Ta_take_49 (by decide) ?_
      have hP9 := hP.sub (ws' := [(h0, .inr (2, [.int r_18, .int di2_40, .long lm2_40, .long cu2_40, .long la2_40, .long en2_40]))]) [0] rfl
      have hD9 := hD.sub (ws' := [(h0, .inr (2, [.int r_18, .int di2_40, .long lm2_40, .long cu2_40, .long la2_40, .long en2_40]))]) [0] (by decide) rfl
      have hK9 := hK.sub (tys' := []) [] rfl
      exact W.zret (v := 1) (ty := .boolean) hx hb hr (rfl) (fun t ht hW => ⟨⟨1, (r_18, di2_40, lm2_40, cu2_40, la2_40, en2_40), rfl, trivial, by rw [ht]; exact hP9, va_K.moved hW.alike hK9, hD9⟩, hS.F ht⟩) hS.2.2 d_Ta_take_50
    · skip
      refine lv_aload_n hx hb d_Ta_take_29 rfl (lv_at hl 1 rfl) ?_
      refine kc_v (va_runV (As := []) (rest := []) ⟨hx, hb, hml, hown, hts⟩ (c_Ta_end l dC dI h0 H.size ph di lm cu la en  ) (cwV 0 hts (ginV kb_44 kb_45 kb_46 kb_47 kb_43) rfl rfl rfl (by decide +kernel) ⟨Nat.le_of_ble_eq_true rfl, Nat.le_of_ble_eq_true rfl⟩) (preV (ci := 2) (wc := [(h0, .inr (2, [.int ph, .int di, .long lm, .long cu, .long la, .long en]))]) hK hN hP hD [0] rfl rfl (by decide) [] rfl rfl rfl) rfl rfl hl.1 rfl (lv_room (Nat.le_of_ble_eq_true rfl)) d_Ta_take_30 ⟨Nat.le_of_ble_eq_true rfl, Nat.le_of_ble_eq_true rfl⟩) hP hD hS hA [0] [] (wr := []) rfl rfl (by decide) (by decide) (fun u_30 H locs hw_30 hP hD hK1 hS => ?_)
      obtain ⟨ph2_30, rfl⟩ : ∃ z, z = u_30 := ⟨_, rfl⟩
      have hw_30 : True := hw_30
      have hP : va_P (dC, dI) classes [(h0, .inr (2, [.int ph2_30, .int di, .long lm, .long cu, .long la, .long en]))] H := hP
      have hD : va_D A [(h0, .inr (2, [.int ph2_30, .int di, .long lm, .long cu, .long la, .long en]))] := hD
      refine lv_iconst (v := 0) hx hb d_Ta_take_33 (by decide) ?_
      have hP9 := hP.sub (ws' := [(h0, .inr (2, [.int ph2_30, .int di, .long lm, .long cu, .long la, .long en]))]) [0] rfl
      have hD9 := hD.sub (ws' := [(h0, .inr (2, [.int ph2_30, .int di, .long lm, .long cu, .long la, .long en]))]) [0] (by decide) rfl
      have hK9 := hK.sub (tys' := []) [] rfl
      exact W.zret (v := 0) (ty := .boolean) hx hb hr (rfl) (fun t ht hW => ⟨⟨0, (ph2_30, di, lm, cu, la, en), rfl, trivial, by rw [ht]; exact hP9, va_K.moved hW.alike hK9, hD9⟩, hS.F ht⟩) hS.2.2 d_Ta_take_34
  · skip
    refine lv_iconst (v := (-1)) hx hb d_Ta_take_9 (by decide) ?_
    refine lv_goto (tgt := 21) hx hb d_Ta_take_10 (by decide) ?_
    refine lv_istore (lv' := [(7, .int (-1)), (0, .ref h0), (1, .int p0), (2, .long p1), (4, .long p2), (6, .int p3)]) hx hb d_Ta_take_21 hl (by decide) rfl (fun ls hl => ?_)
    refine lv_iload hx hb d_Ta_take_23 (lv_at hl 0 rfl) ?_
    refine lv_iconst (v := (-1)) hx hb d_Ta_take_25 (by decide) ?_
    refine lv_icmp_ne (tgt := 35) hx hb d_Ta_take_26 (by decide) (fun c_26 => absurd rfl c_26) (fun _ => ?_)
    refine lv_aload_n hx hb d_Ta_take_29 rfl (lv_at hl 1 rfl) ?_
    refine kc_v (va_runV (As := []) (rest := []) ⟨hx, hb, hml, hown, hts⟩ (c_Ta_end l dC dI h0 H.size ph di lm cu la en  ) (cwV 0 hts (ginV kb_44 kb_45 kb_46 kb_47 kb_43) rfl rfl rfl (by decide +kernel) ⟨Nat.le_of_ble_eq_true rfl, Nat.le_of_ble_eq_true rfl⟩) (preV (ci := 2) (wc := [(h0, .inr (2, [.int ph, .int di, .long lm, .long cu, .long la, .long en]))]) hK hN hP hD [0] rfl rfl (by decide) [] rfl rfl rfl) rfl rfl hl.1 rfl (lv_room (Nat.le_of_ble_eq_true rfl)) d_Ta_take_30 ⟨Nat.le_of_ble_eq_true rfl, Nat.le_of_ble_eq_true rfl⟩) hP hD hS hA [0] [] (wr := []) rfl rfl (by decide) (by decide) (fun u_30 H locs hw_30 hP hD hK1 hS => ?_)
    obtain ⟨ph2_30, rfl⟩ : ∃ z, z = u_30 := ⟨_, rfl⟩
    have hw_30 : True := hw_30
    have hP : va_P (dC, dI) classes [(h0, .inr (2, [.int ph2_30, .int di, .long lm, .long cu, .long la, .long en]))] H := hP
    have hD : va_D A [(h0, .inr (2, [.int ph2_30, .int di, .long lm, .long cu, .long la, .long en]))] := hD
    refine lv_iconst (v := 0) hx hb d_Ta_take_33 (by decide) ?_
    have hP9 := hP.sub (ws' := [(h0, .inr (2, [.int ph2_30, .int di, .long lm, .long cu, .long la, .long en]))]) [0] rfl
    have hD9 := hD.sub (ws' := [(h0, .inr (2, [.int ph2_30, .int di, .long lm, .long cu, .long la, .long en]))]) [0] (by decide) rfl
    have hK9 := hK.sub (tys' := []) [] rfl
    exact W.zret (v := 0) (ty := .boolean) hx hb hr (rfl) (fun t ht hW => ⟨⟨0, (ph2_30, di, lm, cu, la, en), rfl, trivial, by rw [ht]; exact hP9, va_K.moved hW.alike hK9, hD9⟩, hS.F ht⟩) hS.2.2 d_Ta_take_34
