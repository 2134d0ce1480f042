set_option maxHeartbeats 4000000 in
set_option maxRecDepth 100000 in
theorem c_Li_init (l : Launch) (dC : Nat → ClassId) (dI : Nat → Nat → Nat) (h0 : Nat) (sz : Nat) : Met l y_Li_init w_Li_init ({ frames := 1, cells := 1, slots := 10, locals := 20 }) (cPre dC dI [.ref h0] sz [] [(h0, .inr (4, [.null, .int 0, .long 0]))]) (va_Qv (fun (u : Nat × ClassId) => True) (fun (u : Nat × ClassId) (t : State) => cB dC dI (va_A [(h0, .inr (4, [.null, .int 0, .long 0]))] sz) [(u.2, .int)] [(h0, .inr (4, [.ref u.1, .int 0, .long 0])), (u.1, .inl (u.2, 10, .inl (fun _ => 0)))] t) (va_A [(h0, .inr (4, [.null, .int 0, .long 0]))] sz)) 1 10 (va_A [(h0, .inr (4, [.null, .int 0, .long 0]))] sz) := by
  refine Met.ofW (cc := b_Li_init) (maxL := 1) (ret := none) (by decide) rfl ?_
  intro p e s m args below meth c s₁ B hml hv
  obtain ⟨rfl, hsz, hN, hP, hK, hD0⟩ := hv
  have hx := B.exec
  have hb := B.bytes
  have hr := B.returns
  have hts := atoms_spec (ws := w_Li_init) B.pre
  have hB := big_of hts
  have hown : s.vm.findClass R_Li = some m.cls := findClass_of_methodNamed B.named
  have hlocks := B.notSynchronized
  have hin : meth.name = "<init>" := (name_of_methodNamed B.named B.method).1
  subst hsz
  have hD := hD0.self (sz := s.heap.size)
  generalize hAe : va_A [(h0, .inr (4, [.null, .int 0, .long 0]))] s.heap.size = A at hD ⊢
  have hA : ∀ q : Nat, s.heap.size ≤ q → A q := fun q h => by rw [← hAe]; exact Or.inr h
  have hS : va_S A s.heap s.heap [] := va_S.rf
  have hP : va_P (dC, dI) classes [(h0, .inr (4, [.null, .int 0, .long 0]))] s.heap := hP
  have hl := lv_entry ([.ref h0]) (n := 1) (Nat.le_of_ble_eq_true rfl)
  rw [lg_entry_eq]
  generalize (lg_sl ([.ref h0]) ++ List.replicate (1 - (lg_sl ([.ref h0])).length) Slot.unset).toArray = ls at hl ⊢
  have hl : lv_has ls 1 [(0, .ref h0)] := hl
  refine lv_aload_n hx hb d_Li_init_0 rfl (lv_at hl 0 rfl) ?_
  refine W.objInit hx hb hown (hB _ kb_108) (hB _ kb_1) (hB _ kb_2) rfl (by rw [hml]; exact hl.1) rfl d_Li_init_1 (Nat.le_of_ble_eq_true rfl) (Nat.le_of_ble_eq_true rfl) ?_
  refine W.eq (g2 := F0 m 4 ls []) rfl ?_
  refine lv_aload_n hx hb d_Li_init_4 rfl (lv_at hl 0 rfl) ?_
  refine lv_bipush (v := 10) hx hb d_Li_init_5 (by decide) ?_
  refine va_newa (atype := .int) (ty := .int) (N' := 10) (a0 := (10, .inl (fun _ => 0))) hx hb (hB (.arrayClass .int) kb_106) rfl hK hP hD hS hA (fun _ => rfl) (by decide) (by decide) (by decide) (Nat.le_of_ble_eq_true rfl) (Nat.le_of_ble_eq_true rfl) d_Li_init_7 (fun q_7 k_7 H hK hP hD hS => ?_)
  have hP : va_P (dC, dI) classes [(h0, .inr (4, [.null, .int 0, .long 0])), (q_7, .inl (k_7, 10, .inl (fun _ => 0)))] H := hP
  have hD : va_D A [(h0, .inr (4, [.null, .int 0, .long 0])), (q_7, .inl (k_7, 10, .inl (fun _ => 0)))] := hD
  have hK : va_K (dC, dI) classes [(k_7, .int)] s := hK
  refine W.widen (k := 1) (n := 10) (Nat.le_of_ble_eq_true rfl) (Nat.le_of_ble_eq_true rfl) ?_
  refine va_putF (D := (dC, dI)) (ci := 4) (v := .ref q_7) (ty := (.array .int)) (C := R_Li) (T := F_Li) (N := 3) hx hb hB inC_Li t_Li t_Li_ok n_Li hown hK hP hD hS 0 rfl rfl 0 (by decide) (hB _ kb_109) (fun _ h9 => h9) rfl hin rfl (by decide +kernel) rfl rfl (Nat.le_of_ble_eq_true rfl) d_Li_init_9 (fun H locs hP hD hS => ?_)
  have hP : va_P (dC, dI) classes [(h0, .inr (4, [.ref q_7, .int 0, .long 0])), (q_7, .inl (k_7, 10, .inl (fun _ => 0)))] H := hP
  have hD : va_D A [(h0, .inr (4, [.ref q_7, .int 0, .long 0])), (q_7, .inl (k_7, 10, .inl (fun _ => 0)))] := hD
  refine lv_aload_n hx hb d_Li_init_12 rfl (lv_at hl 0 rfl) ?_
  refine lv_iconst (v := 0) hx hb d_Li_init_13 (by decide) ?_
  refine va_put (D := (dC, dI)) (ci := 4) (v := .int 0) (ty := .int) (C := R_Li) (T := F_Li) (N := 3) hx hb hB inC_Li t_Li t_Li_ok n_Li hown hK hP hD hS 0 rfl rfl 1 (by decide) (hB _ kb_110) (fun _ h9 => h9) rfl (by decide +kernel) rfl rfl (Nat.le_of_ble_eq_true rfl) d_Li_init_14 (fun H locs hP hD hS => ?_)
  have hP : va_P (dC, dI) classes [(h0, .inr (4, [.ref q_7, .int 0, .long 0])), (q_7, .inl (k_7, 10, .inl (fun _ => 0)))] H := hP
  have hD : va_D A [(h0, .inr (4, [.ref q_7, .int 0, .long 0])), (q_7, .inl (k_7, 10, .inl (fun _ => 0)))] := hD
  refine lv_aload_n hx hb d_Li_init_17 rfl (lv_at hl 0 rfl) ?_
  refine lv_lconst (v := 0) hx hb d_Li_init_18 (by decide) ?_
  refine va_put (D := (dC, dI)) (ci := 4) (v := .long 0) (ty := .long) (C := R_Li) (T := F_Li) (N := 3) hx hb hB inC_Li t_Li t_Li_ok n_Li hown hK hP hD hS 0 rfl rfl 2 (by decide) (hB _ kb_111) (fun _ h9 => h9) rfl (by decide +kernel) rfl rfl (Nat.le_of_ble_eq_true rfl) d_Li_init_19 (fun H locs hP hD hS => ?_)
  have hP : va_P (dC, dI) classes [(h0, .inr (4, [.ref q_7, .int 0, .long 0])), (q_7, .inl (k_7, 10, .inl (fun _ => 0)))] H := hP
  have hD : va_D A [(h0, .inr (4, [.ref q_7, .int 0, .long 0])), (q_7, .inl (k_7, 10, .inl (fun _ => 0)))] := hD
  have hP9 := hP.sub (ws' := [(h0, .inr (4, [.ref q_7, .int 0, .long 0])), (q_7, .inl (k_7, 10, .inl (fun _ => 0)))]) [0, 1] rfl
  have hD9 := hD.sub (ws' := [(h0, .inr (4, [.ref q_7, .int 0, .long 0])), (q_7, .inl (k_7, 10, .inl (fun _ => 0)))]) [0, 1] (by decide) rfl
  have hK9 := hK.sub (tys' := [(k_7, .int)]) [0] rfl
  exact W.vret hx hb hr (fun t ht hW => ⟨⟨(q_7, k_7), rfl, trivial, by rw [ht]; exact hP9, va_K.moved hW.alike hK9, hD9⟩, hS.F ht⟩) hS.2.2 d_Li_init_22
set_option maxHeartbeats 4000000 in
set_option maxRecDepth 100000 in
theorem c_Li_isFull (l : Launch) (dC : Nat → ClassId) (dI : Nat → Nat → Nat) (h0 : Nat) (a4 : Nat) (sz : Nat) (cn : Int32) (to : Int64) : Met l y_Li_isFull w_Li_isFull ({ frames := 0, cells := 0, slots := 0, locals := 0 }) (cPre dC dI [.ref h0] sz [] [(h0, .inr (4, [.ref a4, .int cn, .long to]))]) (va_Qi (fun (r : Int32) (u : Unit) => r = bi (10 ≤ cn)) (fun (u : Unit) (t : State) => cB dC dI (va_A [(h0, .inr (4, [.ref a4, .int cn, .long to]))] sz) [] [(h0, .inr (4, [.ref a4, .int cn, .long to]))] t) (va_A [(h0, .inr (4, [.ref a4, .int cn, .long to]))] sz)) 0 0 (va_A [(h0, .inr (4, [.ref a4, .int cn, .long to]))] sz) := by
  refine Met.ofW (cc := b_Li_isFull) (maxL := 1) (ret := (some .boolean)) (by decide) rfl ?_
  intro p e s m args below meth c s₁ B hml hv
  obtain ⟨rfl, hsz, hN, hP, hK, hD0⟩ := hv
  have hx := B.exec
  have hb := B.bytes
  have hr := B.returns
  have hts := atoms_spec (ws := w_Li_isFull) B.pre
  have hB := big_of hts
  have hown : s.vm.findClass R_Li = some m.cls := findClass_of_methodNamed B.named
  have hlocks := B.notSynchronized
  subst hsz
  have hD := hD0.self (sz := s.heap.size)
  generalize hAe : va_A [(h0, .inr (4, [.ref a4, .int cn, .long to]))] s.heap.size = A at hD ⊢
  have hA : ∀ q : Nat, s.heap.size ≤ q → A q := fun q h => by rw [← hAe]; exact Or.inr h
  have hS : va_S A s.heap s.heap [] := va_S.rf
  have hP : va_P (dC, dI) classes [(h0, .inr (4, [.ref a4, .int cn, .long to]))] s.heap := hP
  have hl := lv_entry ([.ref h0]) (n := 1) (Nat.le_of_ble_eq_true rfl)
  rw [lg_entry_eq]
  generalize (lg_sl ([.ref h0]) ++ List.replicate (1 - (lg_sl ([.ref h0])).length) Slot.unset).toArray = ls at hl ⊢
  have hl : lv_has ls 1 [(0, .ref h0)] := hl
  refine lv_aload_n hx hb d_Li_isFull_0 rfl (lv_at hl 0 rfl) ?_
  refine va_get (D := (dC, dI)) (ci := 4) (v := .int cn) (C := R_Li) (T := F_Li) (N := 3) hx hb hB inC_Li hown hK hP 0 rfl rfl 1 (by decide) (hB _ kb_110) (fun _ h9 => h9) rfl d_Li_isFull_1 ?_
  refine lv_bipush (v := 10) hx hb d_Li_isFull_4 (by decide) ?_
  refine lv_icmp_lt (tgt := 13) hx hb d_Li_isFull_6 (by decide) (fun c_6 => ?_) (fun c_6 => ?_)
  · skip
    refine lv_iconst (v := 0) hx hb d_Li_isFull_13 (by decide) ?_
    have hP9 := hP.sub (ws' := [(h0, .inr (4, [.ref a4, .int cn, .long to]))]) [0] rfl
    have hD9 := hD.sub (ws' := [(h0, .inr (4, [.ref a4, .int cn, .long to]))]) [0] (by decide) rfl
    have hK9 := hK.sub (tys' := []) [] rfl
    exact W.zret (v := 0) (ty := .boolean) hx hb hr (rfl) (fun t ht hW => ⟨⟨0, (), rfl, (bi_f (Int32.not_le.mpr c_6)).symm, by rw [ht]; exact hP9, va_K.moved hW.alike hK9, hD9⟩, hS.F ht⟩) hS.2.2 d_Li_isFull_14
  · skip
    refine lv_iconst (v := 1) hx hb d_Li_isFull_9 (by decide) ?_
    refine lv_goto (tgt := 14) hx hb d_Li_isFull_10 (by decide) ?_
    have hP9 := hP.sub (ws' := [(h0, .inr (4, [.ref a4, .int cn, .long to]))]) [0] rfl
    have hD9 := hD.sub (ws' := [(h0, .inr (4, [.ref a4, .int cn, .long to]))]) [0] (by decide) rfl
    have hK9 := hK.sub (tys' := []) [] rfl
    exact W.zret (v := 1) (ty := .boolean) hx hb hr (rfl) (fun t ht hW => ⟨⟨1, (), rfl, (bi_t (Int32.not_lt.mp c_6)).symm, by rw [ht]; exact hP9, va_K.moved hW.alike hK9, hD9⟩, hS.F ht⟩) hS.2.2 d_Li_isFull_14
set_option maxHeartbeats 4000000 in
set_option maxRecDepth 100000 in
theorem c_Li_has (l : Launch) (dC : Nat → ClassId) (dI : Nat → Nat → Nat) (h0 : Nat) (a4 : Nat) (sz : Nat) (cn : Int32) (to : Int64) (p0 : Int32) : Met l y_Li_has w_Li_has ({ frames := 0, cells := 0, slots := 0, locals := 0 }) (cPre dC dI [.ref h0, .int p0] sz [] [(h0, .inr (4, [.ref a4, .int cn, .long to]))]) (va_Qi (fun (r : Int32) (u : Unit) => r = bi (1 ≤ p0 ∧ p0 ≤ cn)) (fun (u : Unit) (t : State) => cB dC dI (va_A [(h0, .inr (4, [.ref a4, .int cn, .long to]))] sz) [] [(h0, .inr (4, [.ref a4, .int cn, .long to]))] t) (va_A [(h0, .inr (4, [.ref a4, .int cn, .long to]))] sz)) 0 0 (va_A [(h0, .inr (4, [.ref a4, .int cn, .long to]))] sz) := by
  refine Met.ofW (cc := b_Li_has) (maxL := 2) (ret := (some .boolean)) (by decide) rfl ?_
  intro p e s m args below meth c s₁ B hml hv
  obtain ⟨rfl, hsz, hN, hP, hK, hD0⟩ := hv
  have hx := B.exec
  have hb := B.bytes
  have hr := B.returns
  have hts := atoms_spec (ws := w_Li_has) B.pre
  have hB := big_of hts
  have hown : s.vm.findClass R_Li = some m.cls := findClass_of_methodNamed B.named
  have hlocks := B.notSynchronized
  subst hsz
  have hD := hD0.self (sz := s.heap.size)
  generalize hAe : va_A [(h0, .inr (4, [.ref a4, .int cn, .long to]))] s.heap.size = A at hD ⊢
  have hA : ∀ q : Nat, s.heap.size ≤ q → A q := fun q h => by rw [← hAe]; exact Or.inr h
  have hS : va_S A s.heap s.heap [] := va_S.rf
  have hP : va_P (dC, dI) classes [(h0, .inr (4, [.ref a4, .int cn, .long to]))] s.heap := hP
  have hl := lv_entry ([.ref h0, .int p0]) (n := 2) (Nat.le_of_ble_eq_true rfl)
  rw [lg_entry_eq]
  generalize (lg_sl ([.ref h0, .int p0]) ++ List.replicate (2 - (lg_sl ([.ref h0, .int p0])).length) Slot.unset).toArray = ls at hl ⊢
  have hl : lv_has ls 2 [(0, .ref h0), (1, .int p0)] := hl
  refine lv_iload_n hx hb d_Li_has_0 rfl (lv_at hl 1 rfl) ?_
  refine lv_iconst (v := 1) hx hb d_Li_has_1 (by decide) ?_
  refine lv_icmp_lt (tgt := 17) hx hb d_Li_has_2 (by decide) (fun c_2 => ?_) (fun c_2 => ?_)
  · skip
    refine lv_iconst (v := 0) hx hb d_Li_has_17 (by decide) ?_
    have hP9 := hP.sub (ws' := [(h0, .inr (4, [.ref a4, .int cn, .long to]))]) [0] rfl
    have hD9 := hD.sub (ws' := [(h0, .inr (4, [.ref a4, .int cn, .long to]))]) [0] (by decide) rfl
    have hK9 := hK.sub (tys' := []) [] rfl
    exact W.zret (v := 0) (ty := .boolean) hx hb hr (rfl) (fun t ht hW => ⟨⟨0, (), rfl, (bi_f (fun h => absurd h.1 (Int32.not_le.mpr c_2))).symm, by rw [ht]; exact hP9, va_K.moved hW.alike hK9, hD9⟩, hS.F ht⟩) hS.2.2 d_Li_has_18
  · skip
    refine lv_iload_n hx hb d_Li_has_5 rfl (lv_at hl 1 rfl) ?_
    refine lv_aload_n hx hb d_Li_has_6 rfl (lv_at hl 0 rfl) ?_
    refine va_get (D := (dC, dI)) (ci := 4) (v := .int cn) (C := R_Li) (T := F_Li) (N := 3) hx hb hB inC_Li hown hK hP 0 rfl rfl 1 (by decide) (hB _ kb_110) (fun _ h9 => h9) rfl d_Li_has_7 ?_
    refine lv_icmp_gt (tgt := 17) hx hb d_Li_has_10 (by decide) (fun c_10 => ?_) (fun c_10 => ?_)
    · skip
      refine lv_iconst (v := 0) hx hb d_Li_has_17 (by decide) ?_
      have hP9 := hP.sub (ws' := [(h0, .inr (4, [.ref a4, .int cn, .long to]))]) [0] rfl
      have hD9 := hD.sub (ws' := [(h0, .inr (4, [.ref a4, .int cn, .long to]))]) [0] (by decide) rfl
      have hK9 := hK.sub (tys' := []) [] rfl
      exact W.zret (v := 0) (ty := .boolean) hx hb hr (rfl) (fun t ht hW => ⟨⟨0, (), rfl, (bi_f (fun h => absurd h.2 (Int32.not_le.mpr c_10))).symm, by rw [ht]; exact hP9, va_K.moved hW.alike hK9, hD9⟩, hS.F ht⟩) hS.2.2 d_Li_has_18
    · skip
      refine lv_iconst (v := 1) hx hb d_Li_has_13 (by decide) ?_
      refine lv_goto (tgt := 18) hx hb d_Li_has_14 (by decide) ?_
      have hP9 := hP.sub (ws' := [(h0, .inr (4, [.ref a4, .int cn, .long to]))]) [0] rfl
      have hD9 := hD.sub (ws' := [(h0, .inr (4, [.ref a4, .int cn, .long to]))]) [0] (by decide) rfl
      have hK9 := hK.sub (tys' := []) [] rfl
      exact W.zret (v := 1) (ty := .boolean) hx hb hr (rfl) (fun t ht hW => ⟨⟨1, (), rfl, (bi_t ⟨Int32.not_lt.mp c_2, Int32.not_lt.mp c_10⟩).symm, by rw [ht]; exact hP9, va_K.moved hW.alike hK9, hD9⟩, hS.F ht⟩) hS.2.2 d_Li_has_18
set_option maxHeartbeats 4000000 in
set_option maxRecDepth 100000 in
theorem c_Li_add (l : Launch) (dC : Nat → ClassId) (dI : Nat → Nat → Nat) (h0 : Nat) (a4 : Nat) (e4 : ClassId) (sz : Nat) (cn : Int32) (to : Int64) (f4 : Nat → Int32) (p0 : Int32) (hc0 : 0 ≤ cn) : Met l y_Li_add w_Li_add ({ frames := 0, cells := 0, slots := 0, locals := 0 }) (cPre dC dI [.ref h0, .int p0] sz [(e4, .int)] [(h0, .inr (4, [.ref a4, .int cn, .long to])), (a4, .inl (e4, 10, .inl f4))]) (va_Qi (fun (r : Int32) (u : Int32 × Int64 × (Nat → Int32)) => (¬ 10 ≤ cn → r = cn + 1 ∧ u.1 = cn + 1 ∧ u.2.1 = to + p0.toInt64 ∧ u.2.2 = upd f4 cn.toNatClampNeg p0) ∧ (10 ≤ cn → r = cn ∧ u.1 = cn ∧ u.2.1 = to ∧ u.2.2 = f4)) (fun (u : Int32 × Int64 × (Nat → Int32)) (t : State) => cB dC dI (va_A [(h0, .inr (4, [.ref a4, .int cn, .long to])), (a4, .inl (e4, 10, .inl f4))] sz) [(e4, .int)] [(h0, .inr (4, [.ref a4, .int u.1, .long u.2.1])), (a4, .inl (e4, 10, .inl (u.2.2)))] t) (va_A [(h0, .inr (4, [.ref a4, .int cn, .long to])), (a4, .inl (e4, 10, .inl f4))] sz)) 0 0 (va_A [(h0, .inr (4, [.ref a4, .int cn, .long to])), (a4, .inl (e4, 10, .inl f4))] sz) := by
  refine Met.ofW (cc := b_Li_add) (maxL := 2) (ret := (some .int)) (by decide) rfl ?_
  intro p e s m args below meth c s₁ B hml hv
  obtain ⟨rfl, hsz, hN, hP, hK, hD0⟩ := hv
  have hx := B.exec
  have hb := B.bytes
  have hr := B.returns
  have hts := atoms_spec (ws := w_Li_add) B.pre
  have hB := big_of hts
  have hown : s.vm.findClass R_Li = some m.cls := findClass_of_methodNamed B.named
  have hlocks := B.notSynchronized
  subst hsz
  have hD := hD0.self (sz := s.heap.size)
  generalize hAe : va_A [(h0, .inr (4, [.ref a4, .int cn, .long to])), (a4, .inl (e4, 10, .inl f4))] s.heap.size = A at hD ⊢
  have hA : ∀ q : Nat, s.heap.size ≤ q → A q := fun q h => by rw [← hAe]; exact Or.inr h
  have hS : va_S A s.heap s.heap [] := va_S.rf
  have hP : va_P (dC, dI) classes [(h0, .inr (4, [.ref a4, .int cn, .long to])), (a4, .inl (e4, 10, .inl f4))] s.heap := hP
  have hl := lv_entry ([.ref h0, .int p0]) (n := 2) (Nat.le_of_ble_eq_true rfl)
  rw [lg_entry_eq]
  generalize (lg_sl ([.ref h0, .int p0]) ++ List.replicate (2 - (lg_sl ([.ref h0, .int p0])).length) Slot.unset).toArray = ls at hl ⊢
  have hl : lv_has ls 2 [(0, .ref h0), (1, .int p0)] := hl
  refine lv_aload_n hx hb d_Li_add_0 rfl (lv_at hl 0 rfl) ?_
  refine va_get (D := (dC, dI)) (ci := 4) (v := .int cn) (C := R_Li) (T := F_Li) (N := 3) hx hb hB inC_Li hown hK hP 0 rfl rfl 1 (by decide) (hB _ kb_110) (fun _ h9 => h9) rfl d_Li_add_1 ?_
  refine lv_bipush (v := 10) hx hb d_Li_add_4 (by decide) ?_
  refine lv_icmp_ge (tgt := 40) hx hb d_Li_add_6 (by decide) (fun c_6 => ?_) (fun c_6 => ?_)
  · skip
    refine lv_aload_n hx hb d_Li_add_40 rfl (lv_at hl 0 rfl) ?_
    refine va_get (D := (dC, dI)) (ci := 4) (v := .int cn) (C := R_Li) (T := F_Li) (N := 3) hx hb hB inC_Li hown hK hP 0 rfl rfl 1 (by decide) (hB _ kb_110) (fun _ h9 => h9) rfl d_Li_add_41 ?_
    have hP9 := hP.sub (ws' := [(h0, .inr (4, [.ref a4, .int cn, .long to])), (a4, .inl (e4, 10, .inl f4))]) [0, 1] rfl
    have hD9 := hD.sub (ws' := [(h0, .inr (4, [.ref a4, .int cn, .long to])), (a4, .inl (e4, 10, .inl f4))]) [0, 1] (by decide) rfl
    have hK9 := hK.sub (tys' := [(e4, .int)]) [0] rfl
    exact W.iret (v := cn) hx hb hr (fun t ht hW => ⟨⟨cn, (cn, to, f4), rfl, ⟨fun h => absurd c_6 h, fun _ => ⟨rfl, rfl, rfl, rfl⟩⟩, by rw [ht]; exact hP9, va_K.moved hW.alike hK9, hD9⟩, hS.F ht⟩) hS.2.2 d_Li_add_44
  · skip
    refine lv_aload_n hx hb d_Li_add_9 rfl (lv_at hl 0 rfl) ?_
    refine va_get (D := (dC, dI)) (ci := 4) (v := .ref a4) (C := R_Li) (T := F_Li) (N := 3) hx hb hB inC_Li hown hK hP 0 rfl rfl 0 (by decide) (hB _ kb_109) (fun _ h9 => h9) rfl d_Li_add_10 ?_
    refine lv_aload_n hx hb d_Li_add_13 rfl (lv_at hl 0 rfl) ?_
    refine va_get (D := (dC, dI)) (ci := 4) (v := .int cn) (C := R_Li) (T := F_Li) (N := 3) hx hb hB inC_Li hown hK hP 0 rfl rfl 1 (by decide) (hB _ kb_110) (fun _ h9 => h9) rfl d_Li_add_14 ?_
    refine lv_iload_n hx hb d_Li_add_17 rfl (lv_at hl 1 rfl) ?_
    have h_18 : vp_in cn 10 := vinB 10 hc0 c_6 (by decide)
    refine va_iast hx hb hK hP hD hS 1 0 rfl rfl h_18 d_Li_add_18 (fun H locs hP hD hS => ?_)
    obtain ⟨f_18, ef_18⟩ : ∃ y, y = upd f4 cn.toNatClampNeg p0 := ⟨_, rfl⟩
    rw [← ef_18] at hP hD
    have hP : va_P (dC, dI) classes [(h0, .inr (4, [.ref a4, .int cn, .long to])), (a4, .inl (e4, 10, .inl f_18))] H := hP
    have hD : va_D A [(h0, .inr (4, [.ref a4, .int cn, .long to])), (a4, .inl (e4, 10, .inl f_18))] := hD
    refine lv_aload_n hx hb d_Li_add_19 rfl (lv_at hl 0 rfl) ?_
    refine lv_dup hx hb d_Li_add_20 rfl ?_
    refine va_get (D := (dC, dI)) (ci := 4) (v := .long to) (C := R_Li) (T := F_Li) (N := 3) hx hb hB inC_Li hown hK hP 0 rfl rfl 2 (by decide) (hB _ kb_111) (fun _ h9 => h9) rfl d_Li_add_21 ?_
    refine lv_iload_n hx hb d_Li_add_24 rfl (lv_at hl 1 rfl) ?_
    refine lv_i2l hx hb d_Li_add_25 rfl ?_
    refine lv_topl (fun x_25 ex_25 => ?_)
    refine lv_ladd hx hb d_Li_add_26 ?_
    refine lv_topl (fun x_26 ex_26 => ?_)
    refine va_put (D := (dC, dI)) (ci := 4) (v := .long x_26) (ty := .long) (C := R_Li) (T := F_Li) (N := 3) hx hb hB inC_Li t_Li t_Li_ok n_Li hown hK hP hD hS 0 rfl rfl 2 (by decide) (hB _ kb_111) (fun _ h9 => h9) rfl (by decide +kernel) rfl rfl (Nat.le_of_ble_eq_true rfl) d_Li_add_27 (fun H locs hP hD hS => ?_)
    have hP : va_P (dC, dI) classes [(h0, .inr (4, [.ref a4, .int cn, .long x_26])), (a4, .inl (e4, 10, .inl f_18))] H := hP
    have hD : va_D A [(h0, .inr (4, [.ref a4, .int cn, .long x_26])), (a4, .inl (e4, 10, .inl f_18))] := hD
    refine lv_aload_n hx hb d_Li_add_30 rfl (lv_at hl 0 rfl) ?_
    refine lv_dup hx hb d_Li_add_31 rfl ?_
    refine va_get (D := (dC, dI)) (ci := 4) (v := .int cn) (C := R_Li) (T := F_Li) (N := 3) hx hb hB inC_Li hown hK hP 0 rfl rfl 1 (by decide) (hB _ kb_110) (fun _ h9 => h9) rfl d_Li_add_32 ?_
    refine lv_iconst (v := 1) hx hb d_Li_add_35 (by decide) ?_
    refine lv_iadd hx hb d_Li_add_36 ?_
    refine lv_topi (fun x_36 ex_36 => ?_)
    refine va_put (D := (dC, dI)) (ci := 4) (v := .int x_36) (ty := .int) (C := R_Li) (T := F_Li) (N := 3) hx hb hB inC_Li t_Li t_Li_ok n_Li hown hK hP hD hS 0 rfl rfl 1 (by decide) (hB _ kb_110) (fun _ h9 => h9) rfl (by decide +kernel) rfl rfl (Nat.le_of_ble_eq_true rfl) d_Li_add_37 (fun H locs hP hD hS => ?_)
    have hP : va_P (dC, dI) classes [(h0, .inr (4, [.ref a4, .int x_36, .long x_26])), (a4, .inl (e4, 10, .inl f_18))] H := hP
    have hD : va_D A [(h0, .inr (4, [.ref a4, .int x_36, .long x_26])), (a4, .inl (e4, 10, .inl f_18))] := hD
    refine lv_aload_n hx hb d_Li_add_40 rfl (lv_at hl 0 rfl) ?_
    refine va_get (D := (dC, dI)) (ci := 4) (v := .int x_36) (C := R_Li) (T := F_Li) (N := 3) hx hb hB inC_Li hown hK hP 0 rfl rfl 1 (by decide) (hB _ kb_110) (fun _ h9 => h9) rfl d_Li_add_41 ?_
    have hP9 := hP.sub (ws' := [(h0, .inr (4, [.ref a4, .int x_36, .long x_26])), (a4, .inl (e4, 10, .inl f_18))]) [0, 1] rfl
    have hD9 := hD.sub (ws' := [(h0, .inr (4, [.ref a4, .int x_36, .long x_26])), (a4, .inl (e4, 10, .inl f_18))]) [0, 1] (by decide) rfl
    have hK9 := hK.sub (tys' := [(e4, .int)]) [0] rfl
    exact W.iret (v := x_36) hx hb hr (fun t ht hW => ⟨⟨x_36, (x_36, x_26, f_18), rfl, ⟨fun _ => ⟨ex_36, ex_36, by rw [ex_26, ex_25], ef_18⟩, fun h => absurd h c_6⟩, by rw [ht]; exact hP9, va_K.moved hW.alike hK9, hD9⟩, hS.F ht⟩) hS.2.2 d_Li_add_44
set_option maxHeartbeats 4000000 in
set_option maxRecDepth 100000 in
theorem c_Li_weightOf (l : Launch) (dC : Nat → ClassId) (dI : Nat → Nat → Nat) (h0 : Nat) (a4 : Nat) (e4 : ClassId) (sz : Nat) (cn : Int32) (to : Int64) (f4 : Nat → Int32) (p0 : Int32) : Met l y_Li_weightOf w_Li_weightOf ({ frames := 0, cells := 0, slots := 0, locals := 0 }) (cPre dC dI [.ref h0, .int p0] sz [(e4, .int)] [(h0, .inr (4, [.ref a4, .int cn, .long to])), (a4, .inl (e4, 10, .inl f4))]) (va_Qi (fun (r : Int32) (u : Unit) => r = wof f4 p0) (fun (u : Unit) (t : State) => cB dC dI (va_A [(h0, .inr (4, [.ref a4, .int cn, .long to])), (a4, .inl (e4, 10, .inl f4))] sz) [(e4, .int)] [(h0, .inr (4, [.ref a4, .int cn, .long to])), (a4, .inl (e4, 10, .inl f4))] t) (va_A [(h0, .inr (4, [.ref a4, .int cn, .long to])), (a4, .inl (e4, 10, .inl f4))] sz)) 0 0 (va_A [(h0, .inr (4, [.ref a4, .int cn, .long to])), (a4, .inl (e4, 10, .inl f4))] sz) := by
  refine Met.ofW (cc := b_Li_weightOf) (maxL := 2) (ret := (some .int)) (by decide) rfl ?_
  intro p e s m args below meth c s₁ B hml hv
  obtain ⟨rfl, hsz, hN, hP, hK, hD0⟩ := hv
  have hx := B.exec
  have hb := B.bytes
  have hr := B.returns
  have hts := atoms_spec (ws := w_Li_weightOf) B.pre
  have hB := big_of hts
  have hown : s.vm.findClass R_Li = some m.cls := findClass_of_methodNamed B.named
  have hlocks := B.notSynchronized
  subst hsz
  have hD := hD0.self (sz := s.heap.size)
  generalize hAe : va_A [(h0, .inr (4, [.ref a4, .int cn, .long to])), (a4, .inl (e4, 10, .inl f4))] s.heap.size = A at hD ⊢
  have hA : ∀ q : Nat, s.heap.size ≤ q → A q := fun q h => by rw [← hAe]; exact Or.inr h
  have hS : va_S A s.heap s.heap [] := va_S.rf
  have hP : va_P (dC, dI) classes [(h0, .inr (4, [.ref a4, .int cn, .long to])), (a4, .inl (e4, 10, .inl f4))] s.heap := hP
  have hl := lv_entry ([.ref h0, .int p0]) (n := 2) (Nat.le_of_ble_eq_true rfl)
  rw [lg_entry_eq]
  generalize (lg_sl ([.ref h0, .int p0]) ++ List.replicate (2 - (lg_sl ([.ref h0, .int p0])).length) Slot.unset).toArray = ls at hl ⊢
  have hl : lv_has ls 2 [(0, .ref h0), (1, .int p0)] := hl
  refine lv_iload_n hx hb d_Li_weightOf_0 rfl (lv_at hl 1 rfl) ?_
  refine lv_iconst (v := 1) hx hb d_Li_weightOf_1 (by decide) ?_
  refine lv_icmp_lt (tgt := 22) hx hb d_Li_weightOf_2 (by decide) (fun c_2 => ?_) (fun c_2 => ?_)
  · skip
    refine lv_iconst (v := 0) hx hb d_Li_weightOf_22 (by decide) ?_
    have hP9 := hP.sub (ws' := [(h0, .inr (4, [.ref a4, .int cn, .long to])), (a4, .inl (e4, 10, .inl f4))]) [0, 1] rfl
    have hD9 := hD.sub (ws' := [(h0, .inr (4, [.ref a4, .int cn, .long to])), (a4, .inl (e4, 10, .inl f4))]) [0, 1] (by decide) rfl
    have hK9 := hK.sub (tys' := [(e4, .int)]) [0] rfl
    exact W.iret (v := 0) hx hb hr (fun t ht hW => ⟨⟨0, (), rfl, (if_neg (fun h => absurd h.1 (Int32.not_le.mpr c_2))).symm, by rw [ht]; exact hP9, va_K.moved hW.alike hK9, hD9⟩, hS.F ht⟩) hS.2.2 d_Li_weightOf_23
  · skip
    refine lv_iload_n hx hb d_Li_weightOf_5 rfl (lv_at hl 1 rfl) ?_
    refine lv_bipush (v := 10) hx hb d_Li_weightOf_6 (by decide) ?_
    refine lv_icmp_gt (tgt := 22) hx hb d_Li_weightOf_8 (by decide) (fun c_8 => ?_) (fun c_8 => ?_)
    · skip
      refine lv_iconst (v := 0) hx hb d_Li_weightOf_22 (by decide) ?_
      have hP9 := hP.sub (ws' := [(h0, .inr (4, [.ref a4, .int cn, .long to])), (a4, .inl (e4, 10, .inl f4))]) [0, 1] rfl
      have hD9 := hD.sub (ws' := [(h0, .inr (4, [.ref a4, .int cn, .long to])), (a4, .inl (e4, 10, .inl f4))]) [0, 1] (by decide) rfl
      have hK9 := hK.sub (tys' := [(e4, .int)]) [0] rfl
      exact W.iret (v := 0) hx hb hr (fun t ht hW => ⟨⟨0, (), rfl, (if_neg (fun h => absurd h.2 (Int32.not_le.mpr c_8))).symm, by rw [ht]; exact hP9, va_K.moved hW.alike hK9, hD9⟩, hS.F ht⟩) hS.2.2 d_Li_weightOf_23
    · skip
      refine lv_aload_n hx hb d_Li_weightOf_11 rfl (lv_at hl 0 rfl) ?_
      refine va_get (D := (dC, dI)) (ci := 4) (v := .ref a4) (C := R_Li) (T := F_Li) (N := 3) hx hb hB inC_Li hown hK hP 0 rfl rfl 0 (by decide) (hB _ kb_109) (fun _ h9 => h9) rfl d_Li_weightOf_12 ?_
      refine lv_iload_n hx hb d_Li_weightOf_15 rfl (lv_at hl 1 rfl) ?_
      refine lv_iconst (v := 1) hx hb d_Li_weightOf_16 (by decide) ?_
      refine lv_isub hx hb d_Li_weightOf_17 ?_
      refine lv_topi (fun x_17 ex_17 => ?_)
      have h_18 : vp_in x_17 10 := vinM c_2 c_8 ex_17
      refine va_iald hx hb hK hP 1 0 rfl rfl h_18 d_Li_weightOf_18 ?_
      refine lv_topi (fun x_18 ex_18 => ?_)
      refine lv_goto (tgt := 23) hx hb d_Li_weightOf_19 (by decide) ?_
      have hP9 := hP.sub (ws' := [(h0, .inr (4, [.ref a4, .int cn, .long to])), (a4, .inl (e4, 10, .inl f4))]) [0, 1] rfl
      have hD9 := hD.sub (ws' := [(h0, .inr (4, [.ref a4, .int cn, .long to])), (a4, .inl (e4, 10, .inl f4))]) [0, 1] (by decide) rfl
      have hK9 := hK.sub (tys' := [(e4, .int)]) [0] rfl
      exact W.iret (v := x_18) hx hb hr (fun t ht hW => ⟨⟨x_18, (), rfl, by rw [wof, if_pos ⟨Int32.not_lt.mp c_2, Int32.not_lt.mp c_8⟩, ex_18, ex_17], by rw [ht]; exact hP9, va_K.moved hW.alike hK9, hD9⟩, hS.F ht⟩) hS.2.2 d_Li_weightOf_23
