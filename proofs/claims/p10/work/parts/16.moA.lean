set_option maxHeartbeats 4000000 in
set_option maxRecDepth 100000 in
theorem c_Mo_init (l : Launch) (dC : Nat → ClassId) (dI : Nat → Nat → Nat) (h0 : Nat) (sz : Nat) : Met l y_Mo_init w_Mo_init ({ frames := 1, cells := 5, slots := 1511, locals := 20 }) (cPre dC dI [.ref h0] sz [] [(h0, .inr (6, [.int 0, .int 0, .int 0, .int 0, .int 0, .int 0, .long 0, .long 0, .long 0, .long 0, .long 0, .int 0, .null, .null, .null, .null, .long 0, .int 0, .null]))]) (va_Qv (fun (u : Nat × Nat × Nat × Nat × Nat × ClassId × ClassId × ClassId × ClassId × ClassId) => True) (fun (u : Nat × Nat × Nat × Nat × Nat × ClassId × ClassId × ClassId × ClassId × ClassId) (t : State) => cB dC dI (va_A [(h0, .inr (6, [.int 0, .int 0, .int 0, .int 0, .int 0, .int 0, .long 0, .long 0, .long 0, .long 0, .long 0, .int 0, .null, .null, .null, .null, .long 0, .int 0, .null]))] sz) [(u.2.2.2.2.2.1, .int), (u.2.2.2.2.2.2.1, .int), (u.2.2.2.2.2.2.2.1, .int), (u.2.2.2.2.2.2.2.2.1, .long), (u.2.2.2.2.2.2.2.2.2, .int)] [(h0, .inr (6, [.int 0, .int 0, .int 0, .int 0, .int 0, .int 0, .long 0, .long 0, .long 0, .long 0, .long 0, .int 0, .ref u.1, .ref u.2.1, .ref u.2.2.1, .ref u.2.2.2.1, .long 0, .int 0, .ref u.2.2.2.2.1])), (u.1, .inl (u.2.2.2.2.2.1, 20, .inl (fun _ => 0))), (u.2.1, .inl (u.2.2.2.2.2.2.1, 20, .inl (fun _ => 0))), (u.2.2.1, .inl (u.2.2.2.2.2.2.2.1, 20, .inl (fun _ => 0))), (u.2.2.2.1, .inl (u.2.2.2.2.2.2.2.2.1, 1440, .inr (.inl (fun _ => 0)))), (u.2.2.2.2.1, .inl (u.2.2.2.2.2.2.2.2.2, 11, .inl (fun _ => 0)))] t) (va_A [(h0, .inr (6, [.int 0, .int 0, .int 0, .int 0, .int 0, .int 0, .long 0, .long 0, .long 0, .long 0, .long 0, .int 0, .null, .null, .null, .null, .long 0, .int 0, .null]))] sz)) 5 1511 (va_A [(h0, .inr (6, [.int 0, .int 0, .int 0, .int 0, .int 0, .int 0, .long 0, .long 0, .long 0, .long 0, .long 0, .int 0, .null, .null, .null, .null, .long 0, .int 0, .null]))] sz) := by
  refine Met.ofW (cc := b_Mo_init) (maxL := 1) (ret := none) (by decide) rfl ?_
  intro p e s m args below meth c s₁ B hml hv
  obtain ⟨rfl, hsz, hN, hP, hK, hD0⟩ := hv
  have hx := B.exec
  have hb := B.bytes
  have hr := B.returns
  have hts := atoms_spec (ws := w_Mo_init) B.pre
  have hB := big_of hts
  have hown : s.vm.findClass R_Mo = some m.cls := findClass_of_methodNamed B.named
  have hlocks := B.notSynchronized
  have hin : meth.name = "<init>" := (name_of_methodNamed B.named B.method).1
  subst hsz
  have hD := hD0.self (sz := s.heap.size)
  generalize hAe : va_A [(h0, .inr (6, [.int 0, .int 0, .int 0, .int 0, .int 0, .int 0, .long 0, .long 0, .long 0, .long 0, .long 0, .int 0, .null, .null, .null, .null, .long 0, .int 0, .null]))] s.heap.size = A at hD ⊢
  have hA : ∀ q : Nat, s.heap.size ≤ q → A q := fun q h => by rw [← hAe]; exact Or.inr h
  have hS : va_S A s.heap s.heap [] := va_S.rf
  have hP : va_P (dC, dI) classes [(h0, .inr (6, [.int 0, .int 0, .int 0, .int 0, .int 0, .int 0, .long 0, .long 0, .long 0, .long 0, .long 0, .int 0, .null, .null, .null, .null, .long 0, .int 0, .null]))] s.heap := hP
  have hl := lv_entry ([.ref h0]) (n := 1) (Nat.le_of_ble_eq_true rfl)
  rw [lg_entry_eq]
  generalize (lg_sl ([.ref h0]) ++ List.replicate (1 - (lg_sl ([.ref h0])).length) Slot.unset).toArray = ls at hl ⊢
  have hl : lv_has ls 1 [(0, .ref h0)] := hl
  refine lv_aload_n hx hb d_Mo_init_0 rfl (lv_at hl 0 rfl) ?_
  refine W.objInit hx hb hown (hB _ kb_238) (hB _ kb_1) (hB _ kb_2) rfl (by rw [hml]; exact hl.1) rfl d_Mo_init_1 (Nat.le_of_ble_eq_true rfl) (Nat.le_of_ble_eq_true rfl) ?_
  refine W.eq (g2 := F0 m 4 ls []) rfl ?_
  refine lv_aload_n hx hb d_Mo_init_4 rfl (lv_at hl 0 rfl) ?_
  refine lv_bipush (v := 20) hx hb d_Mo_init_5 (by decide) ?_
  refine va_newa (atype := .int) (ty := .int) (N' := 20) (a0 := (20, .inl (fun _ => 0))) hx hb (hB (.arrayClass .int) kb_106) rfl hK hP hD hS hA (fun _ => rfl) (by decide) (by decide) (by decide) (Nat.le_of_ble_eq_true rfl) (Nat.le_of_ble_eq_true rfl) d_Mo_init_7 (fun q_7 k_7 H hK hP hD hS => ?_)
  have hP : va_P (dC, dI) classes [(h0, .inr (6, [.int 0, .int 0, .int 0, .int 0, .int 0, .int 0, .long 0, .long 0, .long 0, .long 0, .long 0, .int 0, .null, .null, .null, .null, .long 0, .int 0, .null])), (q_7, .inl (k_7, 20, .inl (fun _ => 0)))] H := hP
  have hD : va_D A [(h0, .inr (6, [.int 0, .int 0, .int 0, .int 0, .int 0, .int 0, .long 0, .long 0, .long 0, .long 0, .long 0, .int 0, .null, .null, .null, .null, .long 0, .int 0, .null])), (q_7, .inl (k_7, 20, .inl (fun _ => 0)))] := hD
  have hK : va_K (dC, dI) classes [(k_7, .int)] s := hK
  refine W.widen (k := 1) (n := 20) (Nat.le_of_ble_eq_true rfl) (Nat.le_of_ble_eq_true rfl) ?_
  refine va_putF (D := (dC, dI)) (ci := 6) (v := .ref q_7) (ty := (.array .int)) (C := R_Mo) (T := F_Mo) (N := 19) hx hb hB inC_Mo t_Mo t_Mo_ok n_Mo hown hK hP hD hS 0 rfl rfl 12 (by decide) (hB _ kb_239) (fun _ h9 => h9) rfl hin rfl (by decide +kernel) rfl rfl (Nat.le_of_ble_eq_true rfl) d_Mo_init_9 (fun H locs hP hD hS => ?_)
  have hP : va_P (dC, dI) classes [(h0, .inr (6, [.int 0, .int 0, .int 0, .int 0, .int 0, .int 0, .long 0, .long 0, .long 0, .long 0, .long 0, .int 0, .ref q_7, .null, .null, .null, .long 0, .int 0, .null])), (q_7, .inl (k_7, 20, .inl (fun _ => 0)))] H := hP
  have hD : va_D A [(h0, .inr (6, [.int 0, .int 0, .int 0, .int 0, .int 0, .int 0, .long 0, .long 0, .long 0, .long 0, .long 0, .int 0, .ref q_7, .null, .null, .null, .long 0, .int 0, .null])), (q_7, .inl (k_7, 20, .inl (fun _ => 0)))] := hD
  refine lv_aload_n hx hb d_Mo_init_12 rfl (lv_at hl 0 rfl) ?_
  refine lv_bipush (v := 20) hx hb d_Mo_init_13 (by decide) ?_
  refine va_newa (atype := .int) (ty := .int) (N' := 20) (a0 := (20, .inl (fun _ => 0))) hx hb (hB (.arrayClass .int) kb_106) rfl hK hP hD hS hA (fun _ => rfl) (by decide) (by decide) (by decide) (Nat.le_of_ble_eq_true rfl) (Nat.le_of_ble_eq_true rfl) d_Mo_init_15 (fun q_15 k_15 H hK hP hD hS => ?_)
  have hP : va_P (dC, dI) classes [(h0, .inr (6, [.int 0, .int 0, .int 0, .int 0, .int 0, .int 0, .long 0, .long 0, .long 0, .long 0, .long 0, .int 0, .ref q_7, .null, .null, .null, .long 0, .int 0, .null])), (q_7, .inl (k_7, 20, .inl (fun _ => 0))), (q_15, .inl (k_15, 20, .inl (fun _ => 0)))] H := hP
  have hD : va_D A [(h0, .inr (6, [.int 0, .int 0, .int 0, .int 0, .int 0, .int 0, .long 0, .long 0, .long 0, .long 0, .long 0, .int 0, .ref q_7, .null, .null, .null, .long 0, .int 0, .null])), (q_7, .inl (k_7, 20, .inl (fun _ => 0))), (q_15, .inl (k_15, 20, .inl (fun _ => 0)))] := hD
  have hK : va_K (dC, dI) classes [(k_7, .int), (k_15, .int)] s := hK
  refine W.widen (k := 2) (n := 40) (Nat.le_of_ble_eq_true rfl) (Nat.le_of_ble_eq_true rfl) ?_
  refine va_putF (D := (dC, dI)) (ci := 6) (v := .ref q_15) (ty := (.array .int)) (C := R_Mo) (T := F_Mo) (N := 19) hx hb hB inC_Mo t_Mo t_Mo_ok n_Mo hown hK hP hD hS 0 rfl rfl 13 (by decide) (hB _ kb_240) (fun _ h9 => h9) rfl hin rfl (by decide +kernel) rfl rfl (Nat.le_of_ble_eq_true rfl) d_Mo_init_17 (fun H locs hP hD hS => ?_)
  have hP : va_P (dC, dI) classes [(h0, .inr (6, [.int 0, .int 0, .int 0, .int 0, .int 0, .int 0, .long 0, .long 0, .long 0, .long 0, .long 0, .int 0, .ref q_7, .ref q_15, .null, .null, .long 0, .int 0, .null])), (q_7, .inl (k_7, 20, .inl (fun _ => 0))), (q_15, .inl (k_15, 20, .inl (fun _ => 0)))] H := hP
  have hD : va_D A [(h0, .inr (6, [.int 0, .int 0, .int 0, .int 0, .int 0, .int 0, .long 0, .long 0, .long 0, .long 0, .long 0, .int 0, .ref q_7, .ref q_15, .null, .null, .long 0, .int 0, .null])), (q_7, .inl (k_7, 20, .inl (fun _ => 0))), (q_15, .inl (k_15, 20, .inl (fun _ => 0)))] := hD
  refine lv_aload_n hx hb d_Mo_init_20 rfl (lv_at hl 0 rfl) ?_
  refine lv_bipush (v := 20) hx hb d_Mo_init_21 (by decide) ?_
  refine va_newa (atype := .int) (ty := .int) (N' := 20) (a0 := (20, .inl (fun _ => 0))) hx hb (hB (.arrayClass .int) kb_106) rfl hK hP hD hS hA (fun _ => rfl) (by decide) (by decide) (by decide) (Nat.le_of_ble_eq_true rfl) (Nat.le_of_ble_eq_true rfl) d_Mo_init_23 (fun q_23 k_23 H hK hP hD hS => ?_)
  have hP : va_P (dC, dI) classes [(h0, .inr (6, [.int 0, .int 0, .int 0, .int 0, .int 0, .int 0, .long 0, .long 0, .long 0, .long 0, .long 0, .int 0, .ref q_7, .ref q_15, .null, .null, .long 0, .int 0, .null])), (q_7, .inl (k_7, 20, .inl (fun _ => 0))), (q_15, .inl (k_15, 20, .inl (fun _ => 0))), (q_23, .inl (k_23, 20, .inl (fun _ => 0)))] H := hP
  have hD : va_D A [(h0, .inr (6, [.int 0, .int 0, .int 0, .int 0, .int 0, .int 0, .long 0, .long 0, .long 0, .long 0, .long 0, .int 0, .ref q_7, .ref q_15, .null, .null, .long 0, .int 0, .null])), (q_7, .inl (k_7, 20, .inl (fun _ => 0))), (q_15, .inl (k_15, 20, .inl (fun _ => 0))), (q_23, .inl (k_23, 20, .inl (fun _ => 0)))] := hD
  have hK : va_K (dC, dI) classes [(k_7, .int), (k_15, .int), (k_23, .int)] s := hK
  refine W.widen (k := 3) (n := 60) (Nat.le_of_ble_eq_true rfl) (Nat.le_of_ble_eq_true rfl) ?_
  refine va_putF (D := (dC, dI)) (ci := 6) (v := .ref q_23) (ty := (.array .int)) (C := R_Mo) (T := F_Mo) (N := 19) hx hb hB inC_Mo t_Mo t_Mo_ok n_Mo hown hK hP hD hS 0 rfl rfl 14 (by decide) (hB _ kb_241) (fun _ h9 => h9) rfl hin rfl (by decide +kernel) rfl rfl (Nat.le_of_ble_eq_true rfl) d_Mo_init_25 (fun H locs hP hD hS => ?_)
  have hP : va_P (dC, dI) classes [(h0, .inr (6, [.int 0, .int 0, .int 0, .int 0, .int 0, .int 0, .long 0, .long 0, .long 0, .long 0, .long 0, .int 0, .ref q_7, .ref q_15, .ref q_23, .null, .long 0, .int 0, .null])), (q_7, .inl (k_7, 20, .inl (fun _ => 0))), (q_15, .inl (k_15, 20, .inl (fun _ => 0))), (q_23, .inl (k_23, 20, .inl (fun _ => 0)))] H := hP
  have hD : va_D A [(h0, .inr (6, [.int 0, .int 0, .int 0, .int 0, .int 0, .int 0, .long 0, .long 0, .long 0, .long 0, .long 0, .int 0, .ref q_7, .ref q_15, .ref q_23, .null, .long 0, .int 0, .null])), (q_7, .inl (k_7, 20, .inl (fun _ => 0))), (q_15, .inl (k_15, 20, .inl (fun _ => 0))), (q_23, .inl (k_23, 20, .inl (fun _ => 0)))] := hD
  refine lv_aload_n hx hb d_Mo_init_28 rfl (lv_at hl 0 rfl) ?_
  refine lv_sipush (v := 1440) hx hb d_Mo_init_29 (by decide) ?_
  refine va_newa (atype := .long) (ty := .long) (N' := 1440) (a0 := (1440, .inr (.inl (fun _ => 0)))) hx hb (hB (.arrayClass .long) kb_107) rfl hK hP hD hS hA (fun _ => rfl) (by decide) (by decide) (by decide) (Nat.le_of_ble_eq_true rfl) (Nat.le_of_ble_eq_true rfl) d_Mo_init_32 (fun q_32 k_32 H hK hP hD hS => ?_)
  have hP : va_P (dC, dI) classes [(h0, .inr (6, [.int 0, .int 0, .int 0, .int 0, .int 0, .int 0, .long 0, .long 0, .long 0, .long 0, .long 0, .int 0, .ref q_7, .ref q_15, .ref q_23, .null, .long 0, .int 0, .null])), (q_7, .inl (k_7, 20, .inl (fun _ => 0))), (q_15, .inl (k_15, 20, .inl (fun _ => 0))), (q_23, .inl (k_23, 20, .inl (fun _ => 0))), (q_32, .inl (k_32, 1440, .inr (.inl (fun _ => 0))))] H := hP
  have hD : va_D A [(h0, .inr (6, [.int 0, .int 0, .int 0, .int 0, .int 0, .int 0, .long 0, .long 0, .long 0, .long 0, .long 0, .int 0, .ref q_7, .ref q_15, .ref q_23, .null, .long 0, .int 0, .null])), (q_7, .inl (k_7, 20, .inl (fun _ => 0))), (q_15, .inl (k_15, 20, .inl (fun _ => 0))), (q_23, .inl (k_23, 20, .inl (fun _ => 0))), (q_32, .inl (k_32, 1440, .inr (.inl (fun _ => 0))))] := hD
  have hK : va_K (dC, dI) classes [(k_7, .int), (k_15, .int), (k_23, .int), (k_32, .long)] s := hK
  refine W.widen (k := 4) (n := 1500) (Nat.le_of_ble_eq_true rfl) (Nat.le_of_ble_eq_true rfl) ?_
  refine va_putF (D := (dC, dI)) (ci := 6) (v := .ref q_32) (ty := (.array .long)) (C := R_Mo) (T := F_Mo) (N := 19) hx hb hB inC_Mo t_Mo t_Mo_ok n_Mo hown hK hP hD hS 0 rfl rfl 15 (by decide) (hB _ kb_242) (fun _ h9 => h9) rfl hin rfl (by decide +kernel) rfl rfl (Nat.le_of_ble_eq_true rfl) d_Mo_init_34 (fun H locs hP hD hS => ?_)
  have hP : va_P (dC, dI) classes [(h0, .inr (6, [.int 0, .int 0, .int 0, .int 0, .int 0, .int 0, .long 0, .long 0, .long 0, .long 0, .long 0, .int 0, .ref q_7, .ref q_15, .ref q_23, .ref q_32, .long 0, .int 0, .null])), (q_7, .inl (k_7, 20, .inl (fun _ => 0))), (q_15, .inl (k_15, 20, .inl (fun _ => 0))), (q_23, .inl (k_23, 20, .inl (fun _ => 0))), (q_32, .inl (k_32, 1440, .inr (.inl (fun _ => 0))))] H := hP
  have hD : va_D A [(h0, .inr (6, [.int 0, .int 0, .int 0, .int 0, .int 0, .int 0, .long 0, .long 0, .long 0, .long 0, .long 0, .int 0, .ref q_7, .ref q_15, .ref q_23, .ref q_32, .long 0, .int 0, .null])), (q_7, .inl (k_7, 20, .inl (fun _ => 0))), (q_15, .inl (k_15, 20, .inl (fun _ => 0))), (q_23, .inl (k_23, 20, .inl (fun _ => 0))), (q_32, .inl (k_32, 1440, .inr (.inl (fun _ => 0))))] := hD
  refine lv_aload_n hx hb d_Mo_init_37 rfl (lv_at hl 0 rfl) ?_
  refine lv_bipush (v := 11) hx hb d_Mo_init_38 (by decide) ?_
  refine va_newa (atype := .int) (ty := .int) (N' := 11) (a0 := (11, .inl (fun _ => 0))) hx hb (hB (.arrayClass .int) kb_106) rfl hK hP hD hS hA (fun _ => rfl) (by decide) (by decide) (by decide) (Nat.le_of_ble_eq_true rfl) (Nat.le_of_ble_eq_true rfl) d_Mo_init_40 (fun q_40 k_40 H hK hP hD hS => ?_)
  have hP : va_P (dC, dI) classes [(h0, .inr (6, [.int 0, .int 0, .int 0, .int 0, .int 0, .int 0, .long 0, .long 0, .long 0, .long 0, .long 0, .int 0, .ref q_7, .ref q_15, .ref q_23, .ref q_32, .long 0, .int 0, .null])), (q_7, .inl (k_7, 20, .inl (fun _ => 0))), (q_15, .inl (k_15, 20, .inl (fun _ => 0))), (q_23, .inl (k_23, 20, .inl (fun _ => 0))), (q_32, .inl (k_32, 1440, .inr (.inl (fun _ => 0)))), (q_40, .inl (k_40, 11, .inl (fun _ => 0)))] H := hP
  have hD : va_D A [(h0, .inr (6, [.int 0, .int 0, .int 0, .int 0, .int 0, .int 0, .long 0, .long 0, .long 0, .long 0, .long 0, .int 0, .ref q_7, .ref q_15, .ref q_23, .ref q_32, .long 0, .int 0, .null])), (q_7, .inl (k_7, 20, .inl (fun _ => 0))), (q_15, .inl (k_15, 20, .inl (fun _ => 0))), (q_23, .inl (k_23, 20, .inl (fun _ => 0))), (q_32, .inl (k_32, 1440, .inr (.inl (fun _ => 0)))), (q_40, .inl (k_40, 11, .inl (fun _ => 0)))] := hD
  have hK : va_K (dC, dI) classes [(k_7, .int), (k_15, .int), (k_23, .int), (k_32, .long), (k_40, .int)] s := hK
  refine W.widen (k := 5) (n := 1511) (Nat.le_of_ble_eq_true rfl) (Nat.le_of_ble_eq_true rfl) ?_
  refine va_putF (D := (dC, dI)) (ci := 6) (v := .ref q_40) (ty := (.array .int)) (C := R_Mo) (T := F_Mo) (N := 19) hx hb hB inC_Mo t_Mo t_Mo_ok n_Mo hown hK hP hD hS 0 rfl rfl 18 (by decide) (hB _ kb_243) (fun _ h9 => h9) rfl hin rfl (by decide +kernel) rfl rfl (Nat.le_of_ble_eq_true rfl) d_Mo_init_42 (fun H locs hP hD hS => ?_)
  have hP : va_P (dC, dI) classes [(h0, .inr (6, [.int 0, .int 0, .int 0, .int 0, .int 0, .int 0, .long 0, .long 0, .long 0, .long 0, .long 0, .int 0, .ref q_7, .ref q_15, .ref q_23, .ref q_32, .long 0, .int 0, .ref q_40])), (q_7, .inl (k_7, 20, .inl (fun _ => 0))), (q_15, .inl (k_15, 20, .inl (fun _ => 0))), (q_23, .inl (k_23, 20, .inl (fun _ => 0))), (q_32, .inl (k_32, 1440, .inr (.inl (fun _ => 0)))), (q_40, .inl (k_40, 11, .inl (fun _ => 0)))] H := hP
  have hD : va_D A [(h0, .inr (6, [.int 0, .int 0, .int 0, .int 0, .int 0, .int 0, .long 0, .long 0, .long 0, .long 0, .long 0, .int 0, .ref q_7, .ref q_15, .ref q_23, .ref q_32, .long 0, .int 0, .ref q_40])), (q_7, .inl (k_7, 20, .inl (fun _ => 0))), (q_15, .inl (k_15, 20, .inl (fun _ => 0))), (q_23, .inl (k_23, 20, .inl (fun _ => 0))), (q_32, .inl (k_32, 1440, .inr (.inl (fun _ => 0)))), (q_40, .inl (k_40, 11, .inl (fun _ => 0)))] := hD
  have hP9 := hP.sub (ws' := [(h0, .inr (6, [.int 0, .int 0, .int 0, .int 0, .int 0, .int 0, .long 0, .long 0, .long 0, .long 0, .long 0, .int 0, .ref q_7, .ref q_15, .ref q_23, .ref q_32, .long 0, .int 0, .ref q_40])), (q_7, .inl (k_7, 20, .inl (fun _ => 0))), (q_15, .inl (k_15, 20, .inl (fun _ => 0))), (q_23, .inl (k_23, 20, .inl (fun _ => 0))), (q_32, .inl (k_32, 1440, .inr (.inl (fun _ => 0)))), (q_40, .inl (k_40, 11, .inl (fun _ => 0)))]) [0, 1, 2, 3, 4, 5] rfl
  have hD9 := hD.sub (ws' := [(h0, .inr (6, [.int 0, .int 0, .int 0, .int 0, .int 0, .int 0, .long 0, .long 0, .long 0, .long 0, .long 0, .int 0, .ref q_7, .ref q_15, .ref q_23, .ref q_32, .long 0, .int 0, .ref q_40])), (q_7, .inl (k_7, 20, .inl (fun _ => 0))), (q_15, .inl (k_15, 20, .inl (fun _ => 0))), (q_23, .inl (k_23, 20, .inl (fun _ => 0))), (q_32, .inl (k_32, 1440, .inr (.inl (fun _ => 0)))), (q_40, .inl (k_40, 11, .inl (fun _ => 0)))]) [0, 1, 2, 3, 4, 5] (by decide) rfl
  have hK9 := hK.sub (tys' := [(k_7, .int), (k_15, .int), (k_23, .int), (k_32, .long), (k_40, .int)]) [0, 1, 2, 3, 4] rfl
  exact W.vret hx hb hr (fun t ht hW => ⟨⟨(q_7, q_15, q_23, q_32, q_40, k_7, k_15, k_23, k_32, k_40), rfl, trivial, by rw [ht]; exact hP9, va_K.moved hW.alike hK9, hD9⟩, hS.F ht⟩) hS.2.2 d_Mo_init_45
set_option maxHeartbeats 4000000 in
set_option maxRecDepth 100000 in
theorem c_Mo_isOn (l : Launch) (dC : Nat → ClassId) (dI : Nat → Nat → Nat) (h0 : Nat) (b1 : Nat) (b2 : Nat) (b3 : Nat) (b4 : Nat) (b5 : Nat) (sz : Nat) (co : Int32) (pi : Int32) (sh : Int32) (lo : Int32) (ph : Int32) (di : Int32) (lm : Int64) (en : Int64) (la : Int64) (cu : Int64) (nw : Int64) (sp : Int32) (lk : Int64) (cs : Int32) : Met l y_Mo_isOn w_Mo_isOn ({ frames := 0, cells := 0, slots := 0, locals := 0 }) (cPre dC dI [.ref h0] sz [] [(h0, .inr (6, [.int co, .int pi, .int sh, .int lo, .int ph, .int di, .long lm, .long en, .long la, .long cu, .long nw, .int sp, .ref b1, .ref b2, .ref b3, .ref b4, .long lk, .int cs, .ref b5]))]) (va_Qi (fun (r : Int32) (u : Unit) => r = bi (0 < pi ∧ pi < 4)) (fun (u : Unit) (t : State) => cB dC dI (va_A [(h0, .inr (6, [.int co, .int pi, .int sh, .int lo, .int ph, .int di, .long lm, .long en, .long la, .long cu, .long nw, .int sp, .ref b1, .ref b2, .ref b3, .ref b4, .long lk, .int cs, .ref b5]))] sz) [] [(h0, .inr (6, [.int co, .int pi, .int sh, .int lo, .int ph, .int di, .long lm, .long en, .long la, .long cu, .long nw, .int sp, .ref b1, .ref b2, .ref b3, .ref b4, .long lk, .int cs, .ref b5]))] t) (va_A [(h0, .inr (6, [.int co, .int pi, .int sh, .int lo, .int ph, .int di, .long lm, .long en, .long la, .long cu, .long nw, .int sp, .ref b1, .ref b2, .ref b3, .ref b4, .long lk, .int cs, .ref b5]))] sz)) 0 0 (va_A [(h0, .inr (6, [.int co, .int pi, .int sh, .int lo, .int ph, .int di, .long lm, .long en, .long la, .long cu, .long nw, .int sp, .ref b1, .ref b2, .ref b3, .ref b4, .long lk, .int cs, .ref b5]))] sz) := by
  refine Met.ofW (cc := b_Mo_isOn) (maxL := 1) (ret := (some .boolean)) (by decide) rfl ?_
  intro p e s m args below meth c s₁ B hml hv
  obtain ⟨rfl, hsz, hN, hP, hK, hD0⟩ := hv
  have hx := B.exec
  have hb := B.bytes
  have hr := B.returns
  have hts := atoms_spec (ws := w_Mo_isOn) B.pre
  have hB := big_of hts
  have hown : s.vm.findClass R_Mo = some m.cls := findClass_of_methodNamed B.named
  have hlocks := B.notSynchronized
  subst hsz
  have hD := hD0.self (sz := s.heap.size)
  generalize hAe : va_A [(h0, .inr (6, [.int co, .int pi, .int sh, .int lo, .int ph, .int di, .long lm, .long en, .long la, .long cu, .long nw, .int sp, .ref b1, .ref b2, .ref b3, .ref b4, .long lk, .int cs, .ref b5]))] s.heap.size = A at hD ⊢
  have hA : ∀ q : Nat, s.heap.size ≤ q → A q := fun q h => by rw [← hAe]; exact Or.inr h
  have hS : va_S A s.heap s.heap [] := va_S.rf
  have hP : va_P (dC, dI) classes [(h0, .inr (6, [.int co, .int pi, .int sh, .int lo, .int ph, .int di, .long lm, .long en, .long la, .long cu, .long nw, .int sp, .ref b1, .ref b2, .ref b3, .ref b4, .long lk, .int cs, .ref b5]))] s.heap := hP
  have hl := lv_entry ([.ref h0]) (n := 1) (Nat.le_of_ble_eq_true rfl)
  rw [lg_entry_eq]
  generalize (lg_sl ([.ref h0]) ++ List.replicate (1 - (lg_sl ([.ref h0])).length) Slot.unset).toArray = ls at hl ⊢
  have hl : lv_has ls 1 [(0, .ref h0)] := hl
  refine lv_aload_n hx hb d_Mo_isOn_0 rfl (lv_at hl 0 rfl) ?_
  refine va_get (D := (dC, dI)) (ci := 6) (v := .int pi) (C := R_Mo) (T := F_Mo) (N := 19) hx hb hB inC_Mo hown hK hP 0 rfl rfl 1 (by decide) (hB _ kb_244) (fun _ h9 => h9) rfl d_Mo_isOn_1 ?_
  refine lv_if_le (tgt := 19) hx hb d_Mo_isOn_4 (by decide) (fun c_4 => ?_) (fun c_4 => ?_)
  · skip
    refine lv_iconst (v := 0) hx hb d_Mo_isOn_19 (by decide) ?_
    have hP9 := hP.sub (ws' := [(h0, .inr (6, [.int co, .int pi, .int sh, .int lo, .int ph, .int di, .long lm, .long en, .long la, .long cu, .long nw, .int sp, .ref b1, .ref b2, .ref b3, .ref b4, .long lk, .int cs, .ref b5]))]) [0] rfl
    have hD9 := hD.sub (ws' := [(h0, .inr (6, [.int co, .int pi, .int sh, .int lo, .int ph, .int di, .long lm, .long en, .long la, .long cu, .long nw, .int sp, .ref b1, .ref b2, .ref b3, .ref b4, .long lk, .int cs, .ref b5]))]) [0] (by decide) rfl
    have hK9 := hK.sub (tys' := []) [] rfl
    exact W.zret (v := 0) (ty := .boolean) hx hb hr (rfl) (fun t ht hW => ⟨⟨0, (), rfl, (bi_f (fun h => absurd h.1 (Int32.not_lt.mpr c_4))).symm, by rw [ht]; exact hP9, va_K.moved hW.alike hK9, hD9⟩, hS.F ht⟩) hS.2.2 d_Mo_isOn_20
  · skip
    refine lv_aload_n hx hb d_Mo_isOn_7 rfl (lv_at hl 0 rfl) ?_
    refine va_get (D := (dC, dI)) (ci := 6) (v := .int pi) (C := R_Mo) (T := F_Mo) (N := 19) hx hb hB inC_Mo hown hK hP 0 rfl rfl 1 (by decide) (hB _ kb_244) (fun _ h9 => h9) rfl d_Mo_isOn_8 ?_
    refine lv_iconst (v := 4) hx hb d_Mo_isOn_11 (by decide) ?_
    refine lv_icmp_ge (tgt := 19) hx hb d_Mo_isOn_12 (by decide) (fun c_12 => ?_) (fun c_12 => ?_)
    · skip
      refine lv_iconst (v := 0) hx hb d_Mo_isOn_19 (by decide) ?_
      have hP9 := hP.sub (ws' := [(h0, .inr (6, [.int co, .int pi, .int sh, .int lo, .int ph, .int di, .long lm, .long en, .long la, .long cu, .long nw, .int sp, .ref b1, .ref b2, .ref b3, .ref b4, .long lk, .int cs, .ref b5]))]) [0] rfl
      have hD9 := hD.sub (ws' := [(h0, .inr (6, [.int co, .int pi, .int sh, .int lo, .int ph, .int di, .long lm, .long en, .long la, .long cu, .long nw, .int sp, .ref b1, .ref b2, .ref b3, .ref b4, .long lk, .int cs, .ref b5]))]) [0] (by decide) rfl
      have hK9 := hK.sub (tys' := []) [] rfl
      exact W.zret (v := 0) (ty := .boolean) hx hb hr (rfl) (fun t ht hW => ⟨⟨0, (), rfl, (bi_f (fun h => absurd h.2 (Int32.not_lt.mpr c_12))).symm, by rw [ht]; exact hP9, va_K.moved hW.alike hK9, hD9⟩, hS.F ht⟩) hS.2.2 d_Mo_isOn_20
    · skip
      refine lv_iconst (v := 1) hx hb d_Mo_isOn_15 (by decide) ?_
      refine lv_goto (tgt := 20) hx hb d_Mo_isOn_16 (by decide) ?_
      have hP9 := hP.sub (ws' := [(h0, .inr (6, [.int co, .int pi, .int sh, .int lo, .int ph, .int di, .long lm, .long en, .long la, .long cu, .long nw, .int sp, .ref b1, .ref b2, .ref b3, .ref b4, .long lk, .int cs, .ref b5]))]) [0] rfl
      have hD9 := hD.sub (ws' := [(h0, .inr (6, [.int co, .int pi, .int sh, .int lo, .int ph, .int di, .long lm, .long en, .long la, .long cu, .long nw, .int sp, .ref b1, .ref b2, .ref b3, .ref b4, .long lk, .int cs, .ref b5]))]) [0] (by decide) rfl
      have hK9 := hK.sub (tys' := []) [] rfl
      exact W.zret (v := 1) (ty := .boolean) hx hb hr (rfl) (fun t ht hW => ⟨⟨1, (), rfl, (bi_t ⟨Int32.not_le.mp c_4, Int32.not_le.mp c_12⟩).symm, by rw [ht]; exact hP9, va_K.moved hW.alike hK9, hD9⟩, hS.F ht⟩) hS.2.2 d_Mo_isOn_20
set_option maxHeartbeats 4000000 in
set_option maxRecDepth 100000 in
theorem c_Mo_allows (l : Launch) (dC : Nat → ClassId) (dI : Nat → Nat → Nat) (h0 : Nat) (b1 : Nat) (b2 : Nat) (b3 : Nat) (b4 : Nat) (b5 : Nat) (sz : Nat) (co : Int32) (pi : Int32) (sh : Int32) (lo : Int32) (ph : Int32) (di : Int32) (lm : Int64) (en : Int64) (la : Int64) (cu : Int64) (nw : Int64) (sp : Int32) (lk : Int64) (cs : Int32) : Met l y_Mo_allows w_Mo_allows ({ frames := 1, cells := 0, slots := 0, locals := 20 }) (cPre dC dI [.ref h0] sz [] [(h0, .inr (6, [.int co, .int pi, .int sh, .int lo, .int ph, .int di, .long lm, .long en, .long la, .long cu, .long nw, .int sp, .ref b1, .ref b2, .ref b3, .ref b4, .long lk, .int cs, .ref b5]))]) (va_Qi (fun (r : Int32) (u : Unit) => r = tem pi sh) (fun (u : Unit) (t : State) => cB dC dI (va_A [(h0, .inr (6, [.int co, .int pi, .int sh, .int lo, .int ph, .int di, .long lm, .long en, .long la, .long cu, .long nw, .int sp, .ref b1, .ref b2, .ref b3, .ref b4, .long lk, .int cs, .ref b5]))] sz) [] [(h0, .inr (6, [.int co, .int pi, .int sh, .int lo, .int ph, .int di, .long lm, .long en, .long la, .long cu, .long nw, .int sp, .ref b1, .ref b2, .ref b3, .ref b4, .long lk, .int cs, .ref b5]))] t) (va_A [(h0, .inr (6, [.int co, .int pi, .int sh, .int lo, .int ph, .int di, .long lm, .long en, .long la, .long cu, .long nw, .int sp, .ref b1, .ref b2, .ref b3, .ref b4, .long lk, .int cs, .ref b5]))] sz)) 0 0 (va_A [(h0, .inr (6, [.int co, .int pi, .int sh, .int lo, .int ph, .int di, .long lm, .long en, .long la, .long cu, .long nw, .int sp, .ref b1, .ref b2, .ref b3, .ref b4, .long lk, .int cs, .ref b5]))] sz) := by
  refine Met.ofW (cc := b_Mo_allows) (maxL := 1) (ret := (some .int)) (by decide) rfl ?_
  intro p e s m args below meth c s₁ B hml hv
  obtain ⟨rfl, hsz, hN, hP, hK, hD0⟩ := hv
  have hx := B.exec
  have hb := B.bytes
  have hr := B.returns
  have hts := atoms_spec (ws := w_Mo_allows) B.pre
  have hB := big_of hts
  have hown : s.vm.findClass R_Mo = some m.cls := findClass_of_methodNamed B.named
  have hlocks := B.notSynchronized
  subst hsz
  have hD := hD0.self (sz := s.heap.size)
  generalize hAe : va_A [(h0, .inr (6, [.int co, .int pi, .int sh, .int lo, .int ph, .int di, .long lm, .long en, .long la, .long cu, .long nw, .int sp, .ref b1, .ref b2, .ref b3, .ref b4, .long lk, .int cs, .ref b5]))] s.heap.size = A at hD ⊢
  have hA : ∀ q : Nat, s.heap.size ≤ q → A q := fun q h => by rw [← hAe]; exact Or.inr h
  have hS : va_S A s.heap s.heap [] := va_S.rf
  have hP : va_P (dC, dI) classes [(h0, .inr (6, [.int co, .int pi, .int sh, .int lo, .int ph, .int di, .long lm, .long en, .long la, .long cu, .long nw, .int sp, .ref b1, .ref b2, .ref b3, .ref b4, .long lk, .int cs, .ref b5]))] s.heap := hP
  have hl := lv_entry ([.ref h0]) (n := 1) (Nat.le_of_ble_eq_true rfl)
  rw [lg_entry_eq]
  generalize (lg_sl ([.ref h0]) ++ List.replicate (1 - (lg_sl ([.ref h0])).length) Slot.unset).toArray = ls at hl ⊢
  have hl : lv_has ls 1 [(0, .ref h0)] := hl
  have cut : ∀ n : Nat, (∀ (H : Heap) (locs : List Loc) (ls : Array Slot), (0 < pi ∧ pi < 4) → (¬ (80 ≤ sh ∧ sh < 100)) → 3 < n → va_P (dC, dI) classes [(h0, .inr (6, [.int co, .int pi, .int sh, .int lo, .int ph, .int di, .long lm, .long en, .long la, .long cu, .long nw, .int sp, .ref b1, .ref b2, .ref b3, .ref b4, .long lk, .int cs, .ref b5]))] H → va_D A [(h0, .inr (6, [.int co, .int pi, .int sh, .int lo, .int ph, .int di, .long lm, .long en, .long la, .long cu, .long nw, .int sp, .ref b1, .ref b2, .ref b3, .ref b4, .long lk, .int cs, .ref b5]))] → va_S A s.heap H locs → lv_has ls 1 [(0, .ref h0)] → W p l e (headSpec w_Mo_allows ({ frames := 1, cells := 0, slots := 0, locals := 20 })).room s m (List.toArray [.ref h0]) below meth c H locs 0 0 (MQ below (va_Qi (fun (r : Int32) (u : Unit) => r = tem pi sh) (fun (u : Unit) (t : State) => cB dC dI A [] [(h0, .inr (6, [.int co, .int pi, .int sh, .int lo, .int ph, .int di, .long lm, .long en, .long la, .long cu, .long nw, .int sp, .ref b1, .ref b2, .ref b3, .ref b4, .long lk, .int cs, .ref b5]))] t) A) (List.toArray [.ref h0]) s 0 0 A) (F0 m 30 ls [])) ∧ (∀ (H : Heap) (locs : List Loc) (ls : Array Slot), (0 < pi ∧ pi < 4) → (¬ (80 ≤ sh ∧ sh < 100)) → (¬ (100 ≤ sh ∧ sh ≤ 850)) → 2 < n → va_P (dC, dI) classes [(h0, .inr (6, [.int co, .int pi, .int sh, .int lo, .int ph, .int di, .long lm, .long en, .long la, .long cu, .long nw, .int sp, .ref b1, .ref b2, .ref b3, .ref b4, .long lk, .int cs, .ref b5]))] H → va_D A [(h0, .inr (6, [.int co, .int pi, .int sh, .int lo, .int ph, .int di, .long lm, .long en, .long la, .long cu, .long nw, .int sp, .ref b1, .ref b2, .ref b3, .ref b4, .long lk, .int cs, .ref b5]))] → va_S A s.heap H locs → lv_has ls 1 [(0, .ref h0)] → W p l e (headSpec w_Mo_allows ({ frames := 1, cells := 0, slots := 0, locals := 20 })).room s m (List.toArray [.ref h0]) below meth c H locs 0 0 (MQ below (va_Qi (fun (r : Int32) (u : Unit) => r = tem pi sh) (fun (u : Unit) (t : State) => cB dC dI A [] [(h0, .inr (6, [.int co, .int pi, .int sh, .int lo, .int ph, .int di, .long lm, .long en, .long la, .long cu, .long nw, .int sp, .ref b1, .ref b2, .ref b3, .ref b4, .long lk, .int cs, .ref b5]))] t) A) (List.toArray [.ref h0]) s 0 0 A) (F0 m 60 ls [])) ∧ (∀ (H : Heap) (locs : List Loc) (ls : Array Slot), (0 < pi ∧ pi < 4) → (¬ (80 ≤ sh ∧ sh < 100)) → (¬ (100 ≤ sh ∧ sh ≤ 850)) → (¬ (850 < sh ∧ sh ≤ 960)) → 1 < n → va_P (dC, dI) classes [(h0, .inr (6, [.int co, .int pi, .int sh, .int lo, .int ph, .int di, .long lm, .long en, .long la, .long cu, .long nw, .int sp, .ref b1, .ref b2, .ref b3, .ref b4, .long lk, .int cs, .ref b5]))] H → va_D A [(h0, .inr (6, [.int co, .int pi, .int sh, .int lo, .int ph, .int di, .long lm, .long en, .long la, .long cu, .long nw, .int sp, .ref b1, .ref b2, .ref b3, .ref b4, .long lk, .int cs, .ref b5]))] → va_S A s.heap H locs → lv_has ls 1 [(0, .ref h0)] → W p l e (headSpec w_Mo_allows ({ frames := 1, cells := 0, slots := 0, locals := 20 })).room s m (List.toArray [.ref h0]) below meth c H locs 0 0 (MQ below (va_Qi (fun (r : Int32) (u : Unit) => r = tem pi sh) (fun (u : Unit) (t : State) => cB dC dI A [] [(h0, .inr (6, [.int co, .int pi, .int sh, .int lo, .int ph, .int di, .long lm, .long en, .long la, .long cu, .long nw, .int sp, .ref b1, .ref b2, .ref b3, .ref b4, .long lk, .int cs, .ref b5]))] t) A) (List.toArray [.ref h0]) s 0 0 A) (F0 m 95 ls [])) := by
    intro n
    induction n with
    | zero => exact ⟨by intros; first | exact (Nat.not_lt_zero _ (by assumption)).elim | omega, by intros; first | exact (Nat.not_lt_zero _ (by assumption)).elim | omega, by intros; first | exact (Nat.not_lt_zero _ (by assumption)).elim | omega⟩
    | succ n ih =>
      refine ⟨?_, ?_, ?_⟩
      · intro  H locs ls h_on h_a hmu hP hD hS hl
        refine lv_aload_n hx hb d_Mo_allows_30 rfl (lv_at hl 0 rfl) ?_
        refine va_get (D := (dC, dI)) (ci := 6) (v := .int sh) (C := R_Mo) (T := F_Mo) (N := 19) hx hb hB inC_Mo hown hK hP 0 rfl rfl 2 (by decide) (hB _ kb_246) (fun _ h9 => h9) rfl d_Mo_allows_31 ?_
        refine lv_bipush (v := 100) hx hb d_Mo_allows_34 (by decide) ?_
        refine lv_icmp_lt (tgt := 60) hx hb d_Mo_allows_36 (by decide) (fun c_36 => ?_) (fun c_36 => ?_)
        · skip
          exact ih.2.1  _ _ _ (h_on) (h_a) (fun h => absurd h.1 (Int32.not_le.mpr c_36)) (by omega) (hP.sub [0] rfl) (hD.sub [0] (by decide) rfl) hS (lv_sub hl [0] rfl)
        · skip
          refine lv_aload_n hx hb d_Mo_allows_39 rfl (lv_at hl 0 rfl) ?_
          refine va_get (D := (dC, dI)) (ci := 6) (v := .int sh) (C := R_Mo) (T := F_Mo) (N := 19) hx hb hB inC_Mo hown hK hP 0 rfl rfl 2 (by decide) (hB _ kb_246) (fun _ h9 => h9) rfl d_Mo_allows_40 ?_
          refine lv_sipush (v := 850) hx hb d_Mo_allows_43 (by decide) ?_
          refine lv_icmp_gt (tgt := 60) hx hb d_Mo_allows_46 (by decide) (fun c_46 => ?_) (fun c_46 => ?_)
          · skip
            exact ih.2.1  _ _ _ (h_on) (h_a) (fun h => absurd h.2 (Int32.not_le.mpr c_46)) (by omega) (hP.sub [0] rfl) (hD.sub [0] (by decide) rfl) hS (lv_sub hl [0] rfl)
          · skip
            refine lv_bipush (v := 6) hx hb d_Mo_allows_49 (by decide) ?_
            refine lv_aload_n hx hb d_Mo_allows_51 rfl (lv_at hl 0 rfl) ?_
            refine va_get (D := (dC, dI)) (ci := 6) (v := .int sh) (C := R_Mo) (T := F_Mo) (N := 19) hx hb hB inC_Mo hown hK hP 0 rfl rfl 2 (by decide) (hB _ kb_246) (fun _ h9 => h9) rfl d_Mo_allows_52 ?_
            refine lv_imul hx hb d_Mo_allows_55 ?_
            refine lv_topi (fun x_55 ex_55 => ?_)
            refine lv_bipush (v := 10) hx hb d_Mo_allows_56 (by decide) ?_
            refine lv_idiv hx hb d_Mo_allows_58 (by decide) ?_
            refine lv_topi (fun x_58 ex_58 => ?_)
            have hP9 := hP.sub (ws' := [(h0, .inr (6, [.int co, .int pi, .int sh, .int lo, .int ph, .int di, .long lm, .long en, .long la, .long cu, .long nw, .int sp, .ref b1, .ref b2, .ref b3, .ref b4, .long lk, .int cs, .ref b5]))]) [0] rfl
            have hD9 := hD.sub (ws' := [(h0, .inr (6, [.int co, .int pi, .int sh, .int lo, .int ph, .int di, .long lm, .long en, .long la, .long cu, .long nw, .int sp, .ref b1, .ref b2, .ref b3, .ref b4, .long lk, .int cs, .ref b5]))]) [0] (by decide) rfl
            have hK9 := hK.sub (tys' := []) [] rfl
            exact W.iret (v := x_58) hx hb hr (fun t ht hW => ⟨⟨x_58, (), rfl, by rw [tem, if_pos h_on, tg, if_neg h_a, if_pos ⟨Int32.not_lt.mp c_36, Int32.not_lt.mp c_46⟩, ex_58, ex_55], by rw [ht]; exact hP9, va_K.moved hW.alike hK9, hD9⟩, hS.F ht⟩) hS.2.2 d_Mo_allows_59
      · intro  H locs ls h_on h_a h_b hmu hP hD hS hl
        refine lv_aload_n hx hb d_Mo_allows_60 rfl (lv_at hl 0 rfl) ?_
        refine va_get (D := (dC, dI)) (ci := 6) (v := .int sh) (C := R_Mo) (T := F_Mo) (N := 19) hx hb hB inC_Mo hown hK hP 0 rfl rfl 2 (by decide) (hB _ kb_246) (fun _ h9 => h9) rfl d_Mo_allows_61 ?_
        refine lv_sipush (v := 850) hx hb d_Mo_allows_64 (by decide) ?_
        refine lv_icmp_le (tgt := 95) hx hb d_Mo_allows_67 (by decide) (fun c_67 => ?_) (fun c_67 => ?_)
        · skip
          exact ih.2.2  _ _ _ (h_on) (h_a) (h_b) (fun h => absurd h.1 (Int32.not_lt.mpr c_67)) (by omega) (hP.sub [0] rfl) (hD.sub [0] (by decide) rfl) hS (lv_sub hl [0] rfl)
        · skip
          refine lv_aload_n hx hb d_Mo_allows_70 rfl (lv_at hl 0 rfl) ?_
          refine va_get (D := (dC, dI)) (ci := 6) (v := .int sh) (C := R_Mo) (T := F_Mo) (N := 19) hx hb hB inC_Mo hown hK hP 0 rfl rfl 2 (by decide) (hB _ kb_246) (fun _ h9 => h9) rfl d_Mo_allows_71 ?_
          refine lv_sipush (v := 960) hx hb d_Mo_allows_74 (by decide) ?_
          refine lv_icmp_gt (tgt := 95) hx hb d_Mo_allows_77 (by decide) (fun c_77 => ?_) (fun c_77 => ?_)
          · skip
            exact ih.2.2  _ _ _ (h_on) (h_a) (h_b) (fun h => absurd h.2 (Int32.not_le.mpr c_77)) (by omega) (hP.sub [0] rfl) (hD.sub [0] (by decide) rfl) hS (lv_sub hl [0] rfl)
          · skip
            refine lv_bipush (v := 25) hx hb d_Mo_allows_80 (by decide) ?_
            refine lv_aload_n hx hb d_Mo_allows_82 rfl (lv_at hl 0 rfl) ?_
            refine va_get (D := (dC, dI)) (ci := 6) (v := .int sh) (C := R_Mo) (T := F_Mo) (N := 19) hx hb hB inC_Mo hown hK hP 0 rfl rfl 2 (by decide) (hB _ kb_246) (fun _ h9 => h9) rfl d_Mo_allows_83 ?_
            refine lv_sipush (v := 640) hx hb d_Mo_allows_86 (by decide) ?_
            refine lv_isub hx hb d_Mo_allows_89 ?_
            refine lv_topi (fun x_89 ex_89 => ?_)
            refine lv_imul hx hb d_Mo_allows_90 ?_
            refine lv_topi (fun x_90 ex_90 => ?_)
            refine lv_bipush (v := 10) hx hb d_Mo_allows_91 (by decide) ?_
            refine lv_idiv hx hb d_Mo_allows_93 (by decide) ?_
            refine lv_topi (fun x_93 ex_93 => ?_)
            have hP9 := hP.sub (ws' := [(h0, .inr (6, [.int co, .int pi, .int sh, .int lo, .int ph, .int di, .long lm, .long en, .long la, .long cu, .long nw, .int sp, .ref b1, .ref b2, .ref b3, .ref b4, .long lk, .int cs, .ref b5]))]) [0] rfl
            have hD9 := hD.sub (ws' := [(h0, .inr (6, [.int co, .int pi, .int sh, .int lo, .int ph, .int di, .long lm, .long en, .long la, .long cu, .long nw, .int sp, .ref b1, .ref b2, .ref b3, .ref b4, .long lk, .int cs, .ref b5]))]) [0] (by decide) rfl
            have hK9 := hK.sub (tys' := []) [] rfl
            exact W.iret (v := x_93) hx hb hr (fun t ht hW => ⟨⟨x_93, (), rfl, by rw [tem, if_pos h_on, tg, if_neg h_a, if_neg h_b, if_pos ⟨Int32.not_le.mp c_67, Int32.not_lt.mp c_77⟩, ex_93, ex_90, ex_89], by rw [ht]; exact hP9, va_K.moved hW.alike hK9, hD9⟩, hS.F ht⟩) hS.2.2 d_Mo_allows_94
      · intro  H locs ls h_on h_a h_b h_c hmu hP hD hS hl
        refine lv_aload_n hx hb d_Mo_allows_95 rfl (lv_at hl 0 rfl) ?_
        refine va_get (D := (dC, dI)) (ci := 6) (v := .int sh) (C := R_Mo) (T := F_Mo) (N := 19) hx hb hB inC_Mo hown hK hP 0 rfl rfl 2 (by decide) (hB _ kb_246) (fun _ h9 => h9) rfl d_Mo_allows_96 ?_
        refine lv_sipush (v := 960) hx hb d_Mo_allows_99 (by decide) ?_
        refine lv_icmp_le (tgt := 121) hx hb d_Mo_allows_102 (by decide) (fun c_102 => ?_) (fun c_102 => ?_)
        · skip
          refine lv_iconst (v := 0) hx hb d_Mo_allows_121 (by decide) ?_
          have hP9 := hP.sub (ws' := [(h0, .inr (6, [.int co, .int pi, .int sh, .int lo, .int ph, .int di, .long lm, .long en, .long la, .long cu, .long nw, .int sp, .ref b1, .ref b2, .ref b3, .ref b4, .long lk, .int cs, .ref b5]))]) [0] rfl
          have hD9 := hD.sub (ws' := [(h0, .inr (6, [.int co, .int pi, .int sh, .int lo, .int ph, .int di, .long lm, .long en, .long la, .long cu, .long nw, .int sp, .ref b1, .ref b2, .ref b3, .ref b4, .long lk, .int cs, .ref b5]))]) [0] (by decide) rfl
          have hK9 := hK.sub (tys' := []) [] rfl
          exact W.iret (v := 0) hx hb hr (fun t ht hW => ⟨⟨0, (), rfl, by rw [tem, if_pos h_on, tg, if_neg h_a, if_neg h_b, if_neg h_c, if_neg (fun h => absurd h.1 (Int32.not_lt.mpr c_102))], by rw [ht]; exact hP9, va_K.moved hW.alike hK9, hD9⟩, hS.F ht⟩) hS.2.2 d_Mo_allows_122
        · skip
          refine lv_aload_n hx hb d_Mo_allows_105 rfl (lv_at hl 0 rfl) ?_
          refine va_get (D := (dC, dI)) (ci := 6) (v := .int sh) (C := R_Mo) (T := F_Mo) (N := 19) hx hb hB inC_Mo hown hK hP 0 rfl rfl 2 (by decide) (hB _ kb_246) (fun _ h9 => h9) rfl d_Mo_allows_106 ?_
          refine lv_sipush (v := 970) hx hb d_Mo_allows_109 (by decide) ?_
          refine lv_icmp_gt (tgt := 121) hx hb d_Mo_allows_112 (by decide) (fun c_112 => ?_) (fun c_112 => ?_)
          · skip
            refine lv_iconst (v := 0) hx hb d_Mo_allows_121 (by decide) ?_
            have hP9 := hP.sub (ws' := [(h0, .inr (6, [.int co, .int pi, .int sh, .int lo, .int ph, .int di, .long lm, .long en, .long la, .long cu, .long nw, .int sp, .ref b1, .ref b2, .ref b3, .ref b4, .long lk, .int cs, .ref b5]))]) [0] rfl
            have hD9 := hD.sub (ws' := [(h0, .inr (6, [.int co, .int pi, .int sh, .int lo, .int ph, .int di, .long lm, .long en, .long la, .long cu, .long nw, .int sp, .ref b1, .ref b2, .ref b3, .ref b4, .long lk, .int cs, .ref b5]))]) [0] (by decide) rfl
            have hK9 := hK.sub (tys' := []) [] rfl
            exact W.iret (v := 0) hx hb hr (fun t ht hW => ⟨⟨0, (), rfl, by rw [tem, if_pos h_on, tg, if_neg h_a, if_neg h_b, if_neg h_c, if_neg (fun h => absurd h.2 (Int32.not_le.mpr c_112))], by rw [ht]; exact hP9, va_K.moved hW.alike hK9, hD9⟩, hS.F ht⟩) hS.2.2 d_Mo_allows_122
          · skip
            refine lv_sipush (v := 800) hx hb d_Mo_allows_115 (by decide) ?_
            refine lv_goto (tgt := 122) hx hb d_Mo_allows_118 (by decide) ?_
            have hP9 := hP.sub (ws' := [(h0, .inr (6, [.int co, .int pi, .int sh, .int lo, .int ph, .int di, .long lm, .long en, .long la, .long cu, .long nw, .int sp, .ref b1, .ref b2, .ref b3, .ref b4, .long lk, .int cs, .ref b5]))]) [0] rfl
            have hD9 := hD.sub (ws' := [(h0, .inr (6, [.int co, .int pi, .int sh, .int lo, .int ph, .int di, .long lm, .long en, .long la, .long cu, .long nw, .int sp, .ref b1, .ref b2, .ref b3, .ref b4, .long lk, .int cs, .ref b5]))]) [0] (by decide) rfl
            have hK9 := hK.sub (tys' := []) [] rfl
            exact W.iret (v := 800) hx hb hr (fun t ht hW => ⟨⟨800, (), rfl, by rw [tem, if_pos h_on, tg, if_neg h_a, if_neg h_b, if_neg h_c, if_pos ⟨Int32.not_le.mp c_102, Int32.not_lt.mp c_112⟩], by rw [ht]; exact hP9, va_K.moved hW.alike hK9, hD9⟩, hS.F ht⟩) hS.2.2 d_Mo_allows_122
  refine lv_aload_n hx hb d_Mo_allows_0 rfl (lv_at hl 0 rfl) ?_
  refine kc_i (va_runV (As := []) (rest := []) ⟨hx, hb, hml, hown, hts⟩ (c_Mo_isOn l dC dI h0 b1 b2 b3 b4 b5 s.heap.size co pi sh lo ph di lm en la cu nw sp lk cs  ) (cwV 0 hts (ginV kb_248 kb_249 kb_250 kb_251 kb_247) rfl rfl rfl (by decide +kernel) ⟨Nat.le_of_ble_eq_true rfl, Nat.le_of_ble_eq_true rfl⟩) (preV (ci := 6) (wc := [(h0, .inr (6, [.int co, .int pi, .int sh, .int lo, .int ph, .int di, .long lm, .long en, .long la, .long cu, .long nw, .int sp, .ref b1, .ref b2, .ref b3, .ref b4, .long lk, .int cs, .ref b5]))]) hK hN hP hD [0] rfl rfl (by decide) [] rfl rfl rfl) rfl rfl hl.1 rfl (lv_room (Nat.le_of_ble_eq_true rfl)) d_Mo_allows_1 ⟨Nat.le_of_ble_eq_true rfl, Nat.le_of_ble_eq_true rfl⟩) hP hD hS hA [0] [] (wr := []) rfl rfl (by decide) (by decide) (fun r_1 u_1 H locs hw_1 hP hD hK1 hS => ?_)
  have hw_1 : r_1 = bi (0 < pi ∧ pi < 4) := hw_1
  have hP : va_P (dC, dI) classes [(h0, .inr (6, [.int co, .int pi, .int sh, .int lo, .int ph, .int di, .long lm, .long en, .long la, .long cu, .long nw, .int sp, .ref b1, .ref b2, .ref b3, .ref b4, .long lk, .int cs, .ref b5]))] H := hP
  have hD : va_D A [(h0, .inr (6, [.int co, .int pi, .int sh, .int lo, .int ph, .int di, .long lm, .long en, .long la, .long cu, .long nw, .int sp, .ref b1, .ref b2, .ref b3, .ref b4, .long lk, .int cs, .ref b5]))] := hD
  refine lv_if_ne (tgt := 9) hx hb d_Mo_allows_4 (by decide) (fun c_4 => ?_) (fun c_4 => ?_)
  · have c_4 := bi_y hw_1 c_4
    refine lv_aload_n hx hb d_Mo_allows_9 rfl (lv_at hl 0 rfl) ?_
    refine va_get (D := (dC, dI)) (ci := 6) (v := .int sh) (C := R_Mo) (T := F_Mo) (N := 19) hx hb hB inC_Mo hown hK hP 0 rfl rfl 2 (by decide) (hB _ kb_246) (fun _ h9 => h9) rfl d_Mo_allows_10 ?_
    refine lv_bipush (v := 80) hx hb d_Mo_allows_13 (by decide) ?_
    refine lv_icmp_lt (tgt := 30) hx hb d_Mo_allows_15 (by decide) (fun c_15 => ?_) (fun c_15 => ?_)
    · skip
      exact (cut 4).1  _ _ _ (c_4) (fun h => absurd h.1 (Int32.not_le.mpr c_15)) (by omega) (hP.sub [0] rfl) (hD.sub [0] (by decide) rfl) hS (lv_sub hl [0] rfl)
    · skip
      refine lv_aload_n hx hb d_Mo_allows_18 rfl (lv_at hl 0 rfl) ?_
      refine va_get (D := (dC, dI)) (ci := 6) (v := .int sh) (C := R_Mo) (T := F_Mo) (N := 19) hx hb hB inC_Mo hown hK hP 0 rfl rfl 2 (by decide) (hB _ kb_246) (fun _ h9 => h9) rfl d_Mo_allows_19 ?_
      refine lv_bipush (v := 100) hx hb d_Mo_allows_22 (by decide) ?_
      refine lv_icmp_ge (tgt := 30) hx hb d_Mo_allows_24 (by decide) (fun c_24 => ?_) (fun c_24 => ?_)
      · skip
        exact (cut 4).1  _ _ _ (c_4) (fun h => absurd h.2 (Int32.not_lt.mpr c_24)) (by omega) (hP.sub [0] rfl) (hD.sub [0] (by decide) rfl) hS (lv_sub hl [0] rfl)
      · skip
        refine lv_bipush (v := 60) hx hb d_Mo_allows_27 (by decide) ?_
        have hP9 := hP.sub (ws' := [(h0, .inr (6, [.int co, .int pi, .int sh, .int lo, .int ph, .int di, .long lm, .long en, .long la, .long cu, .long nw, .int sp, .ref b1, .ref b2, .ref b3, .ref b4, .long lk, .int cs, .ref b5]))]) [0] rfl
        have hD9 := hD.sub (ws' := [(h0, .inr (6, [.int co, .int pi, .int sh, .int lo, .int ph, .int di, .long lm, .long en, .long la, .long cu, .long nw, .int sp, .ref b1, .ref b2, .ref b3, .ref b4, .long lk, .int cs, .ref b5]))]) [0] (by decide) rfl
        have hK9 := hK.sub (tys' := []) [] rfl
        exact W.iret (v := 60) hx hb hr (fun t ht hW => ⟨⟨60, (), rfl, by rw [tem, if_pos c_4, tg, if_pos ⟨Int32.not_lt.mp c_15, Int32.not_le.mp c_24⟩], by rw [ht]; exact hP9, va_K.moved hW.alike hK9, hD9⟩, hS.F ht⟩) hS.2.2 d_Mo_allows_29
  · have c_4 := bi_n (hw_1.symm.trans c_4)
    refine lv_iconst (v := 0) hx hb d_Mo_allows_7 (by decide) ?_
    have hP9 := hP.sub (ws' := [(h0, .inr (6, [.int co, .int pi, .int sh, .int lo, .int ph, .int di, .long lm, .long en, .long la, .long cu, .long nw, .int sp, .ref b1, .ref b2, .ref b3, .ref b4, .long lk, .int cs, .ref b5]))]) [0] rfl
    have hD9 := hD.sub (ws' := [(h0, .inr (6, [.int co, .int pi, .int sh, .int lo, .int ph, .int di, .long lm, .long en, .long la, .long cu, .long nw, .int sp, .ref b1, .ref b2, .ref b3, .ref b4, .long lk, .int cs, .ref b5]))]) [0] (by decide) rfl
    have hK9 := hK.sub (tys' := []) [] rfl
    exact W.iret (v := 0) hx hb hr (fun t ht hW => ⟨⟨0, (), rfl, (if_neg c_4).symm, by rw [ht]; exact hP9, va_K.moved hW.alike hK9, hD9⟩, hS.F ht⟩) hS.2.2 d_Mo_allows_8
set_option maxHeartbeats 4000000 in
set_option maxRecDepth 100000 in
theorem c_Mo_allowed (l : Launch) (dC : Nat → ClassId) (dI : Nat → Nat → Nat) (h0 : Nat) (b1 : Nat) (b2 : Nat) (b3 : Nat) (b4 : Nat) (b5 : Nat) (sz : Nat) (co : Int32) (pi : Int32) (sh : Int32) (lo : Int32) (ph : Int32) (di : Int32) (lm : Int64) (en : Int64) (la : Int64) (cu : Int64) (nw : Int64) (sp : Int32) (lk : Int64) (cs : Int32) : Met l y_Mo_allowed w_Mo_allowed ({ frames := 2, cells := 0, slots := 0, locals := 40 }) (cPre dC dI [.ref h0] sz [] [(h0, .inr (6, [.int co, .int pi, .int sh, .int lo, .int ph, .int di, .long lm, .long en, .long la, .long cu, .long nw, .int sp, .ref b1, .ref b2, .ref b3, .ref b4, .long lk, .int cs, .ref b5]))]) (va_Qi (fun (r : Int32) (u : Int32) => r = tem pi sh) (fun (u : Int32) (t : State) => cB dC dI (va_A [(h0, .inr (6, [.int co, .int pi, .int sh, .int lo, .int ph, .int di, .long lm, .long en, .long la, .long cu, .long nw, .int sp, .ref b1, .ref b2, .ref b3, .ref b4, .long lk, .int cs, .ref b5]))] sz) [] [(h0, .inr (6, [.int u, .int pi, .int sh, .int lo, .int ph, .int di, .long lm, .long en, .long la, .long cu, .long nw, .int sp, .ref b1, .ref b2, .ref b3, .ref b4, .long lk, .int cs, .ref b5]))] t) (va_A [(h0, .inr (6, [.int co, .int pi, .int sh, .int lo, .int ph, .int di, .long lm, .long en, .long la, .long cu, .long nw, .int sp, .ref b1, .ref b2, .ref b3, .ref b4, .long lk, .int cs, .ref b5]))] sz)) 0 0 (va_A [(h0, .inr (6, [.int co, .int pi, .int sh, .int lo, .int ph, .int di, .long lm, .long en, .long la, .long cu, .long nw, .int sp, .ref b1, .ref b2, .ref b3, .ref b4, .long lk, .int cs, .ref b5]))] sz) := by
  refine Met.ofW (cc := b_Mo_allowed) (maxL := 1) (ret := (some .int)) (by decide) rfl ?_
  intro p e s m args below meth c s₁ B hml hv
  obtain ⟨rfl, hsz, hN, hP, hK, hD0⟩ := hv
  have hx := B.exec
  have hb := B.bytes
  have hr := B.returns
  have hts := atoms_spec (ws := w_Mo_allowed) B.pre
  have hB := big_of hts
  have hown : s.vm.findClass R_Mo = some m.cls := findClass_of_methodNamed B.named
  have hlocks := B.notSynchronized
  subst hsz
  have hD := hD0.self (sz := s.heap.size)
  generalize hAe : va_A [(h0, .inr (6, [.int co, .int pi, .int sh, .int lo, .int ph, .int di, .long lm, .long en, .long la, .long cu, .long nw, .int sp, .ref b1, .ref b2, .ref b3, .ref b4, .long lk, .int cs, .ref b5]))] s.heap.size = A at hD ⊢
  have hA : ∀ q : Nat, s.heap.size ≤ q → A q := fun q h => by rw [← hAe]; exact Or.inr h
  have hS : va_S A s.heap s.heap [] := va_S.rf
  have hP : va_P (dC, dI) classes [(h0, .inr (6, [.int co, .int pi, .int sh, .int lo, .int ph, .int di, .long lm, .long en, .long la, .long cu, .long nw, .int sp, .ref b1, .ref b2, .ref b3, .ref b4, .long lk, .int cs, .ref b5]))] s.heap := hP
  have hl := lv_entry ([.ref h0]) (n := 1) (Nat.le_of_ble_eq_true rfl)
  rw [lg_entry_eq]
  generalize (lg_sl ([.ref h0]) ++ List.replicate (1 - (lg_sl ([.ref h0])).length) Slot.unset).toArray = ls at hl ⊢
  have hl : lv_has ls 1 [(0, .ref h0)] := hl
  refine lv_aload_n hx hb d_Mo_allowed_0 rfl (lv_at hl 0 rfl) ?_
  refine lv_iconst (v := 0) hx hb d_Mo_allowed_1 (by decide) ?_
  refine va_put (D := (dC, dI)) (ci := 6) (v := .int 0) (ty := .int) (C := R_Mo) (T := F_Mo) (N := 19) hx hb hB inC_Mo t_Mo t_Mo_ok n_Mo hown hK hP hD hS 0 rfl rfl 0 (by decide) (hB _ kb_245) (fun _ h9 => h9) rfl (by decide +kernel) rfl rfl (Nat.le_of_ble_eq_true rfl) d_Mo_allowed_2 (fun H locs hP hD hS => ?_)
  have hP : va_P (dC, dI) classes [(h0, .inr (6, [.int 0, .int pi, .int sh, .int lo, .int ph, .int di, .long lm, .long en, .long la, .long cu, .long nw, .int sp, .ref b1, .ref b2, .ref b3, .ref b4, .long lk, .int cs, .ref b5]))] H := hP
  have hD : va_D A [(h0, .inr (6, [.int 0, .int pi, .int sh, .int lo, .int ph, .int di, .long lm, .long en, .long la, .long cu, .long nw, .int sp, .ref b1, .ref b2, .ref b3, .ref b4, .long lk, .int cs, .ref b5]))] := hD
  refine lv_aload_n hx hb d_Mo_allowed_5 rfl (lv_at hl 0 rfl) ?_
  refine kc_i (va_runV (As := []) (rest := []) ⟨hx, hb, hml, hown, hts⟩ (c_Mo_allows l dC dI h0 b1 b2 b3 b4 b5 H.size 0 pi sh lo ph di lm en la cu nw sp lk cs  ) (cwV 0 hts (ginV kb_260 kb_261 kb_262 kb_251 kb_259) rfl rfl rfl (by decide +kernel) ⟨Nat.le_of_ble_eq_true rfl, Nat.le_of_ble_eq_true rfl⟩) (preV (ci := 6) (wc := [(h0, .inr (6, [.int 0, .int pi, .int sh, .int lo, .int ph, .int di, .long lm, .long en, .long la, .long cu, .long nw, .int sp, .ref b1, .ref b2, .ref b3, .ref b4, .long lk, .int cs, .ref b5]))]) hK hN hP hD [0] rfl rfl (by decide) [] rfl rfl rfl) rfl rfl hl.1 rfl (lv_room (Nat.le_of_ble_eq_true rfl)) d_Mo_allowed_6 ⟨Nat.le_of_ble_eq_true rfl, Nat.le_of_ble_eq_true rfl⟩) hP hD hS hA [0] [] (wr := []) rfl rfl (by decide) (by decide) (fun r_6 u_6 H locs hw_6 hP hD hK1 hS => ?_)
  have hw_6 : r_6 = tem pi sh := hw_6
  have hP : va_P (dC, dI) classes [(h0, .inr (6, [.int 0, .int pi, .int sh, .int lo, .int ph, .int di, .long lm, .long en, .long la, .long cu, .long nw, .int sp, .ref b1, .ref b2, .ref b3, .ref b4, .long lk, .int cs, .ref b5]))] H := hP
  have hD : va_D A [(h0, .inr (6, [.int 0, .int pi, .int sh, .int lo, .int ph, .int di, .long lm, .long en, .long la, .long cu, .long nw, .int sp, .ref b1, .ref b2, .ref b3, .ref b4, .long lk, .int cs, .ref b5]))] := hD
  have hP9 := hP.sub (ws' := [(h0, .inr (6, [.int 0, .int pi, .int sh, .int lo, .int ph, .int di, .long lm, .long en, .long la, .long cu, .long nw, .int sp, .ref b1, .ref b2, .ref b3, .ref b4, .long lk, .int cs, .ref b5]))]) [0] rfl
  have hD9 := hD.sub (ws' := [(h0, .inr (6, [.int 0, .int pi, .int sh, .int lo, .int ph, .int di, .long lm, .long en, .long la, .long cu, .long nw, .int sp, .ref b1, .ref b2, .ref b3, .ref b4, .long lk, .int cs, .ref b5]))]) [0] (by decide) rfl
  have hK9 := hK.sub (tys' := []) [] rfl
  exact W.iret (v := r_6) hx hb hr (fun t ht hW => ⟨⟨r_6, (0), rfl, hw_6, by rw [ht]; exact hP9, va_K.moved hW.alike hK9, hD9⟩, hS.F ht⟩) hS.2.2 d_Mo_allowed_9
set_option maxHeartbeats 4000000 in
set_option maxRecDepth 100000 in
theorem c_Mo_isTime (l : Launch) (dC : Nat → ClassId) (dI : Nat → Nat → Nat) (h0 : Nat) (b1 : Nat) (b2 : Nat) (b3 : Nat) (b4 : Nat) (b5 : Nat) (sz : Nat) (co : Int32) (pi : Int32) (sh : Int32) (lo : Int32) (ph : Int32) (di : Int32) (lm : Int64) (en : Int64) (la : Int64) (cu : Int64) (nw : Int64) (sp : Int32) (lk : Int64) (cs : Int32) (p0 : Int64) : Met l y_Mo_isTime w_Mo_isTime ({ frames := 0, cells := 0, slots := 0, locals := 0 }) (cPre dC dI [.ref h0, .long p0] sz [] [(h0, .inr (6, [.int co, .int pi, .int sh, .int lo, .int ph, .int di, .long lm, .long en, .long la, .long cu, .long nw, .int sp, .ref b1, .ref b2, .ref b3, .ref b4, .long lk, .int cs, .ref b5]))]) (va_Qi (fun (r : Int32) (u : Unit) => True) (fun (u : Unit) (t : State) => cB dC dI (va_A [(h0, .inr (6, [.int co, .int pi, .int sh, .int lo, .int ph, .int di, .long lm, .long en, .long la, .long cu, .long nw, .int sp, .ref b1, .ref b2, .ref b3, .ref b4, .long lk, .int cs, .ref b5]))] sz) [] [(h0, .inr (6, [.int co, .int pi, .int sh, .int lo, .int ph, .int di, .long lm, .long en, .long la, .long cu, .long nw, .int sp, .ref b1, .ref b2, .ref b3, .ref b4, .long lk, .int cs, .ref b5]))] t) (va_A [(h0, .inr (6, [.int co, .int pi, .int sh, .int lo, .int ph, .int di, .long lm, .long en, .long la, .long cu, .long nw, .int sp, .ref b1, .ref b2, .ref b3, .ref b4, .long lk, .int cs, .ref b5]))] sz)) 0 0 (va_A [(h0, .inr (6, [.int co, .int pi, .int sh, .int lo, .int ph, .int di, .long lm, .long en, .long la, .long cu, .long nw, .int sp, .ref b1, .ref b2, .ref b3, .ref b4, .long lk, .int cs, .ref b5]))] sz) := by
  refine Met.ofW (cc := b_Mo_isTime) (maxL := 3) (ret := (some .boolean)) (by decide) rfl ?_
  intro p e s m args below meth c s₁ B hml hv
  obtain ⟨rfl, hsz, hN, hP, hK, hD0⟩ := hv
  have hx := B.exec
  have hb := B.bytes
  have hr := B.returns
  have hts := atoms_spec (ws := w_Mo_isTime) B.pre
  have hB := big_of hts
  have hown : s.vm.findClass R_Mo = some m.cls := findClass_of_methodNamed B.named
  have hlocks := B.notSynchronized
  subst hsz
  have hD := hD0.self (sz := s.heap.size)
  generalize hAe : va_A [(h0, .inr (6, [.int co, .int pi, .int sh, .int lo, .int ph, .int di, .long lm, .long en, .long la, .long cu, .long nw, .int sp, .ref b1, .ref b2, .ref b3, .ref b4, .long lk, .int cs, .ref b5]))] s.heap.size = A at hD ⊢
  have hA : ∀ q : Nat, s.heap.size ≤ q → A q := fun q h => by rw [← hAe]; exact Or.inr h
  have hS : va_S A s.heap s.heap [] := va_S.rf
  have hP : va_P (dC, dI) classes [(h0, .inr (6, [.int co, .int pi, .int sh, .int lo, .int ph, .int di, .long lm, .long en, .long la, .long cu, .long nw, .int sp, .ref b1, .ref b2, .ref b3, .ref b4, .long lk, .int cs, .ref b5]))] s.heap := hP
  have hl := lv_entry ([.ref h0, .long p0]) (n := 3) (Nat.le_of_ble_eq_true rfl)
  rw [lg_entry_eq]
  generalize (lg_sl ([.ref h0, .long p0]) ++ List.replicate (3 - (lg_sl ([.ref h0, .long p0])).length) Slot.unset).toArray = ls at hl ⊢
  have hl : lv_has ls 3 [(0, .ref h0), (1, .long p0)] := hl
  refine lv_lload_n hx hb d_Mo_isTime_0 rfl (lv_at hl 1 rfl) ?_
  refine lv_aload_n hx hb d_Mo_isTime_1 rfl (lv_at hl 0 rfl) ?_
  refine va_get (D := (dC, dI)) (ci := 6) (v := .long nw) (C := R_Mo) (T := F_Mo) (N := 19) hx hb hB inC_Mo hown hK hP 0 rfl rfl 10 (by decide) (hB _ kb_263) (fun _ h9 => h9) rfl d_Mo_isTime_2 ?_
  refine W.lcmp hx hb d_Mo_isTime_5 ?_
  refine lv_if_lt (tgt := 21) hx hb d_Mo_isTime_6 (by decide) (fun c_6 => ?_) (fun c_6 => ?_)
  · have c_6 := (lg_cmp_lt _ _).mp c_6
    refine lv_iconst (v := 0) hx hb d_Mo_isTime_21 (by decide) ?_
    have hP9 := hP.sub (ws' := [(h0, .inr (6, [.int co, .int pi, .int sh, .int lo, .int ph, .int di, .long lm, .long en, .long la, .long cu, .long nw, .int sp, .ref b1, .ref b2, .ref b3, .ref b4, .long lk, .int cs, .ref b5]))]) [0] rfl
    have hD9 := hD.sub (ws' := [(h0, .inr (6, [.int co, .int pi, .int sh, .int lo, .int ph, .int di, .long lm, .long en, .long la, .long cu, .long nw, .int sp, .ref b1, .ref b2, .ref b3, .ref b4, .long lk, .int cs, .ref b5]))]) [0] (by decide) rfl
    have hK9 := hK.sub (tys' := []) [] rfl
    exact W.zret (v := 0) (ty := .boolean) hx hb hr (rfl) (fun t ht hW => ⟨⟨0, (), rfl, trivial, by rw [ht]; exact hP9, va_K.moved hW.alike hK9, hD9⟩, hS.F ht⟩) hS.2.2 d_Mo_isTime_22
  · have c_6 := mt (lg_cmp_lt _ _).mpr c_6
    refine lv_lload_n hx hb d_Mo_isTime_9 rfl (lv_at hl 1 rfl) ?_
    refine lv_ldc2 (v := 1125899906842624) hx hb hown (hB _ kb_264) d_Mo_isTime_10 ?_
    refine W.lcmp hx hb d_Mo_isTime_13 ?_
    refine lv_if_gt (tgt := 21) hx hb d_Mo_isTime_14 (by decide) (fun c_14 => ?_) (fun c_14 => ?_)
    · have c_14 := (lg_cmp_gt _ _).mp c_14
      refine lv_iconst (v := 0) hx hb d_Mo_isTime_21 (by decide) ?_
      have hP9 := hP.sub (ws' := [(h0, .inr (6, [.int co, .int pi, .int sh, .int lo, .int ph, .int di, .long lm, .long en, .long la, .long cu, .long nw, .int sp, .ref b1, .ref b2, .ref b3, .ref b4, .long lk, .int cs, .ref b5]))]) [0] rfl
      have hD9 := hD.sub (ws' := [(h0, .inr (6, [.int co, .int pi, .int sh, .int lo, .int ph, .int di, .long lm, .long en, .long la, .long cu, .long nw, .int sp, .ref b1, .ref b2, .ref b3, .ref b4, .long lk, .int cs, .ref b5]))]) [0] (by decide) rfl
      have hK9 := hK.sub (tys' := []) [] rfl
      exact W.zret (v := 0) (ty := .boolean) hx hb hr (rfl) (fun t ht hW => ⟨⟨0, (), rfl, trivial, by rw [ht]; exact hP9, va_K.moved hW.alike hK9, hD9⟩, hS.F ht⟩) hS.2.2 d_Mo_isTime_22
    · have c_14 := mt (lg_cmp_gt _ _).mpr c_14
      refine lv_iconst (v := 1) hx hb d_Mo_isTime_17 (by decide) ?_
      refine lv_goto (tgt := 22) hx hb d_Mo_isTime_18 (by decide) ?_
      have hP9 := hP.sub (ws' := [(h0, .inr (6, [.int co, .int pi, .int sh, .int lo, .int ph, .int di, .long lm, .long en, .long la, .long cu, .long nw, .int sp, .ref b1, .ref b2, .ref b3, .ref b4, .long lk, .int cs, .ref b5]))]) [0] rfl
      have hD9 := hD.sub (ws' := [(h0, .inr (6, [.int co, .int pi, .int sh, .int lo, .int ph, .int di, .long lm, .long en, .long la, .long cu, .long nw, .int sp, .ref b1, .ref b2, .ref b3, .ref b4, .long lk, .int cs, .ref b5]))]) [0] (by decide) rfl
      have hK9 := hK.sub (tys' := []) [] rfl
      exact W.zret (v := 1) (ty := .boolean) hx hb hr (rfl) (fun t ht hW => ⟨⟨1, (), rfl, trivial, by rw [ht]; exact hP9, va_K.moved hW.alike hK9, hD9⟩, hS.F ht⟩) hS.2.2 d_Mo_isTime_22
set_option maxHeartbeats 4000000 in
set_option maxRecDepth 100000 in
theorem c_Mo_plug (l : Launch) (dC : Nat → ClassId) (dI : Nat → Nat → Nat) (h0 : Nat) (b1 : Nat) (b2 : Nat) (b3 : Nat) (b4 : Nat) (b5 : Nat) (sz : Nat) (co : Int32) (pi : Int32) (sh : Int32) (lo : Int32) (ph : Int32) (di : Int32) (lm : Int64) (en : Int64) (la : Int64) (cu : Int64) (nw : Int64) (sp : Int32) (lk : Int64) (cs : Int32) (p0 : Int32) (hp0 : p0 = 0 ∨ p0 = 1) : Met l y_Mo_plug w_Mo_plug ({ frames := 0, cells := 0, slots := 0, locals := 0 }) (cPre dC dI [.ref h0, .int p0] sz [] [(h0, .inr (6, [.int co, .int pi, .int sh, .int lo, .int ph, .int di, .long lm, .long en, .long la, .long cu, .long nw, .int sp, .ref b1, .ref b2, .ref b3, .ref b4, .long lk, .int cs, .ref b5]))]) (va_Qi (fun (r : Int32) (u : Int32 × Int32) => True) (fun (u : Int32 × Int32) (t : State) => cB dC dI (va_A [(h0, .inr (6, [.int co, .int pi, .int sh, .int lo, .int ph, .int di, .long lm, .long en, .long la, .long cu, .long nw, .int sp, .ref b1, .ref b2, .ref b3, .ref b4, .long lk, .int cs, .ref b5]))] sz) [] [(h0, .inr (6, [.int u.1, .int pi, .int sh, .int u.2, .int ph, .int di, .long lm, .long en, .long la, .long cu, .long nw, .int sp, .ref b1, .ref b2, .ref b3, .ref b4, .long lk, .int cs, .ref b5]))] t) (va_A [(h0, .inr (6, [.int co, .int pi, .int sh, .int lo, .int ph, .int di, .long lm, .long en, .long la, .long cu, .long nw, .int sp, .ref b1, .ref b2, .ref b3, .ref b4, .long lk, .int cs, .ref b5]))] sz)) 0 0 (va_A [(h0, .inr (6, [.int co, .int pi, .int sh, .int lo, .int ph, .int di, .long lm, .long en, .long la, .long cu, .long nw, .int sp, .ref b1, .ref b2, .ref b3, .ref b4, .long lk, .int cs, .ref b5]))] sz) := by
  refine Met.ofW (cc := b_Mo_plug) (maxL := 3) (ret := (some .int)) (by decide) rfl ?_
  intro p e s m args below meth c s₁ B hml hv
  obtain ⟨rfl, hsz, hN, hP, hK, hD0⟩ := hv
  have hx := B.exec
  have hb := B.bytes
  have hr := B.returns
  have hts := atoms_spec (ws := w_Mo_plug) B.pre
  have hB := big_of hts
  have hown : s.vm.findClass R_Mo = some m.cls := findClass_of_methodNamed B.named
  have hlocks := B.notSynchronized
  subst hsz
  have hD := hD0.self (sz := s.heap.size)
  generalize hAe : va_A [(h0, .inr (6, [.int co, .int pi, .int sh, .int lo, .int ph, .int di, .long lm, .long en, .long la, .long cu, .long nw, .int sp, .ref b1, .ref b2, .ref b3, .ref b4, .long lk, .int cs, .ref b5]))] s.heap.size = A at hD ⊢
  have hA : ∀ q : Nat, s.heap.size ≤ q → A q := fun q h => by rw [← hAe]; exact Or.inr h
  have hS : va_S A s.heap s.heap [] := va_S.rf
  have hP : va_P (dC, dI) classes [(h0, .inr (6, [.int co, .int pi, .int sh, .int lo, .int ph, .int di, .long lm, .long en, .long la, .long cu, .long nw, .int sp, .ref b1, .ref b2, .ref b3, .ref b4, .long lk, .int cs, .ref b5]))] s.heap := hP
  have hl := lv_entry ([.ref h0, .int p0]) (n := 3) (Nat.le_of_ble_eq_true rfl)
  rw [lg_entry_eq]
  generalize (lg_sl ([.ref h0, .int p0]) ++ List.replicate (3 - (lg_sl ([.ref h0, .int p0])).length) Slot.unset).toArray = ls at hl ⊢
  have hl : lv_has ls 3 [(0, .ref h0), (1, .int p0)] := hl
  refine lv_aload_n hx hb d_Mo_plug_0 rfl (lv_at hl 0 rfl) ?_
  refine lv_iconst (v := 0) hx hb d_Mo_plug_1 (by decide) ?_
  refine va_put (D := (dC, dI)) (ci := 6) (v := .int 0) (ty := .int) (C := R_Mo) (T := F_Mo) (N := 19) hx hb hB inC_Mo t_Mo t_Mo_ok n_Mo hown hK hP hD hS 0 rfl rfl 0 (by decide) (hB _ kb_245) (fun _ h9 => h9) rfl (by decide +kernel) rfl rfl (Nat.le_of_ble_eq_true rfl) d_Mo_plug_2 (fun H locs hP hD hS => ?_)
  have hP : va_P (dC, dI) classes [(h0, .inr (6, [.int 0, .int pi, .int sh, .int lo, .int ph, .int di, .long lm, .long en, .long la, .long cu, .long nw, .int sp, .ref b1, .ref b2, .ref b3, .ref b4, .long lk, .int cs, .ref b5]))] H := hP
  have hD : va_D A [(h0, .inr (6, [.int 0, .int pi, .int sh, .int lo, .int ph, .int di, .long lm, .long en, .long la, .long cu, .long nw, .int sp, .ref b1, .ref b2, .ref b3, .ref b4, .long lk, .int cs, .ref b5]))] := hD
  refine lv_iload_n hx hb d_Mo_plug_5 rfl (lv_at hl 1 rfl) ?_
  refine lv_if_ne (tgt := 26) hx hb d_Mo_plug_6 (by decide) (fun c_6 => ?_) (fun c_6 => ?_)
  · skip
    refine lv_aload_n hx hb d_Mo_plug_26 rfl (lv_at hl 0 rfl) ?_
    refine va_get (D := (dC, dI)) (ci := 6) (v := .int lo) (C := R_Mo) (T := F_Mo) (N := 19) hx hb hB inC_Mo hown hK hP 0 rfl rfl 3 (by decide) (hB _ kb_265) (fun _ h9 => h9) rfl d_Mo_plug_27 ?_
    refine lv_iload_n hx hb d_Mo_plug_30 rfl (lv_at hl 1 rfl) ?_
    refine lv_icmp_eq (tgt := 38) hx hb d_Mo_plug_31 (by decide) (fun c_31 => ?_) (fun c_31 => ?_)
    · skip
      refine lv_iconst (v := 0) hx hb d_Mo_plug_38 (by decide) ?_
      refine lv_istore_n (lv' := [(2, .int 0), (0, .ref h0), (1, .int p0)]) hx hb d_Mo_plug_39 rfl hl (by decide) rfl (fun ls hl => ?_)
      refine lv_aload_n hx hb d_Mo_plug_40 rfl (lv_at hl 1 rfl) ?_
      refine lv_iload_n hx hb d_Mo_plug_41 rfl (lv_at hl 2 rfl) ?_
      refine va_put (D := (dC, dI)) (ci := 6) (v := .int p0) (ty := .boolean) (C := R_Mo) (T := F_Mo) (N := 19) hx hb hB inC_Mo t_Mo t_Mo_ok n_Mo hown hK hP hD hS 0 rfl rfl 3 (by decide) (hB _ kb_265) (fun _ h9 => h9) rfl (by decide +kernel) (nar_b (by assumption)) (fit_b (by assumption)) (Nat.le_of_ble_eq_true rfl) d_Mo_plug_42 (fun H locs hP hD hS => ?_)
      have hP : va_P (dC, dI) classes [(h0, .inr (6, [.int 0, .int pi, .int sh, .int p0, .int ph, .int di, .long lm, .long en, .long la, .long cu, .long nw, .int sp, .ref b1, .ref b2, .ref b3, .ref b4, .long lk, .int cs, .ref b5]))] H := hP
      have hD : va_D A [(h0, .inr (6, [.int 0, .int pi, .int sh, .int p0, .int ph, .int di, .long lm, .long en, .long la, .long cu, .long nw, .int sp, .ref b1, .ref b2, .ref b3, .ref b4, .long lk, .int cs, .ref b5]))] := hD
      refine lv_iload_n hx hb d_Mo_plug_45 rfl (lv_at hl 0 rfl) ?_
      refine lv_if_eq (tgt := 53) hx hb d_Mo_plug_46 (by decide) (fun _ => ?_) (fun c_46 => absurd (by decide) c_46)
      refine lv_iconst (v := 0) hx hb d_Mo_plug_53 (by decide) ?_
      have hP9 := hP.sub (ws' := [(h0, .inr (6, [.int 0, .int pi, .int sh, .int p0, .int ph, .int di, .long lm, .long en, .long la, .long cu, .long nw, .int sp, .ref b1, .ref b2, .ref b3, .ref b4, .long lk, .int cs, .ref b5]))]) [0] rfl
      have hD9 := hD.sub (ws' := [(h0, .inr (6, [.int 0, .int pi, .int sh, .int p0, .int ph, .int di, .long lm, .long en, .long la, .long cu, .long nw, .int sp, .ref b1, .ref b2, .ref b3, .ref b4, .long lk, .int cs, .ref b5]))]) [0] (by decide) rfl
      have hK9 := hK.sub (tys' := []) [] rfl
      exact W.iret (v := 0) hx hb hr (fun t ht hW => ⟨⟨0, (0, p0), rfl, trivial, by rw [ht]; exact hP9, va_K.moved hW.alike hK9, hD9⟩, hS.F ht⟩) hS.2.2 d_Mo_plug_54
    · skip
      refine lv_iconst (v := 1) hx hb d_Mo_plug_34 (by decide) ?_
      refine lv_goto (tgt := 39) hx hb d_Mo_plug_35 (by decide) ?_
      refine lv_istore_n (lv' := [(2, .int 1), (0, .ref h0), (1, .int p0)]) hx hb d_Mo_plug_39 rfl hl (by decide) rfl (fun ls hl => ?_)
      refine lv_aload_n hx hb d_Mo_plug_40 rfl (lv_at hl 1 rfl) ?_
      refine lv_iload_n hx hb d_Mo_plug_41 rfl (lv_at hl 2 rfl) ?_
      refine va_put (D := (dC, dI)) (ci := 6) (v := .int p0) (ty := .boolean) (C := R_Mo) (T := F_Mo) (N := 19) hx hb hB inC_Mo t_Mo t_Mo_ok n_Mo hown hK hP hD hS 0 rfl rfl 3 (by decide) (hB _ kb_265) (fun _ h9 => h9) rfl (by decide +kernel) (nar_b (by assumption)) (fit_b (by assumption)) (Nat.le_of_ble_eq_true rfl) d_Mo_plug_42 (fun H locs hP hD hS => ?_)
      have hP : va_P (dC, dI) classes [(h0, .inr (6, [.int 0, .int pi, .int sh, .int p0, .int ph, .int di, .long lm, .long en, .long la, .long cu, .long nw, .int sp, .ref b1, .ref b2, .ref b3, .ref b4, .long lk, .int cs, .ref b5]))] H := hP
      have hD : va_D A [(h0, .inr (6, [.int 0, .int pi, .int sh, .int p0, .int ph, .int di, .long lm, .long en, .long la, .long cu, .long nw, .int sp, .ref b1, .ref b2, .ref b3, .ref b4, .long lk, .int cs, .ref b5]))] := hD
      refine lv_iload_n hx hb d_Mo_plug_45 rfl (lv_at hl 0 rfl) ?_
      refine lv_if_eq (tgt := 53) hx hb d_Mo_plug_46 (by decide) (fun c_46 => absurd c_46 (by decide)) (fun _ => ?_)
      refine lv_iconst (v := 1) hx hb d_Mo_plug_49 (by decide) ?_
      refine lv_goto (tgt := 54) hx hb d_Mo_plug_50 (by decide) ?_
      have hP9 := hP.sub (ws' := [(h0, .inr (6, [.int 0, .int pi, .int sh, .int p0, .int ph, .int di, .long lm, .long en, .long la, .long cu, .long nw, .int sp, .ref b1, .ref b2, .ref b3, .ref b4, .long lk, .int cs, .ref b5]))]) [0] rfl
      have hD9 := hD.sub (ws' := [(h0, .inr (6, [.int 0, .int pi, .int sh, .int p0, .int ph, .int di, .long lm, .long en, .long la, .long cu, .long nw, .int sp, .ref b1, .ref b2, .ref b3, .ref b4, .long lk, .int cs, .ref b5]))]) [0] (by decide) rfl
      have hK9 := hK.sub (tys' := []) [] rfl
      exact W.iret (v := 1) hx hb hr (fun t ht hW => ⟨⟨1, (0, p0), rfl, trivial, by rw [ht]; exact hP9, va_K.moved hW.alike hK9, hD9⟩, hS.F ht⟩) hS.2.2 d_Mo_plug_54
  · skip
    refine lv_aload_n hx hb d_Mo_plug_9 rfl (lv_at hl 0 rfl) ?_
    refine va_get (D := (dC, dI)) (ci := 6) (v := .int ph) (C := R_Mo) (T := F_Mo) (N := 19) hx hb hB inC_Mo hown hK hP 0 rfl rfl 4 (by decide) (hB _ kb_252) (fun _ h9 => h9) rfl d_Mo_plug_10 ?_
    refine lv_if_le (tgt := 26) hx hb d_Mo_plug_13 (by decide) (fun c_13 => ?_) (fun c_13 => ?_)
    · skip
      refine lv_aload_n hx hb d_Mo_plug_26 rfl (lv_at hl 0 rfl) ?_
      refine va_get (D := (dC, dI)) (ci := 6) (v := .int lo) (C := R_Mo) (T := F_Mo) (N := 19) hx hb hB inC_Mo hown hK hP 0 rfl rfl 3 (by decide) (hB _ kb_265) (fun _ h9 => h9) rfl d_Mo_plug_27 ?_
      refine lv_iload_n hx hb d_Mo_plug_30 rfl (lv_at hl 1 rfl) ?_
      refine lv_icmp_eq (tgt := 38) hx hb d_Mo_plug_31 (by decide) (fun c_31 => ?_) (fun c_31 => ?_)
      · skip
        refine lv_iconst (v := 0) hx hb d_Mo_plug_38 (by decide) ?_
        refine lv_istore_n (lv' := [(2, .int 0), (0, .ref h0), (1, .int p0)]) hx hb d_Mo_plug_39 rfl hl (by decide) rfl (fun ls hl => ?_)
        refine lv_aload_n hx hb d_Mo_plug_40 rfl (lv_at hl 1 rfl) ?_
        refine lv_iload_n hx hb d_Mo_plug_41 rfl (lv_at hl 2 rfl) ?_
        refine va_put (D := (dC, dI)) (ci := 6) (v := .int p0) (ty := .boolean) (C := R_Mo) (T := F_Mo) (N := 19) hx hb hB inC_Mo t_Mo t_Mo_ok n_Mo hown hK hP hD hS 0 rfl rfl 3 (by decide) (hB _ kb_265) (fun _ h9 => h9) rfl (by decide +kernel) (nar_b (by assumption)) (fit_b (by assumption)) (Nat.le_of_ble_eq_true rfl) d_Mo_plug_42 (fun H locs hP hD hS => ?_)
        have hP : va_P (dC, dI) classes [(h0, .inr (6, [.int 0, .int pi, .int sh, .int p0, .int ph, .int di, .long lm, .long en, .long la, .long cu, .long nw, .int sp, .ref b1, .ref b2, .ref b3, .ref b4, .long lk, .int cs, .ref b5]))] H := hP
        have hD : va_D A [(h0, .inr (6, [.int 0, .int pi, .int sh, .int p0, .int ph, .int di, .long lm, .long en, .long la, .long cu, .long nw, .int sp, .ref b1, .ref b2, .ref b3, .ref b4, .long lk, .int cs, .ref b5]))] := hD
        refine lv_iload_n hx hb d_Mo_plug_45 rfl (lv_at hl 0 rfl) ?_
        refine lv_if_eq (tgt := 53) hx hb d_Mo_plug_46 (by decide) (fun _ => ?_) (fun c_46 => absurd (by decide) c_46)
        refine lv_iconst (v := 0) hx hb d_Mo_plug_53 (by decide) ?_
        have hP9 := hP.sub (ws' := [(h0, .inr (6, [.int 0, .int pi, .int sh, .int p0, .int ph, .int di, .long lm, .long en, .long la, .long cu, .long nw, .int sp, .ref b1, .ref b2, .ref b3, .ref b4, .long lk, .int cs, .ref b5]))]) [0] rfl
        have hD9 := hD.sub (ws' := [(h0, .inr (6, [.int 0, .int pi, .int sh, .int p0, .int ph, .int di, .long lm, .long en, .long la, .long cu, .long nw, .int sp, .ref b1, .ref b2, .ref b3, .ref b4, .long lk, .int cs, .ref b5]))]) [0] (by decide) rfl
        have hK9 := hK.sub (tys' := []) [] rfl
        exact W.iret (v := 0) hx hb hr (fun t ht hW => ⟨⟨0, (0, p0), rfl, trivial, by rw [ht]; exact hP9, va_K.moved hW.alike hK9, hD9⟩, hS.F ht⟩) hS.2.2 d_Mo_plug_54
      · skip
        refine lv_iconst (v := 1) hx hb d_Mo_plug_34 (by decide) ?_
        refine lv_goto (tgt := 39) hx hb d_Mo_plug_35 (by decide) ?_
        refine lv_istore_n (lv' := [(2, .int 1), (0, .ref h0), (1, .int p0)]) hx hb d_Mo_plug_39 rfl hl (by decide) rfl (fun ls hl => ?_)
        refine lv_aload_n hx hb d_Mo_plug_40 rfl (lv_at hl 1 rfl) ?_
        refine lv_iload_n hx hb d_Mo_plug_41 rfl (lv_at hl 2 rfl) ?_
        refine va_put (D := (dC, dI)) (ci := 6) (v := .int p0) (ty := .boolean) (C := R_Mo) (T := F_Mo) (N := 19) hx hb hB inC_Mo t_Mo t_Mo_ok n_Mo hown hK hP hD hS 0 rfl rfl 3 (by decide) (hB _ kb_265) (fun _ h9 => h9) rfl (by decide +kernel) (nar_b (by assumption)) (fit_b (by assumption)) (Nat.le_of_ble_eq_true rfl) d_Mo_plug_42 (fun H locs hP hD hS => ?_)
        have hP : va_P (dC, dI) classes [(h0, .inr (6, [.int 0, .int pi, .int sh, .int p0, .int ph, .int di, .long lm, .long en, .long la, .long cu, .long nw, .int sp, .ref b1, .ref b2, .ref b3, .ref b4, .long lk, .int cs, .ref b5]))] H := hP
        have hD : va_D A [(h0, .inr (6, [.int 0, .int pi, .int sh, .int p0, .int ph, .int di, .long lm, .long en, .long la, .long cu, .long nw, .int sp, .ref b1, .ref b2, .ref b3, .ref b4, .long lk, .int cs, .ref b5]))] := hD
        refine lv_iload_n hx hb d_Mo_plug_45 rfl (lv_at hl 0 rfl) ?_
        refine lv_if_eq (tgt := 53) hx hb d_Mo_plug_46 (by decide) (fun c_46 => absurd c_46 (by decide)) (fun _ => ?_)
        refine lv_iconst (v := 1) hx hb d_Mo_plug_49 (by decide) ?_
        refine lv_goto (tgt := 54) hx hb d_Mo_plug_50 (by decide) ?_
        have hP9 := hP.sub (ws' := [(h0, .inr (6, [.int 0, .int pi, .int sh, .int p0, .int ph, .int di, .long lm, .long en, .long la, .long cu, .long nw, .int sp, .ref b1, .ref b2, .ref b3, .ref b4, .long lk, .int cs, .ref b5]))]) [0] rfl
        have hD9 := hD.sub (ws' := [(h0, .inr (6, [.int 0, .int pi, .int sh, .int p0, .int ph, .int di, .long lm, .long en, .long la, .long cu, .long nw, .int sp, .ref b1, .ref b2, .ref b3, .ref b4, .long lk, .int cs, .ref b5]))]) [0] (by decide) rfl
        have hK9 := hK.sub (tys' := []) [] rfl
        exact W.iret (v := 1) hx hb hr (fun t ht hW => ⟨⟨1, (0, p0), rfl, trivial, by rw [ht]; exact hP9, va_K.moved hW.alike hK9, hD9⟩, hS.F ht⟩) hS.2.2 d_Mo_plug_54
    · skip
      refine lv_aload_n hx hb d_Mo_plug_16 rfl (lv_at hl 0 rfl) ?_
      refine va_get (D := (dC, dI)) (ci := 6) (v := .int lo) (C := R_Mo) (T := F_Mo) (N := 19) hx hb hB inC_Mo hown hK hP 0 rfl rfl 3 (by decide) (hB _ kb_265) (fun _ h9 => h9) rfl d_Mo_plug_17 ?_
      refine lv_if_eq (tgt := 26) hx hb d_Mo_plug_20 (by decide) (fun c_20 => ?_) (fun c_20 => ?_)
      · skip
        refine lv_aload_n hx hb d_Mo_plug_26 rfl (lv_at hl 0 rfl) ?_
        refine va_get (D := (dC, dI)) (ci := 6) (v := .int lo) (C := R_Mo) (T := F_Mo) (N := 19) hx hb hB inC_Mo hown hK hP 0 rfl rfl 3 (by decide) (hB _ kb_265) (fun _ h9 => h9) rfl d_Mo_plug_27 ?_
        refine lv_iload_n hx hb d_Mo_plug_30 rfl (lv_at hl 1 rfl) ?_
        refine lv_icmp_eq (tgt := 38) hx hb d_Mo_plug_31 (by decide) (fun c_31 => ?_) (fun c_31 => ?_)
        · skip
          refine lv_iconst (v := 0) hx hb d_Mo_plug_38 (by decide) ?_
          refine lv_istore_n (lv' := [(2, .int 0), (0, .ref h0), (1, .int p0)]) hx hb d_Mo_plug_39 rfl hl (by decide) rfl (fun ls hl => ?_)
          refine lv_aload_n hx hb d_Mo_plug_40 rfl (lv_at hl 1 rfl) ?_
          refine lv_iload_n hx hb d_Mo_plug_41 rfl (lv_at hl 2 rfl) ?_
          refine va_put (D := (dC, dI)) (ci := 6) (v := .int p0) (ty := .boolean) (C := R_Mo) (T := F_Mo) (N := 19) hx hb hB inC_Mo t_Mo t_Mo_ok n_Mo hown hK hP hD hS 0 rfl rfl 3 (by decide) (hB _ kb_265) (fun _ h9 => h9) rfl (by decide +kernel) (nar_b (by assumption)) (fit_b (by assumption)) (Nat.le_of_ble_eq_true rfl) d_Mo_plug_42 (fun H locs hP hD hS => ?_)
          have hP : va_P (dC, dI) classes [(h0, .inr (6, [.int 0, .int pi, .int sh, .int p0, .int ph, .int di, .long lm, .long en, .long la, .long cu, .long nw, .int sp, .ref b1, .ref b2, .ref b3, .ref b4, .long lk, .int cs, .ref b5]))] H := hP
          have hD : va_D A [(h0, .inr (6, [.int 0, .int pi, .int sh, .int p0, .int ph, .int di, .long lm, .long en, .long la, .long cu, .long nw, .int sp, .ref b1, .ref b2, .ref b3, .ref b4, .long lk, .int cs, .ref b5]))] := hD
          refine lv_iload_n hx hb d_Mo_plug_45 rfl (lv_at hl 0 rfl) ?_
          refine lv_if_eq (tgt := 53) hx hb d_Mo_plug_46 (by decide) (fun _ => ?_) (fun c_46 => absurd (by decide) c_46)
          refine lv_iconst (v := 0) hx hb d_Mo_plug_53 (by decide) ?_
          have hP9 := hP.sub (ws' := [(h0, .inr (6, [.int 0, .int pi, .int sh, .int p0, .int ph, .int di, .long lm, .long en, .long la, .long cu, .long nw, .int sp, .ref b1, .ref b2, .ref b3, .ref b4, .long lk, .int cs, .ref b5]))]) [0] rfl
          have hD9 := hD.sub (ws' := [(h0, .inr (6, [.int 0, .int pi, .int sh, .int p0, .int ph, .int di, .long lm, .long en, .long la, .long cu, .long nw, .int sp, .ref b1, .ref b2, .ref b3, .ref b4, .long lk, .int cs, .ref b5]))]) [0] (by decide) rfl
          have hK9 := hK.sub (tys' := []) [] rfl
          exact W.iret (v := 0) hx hb hr (fun t ht hW => ⟨⟨0, (0, p0), rfl, trivial, by rw [ht]; exact hP9, va_K.moved hW.alike hK9, hD9⟩, hS.F ht⟩) hS.2.2 d_Mo_plug_54
        · skip
          refine lv_iconst (v := 1) hx hb d_Mo_plug_34 (by decide) ?_
          refine lv_goto (tgt := 39) hx hb d_Mo_plug_35 (by decide) ?_
          refine lv_istore_n (lv' := [(2, .int 1), (0, .ref h0), (1, .int p0)]) hx hb d_Mo_plug_39 rfl hl (by decide) rfl (fun ls hl => ?_)
          refine lv_aload_n hx hb d_Mo_plug_40 rfl (lv_at hl 1 rfl) ?_
          refine lv_iload_n hx hb d_Mo_plug_41 rfl (lv_at hl 2 rfl) ?_
          refine va_put (D := (dC, dI)) (ci := 6) (v := .int p0) (ty := .boolean) (C := R_Mo) (T := F_Mo) (N := 19) hx hb hB inC_Mo t_Mo t_Mo_ok n_Mo hown hK hP hD hS 0 rfl rfl 3 (by decide) (hB _ kb_265) (fun _ h9 => h9) rfl (by decide +kernel) (nar_b (by assumption)) (fit_b (by assumption)) (Nat.le_of_ble_eq_true rfl) d_Mo_plug_42 (fun H locs hP hD hS => ?_)
          have hP : va_P (dC, dI) classes [(h0, .inr (6, [.int 0, .int pi, .int sh, .int p0, .int ph, .int di, .long lm, .long en, .long la, .long cu, .long nw, .int sp, .ref b1, .ref b2, .ref b3, .ref b4, .long lk, .int cs, .ref b5]))] H := hP
          have hD : va_D A [(h0, .inr (6, [.int 0, .int pi, .int sh, .int p0, .int ph, .int di, .long lm, .long en, .long la, .long cu, .long nw, .int sp, .ref b1, .ref b2, .ref b3, .ref b4, .long lk, .int cs, .ref b5]))] := hD
          refine lv_iload_n hx hb d_Mo_plug_45 rfl (lv_at hl 0 rfl) ?_
          refine lv_if_eq (tgt := 53) hx hb d_Mo_plug_46 (by decide) (fun c_46 => absurd c_46 (by decide)) (fun _ => ?_)
          refine lv_iconst (v := 1) hx hb d_Mo_plug_49 (by decide) ?_
          refine lv_goto (tgt := 54) hx hb d_Mo_plug_50 (by decide) ?_
          have hP9 := hP.sub (ws' := [(h0, .inr (6, [.int 0, .int pi, .int sh, .int p0, .int ph, .int di, .long lm, .long en, .long la, .long cu, .long nw, .int sp, .ref b1, .ref b2, .ref b3, .ref b4, .long lk, .int cs, .ref b5]))]) [0] rfl
          have hD9 := hD.sub (ws' := [(h0, .inr (6, [.int 0, .int pi, .int sh, .int p0, .int ph, .int di, .long lm, .long en, .long la, .long cu, .long nw, .int sp, .ref b1, .ref b2, .ref b3, .ref b4, .long lk, .int cs, .ref b5]))]) [0] (by decide) rfl
          have hK9 := hK.sub (tys' := []) [] rfl
          exact W.iret (v := 1) hx hb hr (fun t ht hW => ⟨⟨1, (0, p0), rfl, trivial, by rw [ht]; exact hP9, va_K.moved hW.alike hK9, hD9⟩, hS.F ht⟩) hS.2.2 d_Mo_plug_54
      · skip
        refine lv_bipush (v := (-3)) hx hb d_Mo_plug_23 (by decide) ?_
        have hP9 := hP.sub (ws' := [(h0, .inr (6, [.int 0, .int pi, .int sh, .int lo, .int ph, .int di, .long lm, .long en, .long la, .long cu, .long nw, .int sp, .ref b1, .ref b2, .ref b3, .ref b4, .long lk, .int cs, .ref b5]))]) [0] rfl
        have hD9 := hD.sub (ws' := [(h0, .inr (6, [.int 0, .int pi, .int sh, .int lo, .int ph, .int di, .long lm, .long en, .long la, .long cu, .long nw, .int sp, .ref b1, .ref b2, .ref b3, .ref b4, .long lk, .int cs, .ref b5]))]) [0] (by decide) rfl
        have hK9 := hK.sub (tys' := []) [] rfl
        exact W.iret (v := (-3)) hx hb hr (fun t ht hW => ⟨⟨(-3), (0, lo), rfl, trivial, by rw [ht]; exact hP9, va_K.moved hW.alike hK9, hD9⟩, hS.F ht⟩) hS.2.2 d_Mo_plug_25
set_option maxHeartbeats 4000000 in
set_option maxRecDepth 100000 in
theorem c_Mo_meter (l : Launch) (dC : Nat → ClassId) (dI : Nat → Nat → Nat) (h0 : Nat) (b1 : Nat) (b2 : Nat) (b3 : Nat) (b4 : Nat) (b5 : Nat) (sz : Nat) (co : Int32) (pi : Int32) (sh : Int32) (lo : Int32) (ph : Int32) (di : Int32) (lm : Int64) (en : Int64) (la : Int64) (cu : Int64) (nw : Int64) (sp : Int32) (lk : Int64) (cs : Int32) (p0 : Int64) : Met l y_Mo_meter w_Mo_meter ({ frames := 0, cells := 0, slots := 0, locals := 0 }) (cPre dC dI [.ref h0, .long p0] sz [] [(h0, .inr (6, [.int co, .int pi, .int sh, .int lo, .int ph, .int di, .long lm, .long en, .long la, .long cu, .long nw, .int sp, .ref b1, .ref b2, .ref b3, .ref b4, .long lk, .int cs, .ref b5]))]) (va_Qi (fun (r : Int32) (u : Int32) => True) (fun (u : Int32) (t : State) => cB dC dI (va_A [(h0, .inr (6, [.int co, .int pi, .int sh, .int lo, .int ph, .int di, .long lm, .long en, .long la, .long cu, .long nw, .int sp, .ref b1, .ref b2, .ref b3, .ref b4, .long lk, .int cs, .ref b5]))] sz) [] [(h0, .inr (6, [.int u, .int pi, .int sh, .int lo, .int ph, .int di, .long lm, .long en, .long la, .long cu, .long nw, .int sp, .ref b1, .ref b2, .ref b3, .ref b4, .long lk, .int cs, .ref b5]))] t) (va_A [(h0, .inr (6, [.int co, .int pi, .int sh, .int lo, .int ph, .int di, .long lm, .long en, .long la, .long cu, .long nw, .int sp, .ref b1, .ref b2, .ref b3, .ref b4, .long lk, .int cs, .ref b5]))] sz)) 0 0 (va_A [(h0, .inr (6, [.int co, .int pi, .int sh, .int lo, .int ph, .int di, .long lm, .long en, .long la, .long cu, .long nw, .int sp, .ref b1, .ref b2, .ref b3, .ref b4, .long lk, .int cs, .ref b5]))] sz) := by
  refine Met.ofW (cc := b_Mo_meter) (maxL := 3) (ret := (some .int)) (by decide) rfl ?_
  intro p e s m args below meth c s₁ B hml hv
  obtain ⟨rfl, hsz, hN, hP, hK, hD0⟩ := hv
  have hx := B.exec
  have hb := B.bytes
  have hr := B.returns
  have hts := atoms_spec (ws := w_Mo_meter) B.pre
  have hB := big_of hts
  have hown : s.vm.findClass R_Mo = some m.cls := findClass_of_methodNamed B.named
  have hlocks := B.notSynchronized
  subst hsz
  have hD := hD0.self (sz := s.heap.size)
  generalize hAe : va_A [(h0, .inr (6, [.int co, .int pi, .int sh, .int lo, .int ph, .int di, .long lm, .long en, .long la, .long cu, .long nw, .int sp, .ref b1, .ref b2, .ref b3, .ref b4, .long lk, .int cs, .ref b5]))] s.heap.size = A at hD ⊢
  have hA : ∀ q : Nat, s.heap.size ≤ q → A q := fun q h => by rw [← hAe]; exact Or.inr h
  have hS : va_S A s.heap s.heap [] := va_S.rf
  have hP : va_P (dC, dI) classes [(h0, .inr (6, [.int co, .int pi, .int sh, .int lo, .int ph, .int di, .long lm, .long en, .long la, .long cu, .long nw, .int sp, .ref b1, .ref b2, .ref b3, .ref b4, .long lk, .int cs, .ref b5]))] s.heap := hP
  have hl := lv_entry ([.ref h0, .long p0]) (n := 3) (Nat.le_of_ble_eq_true rfl)
  rw [lg_entry_eq]
  generalize (lg_sl ([.ref h0, .long p0]) ++ List.replicate (3 - (lg_sl ([.ref h0, .long p0])).length) Slot.unset).toArray = ls at hl ⊢
  have hl : lv_has ls 3 [(0, .ref h0), (1, .long p0)] := hl
  refine lv_aload_n hx hb d_Mo_meter_0 rfl (lv_at hl 0 rfl) ?_
  refine lv_iconst (v := 0) hx hb d_Mo_meter_1 (by decide) ?_
  refine va_put (D := (dC, dI)) (ci := 6) (v := .int 0) (ty := .int) (C := R_Mo) (T := F_Mo) (N := 19) hx hb hB inC_Mo t_Mo t_Mo_ok n_Mo hown hK hP hD hS 0 rfl rfl 0 (by decide) (hB _ kb_245) (fun _ h9 => h9) rfl (by decide +kernel) rfl rfl (Nat.le_of_ble_eq_true rfl) d_Mo_meter_2 (fun H locs hP hD hS => ?_)
  have hP : va_P (dC, dI) classes [(h0, .inr (6, [.int 0, .int pi, .int sh, .int lo, .int ph, .int di, .long lm, .long en, .long la, .long cu, .long nw, .int sp, .ref b1, .ref b2, .ref b3, .ref b4, .long lk, .int cs, .ref b5]))] H := hP
  have hD : va_D A [(h0, .inr (6, [.int 0, .int pi, .int sh, .int lo, .int ph, .int di, .long lm, .long en, .long la, .long cu, .long nw, .int sp, .ref b1, .ref b2, .ref b3, .ref b4, .long lk, .int cs, .ref b5]))] := hD
  refine lv_lload_n hx hb d_Mo_meter_5 rfl (lv_at hl 1 rfl) ?_
  refine lv_lconst (v := 0) hx hb d_Mo_meter_6 (by decide) ?_
  refine W.lcmp hx hb d_Mo_meter_7 ?_
  refine lv_if_lt (tgt := 19) hx hb d_Mo_meter_8 (by decide) (fun c_8 => ?_) (fun c_8 => ?_)
  · have c_8 := (lg_cmp_lt _ _).mp c_8
    refine lv_bipush (v := (-2)) hx hb d_Mo_meter_19 (by decide) ?_
    refine lv_goto (tgt := 35) hx hb d_Mo_meter_21 (by decide) ?_
    have hP9 := hP.sub (ws' := [(h0, .inr (6, [.int 0, .int pi, .int sh, .int lo, .int ph, .int di, .long lm, .long en, .long la, .long cu, .long nw, .int sp, .ref b1, .ref b2, .ref b3, .ref b4, .long lk, .int cs, .ref b5]))]) [0] rfl
    have hD9 := hD.sub (ws' := [(h0, .inr (6, [.int 0, .int pi, .int sh, .int lo, .int ph, .int di, .long lm, .long en, .long la, .long cu, .long nw, .int sp, .ref b1, .ref b2, .ref b3, .ref b4, .long lk, .int cs, .ref b5]))]) [0] (by decide) rfl
    have hK9 := hK.sub (tys' := []) [] rfl
    exact W.iret (v := (-2)) hx hb hr (fun t ht hW => ⟨⟨(-2), (0), rfl, trivial, by rw [ht]; exact hP9, va_K.moved hW.alike hK9, hD9⟩, hS.F ht⟩) hS.2.2 d_Mo_meter_35
  · have c_8 := mt (lg_cmp_lt _ _).mpr c_8
    refine lv_lload_n hx hb d_Mo_meter_11 rfl (lv_at hl 1 rfl) ?_
    refine lv_ldc2 (v := 1000000000) hx hb hown (hB _ kb_285) d_Mo_meter_12 ?_
    refine W.lcmp hx hb d_Mo_meter_15 ?_
    refine lv_if_le (tgt := 24) hx hb d_Mo_meter_16 (by decide) (fun c_16 => ?_) (fun c_16 => ?_)
    · have c_16 := (lg_cmp_le _ _).mp c_16
      refine lv_lload_n hx hb d_Mo_meter_24 rfl (lv_at hl 1 rfl) ?_
      refine lv_aload_n hx hb d_Mo_meter_25 rfl (lv_at hl 0 rfl) ?_
      refine va_get (D := (dC, dI)) (ci := 6) (v := .long en) (C := R_Mo) (T := F_Mo) (N := 19) hx hb hB inC_Mo hown hK hP 0 rfl rfl 7 (by decide) (hB _ kb_273) (fun _ h9 => h9) rfl d_Mo_meter_26 ?_
      refine lv_ldc2 (v := 36000) hx hb hown (hB _ kb_286) d_Mo_meter_29 ?_
      refine lv_ldiv hx hb d_Mo_meter_32 (by decide) ?_
      refine lv_topl (fun x_32 ex_32 => ?_)
      refine lv_lsub hx hb d_Mo_meter_33 ?_
      refine lv_topl (fun x_33 ex_33 => ?_)
      refine lv_l2i hx hb d_Mo_meter_34 rfl ?_
      refine lv_topi (fun x_34 ex_34 => ?_)
      have hP9 := hP.sub (ws' := [(h0, .inr (6, [.int 0, .int pi, .int sh, .int lo, .int ph, .int di, .long lm, .long en, .long la, .long cu, .long nw, .int sp, .ref b1, .ref b2, .ref b3, .ref b4, .long lk, .int cs, .ref b5]))]) [0] rfl
      have hD9 := hD.sub (ws' := [(h0, .inr (6, [.int 0, .int pi, .int sh, .int lo, .int ph, .int di, .long lm, .long en, .long la, .long cu, .long nw, .int sp, .ref b1, .ref b2, .ref b3, .ref b4, .long lk, .int cs, .ref b5]))]) [0] (by decide) rfl
      have hK9 := hK.sub (tys' := []) [] rfl
      exact W.iret (v := x_34) hx hb hr (fun t ht hW => ⟨⟨x_34, (0), rfl, trivial, by rw [ht]; exact hP9, va_K.moved hW.alike hK9, hD9⟩, hS.F ht⟩) hS.2.2 d_Mo_meter_35
    · have c_16 := mt (lg_cmp_le _ _).mpr c_16
      refine lv_bipush (v := (-2)) hx hb d_Mo_meter_19 (by decide) ?_
      refine lv_goto (tgt := 35) hx hb d_Mo_meter_21 (by decide) ?_
      have hP9 := hP.sub (ws' := [(h0, .inr (6, [.int 0, .int pi, .int sh, .int lo, .int ph, .int di, .long lm, .long en, .long la, .long cu, .long nw, .int sp, .ref b1, .ref b2, .ref b3, .ref b4, .long lk, .int cs, .ref b5]))]) [0] rfl
      have hD9 := hD.sub (ws' := [(h0, .inr (6, [.int 0, .int pi, .int sh, .int lo, .int ph, .int di, .long lm, .long en, .long la, .long cu, .long nw, .int sp, .ref b1, .ref b2, .ref b3, .ref b4, .long lk, .int cs, .ref b5]))]) [0] (by decide) rfl
      have hK9 := hK.sub (tys' := []) [] rfl
      exact W.iret (v := (-2)) hx hb hr (fun t ht hW => ⟨⟨(-2), (0), rfl, trivial, by rw [ht]; exact hP9, va_K.moved hW.alike hK9, hD9⟩, hS.F ht⟩) hS.2.2 d_Mo_meter_35
set_option maxHeartbeats 4000000 in
set_option maxRecDepth 100000 in
theorem c_Mo_priceOf (l : Launch) (dC : Nat → ClassId) (dI : Nat → Nat → Nat) (h0 : Nat) (b1 : Nat) (b2 : Nat) (b3 : Nat) (b4 : Nat) (b5 : Nat) (i1 : ClassId) (i2 : ClassId) (i3 : ClassId) (sz : Nat) (co : Int32) (pi : Int32) (sh : Int32) (lo : Int32) (ph : Int32) (di : Int32) (lm : Int64) (en : Int64) (la : Int64) (cu : Int64) (nw : Int64) (sp : Int32) (lk : Int64) (cs : Int32) (g1 : Nat → Int32) (g2 : Nat → Int32) (g3 : Nat → Int32) (p0 : Int32) (hs0 : 0 ≤ sp.toInt) (hs1 : sp.toInt ≤ 20) : Met l y_Mo_priceOf w_Mo_priceOf ({ frames := 0, cells := 0, slots := 0, locals := 0 }) (cPre dC dI [.ref h0, .int p0] sz [(i1, .int), (i2, .int), (i3, .int)] [(h0, .inr (6, [.int co, .int pi, .int sh, .int lo, .int ph, .int di, .long lm, .long en, .long la, .long cu, .long nw, .int sp, .ref b1, .ref b2, .ref b3, .ref b4, .long lk, .int cs, .ref b5])), (b1, .inl (i1, 20, .inl g1)), (b2, .inl (i2, 20, .inl g2)), (b3, .inl (i3, 20, .inl g3))]) (va_Qi (fun (r : Int32) (u : Unit) => r = pof g1 g2 g3 p0 sp.toInt.toNat) (fun (u : Unit) (t : State) => cB dC dI (va_A [(h0, .inr (6, [.int co, .int pi, .int sh, .int lo, .int ph, .int di, .long lm, .long en, .long la, .long cu, .long nw, .int sp, .ref b1, .ref b2, .ref b3, .ref b4, .long lk, .int cs, .ref b5])), (b1, .inl (i1, 20, .inl g1)), (b2, .inl (i2, 20, .inl g2)), (b3, .inl (i3, 20, .inl g3))] sz) [(i1, .int), (i2, .int), (i3, .int)] [(h0, .inr (6, [.int co, .int pi, .int sh, .int lo, .int ph, .int di, .long lm, .long en, .long la, .long cu, .long nw, .int sp, .ref b1, .ref b2, .ref b3, .ref b4, .long lk, .int cs, .ref b5])), (b1, .inl (i1, 20, .inl g1)), (b2, .inl (i2, 20, .inl g2)), (b3, .inl (i3, 20, .inl g3))] t) (va_A [(h0, .inr (6, [.int co, .int pi, .int sh, .int lo, .int ph, .int di, .long lm, .long en, .long la, .long cu, .long nw, .int sp, .ref b1, .ref b2, .ref b3, .ref b4, .long lk, .int cs, .ref b5])), (b1, .inl (i1, 20, .inl g1)), (b2, .inl (i2, 20, .inl g2)), (b3, .inl (i3, 20, .inl g3))] sz)) 0 0 (va_A [(h0, .inr (6, [.int co, .int pi, .int sh, .int lo, .int ph, .int di, .long lm, .long en, .long la, .long cu, .long nw, .int sp, .ref b1, .ref b2, .ref b3, .ref b4, .long lk, .int cs, .ref b5])), (b1, .inl (i1, 20, .inl g1)), (b2, .inl (i2, 20, .inl g2)), (b3, .inl (i3, 20, .inl g3))] sz) := by
  refine Met.ofW (cc := b_Mo_priceOf) (maxL := 3) (ret := (some .int)) (by decide) rfl ?_
  intro p e s m args below meth c s₁ B hml hv
  obtain ⟨rfl, hsz, hN, hP, hK, hD0⟩ := hv
  have hx := B.exec
  have hb := B.bytes
  have hr := B.returns
  have hts := atoms_spec (ws := w_Mo_priceOf) B.pre
  have hB := big_of hts
  have hown : s.vm.findClass R_Mo = some m.cls := findClass_of_methodNamed B.named
  have hlocks := B.notSynchronized
  subst hsz
  have hD := hD0.self (sz := s.heap.size)
  generalize hAe : va_A [(h0, .inr (6, [.int co, .int pi, .int sh, .int lo, .int ph, .int di, .long lm, .long en, .long la, .long cu, .long nw, .int sp, .ref b1, .ref b2, .ref b3, .ref b4, .long lk, .int cs, .ref b5])), (b1, .inl (i1, 20, .inl g1)), (b2, .inl (i2, 20, .inl g2)), (b3, .inl (i3, 20, .inl g3))] s.heap.size = A at hD ⊢
  have hA : ∀ q : Nat, s.heap.size ≤ q → A q := fun q h => by rw [← hAe]; exact Or.inr h
  have hS : va_S A s.heap s.heap [] := va_S.rf
  have hP : va_P (dC, dI) classes [(h0, .inr (6, [.int co, .int pi, .int sh, .int lo, .int ph, .int di, .long lm, .long en, .long la, .long cu, .long nw, .int sp, .ref b1, .ref b2, .ref b3, .ref b4, .long lk, .int cs, .ref b5])), (b1, .inl (i1, 20, .inl g1)), (b2, .inl (i2, 20, .inl g2)), (b3, .inl (i3, 20, .inl g3))] s.heap := hP
  have hl := lv_entry ([.ref h0, .int p0]) (n := 3) (Nat.le_of_ble_eq_true rfl)
  rw [lg_entry_eq]
  generalize (lg_sl ([.ref h0, .int p0]) ++ List.replicate (3 - (lg_sl ([.ref h0, .int p0])).length) Slot.unset).toArray = ls at hl ⊢
  have hl : lv_has ls 3 [(0, .ref h0), (1, .int p0)] := hl
  have cut : ∀ n : Nat, (∀ (kk : Int32) (H : Heap) (locs : List Loc) (ls : Array Slot), (kk.toInt < 20) → (pof g1 g2 g3 p0 (kk.toInt + 1).toNat = pof g1 g2 g3 p0 sp.toInt.toNat) → (kk.toInt + 1).toNat < n → va_P (dC, dI) classes [(h0, .inr (6, [.int co, .int pi, .int sh, .int lo, .int ph, .int di, .long lm, .long en, .long la, .long cu, .long nw, .int sp, .ref b1, .ref b2, .ref b3, .ref b4, .long lk, .int cs, .ref b5])), (b1, .inl (i1, 20, .inl g1)), (b2, .inl (i2, 20, .inl g2)), (b3, .inl (i3, 20, .inl g3))] H → va_D A [(h0, .inr (6, [.int co, .int pi, .int sh, .int lo, .int ph, .int di, .long lm, .long en, .long la, .long cu, .long nw, .int sp, .ref b1, .ref b2, .ref b3, .ref b4, .long lk, .int cs, .ref b5])), (b1, .inl (i1, 20, .inl g1)), (b2, .inl (i2, 20, .inl g2)), (b3, .inl (i3, 20, .inl g3))] → va_S A s.heap H locs → lv_has ls 3 [(0, .ref h0), (1, .int p0), (2, .int kk)] → W p l e (headSpec w_Mo_priceOf ({ frames := 0, cells := 0, slots := 0, locals := 0 })).room s m (List.toArray [.ref h0, .int p0]) below meth c H locs 0 0 (MQ below (va_Qi (fun (r : Int32) (u : Unit) => r = pof g1 g2 g3 p0 sp.toInt.toNat) (fun (u : Unit) (t : State) => cB dC dI A [(i1, .int), (i2, .int), (i3, .int)] [(h0, .inr (6, [.int co, .int pi, .int sh, .int lo, .int ph, .int di, .long lm, .long en, .long la, .long cu, .long nw, .int sp, .ref b1, .ref b2, .ref b3, .ref b4, .long lk, .int cs, .ref b5])), (b1, .inl (i1, 20, .inl g1)), (b2, .inl (i2, 20, .inl g2)), (b3, .inl (i3, 20, .inl g3))] t) A) (List.toArray [.ref h0, .int p0]) s 0 0 A) (F0 m 7 ls [])) := by
    intro n
    induction n with
    | zero => intros; first | exact (Nat.not_lt_zero _ (by assumption)).elim | omega
    | succ n ih =>
      intro kk H locs ls h_k h_e hmu hP hD hS hl
      refine lv_iload_n hx hb d_Mo_priceOf_7 rfl (lv_at hl 2 rfl) ?_
      refine lv_if_lt (tgt := 44) hx hb d_Mo_priceOf_8 (by decide) (fun c_8 => ?_) (fun c_8 => ?_)
      · skip
        refine lv_iconst (v := (-1)) hx hb d_Mo_priceOf_44 (by decide) ?_
        have hP9 := hP.sub (ws' := [(h0, .inr (6, [.int co, .int pi, .int sh, .int lo, .int ph, .int di, .long lm, .long en, .long la, .long cu, .long nw, .int sp, .ref b1, .ref b2, .ref b3, .ref b4, .long lk, .int cs, .ref b5])), (b1, .inl (i1, 20, .inl g1)), (b2, .inl (i2, 20, .inl g2)), (b3, .inl (i3, 20, .inl g3))]) [0, 1, 2, 3] rfl
        have hD9 := hD.sub (ws' := [(h0, .inr (6, [.int co, .int pi, .int sh, .int lo, .int ph, .int di, .long lm, .long en, .long la, .long cu, .long nw, .int sp, .ref b1, .ref b2, .ref b3, .ref b4, .long lk, .int cs, .ref b5])), (b1, .inl (i1, 20, .inl g1)), (b2, .inl (i2, 20, .inl g2)), (b3, .inl (i3, 20, .inl g3))]) [0, 1, 2, 3] (by decide) rfl
        have hK9 := hK.sub (tys' := [(i1, .int), (i2, .int), (i3, .int)]) [0, 1, 2] rfl
        exact W.iret (v := (-1)) hx hb hr (fun t ht hW => ⟨⟨(-1), (), rfl, po_0 c_8 h_e, by rw [ht]; exact hP9, va_K.moved hW.alike hK9, hD9⟩, hS.F ht⟩) hS.2.2 d_Mo_priceOf_45
      · skip
        refine lv_iload_n hx hb d_Mo_priceOf_11 rfl (lv_at hl 1 rfl) ?_
        refine lv_aload_n hx hb d_Mo_priceOf_12 rfl (lv_at hl 0 rfl) ?_
        refine va_get (D := (dC, dI)) (ci := 6) (v := .ref b1) (C := R_Mo) (T := F_Mo) (N := 19) hx hb hB inC_Mo hown hK hP 0 rfl rfl 12 (by decide) (hB _ kb_239) (fun _ h9 => h9) rfl d_Mo_priceOf_13 ?_
        refine lv_iload_n hx hb d_Mo_priceOf_16 rfl (lv_at hl 2 rfl) ?_
        have h_17 : vp_in kk 20 := vinK c_8 h_k
        refine va_iald hx hb hK hP 1 0 rfl rfl h_17 d_Mo_priceOf_17 ?_
        refine lv_topi (fun x_17 ex_17 => ?_)
        refine lv_icmp_lt (tgt := 38) hx hb d_Mo_priceOf_18 (by decide) (fun c_18 => ?_) (fun c_18 => ?_)
        · skip
          obtain ⟨x_38, ex_38⟩ : ∃ y : Int32, y = kk + (-1) := ⟨_, rfl⟩
          refine lv_iinc (v := x_38) (lv' := [(2, .int x_38), (0, .ref h0), (1, .int p0)]) hx hb d_Mo_priceOf_38 hl (k := 2) rfl (by rw [ex_38]; rfl) (by decide) rfl (fun ls hl => ?_)
          refine lv_goto (tgt := 7) hx hb d_Mo_priceOf_41 (by decide) ?_
          exact ih x_38 _ _ _ ((kd c_8 h_k ex_38).1) (po_n (a := 0) c_8 h_k h_e (fun h => absurd h.1 (Int32.not_le.mpr (by rw [← ex_17]; exact c_18))) ex_38) (by have h9 := (kd c_8 h_k ex_38).2; omega) (hP.sub [0, 1, 2, 3] rfl) (hD.sub [0, 1, 2, 3] (by decide) rfl) hS (lv_sub hl [1, 2, 0] rfl)
        · skip
          refine lv_iload_n hx hb d_Mo_priceOf_21 rfl (lv_at hl 1 rfl) ?_
          refine lv_aload_n hx hb d_Mo_priceOf_22 rfl (lv_at hl 0 rfl) ?_
          refine va_get (D := (dC, dI)) (ci := 6) (v := .ref b2) (C := R_Mo) (T := F_Mo) (N := 19) hx hb hB inC_Mo hown hK hP 0 rfl rfl 13 (by decide) (hB _ kb_240) (fun _ h9 => h9) rfl d_Mo_priceOf_23 ?_
          refine lv_iload_n hx hb d_Mo_priceOf_26 rfl (lv_at hl 2 rfl) ?_
          have h_27 : vp_in kk 20 := vinK c_8 h_k
          refine va_iald hx hb hK hP 2 1 rfl rfl h_27 d_Mo_priceOf_27 ?_
          refine lv_topi (fun x_27 ex_27 => ?_)
          refine lv_icmp_ge (tgt := 38) hx hb d_Mo_priceOf_28 (by decide) (fun c_28 => ?_) (fun c_28 => ?_)
          · skip
            obtain ⟨x_38, ex_38⟩ : ∃ y : Int32, y = kk + (-1) := ⟨_, rfl⟩
            refine lv_iinc (v := x_38) (lv' := [(2, .int x_38), (0, .ref h0), (1, .int p0)]) hx hb d_Mo_priceOf_38 hl (k := 2) rfl (by rw [ex_38]; rfl) (by decide) rfl (fun ls hl => ?_)
            refine lv_goto (tgt := 7) hx hb d_Mo_priceOf_41 (by decide) ?_
            exact ih x_38 _ _ _ ((kd c_8 h_k ex_38).1) (po_n (a := 0) c_8 h_k h_e (fun h => absurd h.2 (Int32.not_lt.mpr (by rw [← ex_27]; exact c_28))) ex_38) (by have h9 := (kd c_8 h_k ex_38).2; omega) (hP.sub [0, 1, 2, 3] rfl) (hD.sub [0, 1, 2, 3] (by decide) rfl) hS (lv_sub hl [1, 2, 0] rfl)
          · skip
            refine lv_aload_n hx hb d_Mo_priceOf_31 rfl (lv_at hl 0 rfl) ?_
            refine va_get (D := (dC, dI)) (ci := 6) (v := .ref b3) (C := R_Mo) (T := F_Mo) (N := 19) hx hb hB inC_Mo hown hK hP 0 rfl rfl 14 (by decide) (hB _ kb_241) (fun _ h9 => h9) rfl d_Mo_priceOf_32 ?_
            refine lv_iload_n hx hb d_Mo_priceOf_35 rfl (lv_at hl 2 rfl) ?_
            have h_36 : vp_in kk 20 := vinK c_8 h_k
            refine va_iald hx hb hK hP 3 2 rfl rfl h_36 d_Mo_priceOf_36 ?_
            refine lv_topi (fun x_36 ex_36 => ?_)
            have hP9 := hP.sub (ws' := [(h0, .inr (6, [.int co, .int pi, .int sh, .int lo, .int ph, .int di, .long lm, .long en, .long la, .long cu, .long nw, .int sp, .ref b1, .ref b2, .ref b3, .ref b4, .long lk, .int cs, .ref b5])), (b1, .inl (i1, 20, .inl g1)), (b2, .inl (i2, 20, .inl g2)), (b3, .inl (i3, 20, .inl g3))]) [0, 1, 2, 3] rfl
            have hD9 := hD.sub (ws' := [(h0, .inr (6, [.int co, .int pi, .int sh, .int lo, .int ph, .int di, .long lm, .long en, .long la, .long cu, .long nw, .int sp, .ref b1, .ref b2, .ref b3, .ref b4, .long lk, .int cs, .ref b5])), (b1, .inl (i1, 20, .inl g1)), (b2, .inl (i2, 20, .inl g2)), (b3, .inl (i3, 20, .inl g3))]) [0, 1, 2, 3] (by decide) rfl
            have hK9 := hK.sub (tys' := [(i1, .int), (i2, .int), (i3, .int)]) [0, 1, 2] rfl
            exact W.iret (v := x_36) hx hb hr (fun t ht hW => ⟨⟨x_36, (), rfl, po_y c_8 h_e ex_17 ex_27 ex_36 c_18 c_28, by rw [ht]; exact hP9, va_K.moved hW.alike hK9, hD9⟩, hS.F ht⟩) hS.2.2 d_Mo_priceOf_37
  refine lv_aload_n hx hb d_Mo_priceOf_0 rfl (lv_at hl 0 rfl) ?_
  refine va_get (D := (dC, dI)) (ci := 6) (v := .int sp) (C := R_Mo) (T := F_Mo) (N := 19) hx hb hB inC_Mo hown hK hP 0 rfl rfl 11 (by decide) (hB _ kb_287) (fun _ h9 => h9) rfl d_Mo_priceOf_1 ?_
  refine lv_iconst (v := 1) hx hb d_Mo_priceOf_4 (by decide) ?_
  refine lv_isub hx hb d_Mo_priceOf_5 ?_
  refine lv_topi (fun x_5 ex_5 => ?_)
  refine lv_istore_n (lv' := [(2, .int x_5), (0, .ref h0), (1, .int p0)]) hx hb d_Mo_priceOf_6 rfl hl (by decide) rfl (fun ls hl => ?_)
  exact (cut 22) x_5 _ _ _ ((sp1 hs0 hs1 ex_5).1) (po_s hs0 hs1 ex_5) ((sp1 hs0 hs1 ex_5).2) (hP.sub [0, 1, 2, 3] rfl) (hD.sub [0, 1, 2, 3] (by decide) rfl) hS (lv_sub hl [1, 2, 0] rfl)
set_option maxHeartbeats 4000000 in
set_option maxRecDepth 100000 in
theorem c_Mo_short0 (l : Launch) (dC : Nat → ClassId) (dI : Nat → Nat → Nat) (h0 : Nat) (b1 : Nat) (b2 : Nat) (b3 : Nat) (b4 : Nat) (b5 : Nat) (sz : Nat) (co : Int32) (pi : Int32) (sh : Int32) (lo : Int32) (ph : Int32) (di : Int32) (lm : Int64) (en : Int64) (la : Int64) (cu : Int64) (nw : Int64) (sp : Int32) (lk : Int64) (cs : Int32) : Met l y_Mo_short0 w_Mo_short0 ({ frames := 0, cells := 0, slots := 0, locals := 0 }) (cPre dC dI [.ref h0] sz [] [(h0, .inr (6, [.int co, .int pi, .int sh, .int lo, .int ph, .int di, .long lm, .long en, .long la, .long cu, .long nw, .int sp, .ref b1, .ref b2, .ref b3, .ref b4, .long lk, .int cs, .ref b5]))]) (va_Ql (fun (r : Int64) (u : Int32) => r = lk) (fun (u : Int32) (t : State) => cB dC dI (va_A [(h0, .inr (6, [.int co, .int pi, .int sh, .int lo, .int ph, .int di, .long lm, .long en, .long la, .long cu, .long nw, .int sp, .ref b1, .ref b2, .ref b3, .ref b4, .long lk, .int cs, .ref b5]))] sz) [] [(h0, .inr (6, [.int u, .int pi, .int sh, .int lo, .int ph, .int di, .long lm, .long en, .long la, .long cu, .long nw, .int sp, .ref b1, .ref b2, .ref b3, .ref b4, .long lk, .int cs, .ref b5]))] t) (va_A [(h0, .inr (6, [.int co, .int pi, .int sh, .int lo, .int ph, .int di, .long lm, .long en, .long la, .long cu, .long nw, .int sp, .ref b1, .ref b2, .ref b3, .ref b4, .long lk, .int cs, .ref b5]))] sz)) 0 0 (va_A [(h0, .inr (6, [.int co, .int pi, .int sh, .int lo, .int ph, .int di, .long lm, .long en, .long la, .long cu, .long nw, .int sp, .ref b1, .ref b2, .ref b3, .ref b4, .long lk, .int cs, .ref b5]))] sz) := by
  refine Met.ofW (cc := b_Mo_short0) (maxL := 1) (ret := (some .long)) (by decide) rfl ?_
  intro p e s m args below meth c s₁ B hml hv
  obtain ⟨rfl, hsz, hN, hP, hK, hD0⟩ := hv
  have hx := B.exec
  have hb := B.bytes
  have hr := B.returns
  have hts := atoms_spec (ws := w_Mo_short0) B.pre
  have hB := big_of hts
  have hown : s.vm.findClass R_Mo = some m.cls := findClass_of_methodNamed B.named
  have hlocks := B.notSynchronized
  subst hsz
  have hD := hD0.self (sz := s.heap.size)
  generalize hAe : va_A [(h0, .inr (6, [.int co, .int pi, .int sh, .int lo, .int ph, .int di, .long lm, .long en, .long la, .long cu, .long nw, .int sp, .ref b1, .ref b2, .ref b3, .ref b4, .long lk, .int cs, .ref b5]))] s.heap.size = A at hD ⊢
  have hA : ∀ q : Nat, s.heap.size ≤ q → A q := fun q h => by rw [← hAe]; exact Or.inr h
  have hS : va_S A s.heap s.heap [] := va_S.rf
  have hP : va_P (dC, dI) classes [(h0, .inr (6, [.int co, .int pi, .int sh, .int lo, .int ph, .int di, .long lm, .long en, .long la, .long cu, .long nw, .int sp, .ref b1, .ref b2, .ref b3, .ref b4, .long lk, .int cs, .ref b5]))] s.heap := hP
  have hl := lv_entry ([.ref h0]) (n := 1) (Nat.le_of_ble_eq_true rfl)
  rw [lg_entry_eq]
  generalize (lg_sl ([.ref h0]) ++ List.replicate (1 - (lg_sl ([.ref h0])).length) Slot.unset).toArray = ls at hl ⊢
  have hl : lv_has ls 1 [(0, .ref h0)] := hl
  refine lv_aload_n hx hb d_Mo_short0_0 rfl (lv_at hl 0 rfl) ?_
  refine lv_iconst (v := 0) hx hb d_Mo_short0_1 (by decide) ?_
  refine va_put (D := (dC, dI)) (ci := 6) (v := .int 0) (ty := .int) (C := R_Mo) (T := F_Mo) (N := 19) hx hb hB inC_Mo t_Mo t_Mo_ok n_Mo hown hK hP hD hS 0 rfl rfl 0 (by decide) (hB _ kb_245) (fun _ h9 => h9) rfl (by decide +kernel) rfl rfl (Nat.le_of_ble_eq_true rfl) d_Mo_short0_2 (fun H locs hP hD hS => ?_)
  have hP : va_P (dC, dI) classes [(h0, .inr (6, [.int 0, .int pi, .int sh, .int lo, .int ph, .int di, .long lm, .long en, .long la, .long cu, .long nw, .int sp, .ref b1, .ref b2, .ref b3, .ref b4, .long lk, .int cs, .ref b5]))] H := hP
  have hD : va_D A [(h0, .inr (6, [.int 0, .int pi, .int sh, .int lo, .int ph, .int di, .long lm, .long en, .long la, .long cu, .long nw, .int sp, .ref b1, .ref b2, .ref b3, .ref b4, .long lk, .int cs, .ref b5]))] := hD
  refine lv_aload_n hx hb d_Mo_short0_5 rfl (lv_at hl 0 rfl) ?_
  refine va_get (D := (dC, dI)) (ci := 6) (v := .long lk) (C := R_Mo) (T := F_Mo) (N := 19) hx hb hB inC_Mo hown hK hP 0 rfl rfl 16 (by decide) (hB _ kb_288) (fun _ h9 => h9) rfl d_Mo_short0_6 ?_
  have hP9 := hP.sub (ws' := [(h0, .inr (6, [.int 0, .int pi, .int sh, .int lo, .int ph, .int di, .long lm, .long en, .long la, .long cu, .long nw, .int sp, .ref b1, .ref b2, .ref b3, .ref b4, .long lk, .int cs, .ref b5]))]) [0] rfl
  have hD9 := hD.sub (ws' := [(h0, .inr (6, [.int 0, .int pi, .int sh, .int lo, .int ph, .int di, .long lm, .long en, .long la, .long cu, .long nw, .int sp, .ref b1, .ref b2, .ref b3, .ref b4, .long lk, .int cs, .ref b5]))]) [0] (by decide) rfl
  have hK9 := hK.sub (tys' := []) [] rfl
  exact W.lret (v := lk) hx hb hr (fun t ht hW => ⟨⟨lk, (0), rfl, rfl, by rw [ht]; exact hP9, va_K.moved hW.alike hK9, hD9⟩, hS.F ht⟩) hS.2.2 d_Mo_short0_9
set_option maxHeartbeats 4000000 in
set_option maxRecDepth 100000 in
theorem c_Mo_planned (l : Launch) (dC : Nat → ClassId) (dI : Nat → Nat → Nat) (h0 : Nat) (b1 : Nat) (b2 : Nat) (b3 : Nat) (b4 : Nat) (b5 : Nat) (i4 : ClassId) (sz : Nat) (co : Int32) (pi : Int32) (sh : Int32) (lo : Int32) (ph : Int32) (di : Int32) (lm : Int64) (en : Int64) (la : Int64) (cu : Int64) (nw : Int64) (sp : Int32) (lk : Int64) (cs : Int32) (g4 : Nat → Int64) (p0 : Int64) : Met l y_Mo_planned w_Mo_planned ({ frames := 0, cells := 0, slots := 0, locals := 0 }) (cPre dC dI [.ref h0, .long p0] sz [(i4, .long)] [(h0, .inr (6, [.int co, .int pi, .int sh, .int lo, .int ph, .int di, .long lm, .long en, .long la, .long cu, .long nw, .int sp, .ref b1, .ref b2, .ref b3, .ref b4, .long lk, .int cs, .ref b5])), (b4, .inl (i4, 1440, .inr (.inl g4)))]) (va_Ql (fun (r : Int64) (u : Int32) => r = if ¬ p0 < 0 ∧ p0 ≤ 1439 then g4 p0.toInt32.toNatClampNeg else 0) (fun (u : Int32) (t : State) => cB dC dI (va_A [(h0, .inr (6, [.int co, .int pi, .int sh, .int lo, .int ph, .int di, .long lm, .long en, .long la, .long cu, .long nw, .int sp, .ref b1, .ref b2, .ref b3, .ref b4, .long lk, .int cs, .ref b5])), (b4, .inl (i4, 1440, .inr (.inl g4)))] sz) [(i4, .long)] [(h0, .inr (6, [.int u, .int pi, .int sh, .int lo, .int ph, .int di, .long lm, .long en, .long la, .long cu, .long nw, .int sp, .ref b1, .ref b2, .ref b3, .ref b4, .long lk, .int cs, .ref b5])), (b4, .inl (i4, 1440, .inr (.inl g4)))] t) (va_A [(h0, .inr (6, [.int co, .int pi, .int sh, .int lo, .int ph, .int di, .long lm, .long en, .long la, .long cu, .long nw, .int sp, .ref b1, .ref b2, .ref b3, .ref b4, .long lk, .int cs, .ref b5])), (b4, .inl (i4, 1440, .inr (.inl g4)))] sz)) 0 0 (va_A [(h0, .inr (6, [.int co, .int pi, .int sh, .int lo, .int ph, .int di, .long lm, .long en, .long la, .long cu, .long nw, .int sp, .ref b1, .ref b2, .ref b3, .ref b4, .long lk, .int cs, .ref b5])), (b4, .inl (i4, 1440, .inr (.inl g4)))] sz) := by
  refine Met.ofW (cc := b_Mo_planned) (maxL := 3) (ret := (some .long)) (by decide) rfl ?_
  intro p e s m args below meth c s₁ B hml hv
  obtain ⟨rfl, hsz, hN, hP, hK, hD0⟩ := hv
  have hx := B.exec
  have hb := B.bytes
  have hr := B.returns
  have hts := atoms_spec (ws := w_Mo_planned) B.pre
  have hB := big_of hts
  have hown : s.vm.findClass R_Mo = some m.cls := findClass_of_methodNamed B.named
  have hlocks := B.notSynchronized
  subst hsz
  have hD := hD0.self (sz := s.heap.size)
  generalize hAe : va_A [(h0, .inr (6, [.int co, .int pi, .int sh, .int lo, .int ph, .int di, .long lm, .long en, .long la, .long cu, .long nw, .int sp, .ref b1, .ref b2, .ref b3, .ref b4, .long lk, .int cs, .ref b5])), (b4, .inl (i4, 1440, .inr (.inl g4)))] s.heap.size = A at hD ⊢
  have hA : ∀ q : Nat, s.heap.size ≤ q → A q := fun q h => by rw [← hAe]; exact Or.inr h
  have hS : va_S A s.heap s.heap [] := va_S.rf
  have hP : va_P (dC, dI) classes [(h0, .inr (6, [.int co, .int pi, .int sh, .int lo, .int ph, .int di, .long lm, .long en, .long la, .long cu, .long nw, .int sp, .ref b1, .ref b2, .ref b3, .ref b4, .long lk, .int cs, .ref b5])), (b4, .inl (i4, 1440, .inr (.inl g4)))] s.heap := hP
  have hl := lv_entry ([.ref h0, .long p0]) (n := 3) (Nat.le_of_ble_eq_true rfl)
  rw [lg_entry_eq]
  generalize (lg_sl ([.ref h0, .long p0]) ++ List.replicate (3 - (lg_sl ([.ref h0, .long p0])).length) Slot.unset).toArray = ls at hl ⊢
  have hl : lv_has ls 3 [(0, .ref h0), (1, .long p0)] := hl
  refine lv_aload_n hx hb d_Mo_planned_0 rfl (lv_at hl 0 rfl) ?_
  refine lv_iconst (v := 0) hx hb d_Mo_planned_1 (by decide) ?_
  refine va_put (D := (dC, dI)) (ci := 6) (v := .int 0) (ty := .int) (C := R_Mo) (T := F_Mo) (N := 19) hx hb hB inC_Mo t_Mo t_Mo_ok n_Mo hown hK hP hD hS 0 rfl rfl 0 (by decide) (hB _ kb_245) (fun _ h9 => h9) rfl (by decide +kernel) rfl rfl (Nat.le_of_ble_eq_true rfl) d_Mo_planned_2 (fun H locs hP hD hS => ?_)
  have hP : va_P (dC, dI) classes [(h0, .inr (6, [.int 0, .int pi, .int sh, .int lo, .int ph, .int di, .long lm, .long en, .long la, .long cu, .long nw, .int sp, .ref b1, .ref b2, .ref b3, .ref b4, .long lk, .int cs, .ref b5])), (b4, .inl (i4, 1440, .inr (.inl g4)))] H := hP
  have hD : va_D A [(h0, .inr (6, [.int 0, .int pi, .int sh, .int lo, .int ph, .int di, .long lm, .long en, .long la, .long cu, .long nw, .int sp, .ref b1, .ref b2, .ref b3, .ref b4, .long lk, .int cs, .ref b5])), (b4, .inl (i4, 1440, .inr (.inl g4)))] := hD
  refine lv_lload_n hx hb d_Mo_planned_5 rfl (lv_at hl 1 rfl) ?_
  refine lv_lconst (v := 0) hx hb d_Mo_planned_6 (by decide) ?_
  refine W.lcmp hx hb d_Mo_planned_7 ?_
  refine lv_if_lt (tgt := 19) hx hb d_Mo_planned_8 (by decide) (fun c_8 => ?_) (fun c_8 => ?_)
  · have c_8 := (lg_cmp_lt _ _).mp c_8
    refine lv_lconst (v := 0) hx hb d_Mo_planned_19 (by decide) ?_
    refine lv_goto (tgt := 30) hx hb d_Mo_planned_20 (by decide) ?_
    have hP9 := hP.sub (ws' := [(h0, .inr (6, [.int 0, .int pi, .int sh, .int lo, .int ph, .int di, .long lm, .long en, .long la, .long cu, .long nw, .int sp, .ref b1, .ref b2, .ref b3, .ref b4, .long lk, .int cs, .ref b5])), (b4, .inl (i4, 1440, .inr (.inl g4)))]) [0, 1] rfl
    have hD9 := hD.sub (ws' := [(h0, .inr (6, [.int 0, .int pi, .int sh, .int lo, .int ph, .int di, .long lm, .long en, .long la, .long cu, .long nw, .int sp, .ref b1, .ref b2, .ref b3, .ref b4, .long lk, .int cs, .ref b5])), (b4, .inl (i4, 1440, .inr (.inl g4)))]) [0, 1] (by decide) rfl
    have hK9 := hK.sub (tys' := [(i4, .long)]) [0] rfl
    exact W.lret (v := 0) hx hb hr (fun t ht hW => ⟨⟨0, (0), rfl, (if_neg (fun h => h.1 c_8)).symm, by rw [ht]; exact hP9, va_K.moved hW.alike hK9, hD9⟩, hS.F ht⟩) hS.2.2 d_Mo_planned_30
  · have c_8 := mt (lg_cmp_lt _ _).mpr c_8
    refine lv_lload_n hx hb d_Mo_planned_11 rfl (lv_at hl 1 rfl) ?_
    refine lv_ldc2 (v := 1439) hx hb hown (hB _ kb_294) d_Mo_planned_12 ?_
    refine W.lcmp hx hb d_Mo_planned_15 ?_
    refine lv_if_le (tgt := 23) hx hb d_Mo_planned_16 (by decide) (fun c_16 => ?_) (fun c_16 => ?_)
    · have c_16 := (lg_cmp_le _ _).mp c_16
      refine lv_aload_n hx hb d_Mo_planned_23 rfl (lv_at hl 0 rfl) ?_
      refine va_get (D := (dC, dI)) (ci := 6) (v := .ref b4) (C := R_Mo) (T := F_Mo) (N := 19) hx hb hB inC_Mo hown hK hP 0 rfl rfl 15 (by decide) (hB _ kb_242) (fun _ h9 => h9) rfl d_Mo_planned_24 ?_
      refine lv_lload_n hx hb d_Mo_planned_27 rfl (lv_at hl 1 rfl) ?_
      refine lv_l2i hx hb d_Mo_planned_28 rfl ?_
      refine lv_topi (fun x_28 ex_28 => ?_)
      have h_29 : vp_in x_28 1440 := vinL 0 c_8 (le6 c_16) (by decide) ex_28
      refine va_lald hx hb hK hP 1 0 rfl rfl h_29 d_Mo_planned_29 ?_
      refine lv_topl (fun x_29 ex_29 => ?_)
      have hP9 := hP.sub (ws' := [(h0, .inr (6, [.int 0, .int pi, .int sh, .int lo, .int ph, .int di, .long lm, .long en, .long la, .long cu, .long nw, .int sp, .ref b1, .ref b2, .ref b3, .ref b4, .long lk, .int cs, .ref b5])), (b4, .inl (i4, 1440, .inr (.inl g4)))]) [0, 1] rfl
      have hD9 := hD.sub (ws' := [(h0, .inr (6, [.int 0, .int pi, .int sh, .int lo, .int ph, .int di, .long lm, .long en, .long la, .long cu, .long nw, .int sp, .ref b1, .ref b2, .ref b3, .ref b4, .long lk, .int cs, .ref b5])), (b4, .inl (i4, 1440, .inr (.inl g4)))]) [0, 1] (by decide) rfl
      have hK9 := hK.sub (tys' := [(i4, .long)]) [0] rfl
      exact W.lret (v := x_29) hx hb hr (fun t ht hW => ⟨⟨x_29, (0), rfl, by rw [if_pos ⟨c_8, c_16⟩, ex_29, ex_28], by rw [ht]; exact hP9, va_K.moved hW.alike hK9, hD9⟩, hS.F ht⟩) hS.2.2 d_Mo_planned_30
    · have c_16 := mt (lg_cmp_le _ _).mpr c_16
      refine lv_lconst (v := 0) hx hb d_Mo_planned_19 (by decide) ?_
      refine lv_goto (tgt := 30) hx hb d_Mo_planned_20 (by decide) ?_
      have hP9 := hP.sub (ws' := [(h0, .inr (6, [.int 0, .int pi, .int sh, .int lo, .int ph, .int di, .long lm, .long en, .long la, .long cu, .long nw, .int sp, .ref b1, .ref b2, .ref b3, .ref b4, .long lk, .int cs, .ref b5])), (b4, .inl (i4, 1440, .inr (.inl g4)))]) [0, 1] rfl
      have hD9 := hD.sub (ws' := [(h0, .inr (6, [.int 0, .int pi, .int sh, .int lo, .int ph, .int di, .long lm, .long en, .long la, .long cu, .long nw, .int sp, .ref b1, .ref b2, .ref b3, .ref b4, .long lk, .int cs, .ref b5])), (b4, .inl (i4, 1440, .inr (.inl g4)))]) [0, 1] (by decide) rfl
      have hK9 := hK.sub (tys' := [(i4, .long)]) [0] rfl
      exact W.lret (v := 0) hx hb hr (fun t ht hW => ⟨⟨0, (0), rfl, (if_neg (fun h => c_16 h.2)).symm, by rw [ht]; exact hP9, va_K.moved hW.alike hK9, hD9⟩, hS.F ht⟩) hS.2.2 d_Mo_planned_30
set_option maxHeartbeats 4000000 in
set_option maxRecDepth 100000 in
theorem c_Mo_car (l : Launch) (dC : Nat → ClassId) (dI : Nat → Nat → Nat) (h0 : Nat) (b1 : Nat) (b2 : Nat) (b3 : Nat) (b4 : Nat) (b5 : Nat) (i5 : ClassId) (sz : Nat) (co : Int32) (pi : Int32) (sh : Int32) (lo : Int32) (ph : Int32) (di : Int32) (lm : Int64) (en : Int64) (la : Int64) (cu : Int64) (nw : Int64) (sp : Int32) (lk : Int64) (cs : Int32) (g5 : Nat → Int32) (p0 : Int32) (hc0 : 0 ≤ cs.toInt) (hc1 : cs.toInt ≤ 10) : Met l y_Mo_car w_Mo_car ({ frames := 0, cells := 0, slots := 0, locals := 0 }) (cPre dC dI [.ref h0, .int p0] sz [(i5, .int)] [(h0, .inr (6, [.int co, .int pi, .int sh, .int lo, .int ph, .int di, .long lm, .long en, .long la, .long cu, .long nw, .int sp, .ref b1, .ref b2, .ref b3, .ref b4, .long lk, .int cs, .ref b5])), (b5, .inl (i5, 11, .inl g5))]) (va_Qi (fun (r : Int32) (u : Int32 × Int32 × (Nat → Int32)) => (¬ (0 ≤ p0 ∧ p0 ≤ 1000) → r = -2 ∧ u.2.1 = cs ∧ u.2.2 = g5) ∧ (0 ≤ p0 ∧ p0 ≤ 1000 → cs = 10 → r = -4 ∧ u.2.1 = cs ∧ u.2.2 = g5) ∧ (0 ≤ p0 ∧ p0 ≤ 1000 → ¬ cs = 10 → r = cs + 1 ∧ u.2.1 = cs + 1 ∧ u.2.2 = upd g5 (cs + 1).toNatClampNeg p0)) (fun (u : Int32 × Int32 × (Nat → Int32)) (t : State) => cB dC dI (va_A [(h0, .inr (6, [.int co, .int pi, .int sh, .int lo, .int ph, .int di, .long lm, .long en, .long la, .long cu, .long nw, .int sp, .ref b1, .ref b2, .ref b3, .ref b4, .long lk, .int cs, .ref b5])), (b5, .inl (i5, 11, .inl g5))] sz) [(i5, .int)] [(h0, .inr (6, [.int u.1, .int pi, .int sh, .int lo, .int ph, .int di, .long lm, .long en, .long la, .long cu, .long nw, .int sp, .ref b1, .ref b2, .ref b3, .ref b4, .long lk, .int u.2.1, .ref b5])), (b5, .inl (i5, 11, .inl (u.2.2)))] t) (va_A [(h0, .inr (6, [.int co, .int pi, .int sh, .int lo, .int ph, .int di, .long lm, .long en, .long la, .long cu, .long nw, .int sp, .ref b1, .ref b2, .ref b3, .ref b4, .long lk, .int cs, .ref b5])), (b5, .inl (i5, 11, .inl g5))] sz)) 0 0 (va_A [(h0, .inr (6, [.int co, .int pi, .int sh, .int lo, .int ph, .int di, .long lm, .long en, .long la, .long cu, .long nw, .int sp, .ref b1, .ref b2, .ref b3, .ref b4, .long lk, .int cs, .ref b5])), (b5, .inl (i5, 11, .inl g5))] sz) := by
  refine Met.ofW (cc := b_Mo_car) (maxL := 2) (ret := (some .int)) (by decide) rfl ?_
  intro p e s m args below meth c s₁ B hml hv
  obtain ⟨rfl, hsz, hN, hP, hK, hD0⟩ := hv
  have hx := B.exec
  have hb := B.bytes
  have hr := B.returns
  have hts := atoms_spec (ws := w_Mo_car) B.pre
  have hB := big_of hts
  have hown : s.vm.findClass R_Mo = some m.cls := findClass_of_methodNamed B.named
  have hlocks := B.notSynchronized
  subst hsz
  have hD := hD0.self (sz := s.heap.size)
  generalize hAe : va_A [(h0, .inr (6, [.int co, .int pi, .int sh, .int lo, .int ph, .int di, .long lm, .long en, .long la, .long cu, .long nw, .int sp, .ref b1, .ref b2, .ref b3, .ref b4, .long lk, .int cs, .ref b5])), (b5, .inl (i5, 11, .inl g5))] s.heap.size = A at hD ⊢
  have hA : ∀ q : Nat, s.heap.size ≤ q → A q := fun q h => by rw [← hAe]; exact Or.inr h
  have hS : va_S A s.heap s.heap [] := va_S.rf
  have hP : va_P (dC, dI) classes [(h0, .inr (6, [.int co, .int pi, .int sh, .int lo, .int ph, .int di, .long lm, .long en, .long la, .long cu, .long nw, .int sp, .ref b1, .ref b2, .ref b3, .ref b4, .long lk, .int cs, .ref b5])), (b5, .inl (i5, 11, .inl g5))] s.heap := hP
  have hl := lv_entry ([.ref h0, .int p0]) (n := 2) (Nat.le_of_ble_eq_true rfl)
  rw [lg_entry_eq]
  generalize (lg_sl ([.ref h0, .int p0]) ++ List.replicate (2 - (lg_sl ([.ref h0, .int p0])).length) Slot.unset).toArray = ls at hl ⊢
  have hl : lv_has ls 2 [(0, .ref h0), (1, .int p0)] := hl
  refine lv_aload_n hx hb d_Mo_car_0 rfl (lv_at hl 0 rfl) ?_
  refine lv_iconst (v := 0) hx hb d_Mo_car_1 (by decide) ?_
  refine va_put (D := (dC, dI)) (ci := 6) (v := .int 0) (ty := .int) (C := R_Mo) (T := F_Mo) (N := 19) hx hb hB inC_Mo t_Mo t_Mo_ok n_Mo hown hK hP hD hS 0 rfl rfl 0 (by decide) (hB _ kb_245) (fun _ h9 => h9) rfl (by decide +kernel) rfl rfl (Nat.le_of_ble_eq_true rfl) d_Mo_car_2 (fun H locs hP hD hS => ?_)
  have hP : va_P (dC, dI) classes [(h0, .inr (6, [.int 0, .int pi, .int sh, .int lo, .int ph, .int di, .long lm, .long en, .long la, .long cu, .long nw, .int sp, .ref b1, .ref b2, .ref b3, .ref b4, .long lk, .int cs, .ref b5])), (b5, .inl (i5, 11, .inl g5))] H := hP
  have hD : va_D A [(h0, .inr (6, [.int 0, .int pi, .int sh, .int lo, .int ph, .int di, .long lm, .long en, .long la, .long cu, .long nw, .int sp, .ref b1, .ref b2, .ref b3, .ref b4, .long lk, .int cs, .ref b5])), (b5, .inl (i5, 11, .inl g5))] := hD
  refine lv_iload_n hx hb d_Mo_car_5 rfl (lv_at hl 1 rfl) ?_
  refine lv_if_lt (tgt := 16) hx hb d_Mo_car_6 (by decide) (fun c_6 => ?_) (fun c_6 => ?_)
  · skip
    refine lv_bipush (v := (-2)) hx hb d_Mo_car_16 (by decide) ?_
    have hP9 := hP.sub (ws' := [(h0, .inr (6, [.int 0, .int pi, .int sh, .int lo, .int ph, .int di, .long lm, .long en, .long la, .long cu, .long nw, .int sp, .ref b1, .ref b2, .ref b3, .ref b4, .long lk, .int cs, .ref b5])), (b5, .inl (i5, 11, .inl g5))]) [0, 1] rfl
    have hD9 := hD.sub (ws' := [(h0, .inr (6, [.int 0, .int pi, .int sh, .int lo, .int ph, .int di, .long lm, .long en, .long la, .long cu, .long nw, .int sp, .ref b1, .ref b2, .ref b3, .ref b4, .long lk, .int cs, .ref b5])), (b5, .inl (i5, 11, .inl g5))]) [0, 1] (by decide) rfl
    have hK9 := hK.sub (tys' := [(i5, .int)]) [0] rfl
    exact W.iret (v := (-2)) hx hb hr (fun t ht hW => ⟨⟨(-2), (0, cs, g5), rfl, ⟨fun _ => ⟨rfl, rfl, rfl⟩, fun h => absurd h.1 (Int32.not_le.mpr c_6), fun h => absurd h.1 (Int32.not_le.mpr c_6)⟩, by rw [ht]; exact hP9, va_K.moved hW.alike hK9, hD9⟩, hS.F ht⟩) hS.2.2 d_Mo_car_18
  · skip
    refine lv_iload_n hx hb d_Mo_car_9 rfl (lv_at hl 1 rfl) ?_
    refine lv_sipush (v := 1000) hx hb d_Mo_car_10 (by decide) ?_
    refine lv_icmp_le (tgt := 19) hx hb d_Mo_car_13 (by decide) (fun c_13 => ?_) (fun c_13 => ?_)
    · skip
      refine lv_aload_n hx hb d_Mo_car_19 rfl (lv_at hl 0 rfl) ?_
      refine va_get (D := (dC, dI)) (ci := 6) (v := .int cs) (C := R_Mo) (T := F_Mo) (N := 19) hx hb hB inC_Mo hown hK hP 0 rfl rfl 17 (by decide) (hB _ kb_296) (fun _ h9 => h9) rfl d_Mo_car_20 ?_
      refine lv_bipush (v := 10) hx hb d_Mo_car_23 (by decide) ?_
      refine lv_icmp_ne (tgt := 31) hx hb d_Mo_car_25 (by decide) (fun c_25 => ?_) (fun c_25 => ?_)
      · skip
        refine lv_aload_n hx hb d_Mo_car_31 rfl (lv_at hl 0 rfl) ?_
        refine lv_dup hx hb d_Mo_car_32 rfl ?_
        refine va_get (D := (dC, dI)) (ci := 6) (v := .int cs) (C := R_Mo) (T := F_Mo) (N := 19) hx hb hB inC_Mo hown hK hP 0 rfl rfl 17 (by decide) (hB _ kb_296) (fun _ h9 => h9) rfl d_Mo_car_33 ?_
        refine lv_iconst (v := 1) hx hb d_Mo_car_36 (by decide) ?_
        refine lv_iadd hx hb d_Mo_car_37 ?_
        refine lv_topi (fun x_37 ex_37 => ?_)
        refine va_put (D := (dC, dI)) (ci := 6) (v := .int x_37) (ty := .int) (C := R_Mo) (T := F_Mo) (N := 19) hx hb hB inC_Mo t_Mo t_Mo_ok n_Mo hown hK hP hD hS 0 rfl rfl 17 (by decide) (hB _ kb_296) (fun _ h9 => h9) rfl (by decide +kernel) rfl rfl (Nat.le_of_ble_eq_true rfl) d_Mo_car_38 (fun H locs hP hD hS => ?_)
        have hP : va_P (dC, dI) classes [(h0, .inr (6, [.int 0, .int pi, .int sh, .int lo, .int ph, .int di, .long lm, .long en, .long la, .long cu, .long nw, .int sp, .ref b1, .ref b2, .ref b3, .ref b4, .long lk, .int x_37, .ref b5])), (b5, .inl (i5, 11, .inl g5))] H := hP
        have hD : va_D A [(h0, .inr (6, [.int 0, .int pi, .int sh, .int lo, .int ph, .int di, .long lm, .long en, .long la, .long cu, .long nw, .int sp, .ref b1, .ref b2, .ref b3, .ref b4, .long lk, .int x_37, .ref b5])), (b5, .inl (i5, 11, .inl g5))] := hD
        refine lv_aload_n hx hb d_Mo_car_41 rfl (lv_at hl 0 rfl) ?_
        refine va_get (D := (dC, dI)) (ci := 6) (v := .ref b5) (C := R_Mo) (T := F_Mo) (N := 19) hx hb hB inC_Mo hown hK hP 0 rfl rfl 18 (by decide) (hB _ kb_243) (fun _ h9 => h9) rfl d_Mo_car_42 ?_
        refine lv_aload_n hx hb d_Mo_car_45 rfl (lv_at hl 0 rfl) ?_
        refine va_get (D := (dC, dI)) (ci := 6) (v := .int x_37) (C := R_Mo) (T := F_Mo) (N := 19) hx hb hB inC_Mo hown hK hP 0 rfl rfl 17 (by decide) (hB _ kb_296) (fun _ h9 => h9) rfl d_Mo_car_46 ?_
        refine lv_iload_n hx hb d_Mo_car_49 rfl (lv_at hl 1 rfl) ?_
        have h_50 : vp_in x_37 11 := vinCs hc0 hc1 c_25 ex_37
        refine va_iast hx hb hK hP hD hS 1 0 rfl rfl h_50 d_Mo_car_50 (fun H locs hP hD hS => ?_)
        obtain ⟨f_50, ef_50⟩ : ∃ y, y = upd g5 x_37.toNatClampNeg p0 := ⟨_, rfl⟩
        rw [← ef_50] at hP hD
        have hP : va_P (dC, dI) classes [(h0, .inr (6, [.int 0, .int pi, .int sh, .int lo, .int ph, .int di, .long lm, .long en, .long la, .long cu, .long nw, .int sp, .ref b1, .ref b2, .ref b3, .ref b4, .long lk, .int x_37, .ref b5])), (b5, .inl (i5, 11, .inl f_50))] H := hP
        have hD : va_D A [(h0, .inr (6, [.int 0, .int pi, .int sh, .int lo, .int ph, .int di, .long lm, .long en, .long la, .long cu, .long nw, .int sp, .ref b1, .ref b2, .ref b3, .ref b4, .long lk, .int x_37, .ref b5])), (b5, .inl (i5, 11, .inl f_50))] := hD
        refine lv_aload_n hx hb d_Mo_car_51 rfl (lv_at hl 0 rfl) ?_
        refine va_get (D := (dC, dI)) (ci := 6) (v := .int x_37) (C := R_Mo) (T := F_Mo) (N := 19) hx hb hB inC_Mo hown hK hP 0 rfl rfl 17 (by decide) (hB _ kb_296) (fun _ h9 => h9) rfl d_Mo_car_52 ?_
        have hP9 := hP.sub (ws' := [(h0, .inr (6, [.int 0, .int pi, .int sh, .int lo, .int ph, .int di, .long lm, .long en, .long la, .long cu, .long nw, .int sp, .ref b1, .ref b2, .ref b3, .ref b4, .long lk, .int x_37, .ref b5])), (b5, .inl (i5, 11, .inl f_50))]) [0, 1] rfl
        have hD9 := hD.sub (ws' := [(h0, .inr (6, [.int 0, .int pi, .int sh, .int lo, .int ph, .int di, .long lm, .long en, .long la, .long cu, .long nw, .int sp, .ref b1, .ref b2, .ref b3, .ref b4, .long lk, .int x_37, .ref b5])), (b5, .inl (i5, 11, .inl f_50))]) [0, 1] (by decide) rfl
        have hK9 := hK.sub (tys' := [(i5, .int)]) [0] rfl
        exact W.iret (v := x_37) hx hb hr (fun t ht hW => ⟨⟨x_37, (0, x_37, f_50), rfl, ⟨fun h => absurd ⟨Int32.not_lt.mp c_6, c_13⟩ h, fun _ h => absurd h c_25, fun _ _ => ⟨ex_37, ex_37, by rw [ef_50, ex_37]⟩⟩, by rw [ht]; exact hP9, va_K.moved hW.alike hK9, hD9⟩, hS.F ht⟩) hS.2.2 d_Mo_car_55
      · skip
        refine lv_bipush (v := (-4)) hx hb d_Mo_car_28 (by decide) ?_
        have hP9 := hP.sub (ws' := [(h0, .inr (6, [.int 0, .int pi, .int sh, .int lo, .int ph, .int di, .long lm, .long en, .long la, .long cu, .long nw, .int sp, .ref b1, .ref b2, .ref b3, .ref b4, .long lk, .int cs, .ref b5])), (b5, .inl (i5, 11, .inl g5))]) [0, 1] rfl
        have hD9 := hD.sub (ws' := [(h0, .inr (6, [.int 0, .int pi, .int sh, .int lo, .int ph, .int di, .long lm, .long en, .long la, .long cu, .long nw, .int sp, .ref b1, .ref b2, .ref b3, .ref b4, .long lk, .int cs, .ref b5])), (b5, .inl (i5, 11, .inl g5))]) [0, 1] (by decide) rfl
        have hK9 := hK.sub (tys' := [(i5, .int)]) [0] rfl
        exact W.iret (v := (-4)) hx hb hr (fun t ht hW => ⟨⟨(-4), (0, cs, g5), rfl, ⟨fun h => absurd ⟨Int32.not_lt.mp c_6, c_13⟩ h, fun _ _ => ⟨rfl, rfl, rfl⟩, fun _ h => absurd c_25 h⟩, by rw [ht]; exact hP9, va_K.moved hW.alike hK9, hD9⟩, hS.F ht⟩) hS.2.2 d_Mo_car_30
    · skip
      refine lv_bipush (v := (-2)) hx hb d_Mo_car_16 (by decide) ?_
      have hP9 := hP.sub (ws' := [(h0, .inr (6, [.int 0, .int pi, .int sh, .int lo, .int ph, .int di, .long lm, .long en, .long la, .long cu, .long nw, .int sp, .ref b1, .ref b2, .ref b3, .ref b4, .long lk, .int cs, .ref b5])), (b5, .inl (i5, 11, .inl g5))]) [0, 1] rfl
      have hD9 := hD.sub (ws' := [(h0, .inr (6, [.int 0, .int pi, .int sh, .int lo, .int ph, .int di, .long lm, .long en, .long la, .long cu, .long nw, .int sp, .ref b1, .ref b2, .ref b3, .ref b4, .long lk, .int cs, .ref b5])), (b5, .inl (i5, 11, .inl g5))]) [0, 1] (by decide) rfl
      have hK9 := hK.sub (tys' := [(i5, .int)]) [0] rfl
      exact W.iret (v := (-2)) hx hb hr (fun t ht hW => ⟨⟨(-2), (0, cs, g5), rfl, ⟨fun _ => ⟨rfl, rfl, rfl⟩, fun h => absurd h.2 c_13, fun h => absurd h.2 c_13⟩, by rw [ht]; exact hP9, va_K.moved hW.alike hK9, hD9⟩, hS.F ht⟩) hS.2.2 d_Mo_car_18
set_option maxHeartbeats 4000000 in
set_option maxRecDepth 100000 in
theorem c_Mo_lost (l : Launch) (dC : Nat → ClassId) (dI : Nat → Nat → Nat) (h0 : Nat) (b1 : Nat) (b2 : Nat) (b3 : Nat) (b4 : Nat) (b5 : Nat) (sz : Nat) (co : Int32) (pi : Int32) (sh : Int32) (lo : Int32) (ph : Int32) (di : Int32) (lm : Int64) (en : Int64) (la : Int64) (cu : Int64) (nw : Int64) (sp : Int32) (lk : Int64) (cs : Int32) (p0 : Int64) : Met l y_Mo_lost w_Mo_lost ({ frames := 1, cells := 0, slots := 0, locals := 22 }) (cPre dC dI [.ref h0, .long p0] sz [] [(h0, .inr (6, [.int co, .int pi, .int sh, .int lo, .int ph, .int di, .long lm, .long en, .long la, .long cu, .long nw, .int sp, .ref b1, .ref b2, .ref b3, .ref b4, .long lk, .int cs, .ref b5]))]) (va_Qi (fun (r : Int32) (u : Int32 × Int64 × Int32) => True) (fun (u : Int32 × Int64 × Int32) (t : State) => cB dC dI (va_A [(h0, .inr (6, [.int co, .int pi, .int sh, .int lo, .int ph, .int di, .long lm, .long en, .long la, .long cu, .long nw, .int sp, .ref b1, .ref b2, .ref b3, .ref b4, .long lk, .int cs, .ref b5]))] sz) [] [(h0, .inr (6, [.int u.1, .int pi, .int sh, .int lo, .int u.2.2, .int di, .long lm, .long en, .long la, .long cu, .long u.2.1, .int sp, .ref b1, .ref b2, .ref b3, .ref b4, .long lk, .int cs, .ref b5]))] t) (va_A [(h0, .inr (6, [.int co, .int pi, .int sh, .int lo, .int ph, .int di, .long lm, .long en, .long la, .long cu, .long nw, .int sp, .ref b1, .ref b2, .ref b3, .ref b4, .long lk, .int cs, .ref b5]))] sz)) 0 0 (va_A [(h0, .inr (6, [.int co, .int pi, .int sh, .int lo, .int ph, .int di, .long lm, .long en, .long la, .long cu, .long nw, .int sp, .ref b1, .ref b2, .ref b3, .ref b4, .long lk, .int cs, .ref b5]))] sz) := by
  refine Met.ofW (cc := b_Mo_lost) (maxL := 4) (ret := (some .int)) (by decide) rfl ?_
  intro p e s m args below meth c s₁ B hml hv
  obtain ⟨rfl, hsz, hN, hP, hK, hD0⟩ := hv
  have hx := B.exec
  have hb := B.bytes
  have hr := B.returns
  have hts := atoms_spec (ws := w_Mo_lost) B.pre
  have hB := big_of hts
  have hown : s.vm.findClass R_Mo = some m.cls := findClass_of_methodNamed B.named
  have hlocks := B.notSynchronized
  subst hsz
  have hD := hD0.self (sz := s.heap.size)
  generalize hAe : va_A [(h0, .inr (6, [.int co, .int pi, .int sh, .int lo, .int ph, .int di, .long lm, .long en, .long la, .long cu, .long nw, .int sp, .ref b1, .ref b2, .ref b3, .ref b4, .long lk, .int cs, .ref b5]))] s.heap.size = A at hD ⊢
  have hA : ∀ q : Nat, s.heap.size ≤ q → A q := fun q h => by rw [← hAe]; exact Or.inr h
  have hS : va_S A s.heap s.heap [] := va_S.rf
  have hP : va_P (dC, dI) classes [(h0, .inr (6, [.int co, .int pi, .int sh, .int lo, .int ph, .int di, .long lm, .long en, .long la, .long cu, .long nw, .int sp, .ref b1, .ref b2, .ref b3, .ref b4, .long lk, .int cs, .ref b5]))] s.heap := hP
  have hl := lv_entry ([.ref h0, .long p0]) (n := 4) (Nat.le_of_ble_eq_true rfl)
  rw [lg_entry_eq]
  generalize (lg_sl ([.ref h0, .long p0]) ++ List.replicate (4 - (lg_sl ([.ref h0, .long p0])).length) Slot.unset).toArray = ls at hl ⊢
  have hl : lv_has ls 4 [(0, .ref h0), (1, .long p0)] := hl
  refine lv_aload_n hx hb d_Mo_lost_0 rfl (lv_at hl 0 rfl) ?_
  refine lv_iconst (v := 0) hx hb d_Mo_lost_1 (by decide) ?_
  refine va_put (D := (dC, dI)) (ci := 6) (v := .int 0) (ty := .int) (C := R_Mo) (T := F_Mo) (N := 19) hx hb hB inC_Mo t_Mo t_Mo_ok n_Mo hown hK hP hD hS 0 rfl rfl 0 (by decide) (hB _ kb_245) (fun _ h9 => h9) rfl (by decide +kernel) rfl rfl (Nat.le_of_ble_eq_true rfl) d_Mo_lost_2 (fun H locs hP hD hS => ?_)
  have hP : va_P (dC, dI) classes [(h0, .inr (6, [.int 0, .int pi, .int sh, .int lo, .int ph, .int di, .long lm, .long en, .long la, .long cu, .long nw, .int sp, .ref b1, .ref b2, .ref b3, .ref b4, .long lk, .int cs, .ref b5]))] H := hP
  have hD : va_D A [(h0, .inr (6, [.int 0, .int pi, .int sh, .int lo, .int ph, .int di, .long lm, .long en, .long la, .long cu, .long nw, .int sp, .ref b1, .ref b2, .ref b3, .ref b4, .long lk, .int cs, .ref b5]))] := hD
  refine lv_aload_n hx hb d_Mo_lost_5 rfl (lv_at hl 0 rfl) ?_
  refine lv_lload_n hx hb d_Mo_lost_6 rfl (lv_at hl 1 rfl) ?_
  refine kc_i (va_runV (As := [.long p0]) (rest := []) ⟨hx, hb, hml, hown, hts⟩ (c_Mo_isTime l dC dI h0 b1 b2 b3 b4 b5 H.size 0 pi sh lo ph di lm en la cu nw sp lk cs p0 ) (cwV 1 hts (ginV kb_278 kb_279 kb_280 kb_251 kb_277) rfl rfl rfl (by decide +kernel) ⟨Nat.le_of_ble_eq_true rfl, Nat.le_of_ble_eq_true rfl⟩) (preV (ci := 6) (wc := [(h0, .inr (6, [.int 0, .int pi, .int sh, .int lo, .int ph, .int di, .long lm, .long en, .long la, .long cu, .long nw, .int sp, .ref b1, .ref b2, .ref b3, .ref b4, .long lk, .int cs, .ref b5]))]) hK hN hP hD [0] rfl rfl (by decide) [] rfl rfl rfl) rfl rfl hl.1 rfl (lv_room (Nat.le_of_ble_eq_true rfl)) d_Mo_lost_7 ⟨Nat.le_of_ble_eq_true rfl, Nat.le_of_ble_eq_true rfl⟩) hP hD hS hA [0] [] (wr := []) rfl rfl (by decide) (by decide) (fun r_7 u_7 H locs hw_7 hP hD hK1 hS => ?_)
  have hw_7 : True := hw_7
  have hP : va_P (dC, dI) classes [(h0, .inr (6, [.int 0, .int pi, .int sh, .int lo, .int ph, .int di, .long lm, .long en, .long la, .long cu, .long nw, .int sp, .ref b1, .ref b2, .ref b3, .ref b4, .long lk, .int cs, .ref b5]))] H := hP
  have hD : va_D A [(h0, .inr (6, [.int 0, .int pi, .int sh, .int lo, .int ph, .int di, .long lm, .long en, .long la, .long cu, .long nw, .int sp, .ref b1, .ref b2, .ref b3, .ref b4, .long lk, .int cs, .ref b5]))] := hD
  refine lv_if_ne (tgt := 16) hx hb d_Mo_lost_10 (by decide) (fun c_10 => ?_) (fun c_10 => ?_)
  · skip
    refine lv_aload_n hx hb d_Mo_lost_16 rfl (lv_at hl 0 rfl) ?_
    refine lv_lload_n hx hb d_Mo_lost_17 rfl (lv_at hl 1 rfl) ?_
    refine va_put (D := (dC, dI)) (ci := 6) (v := .long p0) (ty := .long) (C := R_Mo) (T := F_Mo) (N := 19) hx hb hB inC_Mo t_Mo t_Mo_ok n_Mo hown hK hP hD hS 0 rfl rfl 10 (by decide) (hB _ kb_263) (fun _ h9 => h9) rfl (by decide +kernel) rfl rfl (Nat.le_of_ble_eq_true rfl) d_Mo_lost_18 (fun H locs hP hD hS => ?_)
    have hP : va_P (dC, dI) classes [(h0, .inr (6, [.int 0, .int pi, .int sh, .int lo, .int ph, .int di, .long lm, .long en, .long la, .long cu, .long p0, .int sp, .ref b1, .ref b2, .ref b3, .ref b4, .long lk, .int cs, .ref b5]))] H := hP
    have hD : va_D A [(h0, .inr (6, [.int 0, .int pi, .int sh, .int lo, .int ph, .int di, .long lm, .long en, .long la, .long cu, .long p0, .int sp, .ref b1, .ref b2, .ref b3, .ref b4, .long lk, .int cs, .ref b5]))] := hD
    refine lv_aload_n hx hb d_Mo_lost_21 rfl (lv_at hl 0 rfl) ?_
    refine va_get (D := (dC, dI)) (ci := 6) (v := .int ph) (C := R_Mo) (T := F_Mo) (N := 19) hx hb hB inC_Mo hown hK hP 0 rfl rfl 4 (by decide) (hB _ kb_252) (fun _ h9 => h9) rfl d_Mo_lost_22 ?_
    refine lv_istore_n (lv' := [(3, .int ph), (0, .ref h0), (1, .long p0)]) hx hb d_Mo_lost_25 rfl hl (by decide) rfl (fun ls hl => ?_)
    refine lv_aload_n hx hb d_Mo_lost_26 rfl (lv_at hl 1 rfl) ?_
    refine lv_iconst (v := 0) hx hb d_Mo_lost_27 (by decide) ?_
    refine va_put (D := (dC, dI)) (ci := 6) (v := .int 0) (ty := .int) (C := R_Mo) (T := F_Mo) (N := 19) hx hb hB inC_Mo t_Mo t_Mo_ok n_Mo hown hK hP hD hS 0 rfl rfl 4 (by decide) (hB _ kb_252) (fun _ h9 => h9) rfl (by decide +kernel) rfl rfl (Nat.le_of_ble_eq_true rfl) d_Mo_lost_28 (fun H locs hP hD hS => ?_)
    have hP : va_P (dC, dI) classes [(h0, .inr (6, [.int 0, .int pi, .int sh, .int lo, .int 0, .int di, .long lm, .long en, .long la, .long cu, .long p0, .int sp, .ref b1, .ref b2, .ref b3, .ref b4, .long lk, .int cs, .ref b5]))] H := hP
    have hD : va_D A [(h0, .inr (6, [.int 0, .int pi, .int sh, .int lo, .int 0, .int di, .long lm, .long en, .long la, .long cu, .long p0, .int sp, .ref b1, .ref b2, .ref b3, .ref b4, .long lk, .int cs, .ref b5]))] := hD
    refine lv_iload_n hx hb d_Mo_lost_31 rfl (lv_at hl 0 rfl) ?_
    have hP9 := hP.sub (ws' := [(h0, .inr (6, [.int 0, .int pi, .int sh, .int lo, .int 0, .int di, .long lm, .long en, .long la, .long cu, .long p0, .int sp, .ref b1, .ref b2, .ref b3, .ref b4, .long lk, .int cs, .ref b5]))]) [0] rfl
    have hD9 := hD.sub (ws' := [(h0, .inr (6, [.int 0, .int pi, .int sh, .int lo, .int 0, .int di, .long lm, .long en, .long la, .long cu, .long p0, .int sp, .ref b1, .ref b2, .ref b3, .ref b4, .long lk, .int cs, .ref b5]))]) [0] (by decide) rfl
    have hK9 := hK.sub (tys' := []) [] rfl
    exact W.iret (v := ph) hx hb hr (fun t ht hW => ⟨⟨ph, (0, p0, 0), rfl, trivial, by rw [ht]; exact hP9, va_K.moved hW.alike hK9, hD9⟩, hS.F ht⟩) hS.2.2 d_Mo_lost_32
  · skip
    refine lv_bipush (v := (-2)) hx hb d_Mo_lost_13 (by decide) ?_
    have hP9 := hP.sub (ws' := [(h0, .inr (6, [.int 0, .int pi, .int sh, .int lo, .int ph, .int di, .long lm, .long en, .long la, .long cu, .long nw, .int sp, .ref b1, .ref b2, .ref b3, .ref b4, .long lk, .int cs, .ref b5]))]) [0] rfl
    have hD9 := hD.sub (ws' := [(h0, .inr (6, [.int 0, .int pi, .int sh, .int lo, .int ph, .int di, .long lm, .long en, .long la, .long cu, .long nw, .int sp, .ref b1, .ref b2, .ref b3, .ref b4, .long lk, .int cs, .ref b5]))]) [0] (by decide) rfl
    have hK9 := hK.sub (tys' := []) [] rfl
    exact W.iret (v := (-2)) hx hb hr (fun t ht hW => ⟨⟨(-2), (0, nw, ph), rfl, trivial, by rw [ht]; exact hP9, va_K.moved hW.alike hK9, hD9⟩, hS.F ht⟩) hS.2.2 d_Mo_lost_15
set_option maxHeartbeats 4000000 in
set_option maxRecDepth 100000 in
theorem c_Mo_state (l : Launch) (dC : Nat → ClassId) (dI : Nat → Nat → Nat) (h0 : Nat) (b1 : Nat) (b2 : Nat) (b3 : Nat) (b4 : Nat) (b5 : Nat) (sz : Nat) (co : Int32) (pi : Int32) (sh : Int32) (lo : Int32) (ph : Int32) (di : Int32) (lm : Int64) (en : Int64) (la : Int64) (cu : Int64) (nw : Int64) (sp : Int32) (lk : Int64) (cs : Int32) : Met l y_Mo_state w_Mo_state ({ frames := 0, cells := 0, slots := 0, locals := 0 }) (cPre dC dI [.ref h0] sz [] [(h0, .inr (6, [.int co, .int pi, .int sh, .int lo, .int ph, .int di, .long lm, .long en, .long la, .long cu, .long nw, .int sp, .ref b1, .ref b2, .ref b3, .ref b4, .long lk, .int cs, .ref b5]))]) (va_Qi (fun (r : Int32) (u : Int32) => True) (fun (u : Int32) (t : State) => cB dC dI (va_A [(h0, .inr (6, [.int co, .int pi, .int sh, .int lo, .int ph, .int di, .long lm, .long en, .long la, .long cu, .long nw, .int sp, .ref b1, .ref b2, .ref b3, .ref b4, .long lk, .int cs, .ref b5]))] sz) [] [(h0, .inr (6, [.int u, .int pi, .int sh, .int lo, .int ph, .int di, .long lm, .long en, .long la, .long cu, .long nw, .int sp, .ref b1, .ref b2, .ref b3, .ref b4, .long lk, .int cs, .ref b5]))] t) (va_A [(h0, .inr (6, [.int co, .int pi, .int sh, .int lo, .int ph, .int di, .long lm, .long en, .long la, .long cu, .long nw, .int sp, .ref b1, .ref b2, .ref b3, .ref b4, .long lk, .int cs, .ref b5]))] sz)) 0 0 (va_A [(h0, .inr (6, [.int co, .int pi, .int sh, .int lo, .int ph, .int di, .long lm, .long en, .long la, .long cu, .long nw, .int sp, .ref b1, .ref b2, .ref b3, .ref b4, .long lk, .int cs, .ref b5]))] sz) := by
  refine Met.ofW (cc := b_Mo_state) (maxL := 1) (ret := (some .int)) (by decide) rfl ?_
  intro p e s m args below meth c s₁ B hml hv
  obtain ⟨rfl, hsz, hN, hP, hK, hD0⟩ := hv
  have hx := B.exec
  have hb := B.bytes
  have hr := B.returns
  have hts := atoms_spec (ws := w_Mo_state) B.pre
  have hB := big_of hts
  have hown : s.vm.findClass R_Mo = some m.cls := findClass_of_methodNamed B.named
  have hlocks := B.notSynchronized
  subst hsz
  have hD := hD0.self (sz := s.heap.size)
  generalize hAe : va_A [(h0, .inr (6, [.int co, .int pi, .int sh, .int lo, .int ph, .int di, .long lm, .long en, .long la, .long cu, .long nw, .int sp, .ref b1, .ref b2, .ref b3, .ref b4, .long lk, .int cs, .ref b5]))] s.heap.size = A at hD ⊢
  have hA : ∀ q : Nat, s.heap.size ≤ q → A q := fun q h => by rw [← hAe]; exact Or.inr h
  have hS : va_S A s.heap s.heap [] := va_S.rf
  have hP : va_P (dC, dI) classes [(h0, .inr (6, [.int co, .int pi, .int sh, .int lo, .int ph, .int di, .long lm, .long en, .long la, .long cu, .long nw, .int sp, .ref b1, .ref b2, .ref b3, .ref b4, .long lk, .int cs, .ref b5]))] s.heap := hP
  have hl := lv_entry ([.ref h0]) (n := 1) (Nat.le_of_ble_eq_true rfl)
  rw [lg_entry_eq]
  generalize (lg_sl ([.ref h0]) ++ List.replicate (1 - (lg_sl ([.ref h0])).length) Slot.unset).toArray = ls at hl ⊢
  have hl : lv_has ls 1 [(0, .ref h0)] := hl
  refine lv_aload_n hx hb d_Mo_state_0 rfl (lv_at hl 0 rfl) ?_
  refine lv_iconst (v := 0) hx hb d_Mo_state_1 (by decide) ?_
  refine va_put (D := (dC, dI)) (ci := 6) (v := .int 0) (ty := .int) (C := R_Mo) (T := F_Mo) (N := 19) hx hb hB inC_Mo t_Mo t_Mo_ok n_Mo hown hK hP hD hS 0 rfl rfl 0 (by decide) (hB _ kb_245) (fun _ h9 => h9) rfl (by decide +kernel) rfl rfl (Nat.le_of_ble_eq_true rfl) d_Mo_state_2 (fun H locs hP hD hS => ?_)
  have hP : va_P (dC, dI) classes [(h0, .inr (6, [.int 0, .int pi, .int sh, .int lo, .int ph, .int di, .long lm, .long en, .long la, .long cu, .long nw, .int sp, .ref b1, .ref b2, .ref b3, .ref b4, .long lk, .int cs, .ref b5]))] H := hP
  have hD : va_D A [(h0, .inr (6, [.int 0, .int pi, .int sh, .int lo, .int ph, .int di, .long lm, .long en, .long la, .long cu, .long nw, .int sp, .ref b1, .ref b2, .ref b3, .ref b4, .long lk, .int cs, .ref b5]))] := hD
  refine lv_aload_n hx hb d_Mo_state_5 rfl (lv_at hl 0 rfl) ?_
  refine va_get (D := (dC, dI)) (ci := 6) (v := .int ph) (C := R_Mo) (T := F_Mo) (N := 19) hx hb hB inC_Mo hown hK hP 0 rfl rfl 4 (by decide) (hB _ kb_252) (fun _ h9 => h9) rfl d_Mo_state_6 ?_
  have hP9 := hP.sub (ws' := [(h0, .inr (6, [.int 0, .int pi, .int sh, .int lo, .int ph, .int di, .long lm, .long en, .long la, .long cu, .long nw, .int sp, .ref b1, .ref b2, .ref b3, .ref b4, .long lk, .int cs, .ref b5]))]) [0] rfl
  have hD9 := hD.sub (ws' := [(h0, .inr (6, [.int 0, .int pi, .int sh, .int lo, .int ph, .int di, .long lm, .long en, .long la, .long cu, .long nw, .int sp, .ref b1, .ref b2, .ref b3, .ref b4, .long lk, .int cs, .ref b5]))]) [0] (by decide) rfl
  have hK9 := hK.sub (tys' := []) [] rfl
  exact W.iret (v := ph) hx hb hr (fun t ht hW => ⟨⟨ph, (0), rfl, trivial, by rw [ht]; exact hP9, va_K.moved hW.alike hK9, hD9⟩, hS.F ht⟩) hS.2.2 d_Mo_state_9
