set_option maxHeartbeats 4000000 in
set_option maxRecDepth 100000 in
theorem c_X_init (l : Launch) (dC : Nat → ClassId) (dI : Nat → Nat → Nat) (h0 : Nat) (sz : Nat) : Met l y_X_init w_X_init ({ frames := 2, cells := 9, slots := 3908, locals := 41 }) (cPre dC dI [.ref h0] sz [] [(h0, .inr (5, [.null, .null, .null, .null, .null, .int 0]))]) (va_Qv (fun (u : Nat × Nat × Nat × Nat × Nat × Nat × Nat × Nat × Nat × ClassId × ClassId × ClassId × ClassId × Int64 × Int32 × Int32 × Int64 × Int64 × Int64 × Int64 × (Nat → Int32)) => ∀ k : Nat, k < 1440 → u.2.2.2.2.2.2.2.2.2.2.2.2.2.2.2.2.2.2.2.2 k = -1) (fun (u : Nat × Nat × Nat × Nat × Nat × Nat × Nat × Nat × Nat × ClassId × ClassId × ClassId × ClassId × Int64 × Int32 × Int32 × Int64 × Int64 × Int64 × Int64 × (Nat → Int32)) (t : State) => cB dC dI (va_A [(h0, .inr (5, [.null, .null, .null, .null, .null, .int 0]))] sz) [(u.2.2.2.2.2.2.2.2.2.1, .int), (u.2.2.2.2.2.2.2.2.2.2.1, .int), (u.2.2.2.2.2.2.2.2.2.2.2.1, .long), (u.2.2.2.2.2.2.2.2.2.2.2.2.1, .int)] [(h0, .inr (5, [.ref u.1, .ref u.2.1, .ref u.2.2.1, .ref u.2.2.2.1, .ref u.2.2.2.2.1, .int 0])), (u.1, .inr (0, [.long u.2.2.2.2.2.2.2.2.2.2.2.2.2.1])), (u.2.1, .inr (1, [.int 0, .long 0])), (u.2.2.1, .inr (2, [.int u.2.2.2.2.2.2.2.2.2.2.2.2.2.2.1, .int u.2.2.2.2.2.2.2.2.2.2.2.2.2.2.2.1, .long u.2.2.2.2.2.2.2.2.2.2.2.2.2.2.2.2.1, .long u.2.2.2.2.2.2.2.2.2.2.2.2.2.2.2.2.2.1, .long u.2.2.2.2.2.2.2.2.2.2.2.2.2.2.2.2.2.2.1, .long u.2.2.2.2.2.2.2.2.2.2.2.2.2.2.2.2.2.2.2.1])), (u.2.2.2.1, .inr (3, [.ref u.2.2.2.2.2.1, .ref u.2.2.2.2.2.2.1, .ref u.2.2.2.2.2.2.2.1, .int 0, .long 0])), (u.2.2.2.2.2.1, .inl (u.2.2.2.2.2.2.2.2.2.1, 1440, .inl (u.2.2.2.2.2.2.2.2.2.2.2.2.2.2.2.2.2.2.2.2))), (u.2.2.2.2.2.2.1, .inl (u.2.2.2.2.2.2.2.2.2.2.1, 1440, .inl (fun _ => 0))), (u.2.2.2.2.2.2.2.1, .inl (u.2.2.2.2.2.2.2.2.2.2.2.1, 1001, .inr (.inl (fun _ => 0)))), (u.2.2.2.2.1, .inr (4, [.ref u.2.2.2.2.2.2.2.2.1, .int 0, .long 0])), (u.2.2.2.2.2.2.2.2.1, .inl (u.2.2.2.2.2.2.2.2.2.2.2.2.1, 10, .inl (fun _ => 0)))] t) (va_A [(h0, .inr (5, [.null, .null, .null, .null, .null, .int 0]))] sz)) 9 3908 (va_A [(h0, .inr (5, [.null, .null, .null, .null, .null, .int 0]))] sz) := by
  refine Met.ofW (cc := b_X_init) (maxL := 1) (ret := none) (by decide) rfl ?_
  intro p e s m args below meth c s₁ B hml hv
  obtain ⟨rfl, hsz, hN, hP, hK, hD0⟩ := hv
  have hx := B.exec
  have hb := B.bytes
  have hr := B.returns
  have hts := atoms_spec (ws := w_X_init) B.pre
  have hB := big_of hts
  have hown : s.vm.findClass R_X = some m.cls := findClass_of_methodNamed B.named
  have hlocks := B.notSynchronized
  have hin : meth.name = "<init>" := (name_of_methodNamed B.named B.method).1
  subst hsz
  have hD := hD0.self (sz := s.heap.size)
  generalize hAe : va_A [(h0, .inr (5, [.null, .null, .null, .null, .null, .int 0]))] s.heap.size = A at hD ⊢
  have hA : ∀ q : Nat, s.heap.size ≤ q → A q := fun q h => by rw [← hAe]; exact Or.inr h
  have hS : va_S A s.heap s.heap [] := va_S.rf
  have hP : va_P (dC, dI) classes [(h0, .inr (5, [.null, .null, .null, .null, .null, .int 0]))] s.heap := hP
  have hl := lv_entry ([.ref h0]) (n := 1) (Nat.le_of_ble_eq_true rfl)
  rw [lg_entry_eq]
  generalize (lg_sl ([.ref h0]) ++ List.replicate (1 - (lg_sl ([.ref h0])).length) Slot.unset).toArray = ls at hl ⊢
  have hl : lv_has ls 1 [(0, .ref h0)] := hl
  refine lv_aload_n hx hb d_X_init_0 rfl (lv_at hl 0 rfl) ?_
  refine W.objInit hx hb hown (hB _ kb_112) (hB _ kb_1) (hB _ kb_2) rfl (by rw [hml]; exact hl.1) rfl d_X_init_1 (Nat.le_of_ble_eq_true rfl) (Nat.le_of_ble_eq_true rfl) ?_
  refine W.eq (g2 := F0 m 4 ls []) rfl ?_
  refine lv_aload_n hx hb d_X_init_4 rfl (lv_at hl 0 rfl) ?_
  refine va_new (ci := 0) (fs := [.long 0]) (C := R_Ck) (T := F_Ck) (N := 1) hx hb hB inC_Ck t_Ck t_Ck_ok hown (hB _ kb_113) (hB _ kb_114) (hB _ kb_115) hK hP hD hS hA rfl (fun j hj => by rcases (show j = 0 by omega) with rfl <;> rfl) (Nat.le_of_ble_eq_true rfl) (Nat.le_of_ble_eq_true rfl) d_X_init_5 (fun q_5 H hP hD hS => ?_)
  have hP : va_P (dC, dI) classes [(h0, .inr (5, [.null, .null, .null, .null, .null, .int 0])), (q_5, .inr (0, [.long 0]))] H := hP
  have hD : va_D A [(h0, .inr (5, [.null, .null, .null, .null, .null, .int 0])), (q_5, .inr (0, [.long 0]))] := hD
  refine W.widen (k := 1) (n := 1) (Nat.le_of_ble_eq_true rfl) (Nat.le_of_ble_eq_true rfl) ?_
  refine lv_dup hx hb d_X_init_8 rfl ?_
  refine kc_v (va_runIN (As := []) (rest := [.ref q_5, .ref h0]) ⟨hx, hb, hml, hown, hts⟩ (c_Ck_init l dC dI q_5 H.size 0  ) ⟨va_cnB 0 hts (gin kb_116) rfl rfl rfl (hN _ kn_3) (hB _ kb_115) (by decide +kernel) ⟨Nat.le_of_ble_eq_true rfl, Nat.le_of_ble_eq_true rfl⟩, rfl, (hB _ kb_117)⟩ (preS (wc := [(q_5, .inr (0, [.long 0]))]) hK hN hP hD [1] rfl rfl (by decide) [] rfl) rfl rfl hl.1 rfl (lv_room (Nat.le_of_ble_eq_true rfl)) d_X_init_9 ⟨Nat.le_of_ble_eq_true rfl, Nat.le_of_ble_eq_true rfl⟩) hP hD hS hA [1] [0] (wr := [(h0, .inr (5, [.null, .null, .null, .null, .null, .int 0]))]) rfl rfl (by decide) (by decide) (fun u_9 H locs hw_9 hP hD hK1 hS => ?_)
  obtain ⟨told2_9, rfl⟩ : ∃ z, z = u_9 := ⟨_, rfl⟩
  have hw_9 : True := hw_9
  have hP : va_P (dC, dI) classes [(h0, .inr (5, [.null, .null, .null, .null, .null, .int 0])), (q_5, .inr (0, [.long told2_9]))] H := hP
  have hD : va_D A [(h0, .inr (5, [.null, .null, .null, .null, .null, .int 0])), (q_5, .inr (0, [.long told2_9]))] := hD
  refine va_putF (D := (dC, dI)) (ci := 5) (v := .ref q_5) (ty := (.object "ChargeTalk$Clock")) (C := R_X) (T := F_X) (N := 6) hx hb hB inC_X t_X t_X_ok n_X hown hK hP hD hS 0 rfl rfl 0 (by decide) (hB _ kb_118) (fun _ h9 => h9) rfl hin rfl (by decide +kernel) rfl rfl (Nat.le_of_ble_eq_true rfl) d_X_init_12 (fun H locs hP hD hS => ?_)
  have hP : va_P (dC, dI) classes [(h0, .inr (5, [.ref q_5, .null, .null, .null, .null, .int 0])), (q_5, .inr (0, [.long told2_9]))] H := hP
  have hD : va_D A [(h0, .inr (5, [.ref q_5, .null, .null, .null, .null, .int 0])), (q_5, .inr (0, [.long told2_9]))] := hD
  refine lv_aload_n hx hb d_X_init_15 rfl (lv_at hl 0 rfl) ?_
  refine va_new (ci := 1) (fs := [.int 0, .long 0]) (C := R_Pi) (T := F_Pi) (N := 2) hx hb hB inC_Pi t_Pi t_Pi_ok hown (hB _ kb_119) (hB _ kb_120) (hB _ kb_21) hK hP hD hS hA rfl (fun j hj => by rcases (show j = 0 ∨ j = 1 by omega) with rfl | rfl <;> rfl) (Nat.le_of_ble_eq_true rfl) (Nat.le_of_ble_eq_true rfl) d_X_init_16 (fun q_16 H hP hD hS => ?_)
  have hP : va_P (dC, dI) classes [(h0, .inr (5, [.ref q_5, .null, .null, .null, .null, .int 0])), (q_5, .inr (0, [.long told2_9])), (q_16, .inr (1, [.int 0, .long 0]))] H := hP
  have hD : va_D A [(h0, .inr (5, [.ref q_5, .null, .null, .null, .null, .int 0])), (q_5, .inr (0, [.long told2_9])), (q_16, .inr (1, [.int 0, .long 0]))] := hD
  refine W.widen (k := 2) (n := 3) (Nat.le_of_ble_eq_true rfl) (Nat.le_of_ble_eq_true rfl) ?_
  refine lv_dup hx hb d_X_init_19 rfl ?_
  refine kc_v (va_runIN (As := []) (rest := [.ref q_16, .ref h0]) ⟨hx, hb, hml, hown, hts⟩ (c_Pi_init l dC dI q_16 H.size 0 0  ) ⟨va_cnB 0 hts (gin kb_121) rfl rfl rfl (hN _ kn_4) (hB _ kb_21) (by decide +kernel) ⟨Nat.le_of_ble_eq_true rfl, Nat.le_of_ble_eq_true rfl⟩, rfl, (hB _ kb_122)⟩ (preS (wc := [(q_16, .inr (1, [.int 0, .long 0]))]) hK hN hP hD [2] rfl rfl (by decide) [] rfl) rfl rfl hl.1 rfl (lv_room (Nat.le_of_ble_eq_true rfl)) d_X_init_20 ⟨Nat.le_of_ble_eq_true rfl, Nat.le_of_ble_eq_true rfl⟩) hP hD hS hA [2] [0, 1] (wr := [(h0, .inr (5, [.ref q_5, .null, .null, .null, .null, .int 0])), (q_5, .inr (0, [.long told2_9]))]) rfl rfl (by decide) (by decide) (fun u_20 H locs hw_20 hP hD hK1 hS => ?_)
  obtain ⟨lv2_20, th2_20⟩ := u_20
  have hw_20 : lv2_20 = 0 ∧ th2_20 = 0 := hw_20
  have hP : va_P (dC, dI) classes [(h0, .inr (5, [.ref q_5, .null, .null, .null, .null, .int 0])), (q_5, .inr (0, [.long told2_9])), (q_16, .inr (1, [.int lv2_20, .long th2_20]))] H := hP
  have hD : va_D A [(h0, .inr (5, [.ref q_5, .null, .null, .null, .null, .int 0])), (q_5, .inr (0, [.long told2_9])), (q_16, .inr (1, [.int lv2_20, .long th2_20]))] := hD
  obtain ⟨rfl, rfl⟩ := hw_20
  refine va_putF (D := (dC, dI)) (ci := 5) (v := .ref q_16) (ty := (.object "ChargeTalk$Pilot")) (C := R_X) (T := F_X) (N := 6) hx hb hB inC_X t_X t_X_ok n_X hown hK hP hD hS 0 rfl rfl 1 (by decide) (hB _ kb_123) (fun _ h9 => h9) rfl hin rfl (by decide +kernel) rfl rfl (Nat.le_of_ble_eq_true rfl) d_X_init_23 (fun H locs hP hD hS => ?_)
  have hP : va_P (dC, dI) classes [(h0, .inr (5, [.ref q_5, .ref q_16, .null, .null, .null, .int 0])), (q_5, .inr (0, [.long told2_9])), (q_16, .inr (1, [.int 0, .long 0]))] H := hP
  have hD : va_D A [(h0, .inr (5, [.ref q_5, .ref q_16, .null, .null, .null, .int 0])), (q_5, .inr (0, [.long told2_9])), (q_16, .inr (1, [.int 0, .long 0]))] := hD
  refine lv_aload_n hx hb d_X_init_26 rfl (lv_at hl 0 rfl) ?_
  refine va_new (ci := 2) (fs := [.int 0, .int 0, .long 0, .long 0, .long 0, .long 0]) (C := R_Ta) (T := F_Ta) (N := 6) hx hb hB inC_Ta t_Ta t_Ta_ok hown (hB _ kb_124) (hB _ kb_125) (hB _ kb_47) hK hP hD hS hA rfl (fun j hj => by rcases (show j = 0 ∨ j = 1 ∨ j = 2 ∨ j = 3 ∨ j = 4 ∨ j = 5 by omega) with rfl | rfl | rfl | rfl | rfl | rfl <;> rfl) (Nat.le_of_ble_eq_true rfl) (Nat.le_of_ble_eq_true rfl) d_X_init_27 (fun q_27 H hP hD hS => ?_)
  have hP : va_P (dC, dI) classes [(h0, .inr (5, [.ref q_5, .ref q_16, .null, .null, .null, .int 0])), (q_5, .inr (0, [.long told2_9])), (q_16, .inr (1, [.int 0, .long 0])), (q_27, .inr (2, [.int 0, .int 0, .long 0, .long 0, .long 0, .long 0]))] H := hP
  have hD : va_D A [(h0, .inr (5, [.ref q_5, .ref q_16, .null, .null, .null, .int 0])), (q_5, .inr (0, [.long told2_9])), (q_16, .inr (1, [.int 0, .long 0])), (q_27, .inr (2, [.int 0, .int 0, .long 0, .long 0, .long 0, .long 0]))] := hD
  refine W.widen (k := 3) (n := 9) (Nat.le_of_ble_eq_true rfl) (Nat.le_of_ble_eq_true rfl) ?_
  refine lv_dup hx hb d_X_init_30 rfl ?_
  refine kc_v (va_runIN (As := []) (rest := [.ref q_27, .ref h0]) ⟨hx, hb, hml, hown, hts⟩ (c_Ta_init l dC dI q_27 H.size 0 0 0 0 0 0  ) ⟨va_cnB 0 hts (gin kb_126) rfl rfl rfl (hN _ kn_5) (hB _ kb_47) (by decide +kernel) ⟨Nat.le_of_ble_eq_true rfl, Nat.le_of_ble_eq_true rfl⟩, rfl, (hB _ kb_127)⟩ (preS (wc := [(q_27, .inr (2, [.int 0, .int 0, .long 0, .long 0, .long 0, .long 0]))]) hK hN hP hD [3] rfl rfl (by decide) [] rfl) rfl rfl hl.1 rfl (lv_room (Nat.le_of_ble_eq_true rfl)) d_X_init_31 ⟨Nat.le_of_ble_eq_true rfl, Nat.le_of_ble_eq_true rfl⟩) hP hD hS hA [3] [0, 1, 2] (wr := [(h0, .inr (5, [.ref q_5, .ref q_16, .null, .null, .null, .int 0])), (q_5, .inr (0, [.long told2_9])), (q_16, .inr (1, [.int 0, .long 0]))]) rfl rfl (by decide) (by decide) (fun u_31 H locs hw_31 hP hD hK1 hS => ?_)
  obtain ⟨ph2_31, di2_31, lm2_31, cu2_31, la2_31, en2_31⟩ := u_31
  have hw_31 : True := hw_31
  have hP : va_P (dC, dI) classes [(h0, .inr (5, [.ref q_5, .ref q_16, .null, .null, .null, .int 0])), (q_5, .inr (0, [.long told2_9])), (q_16, .inr (1, [.int 0, .long 0])), (q_27, .inr (2, [.int ph2_31, .int di2_31, .long lm2_31, .long cu2_31, .long la2_31, .long en2_31]))] H := hP
  have hD : va_D A [(h0, .inr (5, [.ref q_5, .ref q_16, .null, .null, .null, .int 0])), (q_5, .inr (0, [.long told2_9])), (q_16, .inr (1, [.int 0, .long 0])), (q_27, .inr (2, [.int ph2_31, .int di2_31, .long lm2_31, .long cu2_31, .long la2_31, .long en2_31]))] := hD
  refine va_putF (D := (dC, dI)) (ci := 5) (v := .ref q_27) (ty := (.object "ChargeTalk$Talk")) (C := R_X) (T := F_X) (N := 6) hx hb hB inC_X t_X t_X_ok n_X hown hK hP hD hS 0 rfl rfl 2 (by decide) (hB _ kb_128) (fun _ h9 => h9) rfl hin rfl (by decide +kernel) rfl rfl (Nat.le_of_ble_eq_true rfl) d_X_init_34 (fun H locs hP hD hS => ?_)
  have hP : va_P (dC, dI) classes [(h0, .inr (5, [.ref q_5, .ref q_16, .ref q_27, .null, .null, .int 0])), (q_5, .inr (0, [.long told2_9])), (q_16, .inr (1, [.int 0, .long 0])), (q_27, .inr (2, [.int ph2_31, .int di2_31, .long lm2_31, .long cu2_31, .long la2_31, .long en2_31]))] H := hP
  have hD : va_D A [(h0, .inr (5, [.ref q_5, .ref q_16, .ref q_27, .null, .null, .int 0])), (q_5, .inr (0, [.long told2_9])), (q_16, .inr (1, [.int 0, .long 0])), (q_27, .inr (2, [.int ph2_31, .int di2_31, .long lm2_31, .long cu2_31, .long la2_31, .long en2_31]))] := hD
  refine lv_aload_n hx hb d_X_init_37 rfl (lv_at hl 0 rfl) ?_
  refine va_new (ci := 3) (fs := [.null, .null, .null, .int 0, .long 0]) (C := R_Tf) (T := F_Tf) (N := 5) hx hb hB inC_Tf t_Tf t_Tf_ok hown (hB _ kb_129) (hB _ kb_130) (hB _ kb_88) hK hP hD hS hA rfl (fun j hj => by rcases (show j = 0 ∨ j = 1 ∨ j = 2 ∨ j = 3 ∨ j = 4 by omega) with rfl | rfl | rfl | rfl | rfl <;> rfl) (Nat.le_of_ble_eq_true rfl) (Nat.le_of_ble_eq_true rfl) d_X_init_38 (fun q_38 H hP hD hS => ?_)
  have hP : va_P (dC, dI) classes [(h0, .inr (5, [.ref q_5, .ref q_16, .ref q_27, .null, .null, .int 0])), (q_5, .inr (0, [.long told2_9])), (q_16, .inr (1, [.int 0, .long 0])), (q_27, .inr (2, [.int ph2_31, .int di2_31, .long lm2_31, .long cu2_31, .long la2_31, .long en2_31])), (q_38, .inr (3, [.null, .null, .null, .int 0, .long 0]))] H := hP
  have hD : va_D A [(h0, .inr (5, [.ref q_5, .ref q_16, .ref q_27, .null, .null, .int 0])), (q_5, .inr (0, [.long told2_9])), (q_16, .inr (1, [.int 0, .long 0])), (q_27, .inr (2, [.int ph2_31, .int di2_31, .long lm2_31, .long cu2_31, .long la2_31, .long en2_31])), (q_38, .inr (3, [.null, .null, .null, .int 0, .long 0]))] := hD
  refine W.widen (k := 4) (n := 14) (Nat.le_of_ble_eq_true rfl) (Nat.le_of_ble_eq_true rfl) ?_
  refine lv_dup hx hb d_X_init_41 rfl ?_
  refine kc_v (va_runI (As := []) (rest := [.ref q_38, .ref h0]) ⟨hx, hb, hml, hown, hts⟩ (c_Tf_init l dC dI q_38 H.size   ) (cwI 0 hts (gin kb_131) rfl rfl rfl (hB _ kb_88) (hB _ kb_132) (hB _ kb_133) rfl (by decide +kernel) ⟨Nat.le_of_ble_eq_true rfl, Nat.le_of_ble_eq_true rfl⟩) (preS (wc := [(q_38, .inr (3, [.null, .null, .null, .int 0, .long 0]))]) hK hN hP hD [4] rfl rfl (by decide) [] rfl) rfl rfl hl.1 rfl (lv_room (Nat.le_of_ble_eq_true rfl)) d_X_init_42 ⟨Nat.le_of_ble_eq_true rfl, Nat.le_of_ble_eq_true rfl⟩) hP hD hS hA [4] [0, 1, 2, 3] (wr := [(h0, .inr (5, [.ref q_5, .ref q_16, .ref q_27, .null, .null, .int 0])), (q_5, .inr (0, [.long told2_9])), (q_16, .inr (1, [.int 0, .long 0])), (q_27, .inr (2, [.int ph2_31, .int di2_31, .long lm2_31, .long cu2_31, .long la2_31, .long en2_31]))]) rfl rfl (by decide) (by decide) (fun u_42 H locs hw_42 hP hD hK1 hS => ?_)
  obtain ⟨n1_42, n2_42, n3_42, j1_42, j2_42, j3_42, f1b_42⟩ := u_42
  have hw_42 : ∀ k : Nat, k < 1440 → f1b_42 k = -1 := hw_42
  have hP : va_P (dC, dI) classes [(h0, .inr (5, [.ref q_5, .ref q_16, .ref q_27, .null, .null, .int 0])), (q_5, .inr (0, [.long told2_9])), (q_16, .inr (1, [.int 0, .long 0])), (q_27, .inr (2, [.int ph2_31, .int di2_31, .long lm2_31, .long cu2_31, .long la2_31, .long en2_31])), (q_38, .inr (3, [.ref n1_42, .ref n2_42, .ref n3_42, .int 0, .long 0])), (n1_42, .inl (j1_42, 1440, .inl f1b_42)), (n2_42, .inl (j2_42, 1440, .inl (fun _ => 0))), (n3_42, .inl (j3_42, 1001, .inr (.inl (fun _ => 0))))] H := hP
  have hD : va_D A [(h0, .inr (5, [.ref q_5, .ref q_16, .ref q_27, .null, .null, .int 0])), (q_5, .inr (0, [.long told2_9])), (q_16, .inr (1, [.int 0, .long 0])), (q_27, .inr (2, [.int ph2_31, .int di2_31, .long lm2_31, .long cu2_31, .long la2_31, .long en2_31])), (q_38, .inr (3, [.ref n1_42, .ref n2_42, .ref n3_42, .int 0, .long 0])), (n1_42, .inl (j1_42, 1440, .inl f1b_42)), (n2_42, .inl (j2_42, 1440, .inl (fun _ => 0))), (n3_42, .inl (j3_42, 1001, .inr (.inl (fun _ => 0))))] := hD
  have hK : va_K (dC, dI) classes [(j1_42, .int), (j2_42, .int), (j3_42, .long)] s := hK.app hK1
  refine W.widen (k := 7) (n := 3895) (Nat.le_of_ble_eq_true rfl) (Nat.le_of_ble_eq_true rfl) ?_
  refine va_putF (D := (dC, dI)) (ci := 5) (v := .ref q_38) (ty := (.object "ChargeTalk$Tariff")) (C := R_X) (T := F_X) (N := 6) hx hb hB inC_X t_X t_X_ok n_X hown hK hP hD hS 0 rfl rfl 3 (by decide) (hB _ kb_134) (fun _ h9 => h9) rfl hin rfl (by decide +kernel) rfl rfl (Nat.le_of_ble_eq_true rfl) d_X_init_45 (fun H locs hP hD hS => ?_)
  have hP : va_P (dC, dI) classes [(h0, .inr (5, [.ref q_5, .ref q_16, .ref q_27, .ref q_38, .null, .int 0])), (q_5, .inr (0, [.long told2_9])), (q_16, .inr (1, [.int 0, .long 0])), (q_27, .inr (2, [.int ph2_31, .int di2_31, .long lm2_31, .long cu2_31, .long la2_31, .long en2_31])), (q_38, .inr (3, [.ref n1_42, .ref n2_42, .ref n3_42, .int 0, .long 0])), (n1_42, .inl (j1_42, 1440, .inl f1b_42)), (n2_42, .inl (j2_42, 1440, .inl (fun _ => 0))), (n3_42, .inl (j3_42, 1001, .inr (.inl (fun _ => 0))))] H := hP
  have hD : va_D A [(h0, .inr (5, [.ref q_5, .ref q_16, .ref q_27, .ref q_38, .null, .int 0])), (q_5, .inr (0, [.long told2_9])), (q_16, .inr (1, [.int 0, .long 0])), (q_27, .inr (2, [.int ph2_31, .int di2_31, .long lm2_31, .long cu2_31, .long la2_31, .long en2_31])), (q_38, .inr (3, [.ref n1_42, .ref n2_42, .ref n3_42, .int 0, .long 0])), (n1_42, .inl (j1_42, 1440, .inl f1b_42)), (n2_42, .inl (j2_42, 1440, .inl (fun _ => 0))), (n3_42, .inl (j3_42, 1001, .inr (.inl (fun _ => 0))))] := hD
  refine lv_aload_n hx hb d_X_init_48 rfl (lv_at hl 0 rfl) ?_
  refine va_new (ci := 4) (fs := [.null, .int 0, .long 0]) (C := R_Li) (T := F_Li) (N := 3) hx hb hB inC_Li t_Li t_Li_ok hown (hB _ kb_135) (hB _ kb_136) (hB _ kb_137) hK hP hD hS hA rfl (fun j hj => by rcases (show j = 0 ∨ j = 1 ∨ j = 2 by omega) with rfl | rfl | rfl <;> rfl) (Nat.le_of_ble_eq_true rfl) (Nat.le_of_ble_eq_true rfl) d_X_init_49 (fun q_49 H hP hD hS => ?_)
  have hP : va_P (dC, dI) classes [(h0, .inr (5, [.ref q_5, .ref q_16, .ref q_27, .ref q_38, .null, .int 0])), (q_5, .inr (0, [.long told2_9])), (q_16, .inr (1, [.int 0, .long 0])), (q_27, .inr (2, [.int ph2_31, .int di2_31, .long lm2_31, .long cu2_31, .long la2_31, .long en2_31])), (q_38, .inr (3, [.ref n1_42, .ref n2_42, .ref n3_42, .int 0, .long 0])), (n1_42, .inl (j1_42, 1440, .inl f1b_42)), (n2_42, .inl (j2_42, 1440, .inl (fun _ => 0))), (n3_42, .inl (j3_42, 1001, .inr (.inl (fun _ => 0)))), (q_49, .inr (4, [.null, .int 0, .long 0]))] H := hP
  have hD : va_D A [(h0, .inr (5, [.ref q_5, .ref q_16, .ref q_27, .ref q_38, .null, .int 0])), (q_5, .inr (0, [.long told2_9])), (q_16, .inr (1, [.int 0, .long 0])), (q_27, .inr (2, [.int ph2_31, .int di2_31, .long lm2_31, .long cu2_31, .long la2_31, .long en2_31])), (q_38, .inr (3, [.ref n1_42, .ref n2_42, .ref n3_42, .int 0, .long 0])), (n1_42, .inl (j1_42, 1440, .inl f1b_42)), (n2_42, .inl (j2_42, 1440, .inl (fun _ => 0))), (n3_42, .inl (j3_42, 1001, .inr (.inl (fun _ => 0)))), (q_49, .inr (4, [.null, .int 0, .long 0]))] := hD
  refine W.widen (k := 8) (n := 3898) (Nat.le_of_ble_eq_true rfl) (Nat.le_of_ble_eq_true rfl) ?_
  refine lv_dup hx hb d_X_init_52 rfl ?_
  refine kc_v (va_runIN (As := []) (rest := [.ref q_49, .ref h0]) ⟨hx, hb, hml, hown, hts⟩ (c_Li_init l dC dI q_49 H.size   ) ⟨va_cnB 0 hts (gin kb_138) rfl rfl rfl (hN _ kn_6) (hB _ kb_137) (by decide +kernel) ⟨Nat.le_of_ble_eq_true rfl, Nat.le_of_ble_eq_true rfl⟩, rfl, (hB _ kb_139)⟩ (preS (wc := [(q_49, .inr (4, [.null, .int 0, .long 0]))]) hK hN hP hD [8] rfl rfl (by decide) [] rfl) rfl rfl hl.1 rfl (lv_room (Nat.le_of_ble_eq_true rfl)) d_X_init_53 ⟨Nat.le_of_ble_eq_true rfl, Nat.le_of_ble_eq_true rfl⟩) hP hD hS hA [8] [0, 1, 2, 3, 4, 5, 6, 7] (wr := [(h0, .inr (5, [.ref q_5, .ref q_16, .ref q_27, .ref q_38, .null, .int 0])), (q_5, .inr (0, [.long told2_9])), (q_16, .inr (1, [.int 0, .long 0])), (q_27, .inr (2, [.int ph2_31, .int di2_31, .long lm2_31, .long cu2_31, .long la2_31, .long en2_31])), (q_38, .inr (3, [.ref n1_42, .ref n2_42, .ref n3_42, .int 0, .long 0])), (n1_42, .inl (j1_42, 1440, .inl f1b_42)), (n2_42, .inl (j2_42, 1440, .inl (fun _ => 0))), (n3_42, .inl (j3_42, 1001, .inr (.inl (fun _ => 0))))]) rfl rfl (by decide) (by decide) (fun u_53 H locs hw_53 hP hD hK1 hS => ?_)
  obtain ⟨n4_53, j4_53⟩ := u_53
  have hw_53 : True := hw_53
  have hP : va_P (dC, dI) classes [(h0, .inr (5, [.ref q_5, .ref q_16, .ref q_27, .ref q_38, .null, .int 0])), (q_5, .inr (0, [.long told2_9])), (q_16, .inr (1, [.int 0, .long 0])), (q_27, .inr (2, [.int ph2_31, .int di2_31, .long lm2_31, .long cu2_31, .long la2_31, .long en2_31])), (q_38, .inr (3, [.ref n1_42, .ref n2_42, .ref n3_42, .int 0, .long 0])), (n1_42, .inl (j1_42, 1440, .inl f1b_42)), (n2_42, .inl (j2_42, 1440, .inl (fun _ => 0))), (n3_42, .inl (j3_42, 1001, .inr (.inl (fun _ => 0)))), (q_49, .inr (4, [.ref n4_53, .int 0, .long 0])), (n4_53, .inl (j4_53, 10, .inl (fun _ => 0)))] H := hP
  have hD : va_D A [(h0, .inr (5, [.ref q_5, .ref q_16, .ref q_27, .ref q_38, .null, .int 0])), (q_5, .inr (0, [.long told2_9])), (q_16, .inr (1, [.int 0, .long 0])), (q_27, .inr (2, [.int ph2_31, .int di2_31, .long lm2_31, .long cu2_31, .long la2_31, .long en2_31])), (q_38, .inr (3, [.ref n1_42, .ref n2_42, .ref n3_42, .int 0, .long 0])), (n1_42, .inl (j1_42, 1440, .inl f1b_42)), (n2_42, .inl (j2_42, 1440, .inl (fun _ => 0))), (n3_42, .inl (j3_42, 1001, .inr (.inl (fun _ => 0)))), (q_49, .inr (4, [.ref n4_53, .int 0, .long 0])), (n4_53, .inl (j4_53, 10, .inl (fun _ => 0)))] := hD
  have hK : va_K (dC, dI) classes [(j1_42, .int), (j2_42, .int), (j3_42, .long), (j4_53, .int)] s := hK.app hK1
  refine W.widen (k := 9) (n := 3908) (Nat.le_of_ble_eq_true rfl) (Nat.le_of_ble_eq_true rfl) ?_
  refine va_putF (D := (dC, dI)) (ci := 5) (v := .ref q_49) (ty := (.object "ChargeTalk$Line")) (C := R_X) (T := F_X) (N := 6) hx hb hB inC_X t_X t_X_ok n_X hown hK hP hD hS 0 rfl rfl 4 (by decide) (hB _ kb_140) (fun _ h9 => h9) rfl hin rfl (by decide +kernel) rfl rfl (Nat.le_of_ble_eq_true rfl) d_X_init_56 (fun H locs hP hD hS => ?_)
  have hP : va_P (dC, dI) classes [(h0, .inr (5, [.ref q_5, .ref q_16, .ref q_27, .ref q_38, .ref q_49, .int 0])), (q_5, .inr (0, [.long told2_9])), (q_16, .inr (1, [.int 0, .long 0])), (q_27, .inr (2, [.int ph2_31, .int di2_31, .long lm2_31, .long cu2_31, .long la2_31, .long en2_31])), (q_38, .inr (3, [.ref n1_42, .ref n2_42, .ref n3_42, .int 0, .long 0])), (n1_42, .inl (j1_42, 1440, .inl f1b_42)), (n2_42, .inl (j2_42, 1440, .inl (fun _ => 0))), (n3_42, .inl (j3_42, 1001, .inr (.inl (fun _ => 0)))), (q_49, .inr (4, [.ref n4_53, .int 0, .long 0])), (n4_53, .inl (j4_53, 10, .inl (fun _ => 0)))] H := hP
  have hD : va_D A [(h0, .inr (5, [.ref q_5, .ref q_16, .ref q_27, .ref q_38, .ref q_49, .int 0])), (q_5, .inr (0, [.long told2_9])), (q_16, .inr (1, [.int 0, .long 0])), (q_27, .inr (2, [.int ph2_31, .int di2_31, .long lm2_31, .long cu2_31, .long la2_31, .long en2_31])), (q_38, .inr (3, [.ref n1_42, .ref n2_42, .ref n3_42, .int 0, .long 0])), (n1_42, .inl (j1_42, 1440, .inl f1b_42)), (n2_42, .inl (j2_42, 1440, .inl (fun _ => 0))), (n3_42, .inl (j3_42, 1001, .inr (.inl (fun _ => 0)))), (q_49, .inr (4, [.ref n4_53, .int 0, .long 0])), (n4_53, .inl (j4_53, 10, .inl (fun _ => 0)))] := hD
  refine lv_aload_n hx hb d_X_init_59 rfl (lv_at hl 0 rfl) ?_
  refine lv_iconst (v := 0) hx hb d_X_init_60 (by decide) ?_
  refine va_put (D := (dC, dI)) (ci := 5) (v := .int 0) (ty := .boolean) (C := R_X) (T := F_X) (N := 6) hx hb hB inC_X t_X t_X_ok n_X hown hK hP hD hS 0 rfl rfl 5 (by decide) (hB _ kb_141) (fun _ h9 => h9) rfl (by decide +kernel) rfl rfl (Nat.le_of_ble_eq_true rfl) d_X_init_61 (fun H locs hP hD hS => ?_)
  have hP : va_P (dC, dI) classes [(h0, .inr (5, [.ref q_5, .ref q_16, .ref q_27, .ref q_38, .ref q_49, .int 0])), (q_5, .inr (0, [.long told2_9])), (q_16, .inr (1, [.int 0, .long 0])), (q_27, .inr (2, [.int ph2_31, .int di2_31, .long lm2_31, .long cu2_31, .long la2_31, .long en2_31])), (q_38, .inr (3, [.ref n1_42, .ref n2_42, .ref n3_42, .int 0, .long 0])), (n1_42, .inl (j1_42, 1440, .inl f1b_42)), (n2_42, .inl (j2_42, 1440, .inl (fun _ => 0))), (n3_42, .inl (j3_42, 1001, .inr (.inl (fun _ => 0)))), (q_49, .inr (4, [.ref n4_53, .int 0, .long 0])), (n4_53, .inl (j4_53, 10, .inl (fun _ => 0)))] H := hP
  have hD : va_D A [(h0, .inr (5, [.ref q_5, .ref q_16, .ref q_27, .ref q_38, .ref q_49, .int 0])), (q_5, .inr (0, [.long told2_9])), (q_16, .inr (1, [.int 0, .long 0])), (q_27, .inr (2, [.int ph2_31, .int di2_31, .long lm2_31, .long cu2_31, .long la2_31, .long en2_31])), (q_38, .inr (3, [.ref n1_42, .ref n2_42, .ref n3_42, .int 0, .long 0])), (n1_42, .inl (j1_42, 1440, .inl f1b_42)), (n2_42, .inl (j2_42, 1440, .inl (fun _ => 0))), (n3_42, .inl (j3_42, 1001, .inr (.inl (fun _ => 0)))), (q_49, .inr (4, [.ref n4_53, .int 0, .long 0])), (n4_53, .inl (j4_53, 10, .inl (fun _ => 0)))] := hD
  have hP9 := hP.sub (ws' := [(h0, .inr (5, [.ref q_5, .ref q_16, .ref q_27, .ref q_38, .ref q_49, .int 0])), (q_5, .inr (0, [.long told2_9])), (q_16, .inr (1, [.int 0, .long 0])), (q_27, .inr (2, [.int ph2_31, .int di2_31, .long lm2_31, .long cu2_31, .long la2_31, .long en2_31])), (q_38, .inr (3, [.ref n1_42, .ref n2_42, .ref n3_42, .int 0, .long 0])), (n1_42, .inl (j1_42, 1440, .inl f1b_42)), (n2_42, .inl (j2_42, 1440, .inl (fun _ => 0))), (n3_42, .inl (j3_42, 1001, .inr (.inl (fun _ => 0)))), (q_49, .inr (4, [.ref n4_53, .int 0, .long 0])), (n4_53, .inl (j4_53, 10, .inl (fun _ => 0)))]) [0, 1, 2, 3, 4, 5, 6, 7, 8, 9] rfl
  have hD9 := hD.sub (ws' := [(h0, .inr (5, [.ref q_5, .ref q_16, .ref q_27, .ref q_38, .ref q_49, .int 0])), (q_5, .inr (0, [.long told2_9])), (q_16, .inr (1, [.int 0, .long 0])), (q_27, .inr (2, [.int ph2_31, .int di2_31, .long lm2_31, .long cu2_31, .long la2_31, .long en2_31])), (q_38, .inr (3, [.ref n1_42, .ref n2_42, .ref n3_42, .int 0, .long 0])), (n1_42, .inl (j1_42, 1440, .inl f1b_42)), (n2_42, .inl (j2_42, 1440, .inl (fun _ => 0))), (n3_42, .inl (j3_42, 1001, .inr (.inl (fun _ => 0)))), (q_49, .inr (4, [.ref n4_53, .int 0, .long 0])), (n4_53, .inl (j4_53, 10, .inl (fun _ => 0)))]) [0, 1, 2, 3, 4, 5, 6, 7, 8, 9] (by decide) rfl
  have hK9 := hK.sub (tys' := [(j1_42, .int), (j2_42, .int), (j3_42, .long), (j4_53, .int)]) [0, 1, 2, 3] rfl
  exact W.vret hx hb hr (fun t ht hW => ⟨⟨(q_5, q_16, q_27, q_38, q_49, n1_42, n2_42, n3_42, n4_53, j1_42, j2_42, j3_42, j4_53, told2_9, ph2_31, di2_31, lm2_31, cu2_31, la2_31, en2_31, f1b_42), rfl, hw_42, by rw [ht]; exact hP9, va_K.moved hW.alike hK9, hD9⟩, hS.F ht⟩) hS.2.2 d_X_init_64
set_option maxHeartbeats 4000000 in
set_option maxRecDepth 100000 in
theorem c_X_pilot (l : Launch) (dC : Nat → ClassId) (dI : Nat → Nat → Nat) (h0 : Nat) (k1 : Nat) (k2 : Nat) (k3 : Nat) (k4 : Nat) (k5 : Nat) (sz : Nat) (pl : Int32) (lv : Int32) (th : Int64) (ph : Int32) (di : Int32) (lm : Int64) (cu : Int64) (la : Int64) (en : Int64) (p0 : Int64) (p1 : Int64) : Met l y_X_pilot w_X_pilot ({ frames := 2, cells := 0, slots := 0, locals := 49 }) (cPre dC dI [.ref h0, .long p0, .long p1] sz [] [(h0, .inr (5, [.ref k1, .ref k2, .ref k3, .ref k4, .ref k5, .int pl])), (k2, .inr (1, [.int lv, .long th])), (k3, .inr (2, [.int ph, .int di, .long lm, .long cu, .long la, .long en]))]) (va_Qi (fun (r : Int32) (u : Int32 × Int64 × Int32) => r = lvl p0 p1 ∧ u.1 = lvl p0 p1 ∧ u.2.1 = p0) (fun (u : Int32 × Int64 × Int32) (t : State) => cB dC dI (va_A [(h0, .inr (5, [.ref k1, .ref k2, .ref k3, .ref k4, .ref k5, .int pl])), (k2, .inr (1, [.int lv, .long th])), (k3, .inr (2, [.int ph, .int di, .long lm, .long cu, .long la, .long en]))] sz) [] [(h0, .inr (5, [.ref k1, .ref k2, .ref k3, .ref k4, .ref k5, .int pl])), (k2, .inr (1, [.int u.1, .long u.2.1])), (k3, .inr (2, [.int u.2.2, .int di, .long lm, .long cu, .long la, .long en]))] t) (va_A [(h0, .inr (5, [.ref k1, .ref k2, .ref k3, .ref k4, .ref k5, .int pl])), (k2, .inr (1, [.int lv, .long th])), (k3, .inr (2, [.int ph, .int di, .long lm, .long cu, .long la, .long en]))] sz)) 0 0 (va_A [(h0, .inr (5, [.ref k1, .ref k2, .ref k3, .ref k4, .ref k5, .int pl])), (k2, .inr (1, [.int lv, .long th])), (k3, .inr (2, [.int ph, .int di, .long lm, .long cu, .long la, .long en]))] sz) := by
  refine Met.ofW (cc := b_X_pilot) (maxL := 5) (ret := (some .int)) (by decide) rfl ?_
  intro p e s m args below meth c s₁ B hml hv
  obtain ⟨rfl, hsz, hN, hP, hK, hD0⟩ := hv
  have hx := B.exec
  have hb := B.bytes
  have hr := B.returns
  have hts := atoms_spec (ws := w_X_pilot) B.pre
  have hB := big_of hts
  have hown : s.vm.findClass R_X = some m.cls := findClass_of_methodNamed B.named
  have hlocks := B.notSynchronized
  subst hsz
  have hD := hD0.self (sz := s.heap.size)
  generalize hAe : va_A [(h0, .inr (5, [.ref k1, .ref k2, .ref k3, .ref k4, .ref k5, .int pl])), (k2, .inr (1, [.int lv, .long th])), (k3, .inr (2, [.int ph, .int di, .long lm, .long cu, .long la, .long en]))] s.heap.size = A at hD ⊢
  have hA : ∀ q : Nat, s.heap.size ≤ q → A q := fun q h => by rw [← hAe]; exact Or.inr h
  have hS : va_S A s.heap s.heap [] := va_S.rf
  have hP : va_P (dC, dI) classes [(h0, .inr (5, [.ref k1, .ref k2, .ref k3, .ref k4, .ref k5, .int pl])), (k2, .inr (1, [.int lv, .long th])), (k3, .inr (2, [.int ph, .int di, .long lm, .long cu, .long la, .long en]))] s.heap := hP
  have hl := lv_entry ([.ref h0, .long p0, .long p1]) (n := 5) (Nat.le_of_ble_eq_true rfl)
  rw [lg_entry_eq]
  generalize (lg_sl ([.ref h0, .long p0, .long p1]) ++ List.replicate (5 - (lg_sl ([.ref h0, .long p0, .long p1])).length) Slot.unset).toArray = ls at hl ⊢
  have hl : lv_has ls 5 [(0, .ref h0), (1, .long p0), (3, .long p1)] := hl
  refine lv_aload_n hx hb d_X_pilot_0 rfl (lv_at hl 0 rfl) ?_
  refine va_get (D := (dC, dI)) (ci := 5) (v := .ref k2) (C := R_X) (T := F_X) (N := 6) hx hb hB inC_X hown hK hP 0 rfl rfl 1 (by decide) (hB _ kb_123) (fun _ h9 => h9) rfl d_X_pilot_1 ?_
  refine lv_lload_n hx hb d_X_pilot_4 rfl (lv_at hl 1 rfl) ?_
  refine lv_lload_n hx hb d_X_pilot_5 rfl (lv_at hl 2 rfl) ?_
  refine kc_v (va_runV (As := [.long p0, .long p1]) (rest := []) ⟨hx, hb, hml, hown, hts⟩ (c_Pi_set l dC dI k2 s.heap.size lv th p0 p1 ) (cwV 2 hts (ginV kb_143 kb_144 kb_145 kb_21 kb_142) rfl rfl rfl (by decide +kernel) ⟨Nat.le_of_ble_eq_true rfl, Nat.le_of_ble_eq_true rfl⟩) (preV (ci := 1) (wc := [(k2, .inr (1, [.int lv, .long th]))]) hK hN hP hD [1] rfl rfl (by decide) [] rfl rfl rfl) rfl rfl hl.1 rfl (lv_room (Nat.le_of_ble_eq_true rfl)) d_X_pilot_6 ⟨Nat.le_of_ble_eq_true rfl, Nat.le_of_ble_eq_true rfl⟩) hP hD hS hA [1] [0, 2] (wr := [(h0, .inr (5, [.ref k1, .ref k2, .ref k3, .ref k4, .ref k5, .int pl])), (k3, .inr (2, [.int ph, .int di, .long lm, .long cu, .long la, .long en]))]) rfl rfl (by decide) (by decide) (fun u_6 H locs hw_6 hP hD hK1 hS => ?_)
  obtain ⟨lv2_6, th2_6⟩ := u_6
  have hw_6 : lv2_6 = lvl p0 p1 ∧ th2_6 = p0 := hw_6
  have hP : va_P (dC, dI) classes [(h0, .inr (5, [.ref k1, .ref k2, .ref k3, .ref k4, .ref k5, .int pl])), (k3, .inr (2, [.int ph, .int di, .long lm, .long cu, .long la, .long en])), (k2, .inr (1, [.int lv2_6, .long th2_6]))] H := hP
  have hD : va_D A [(h0, .inr (5, [.ref k1, .ref k2, .ref k3, .ref k4, .ref k5, .int pl])), (k3, .inr (2, [.int ph, .int di, .long lm, .long cu, .long la, .long en])), (k2, .inr (1, [.int lv2_6, .long th2_6]))] := hD
  refine lv_aload_n hx hb d_X_pilot_9 rfl (lv_at hl 0 rfl) ?_
  refine va_get (D := (dC, dI)) (ci := 5) (v := .ref k2) (C := R_X) (T := F_X) (N := 6) hx hb hB inC_X hown hK hP 0 rfl rfl 1 (by decide) (hB _ kb_123) (fun _ h9 => h9) rfl d_X_pilot_10 ?_
  refine kc_i (va_runV (As := []) (rest := []) ⟨hx, hb, hml, hown, hts⟩ (c_Pi_isConnected l dC dI k2 H.size lv2_6 th2_6  ) (cwV 0 hts (ginV kb_146 kb_24 kb_25 kb_21 kb_22) rfl rfl rfl (by decide +kernel) ⟨Nat.le_of_ble_eq_true rfl, Nat.le_of_ble_eq_true rfl⟩) (preV (ci := 1) (wc := [(k2, .inr (1, [.int lv2_6, .long th2_6]))]) hK hN hP hD [2] rfl rfl (by decide) [] rfl rfl rfl) rfl rfl hl.1 rfl (lv_room (Nat.le_of_ble_eq_true rfl)) d_X_pilot_13 ⟨Nat.le_of_ble_eq_true rfl, Nat.le_of_ble_eq_true rfl⟩) hP hD hS hA [2] [0, 1] (wr := [(h0, .inr (5, [.ref k1, .ref k2, .ref k3, .ref k4, .ref k5, .int pl])), (k3, .inr (2, [.int ph, .int di, .long lm, .long cu, .long la, .long en]))]) rfl rfl (by decide) (by decide) (fun r_13 u_13 H locs hw_13 hP hD hK1 hS => ?_)
  have hw_13 : r_13 = bi (1 ≤ lv2_6 ∧ lv2_6 ≤ 3) := hw_13
  have hP : va_P (dC, dI) classes [(h0, .inr (5, [.ref k1, .ref k2, .ref k3, .ref k4, .ref k5, .int pl])), (k3, .inr (2, [.int ph, .int di, .long lm, .long cu, .long la, .long en])), (k2, .inr (1, [.int lv2_6, .long th2_6]))] H := hP
  have hD : va_D A [(h0, .inr (5, [.ref k1, .ref k2, .ref k3, .ref k4, .ref k5, .int pl])), (k3, .inr (2, [.int ph, .int di, .long lm, .long cu, .long la, .long en])), (k2, .inr (1, [.int lv2_6, .long th2_6]))] := hD
  refine lv_if_ne (tgt := 26) hx hb d_X_pilot_16 (by decide) (fun c_16 => ?_) (fun c_16 => ?_)
  · have c_16 := bi_y hw_13 c_16
    refine lv_aload_n hx hb d_X_pilot_26 rfl (lv_at hl 0 rfl) ?_
    refine va_get (D := (dC, dI)) (ci := 5) (v := .ref k2) (C := R_X) (T := F_X) (N := 6) hx hb hB inC_X hown hK hP 0 rfl rfl 1 (by decide) (hB _ kb_123) (fun _ h9 => h9) rfl d_X_pilot_27 ?_
    refine va_getN (host := "ChargeTalk") (D := (dC, dI)) (ci := 1) (v := .int lv2_6) (C := R_Pi) (T := F_Pi) (N := 2) hx hb hB inC_Pi hown hK hP 2 rfl rfl 0 (by decide) (va_Nw.use rfl (hN _ kn_7)) (fun _ h9 => h9) rfl d_X_pilot_30 ?_
    have hP9 := hP.sub (ws' := [(h0, .inr (5, [.ref k1, .ref k2, .ref k3, .ref k4, .ref k5, .int pl])), (k2, .inr (1, [.int lv2_6, .long th2_6])), (k3, .inr (2, [.int ph, .int di, .long lm, .long cu, .long la, .long en]))]) [0, 2, 1] rfl
    have hD9 := hD.sub (ws' := [(h0, .inr (5, [.ref k1, .ref k2, .ref k3, .ref k4, .ref k5, .int pl])), (k2, .inr (1, [.int lv2_6, .long th2_6])), (k3, .inr (2, [.int ph, .int di, .long lm, .long cu, .long la, .long en]))]) [0, 2, 1] (by decide) rfl
    have hK9 := hK.sub (tys' := []) [] rfl
    exact W.iret (v := lv2_6) hx hb hr (fun t ht hW => ⟨⟨lv2_6, (lv2_6, th2_6, ph), rfl, ⟨hw_6.1, hw_6⟩, by rw [ht]; exact hP9, va_K.moved hW.alike hK9, hD9⟩, hS.F ht⟩) hS.2.2 d_X_pilot_33
  · have c_16 := bi_n (hw_13.symm.trans c_16)
    refine lv_aload_n hx hb d_X_pilot_19 rfl (lv_at hl 0 rfl) ?_
    refine va_get (D := (dC, dI)) (ci := 5) (v := .ref k3) (C := R_X) (T := F_X) (N := 6) hx hb hB inC_X hown hK hP 0 rfl rfl 2 (by decide) (hB _ kb_128) (fun _ h9 => h9) rfl d_X_pilot_20 ?_
    refine kc_v (va_runV (As := []) (rest := []) ⟨hx, hb, hml, hown, hts⟩ (c_Ta_end l dC dI k3 H.size ph di lm cu la en  ) (cwV 0 hts (ginV kb_147 kb_45 kb_46 kb_47 kb_43) rfl rfl rfl (by decide +kernel) ⟨Nat.le_of_ble_eq_true rfl, Nat.le_of_ble_eq_true rfl⟩) (preV (ci := 2) (wc := [(k3, .inr (2, [.int ph, .int di, .long lm, .long cu, .long la, .long en]))]) hK hN hP hD [1] rfl rfl (by decide) [] rfl rfl rfl) rfl rfl hl.1 rfl (lv_room (Nat.le_of_ble_eq_true rfl)) d_X_pilot_23 ⟨Nat.le_of_ble_eq_true rfl, Nat.le_of_ble_eq_true rfl⟩) hP hD hS hA [1] [0, 2] (wr := [(h0, .inr (5, [.ref k1, .ref k2, .ref k3, .ref k4, .ref k5, .int pl])), (k2, .inr (1, [.int lv2_6, .long th2_6]))]) rfl rfl (by decide) (by decide) (fun u_23 H locs hw_23 hP hD hK1 hS => ?_)
    obtain ⟨ph2_23, rfl⟩ : ∃ z, z = u_23 := ⟨_, rfl⟩
    have hw_23 : True := hw_23
    have hP : va_P (dC, dI) classes [(h0, .inr (5, [.ref k1, .ref k2, .ref k3, .ref k4, .ref k5, .int pl])), (k2, .inr (1, [.int lv2_6, .long th2_6])), (k3, .inr (2, [.int ph2_23, .int di, .long lm, .long cu, .long la, .long en]))] H := hP
    have hD : va_D A [(h0, .inr (5, [.ref k1, .ref k2, .ref k3, .ref k4, .ref k5, .int pl])), (k2, .inr (1, [.int lv2_6, .long th2_6])), (k3, .inr (2, [.int ph2_23, .int di, .long lm, .long cu, .long la, .long en]))] := hD
    refine lv_aload_n hx hb d_X_pilot_26 rfl (lv_at hl 0 rfl) ?_
    refine va_get (D := (dC, dI)) (ci := 5) (v := .ref k2) (C := R_X) (T := F_X) (N := 6) hx hb hB inC_X hown hK hP 0 rfl rfl 1 (by decide) (hB _ kb_123) (fun _ h9 => h9) rfl d_X_pilot_27 ?_
    refine va_getN (host := "ChargeTalk") (D := (dC, dI)) (ci := 1) (v := .int lv2_6) (C := R_Pi) (T := F_Pi) (N := 2) hx hb hB inC_Pi hown hK hP 1 rfl rfl 0 (by decide) (va_Nw.use rfl (hN _ kn_7)) (fun _ h9 => h9) rfl d_X_pilot_30 ?_
    have hP9 := hP.sub (ws' := [(h0, .inr (5, [.ref k1, .ref k2, .ref k3, .ref k4, .ref k5, .int pl])), (k2, .inr (1, [.int lv2_6, .long th2_6])), (k3, .inr (2, [.int ph2_23, .int di, .long lm, .long cu, .long la, .long en]))]) [0, 1, 2] rfl
    have hD9 := hD.sub (ws' := [(h0, .inr (5, [.ref k1, .ref k2, .ref k3, .ref k4, .ref k5, .int pl])), (k2, .inr (1, [.int lv2_6, .long th2_6])), (k3, .inr (2, [.int ph2_23, .int di, .long lm, .long cu, .long la, .long en]))]) [0, 1, 2] (by decide) rfl
    have hK9 := hK.sub (tys' := []) [] rfl
    exact W.iret (v := lv2_6) hx hb hr (fun t ht hW => ⟨⟨lv2_6, (lv2_6, th2_6, ph2_23), rfl, ⟨hw_6.1, hw_6⟩, by rw [ht]; exact hP9, va_K.moved hW.alike hK9, hD9⟩, hS.F ht⟩) hS.2.2 d_X_pilot_33
set_option maxHeartbeats 4000000 in
set_option maxRecDepth 100000 in
theorem c_X_message (l : Launch) (dC : Nat → ClassId) (dI : Nat → Nat → Nat) (h0 : Nat) (k1 : Nat) (k2 : Nat) (k3 : Nat) (k4 : Nat) (k5 : Nat) (sz : Nat) (pl : Int32) (told : Int64) (lv : Int32) (th : Int64) (ph : Int32) (di : Int32) (lm : Int64) (cu : Int64) (la : Int64) (en : Int64) (p0 : Int32) (p1 : Int64) (p2 : Int64) : Met l y_X_message w_X_message ({ frames := 4, cells := 0, slots := 0, locals := 97 }) (cPre dC dI [.ref h0, .int p0, .long p1, .long p2] sz [] [(h0, .inr (5, [.ref k1, .ref k2, .ref k3, .ref k4, .ref k5, .int pl])), (k1, .inr (0, [.long told])), (k2, .inr (1, [.int lv, .long th])), (k3, .inr (2, [.int ph, .int di, .long lm, .long cu, .long la, .long en]))]) (va_Qi (fun (r : Int32) (u : Int64 × Int32 × Int32 × Int64 × Int64 × Int64 × Int64) => True) (fun (u : Int64 × Int32 × Int32 × Int64 × Int64 × Int64 × Int64) (t : State) => cB dC dI (va_A [(h0, .inr (5, [.ref k1, .ref k2, .ref k3, .ref k4, .ref k5, .int pl])), (k1, .inr (0, [.long told])), (k2, .inr (1, [.int lv, .long th])), (k3, .inr (2, [.int ph, .int di, .long lm, .long cu, .long la, .long en]))] sz) [] [(h0, .inr (5, [.ref k1, .ref k2, .ref k3, .ref k4, .ref k5, .int pl])), (k1, .inr (0, [.long u.1])), (k2, .inr (1, [.int lv, .long th])), (k3, .inr (2, [.int u.2.1, .int u.2.2.1, .long u.2.2.2.1, .long u.2.2.2.2.1, .long u.2.2.2.2.2.1, .long u.2.2.2.2.2.2]))] t) (va_A [(h0, .inr (5, [.ref k1, .ref k2, .ref k3, .ref k4, .ref k5, .int pl])), (k1, .inr (0, [.long told])), (k2, .inr (1, [.int lv, .long th])), (k3, .inr (2, [.int ph, .int di, .long lm, .long cu, .long la, .long en]))] sz)) 0 0 (va_A [(h0, .inr (5, [.ref k1, .ref k2, .ref k3, .ref k4, .ref k5, .int pl])), (k1, .inr (0, [.long told])), (k2, .inr (1, [.int lv, .long th])), (k3, .inr (2, [.int ph, .int di, .long lm, .long cu, .long la, .long en]))] sz) := by
  refine Met.ofW (cc := b_X_message) (maxL := 7) (ret := (some .int)) (by decide) rfl ?_
  intro p e s m args below meth c s₁ B hml hv
  obtain ⟨rfl, hsz, hN, hP, hK, hD0⟩ := hv
  have hx := B.exec
  have hb := B.bytes
  have hr := B.returns
  have hts := atoms_spec (ws := w_X_message) B.pre
  have hB := big_of hts
  have hown : s.vm.findClass R_X = some m.cls := findClass_of_methodNamed B.named
  have hlocks := B.notSynchronized
  subst hsz
  have hD := hD0.self (sz := s.heap.size)
  generalize hAe : va_A [(h0, .inr (5, [.ref k1, .ref k2, .ref k3, .ref k4, .ref k5, .int pl])), (k1, .inr (0, [.long told])), (k2, .inr (1, [.int lv, .long th])), (k3, .inr (2, [.int ph, .int di, .long lm, .long cu, .long la, .long en]))] s.heap.size = A at hD ⊢
  have hA : ∀ q : Nat, s.heap.size ≤ q → A q := fun q h => by rw [← hAe]; exact Or.inr h
  have hS : va_S A s.heap s.heap [] := va_S.rf
  have hP : va_P (dC, dI) classes [(h0, .inr (5, [.ref k1, .ref k2, .ref k3, .ref k4, .ref k5, .int pl])), (k1, .inr (0, [.long told])), (k2, .inr (1, [.int lv, .long th])), (k3, .inr (2, [.int ph, .int di, .long lm, .long cu, .long la, .long en]))] s.heap := hP
  have hl := lv_entry ([.ref h0, .int p0, .long p1, .long p2]) (n := 7) (Nat.le_of_ble_eq_true rfl)
  rw [lg_entry_eq]
  generalize (lg_sl ([.ref h0, .int p0, .long p1, .long p2]) ++ List.replicate (7 - (lg_sl ([.ref h0, .int p0, .long p1, .long p2])).length) Slot.unset).toArray = ls at hl ⊢
  have hl : lv_has ls 7 [(0, .ref h0), (1, .int p0), (2, .long p1), (4, .long p2)] := hl
  refine lv_iload_n hx hb d_X_message_0 rfl (lv_at hl 1 rfl) ?_
  refine lv_if_lt (tgt := 10) hx hb d_X_message_1 (by decide) (fun c_1 => ?_) (fun c_1 => ?_)
  · skip
    refine lv_bipush (v := (-2)) hx hb d_X_message_10 (by decide) ?_
    have hP9 := hP.sub (ws' := [(h0, .inr (5, [.ref k1, .ref k2, .ref k3, .ref k4, .ref k5, .int pl])), (k1, .inr (0, [.long told])), (k2, .inr (1, [.int lv, .long th])), (k3, .inr (2, [.int ph, .int di, .long lm, .long cu, .long la, .long en]))]) [0, 1, 2, 3] rfl
    have hD9 := hD.sub (ws' := [(h0, .inr (5, [.ref k1, .ref k2, .ref k3, .ref k4, .ref k5, .int pl])), (k1, .inr (0, [.long told])), (k2, .inr (1, [.int lv, .long th])), (k3, .inr (2, [.int ph, .int di, .long lm, .long cu, .long la, .long en]))]) [0, 1, 2, 3] (by decide) rfl
    have hK9 := hK.sub (tys' := []) [] rfl
    exact W.iret (v := (-2)) hx hb hr (fun t ht hW => ⟨⟨(-2), (told, ph, di, lm, cu, la, en), rfl, trivial, by rw [ht]; exact hP9, va_K.moved hW.alike hK9, hD9⟩, hS.F ht⟩) hS.2.2 d_X_message_12
  · skip
    refine lv_iload_n hx hb d_X_message_4 rfl (lv_at hl 1 rfl) ?_
    refine lv_bipush (v := 10) hx hb d_X_message_5 (by decide) ?_
    refine lv_icmp_le (tgt := 13) hx hb d_X_message_7 (by decide) (fun c_7 => ?_) (fun c_7 => ?_)
    · skip
      refine lv_lload_n hx hb d_X_message_13 rfl (lv_at hl 2 rfl) ?_
      refine lv_ldc2 (v := (-1000000)) hx hb hown (hB _ kb_148) d_X_message_14 ?_
      refine lv_ldc2 (v := 1000000) hx hb hown (hB _ kb_149) d_X_message_17 ?_
      refine kc_i (va_runS (As := [.long p1, .long (-1000000), .long 1000000]) (rest := []) ⟨hx, hb, hml, hown, hts⟩ (c_X_isWithin l dC dI  s.heap.size  p1 (-1000000) 1000000 ) (cwS 3 hts (ginS kb_150 kb_8 kb_7 kb_6) rfl rfl rfl (by decide +kernel) ⟨Nat.le_of_ble_eq_true rfl, Nat.le_of_ble_eq_true rfl⟩) (preS (wc := []) hK hN hP hD [] rfl rfl (by decide) [] rfl) rfl rfl hl.1 rfl (lv_room (Nat.le_of_ble_eq_true rfl)) d_X_message_20 ⟨Nat.le_of_ble_eq_true rfl, Nat.le_of_ble_eq_true rfl⟩) hP hD hS hA [] [0, 1, 2, 3] (wr := [(h0, .inr (5, [.ref k1, .ref k2, .ref k3, .ref k4, .ref k5, .int pl])), (k1, .inr (0, [.long told])), (k2, .inr (1, [.int lv, .long th])), (k3, .inr (2, [.int ph, .int di, .long lm, .long cu, .long la, .long en]))]) rfl rfl (by decide) (by decide) (fun r_20 u_20 H locs hw_20 hP hD hK1 hS => ?_)
      have hw_20 : r_20 = bi ((-1000000) ≤ p1 ∧ p1 ≤ 1000000) := hw_20
      have hP : va_P (dC, dI) classes [(h0, .inr (5, [.ref k1, .ref k2, .ref k3, .ref k4, .ref k5, .int pl])), (k1, .inr (0, [.long told])), (k2, .inr (1, [.int lv, .long th])), (k3, .inr (2, [.int ph, .int di, .long lm, .long cu, .long la, .long en]))] H := hP
      have hD : va_D A [(h0, .inr (5, [.ref k1, .ref k2, .ref k3, .ref k4, .ref k5, .int pl])), (k1, .inr (0, [.long told])), (k2, .inr (1, [.int lv, .long th])), (k3, .inr (2, [.int ph, .int di, .long lm, .long cu, .long la, .long en]))] := hD
      refine lv_if_eq (tgt := 38) hx hb d_X_message_23 (by decide) (fun c_23 => ?_) (fun c_23 => ?_)
      · have c_23 := bi_n (hw_20.symm.trans c_23)
        refine lv_bipush (v := (-2)) hx hb d_X_message_38 (by decide) ?_
        have hP9 := hP.sub (ws' := [(h0, .inr (5, [.ref k1, .ref k2, .ref k3, .ref k4, .ref k5, .int pl])), (k1, .inr (0, [.long told])), (k2, .inr (1, [.int lv, .long th])), (k3, .inr (2, [.int ph, .int di, .long lm, .long cu, .long la, .long en]))]) [0, 1, 2, 3] rfl
        have hD9 := hD.sub (ws' := [(h0, .inr (5, [.ref k1, .ref k2, .ref k3, .ref k4, .ref k5, .int pl])), (k1, .inr (0, [.long told])), (k2, .inr (1, [.int lv, .long th])), (k3, .inr (2, [.int ph, .int di, .long lm, .long cu, .long la, .long en]))]) [0, 1, 2, 3] (by decide) rfl
        have hK9 := hK.sub (tys' := []) [] rfl
        exact W.iret (v := (-2)) hx hb hr (fun t ht hW => ⟨⟨(-2), (told, ph, di, lm, cu, la, en), rfl, trivial, by rw [ht]; exact hP9, va_K.moved hW.alike hK9, hD9⟩, hS.F ht⟩) hS.2.2 d_X_message_40
      · have c_23 := bi_y hw_20 c_23
        refine lv_aload_n hx hb d_X_message_26 rfl (lv_at hl 0 rfl) ?_
        refine va_get (D := (dC, dI)) (ci := 5) (v := .ref k1) (C := R_X) (T := F_X) (N := 6) hx hb hB inC_X hown hK hP 0 rfl rfl 0 (by decide) (hB _ kb_118) (fun _ h9 => h9) rfl d_X_message_27 ?_
        refine lv_lload hx hb d_X_message_30 (lv_at hl 3 rfl) ?_
        refine kc_i (va_runV (As := [.long p2]) (rest := []) ⟨hx, hb, hml, hown, hts⟩ (c_Ck_canTell l dC dI k1 H.size told p2 ) (cwV 1 hts (ginV kb_152 kb_153 kb_154 kb_115 kb_151) rfl rfl rfl (by decide +kernel) ⟨Nat.le_of_ble_eq_true rfl, Nat.le_of_ble_eq_true rfl⟩) (preV (ci := 0) (wc := [(k1, .inr (0, [.long told]))]) hK hN hP hD [1] rfl rfl (by decide) [] rfl rfl rfl) rfl rfl hl.1 rfl (lv_room (Nat.le_of_ble_eq_true rfl)) d_X_message_32 ⟨Nat.le_of_ble_eq_true rfl, Nat.le_of_ble_eq_true rfl⟩) hP hD hS hA [1] [0, 2, 3] (wr := [(h0, .inr (5, [.ref k1, .ref k2, .ref k3, .ref k4, .ref k5, .int pl])), (k2, .inr (1, [.int lv, .long th])), (k3, .inr (2, [.int ph, .int di, .long lm, .long cu, .long la, .long en]))]) rfl rfl (by decide) (by decide) (fun r_32 u_32 H locs hw_32 hP hD hK1 hS => ?_)
        have hw_32 : r_32 = bi (told ≤ p2 ∧ p2 ≤ 1125899906842624) := hw_32
        have hP : va_P (dC, dI) classes [(h0, .inr (5, [.ref k1, .ref k2, .ref k3, .ref k4, .ref k5, .int pl])), (k2, .inr (1, [.int lv, .long th])), (k3, .inr (2, [.int ph, .int di, .long lm, .long cu, .long la, .long en])), (k1, .inr (0, [.long told]))] H := hP
        have hD : va_D A [(h0, .inr (5, [.ref k1, .ref k2, .ref k3, .ref k4, .ref k5, .int pl])), (k2, .inr (1, [.int lv, .long th])), (k3, .inr (2, [.int ph, .int di, .long lm, .long cu, .long la, .long en])), (k1, .inr (0, [.long told]))] := hD
        refine lv_if_ne (tgt := 41) hx hb d_X_message_35 (by decide) (fun c_35 => ?_) (fun c_35 => ?_)
        · have c_35 := bi_y hw_32 c_35
          refine lv_aload_n hx hb d_X_message_41 rfl (lv_at hl 0 rfl) ?_
          refine va_get (D := (dC, dI)) (ci := 5) (v := .ref k1) (C := R_X) (T := F_X) (N := 6) hx hb hB inC_X hown hK hP 0 rfl rfl 0 (by decide) (hB _ kb_118) (fun _ h9 => h9) rfl d_X_message_42 ?_
          refine lv_lload hx hb d_X_message_45 (lv_at hl 3 rfl) ?_
          refine kc_v (va_runV (As := [.long p2]) (rest := []) ⟨hx, hb, hml, hown, hts⟩ (c_Ck_tell l dC dI k1 H.size told p2 ) (cwV 1 hts (ginV kb_156 kb_157 kb_158 kb_115 kb_155) rfl rfl rfl (by decide +kernel) ⟨Nat.le_of_ble_eq_true rfl, Nat.le_of_ble_eq_true rfl⟩) (preV (ci := 0) (wc := [(k1, .inr (0, [.long told]))]) hK hN hP hD [3] rfl rfl (by decide) [] rfl rfl rfl) rfl rfl hl.1 rfl (lv_room (Nat.le_of_ble_eq_true rfl)) d_X_message_47 ⟨Nat.le_of_ble_eq_true rfl, Nat.le_of_ble_eq_true rfl⟩) hP hD hS hA [3] [0, 1, 2] (wr := [(h0, .inr (5, [.ref k1, .ref k2, .ref k3, .ref k4, .ref k5, .int pl])), (k2, .inr (1, [.int lv, .long th])), (k3, .inr (2, [.int ph, .int di, .long lm, .long cu, .long la, .long en]))]) rfl rfl (by decide) (by decide) (fun u_47 H locs hw_47 hP hD hK1 hS => ?_)
          obtain ⟨told2_47, rfl⟩ : ∃ z, z = u_47 := ⟨_, rfl⟩
          have hw_47 : told2_47 = p2 := hw_47
          have hP : va_P (dC, dI) classes [(h0, .inr (5, [.ref k1, .ref k2, .ref k3, .ref k4, .ref k5, .int pl])), (k2, .inr (1, [.int lv, .long th])), (k3, .inr (2, [.int ph, .int di, .long lm, .long cu, .long la, .long en])), (k1, .inr (0, [.long told2_47]))] H := hP
          have hD : va_D A [(h0, .inr (5, [.ref k1, .ref k2, .ref k3, .ref k4, .ref k5, .int pl])), (k2, .inr (1, [.int lv, .long th])), (k3, .inr (2, [.int ph, .int di, .long lm, .long cu, .long la, .long en])), (k1, .inr (0, [.long told2_47]))] := hD
          refine lv_aload_n hx hb d_X_message_50 rfl (lv_at hl 0 rfl) ?_
          refine va_get (D := (dC, dI)) (ci := 5) (v := .ref k2) (C := R_X) (T := F_X) (N := 6) hx hb hB inC_X hown hK hP 0 rfl rfl 1 (by decide) (hB _ kb_123) (fun _ h9 => h9) rfl d_X_message_51 ?_
          refine kc_i (va_runV (As := []) (rest := []) ⟨hx, hb, hml, hown, hts⟩ (c_Pi_isDigital l dC dI k2 H.size lv th  ) (cwV 0 hts (ginV kb_160 kb_161 kb_162 kb_21 kb_159) rfl rfl rfl (by decide +kernel) ⟨Nat.le_of_ble_eq_true rfl, Nat.le_of_ble_eq_true rfl⟩) (preV (ci := 1) (wc := [(k2, .inr (1, [.int lv, .long th]))]) hK hN hP hD [1] rfl rfl (by decide) [] rfl rfl rfl) rfl rfl hl.1 rfl (lv_room (Nat.le_of_ble_eq_true rfl)) d_X_message_54 ⟨Nat.le_of_ble_eq_true rfl, Nat.le_of_ble_eq_true rfl⟩) hP hD hS hA [1] [0, 2, 3] (wr := [(h0, .inr (5, [.ref k1, .ref k2, .ref k3, .ref k4, .ref k5, .int pl])), (k3, .inr (2, [.int ph, .int di, .long lm, .long cu, .long la, .long en])), (k1, .inr (0, [.long told2_47]))]) rfl rfl (by decide) (by decide) (fun r_54 u_54 H locs hw_54 hP hD hK1 hS => ?_)
          have hw_54 : True := hw_54
          have hP : va_P (dC, dI) classes [(h0, .inr (5, [.ref k1, .ref k2, .ref k3, .ref k4, .ref k5, .int pl])), (k3, .inr (2, [.int ph, .int di, .long lm, .long cu, .long la, .long en])), (k1, .inr (0, [.long told2_47])), (k2, .inr (1, [.int lv, .long th]))] H := hP
          have hD : va_D A [(h0, .inr (5, [.ref k1, .ref k2, .ref k3, .ref k4, .ref k5, .int pl])), (k3, .inr (2, [.int ph, .int di, .long lm, .long cu, .long la, .long en])), (k1, .inr (0, [.long told2_47])), (k2, .inr (1, [.int lv, .long th]))] := hD
          refine lv_if_eq (tgt := 71) hx hb d_X_message_57 (by decide) (fun c_57 => ?_) (fun c_57 => ?_)
          · skip
            refine lv_iconst (v := 0) hx hb d_X_message_71 (by decide) ?_
            refine lv_istore (lv' := [(6, .int 0), (0, .ref h0), (1, .int p0), (2, .long p1), (4, .long p2)]) hx hb d_X_message_72 hl (by decide) rfl (fun ls hl => ?_)
            refine lv_aload_n hx hb d_X_message_74 rfl (lv_at hl 1 rfl) ?_
            refine va_get (D := (dC, dI)) (ci := 5) (v := .ref k3) (C := R_X) (T := F_X) (N := 6) hx hb hB inC_X hown hK hP 0 rfl rfl 2 (by decide) (hB _ kb_128) (fun _ h9 => h9) rfl d_X_message_75 ?_
            refine lv_iload_n hx hb d_X_message_78 rfl (lv_at hl 2 rfl) ?_
            refine lv_lload_n hx hb d_X_message_79 rfl (lv_at hl 3 rfl) ?_
            refine lv_lload hx hb d_X_message_80 (lv_at hl 4 rfl) ?_
            refine lv_iload hx hb d_X_message_82 (lv_at hl 0 rfl) ?_
            refine kc_i (va_runV (As := [.int p0, .long p1, .long p2, .int 0]) (rest := []) ⟨hx, hb, hml, hown, hts⟩ (c_Ta_take l dC dI k3 H.size ph di lm cu la en p0 p1 p2 0 ) (cwV 4 hts (ginV kb_164 kb_165 kb_166 kb_47 kb_163) rfl rfl rfl (by decide +kernel) ⟨Nat.le_of_ble_eq_true rfl, Nat.le_of_ble_eq_true rfl⟩) (preV (ci := 2) (wc := [(k3, .inr (2, [.int ph, .int di, .long lm, .long cu, .long la, .long en]))]) hK hN hP hD [1] rfl rfl (by decide) [] rfl rfl rfl) rfl rfl hl.1 rfl (lv_room (Nat.le_of_ble_eq_true rfl)) d_X_message_84 ⟨Nat.le_of_ble_eq_true rfl, Nat.le_of_ble_eq_true rfl⟩) hP hD hS hA [1] [0, 2, 3] (wr := [(h0, .inr (5, [.ref k1, .ref k2, .ref k3, .ref k4, .ref k5, .int pl])), (k1, .inr (0, [.long told2_47])), (k2, .inr (1, [.int lv, .long th]))]) rfl rfl (by decide) (by decide) (fun r_84 u_84 H locs hw_84 hP hD hK1 hS => ?_)
            obtain ⟨ph2_84, di2_84, lm2_84, cu2_84, la2_84, en2_84⟩ := u_84
            have hw_84 : True := hw_84
            have hP : va_P (dC, dI) classes [(h0, .inr (5, [.ref k1, .ref k2, .ref k3, .ref k4, .ref k5, .int pl])), (k1, .inr (0, [.long told2_47])), (k2, .inr (1, [.int lv, .long th])), (k3, .inr (2, [.int ph2_84, .int di2_84, .long lm2_84, .long cu2_84, .long la2_84, .long en2_84]))] H := hP
            have hD : va_D A [(h0, .inr (5, [.ref k1, .ref k2, .ref k3, .ref k4, .ref k5, .int pl])), (k1, .inr (0, [.long told2_47])), (k2, .inr (1, [.int lv, .long th])), (k3, .inr (2, [.int ph2_84, .int di2_84, .long lm2_84, .long cu2_84, .long la2_84, .long en2_84]))] := hD
            refine lv_if_eq (tgt := 100) hx hb d_X_message_87 (by decide) (fun c_87 => ?_) (fun c_87 => ?_)
            · skip
              refine lv_bipush (v := (-3)) hx hb d_X_message_100 (by decide) ?_
              have hP9 := hP.sub (ws' := [(h0, .inr (5, [.ref k1, .ref k2, .ref k3, .ref k4, .ref k5, .int pl])), (k1, .inr (0, [.long told2_47])), (k2, .inr (1, [.int lv, .long th])), (k3, .inr (2, [.int ph2_84, .int di2_84, .long lm2_84, .long cu2_84, .long la2_84, .long en2_84]))]) [0, 1, 2, 3] rfl
              have hD9 := hD.sub (ws' := [(h0, .inr (5, [.ref k1, .ref k2, .ref k3, .ref k4, .ref k5, .int pl])), (k1, .inr (0, [.long told2_47])), (k2, .inr (1, [.int lv, .long th])), (k3, .inr (2, [.int ph2_84, .int di2_84, .long lm2_84, .long cu2_84, .long la2_84, .long en2_84]))]) [0, 1, 2, 3] (by decide) rfl
              have hK9 := hK.sub (tys' := []) [] rfl
              exact W.iret (v := (-3)) hx hb hr (fun t ht hW => ⟨⟨(-3), (told2_47, ph2_84, di2_84, lm2_84, cu2_84, la2_84, en2_84), rfl, trivial, by rw [ht]; exact hP9, va_K.moved hW.alike hK9, hD9⟩, hS.F ht⟩) hS.2.2 d_X_message_102
            · skip
              refine lv_aload_n hx hb d_X_message_90 rfl (lv_at hl 1 rfl) ?_
              refine va_get (D := (dC, dI)) (ci := 5) (v := .ref k3) (C := R_X) (T := F_X) (N := 6) hx hb hB inC_X hown hK hP 0 rfl rfl 2 (by decide) (hB _ kb_128) (fun _ h9 => h9) rfl d_X_message_91 ?_
              refine va_getN (host := "ChargeTalk") (D := (dC, dI)) (ci := 2) (v := .int ph2_84) (C := R_Ta) (T := F_Ta) (N := 6) hx hb hB inC_Ta hown hK hP 3 rfl rfl 0 (by decide) (va_Nw.use rfl (hN _ kn_8)) (fun _ h9 => h9) rfl d_X_message_94 ?_
              refine lv_goto (tgt := 102) hx hb d_X_message_97 (by decide) ?_
              have hP9 := hP.sub (ws' := [(h0, .inr (5, [.ref k1, .ref k2, .ref k3, .ref k4, .ref k5, .int pl])), (k1, .inr (0, [.long told2_47])), (k2, .inr (1, [.int lv, .long th])), (k3, .inr (2, [.int ph2_84, .int di2_84, .long lm2_84, .long cu2_84, .long la2_84, .long en2_84]))]) [0, 1, 2, 3] rfl
              have hD9 := hD.sub (ws' := [(h0, .inr (5, [.ref k1, .ref k2, .ref k3, .ref k4, .ref k5, .int pl])), (k1, .inr (0, [.long told2_47])), (k2, .inr (1, [.int lv, .long th])), (k3, .inr (2, [.int ph2_84, .int di2_84, .long lm2_84, .long cu2_84, .long la2_84, .long en2_84]))]) [0, 1, 2, 3] (by decide) rfl
              have hK9 := hK.sub (tys' := []) [] rfl
              exact W.iret (v := ph2_84) hx hb hr (fun t ht hW => ⟨⟨ph2_84, (told2_47, ph2_84, di2_84, lm2_84, cu2_84, la2_84, en2_84), rfl, trivial, by rw [ht]; exact hP9, va_K.moved hW.alike hK9, hD9⟩, hS.F ht⟩) hS.2.2 d_X_message_102
          · skip
            refine lv_aload_n hx hb d_X_message_60 rfl (lv_at hl 0 rfl) ?_
            refine va_get (D := (dC, dI)) (ci := 5) (v := .int pl) (C := R_X) (T := F_X) (N := 6) hx hb hB inC_X hown hK hP 0 rfl rfl 5 (by decide) (hB _ kb_141) (fun _ h9 => h9) rfl d_X_message_61 ?_
            refine lv_if_eq (tgt := 71) hx hb d_X_message_64 (by decide) (fun c_64 => ?_) (fun c_64 => ?_)
            · skip
              refine lv_iconst (v := 0) hx hb d_X_message_71 (by decide) ?_
              refine lv_istore (lv' := [(6, .int 0), (0, .ref h0), (1, .int p0), (2, .long p1), (4, .long p2)]) hx hb d_X_message_72 hl (by decide) rfl (fun ls hl => ?_)
              refine lv_aload_n hx hb d_X_message_74 rfl (lv_at hl 1 rfl) ?_
              refine va_get (D := (dC, dI)) (ci := 5) (v := .ref k3) (C := R_X) (T := F_X) (N := 6) hx hb hB inC_X hown hK hP 0 rfl rfl 2 (by decide) (hB _ kb_128) (fun _ h9 => h9) rfl d_X_message_75 ?_
              refine lv_iload_n hx hb d_X_message_78 rfl (lv_at hl 2 rfl) ?_
              refine lv_lload_n hx hb d_X_message_79 rfl (lv_at hl 3 rfl) ?_
              refine lv_lload hx hb d_X_message_80 (lv_at hl 4 rfl) ?_
              refine lv_iload hx hb d_X_message_82 (lv_at hl 0 rfl) ?_
              refine kc_i (va_runV (As := [.int p0, .long p1, .long p2, .int 0]) (rest := []) ⟨hx, hb, hml, hown, hts⟩ (c_Ta_take l dC dI k3 H.size ph di lm cu la en p0 p1 p2 0 ) (cwV 4 hts (ginV kb_164 kb_165 kb_166 kb_47 kb_163) rfl rfl rfl (by decide +kernel) ⟨Nat.le_of_ble_eq_true rfl, Nat.le_of_ble_eq_true rfl⟩) (preV (ci := 2) (wc := [(k3, .inr (2, [.int ph, .int di, .long lm, .long cu, .long la, .long en]))]) hK hN hP hD [1] rfl rfl (by decide) [] rfl rfl rfl) rfl rfl hl.1 rfl (lv_room (Nat.le_of_ble_eq_true rfl)) d_X_message_84 ⟨Nat.le_of_ble_eq_true rfl, Nat.le_of_ble_eq_true rfl⟩) hP hD hS hA [1] [0, 2, 3] (wr := [(h0, .inr (5, [.ref k1, .ref k2, .ref k3, .ref k4, .ref k5, .int pl])), (k1, .inr (0, [.long told2_47])), (k2, .inr (1, [.int lv, .long th]))]) rfl rfl (by decide) (by decide) (fun r_84 u_84 H locs hw_84 hP hD hK1 hS => ?_)
              obtain ⟨ph2_84, di2_84, lm2_84, cu2_84, la2_84, en2_84⟩ := u_84
              have hw_84 : True := hw_84
              have hP : va_P (dC, dI) classes [(h0, .inr (5, [.ref k1, .ref k2, .ref k3, .ref k4, .ref k5, .int pl])), (k1, .inr (0, [.long told2_47])), (k2, .inr (1, [.int lv, .long th])), (k3, .inr (2, [.int ph2_84, .int di2_84, .long lm2_84, .long cu2_84, .long la2_84, .long en2_84]))] H := hP
              have hD : va_D A [(h0, .inr (5, [.ref k1, .ref k2, .ref k3, .ref k4, .ref k5, .int pl])), (k1, .inr (0, [.long told2_47])), (k2, .inr (1, [.int lv, .long th])), (k3, .inr (2, [.int ph2_84, .int di2_84, .long lm2_84, .long cu2_84, .long la2_84, .long en2_84]))] := hD
              refine lv_if_eq (tgt := 100) hx hb d_X_message_87 (by decide) (fun c_87 => ?_) (fun c_87 => ?_)
              · skip
                refine lv_bipush (v := (-3)) hx hb d_X_message_100 (by decide) ?_
                have hP9 := hP.sub (ws' := [(h0, .inr (5, [.ref k1, .ref k2, .ref k3, .ref k4, .ref k5, .int pl])), (k1, .inr (0, [.long told2_47])), (k2, .inr (1, [.int lv, .long th])), (k3, .inr (2, [.int ph2_84, .int di2_84, .long lm2_84, .long cu2_84, .long la2_84, .long en2_84]))]) [0, 1, 2, 3] rfl
                have hD9 := hD.sub (ws' := [(h0, .inr (5, [.ref k1, .ref k2, .ref k3, .ref k4, .ref k5, .int pl])), (k1, .inr (0, [.long told2_47])), (k2, .inr (1, [.int lv, .long th])), (k3, .inr (2, [.int ph2_84, .int di2_84, .long lm2_84, .long cu2_84, .long la2_84, .long en2_84]))]) [0, 1, 2, 3] (by decide) rfl
                have hK9 := hK.sub (tys' := []) [] rfl
                exact W.iret (v := (-3)) hx hb hr (fun t ht hW => ⟨⟨(-3), (told2_47, ph2_84, di2_84, lm2_84, cu2_84, la2_84, en2_84), rfl, trivial, by rw [ht]; exact hP9, va_K.moved hW.alike hK9, hD9⟩, hS.F ht⟩) hS.2.2 d_X_message_102
              · skip
                refine lv_aload_n hx hb d_X_message_90 rfl (lv_at hl 1 rfl) ?_
                refine va_get (D := (dC, dI)) (ci := 5) (v := .ref k3) (C := R_X) (T := F_X) (N := 6) hx hb hB inC_X hown hK hP 0 rfl rfl 2 (by decide) (hB _ kb_128) (fun _ h9 => h9) rfl d_X_message_91 ?_
                refine va_getN (host := "ChargeTalk") (D := (dC, dI)) (ci := 2) (v := .int ph2_84) (C := R_Ta) (T := F_Ta) (N := 6) hx hb hB inC_Ta hown hK hP 3 rfl rfl 0 (by decide) (va_Nw.use rfl (hN _ kn_8)) (fun _ h9 => h9) rfl d_X_message_94 ?_
                refine lv_goto (tgt := 102) hx hb d_X_message_97 (by decide) ?_
                have hP9 := hP.sub (ws' := [(h0, .inr (5, [.ref k1, .ref k2, .ref k3, .ref k4, .ref k5, .int pl])), (k1, .inr (0, [.long told2_47])), (k2, .inr (1, [.int lv, .long th])), (k3, .inr (2, [.int ph2_84, .int di2_84, .long lm2_84, .long cu2_84, .long la2_84, .long en2_84]))]) [0, 1, 2, 3] rfl
                have hD9 := hD.sub (ws' := [(h0, .inr (5, [.ref k1, .ref k2, .ref k3, .ref k4, .ref k5, .int pl])), (k1, .inr (0, [.long told2_47])), (k2, .inr (1, [.int lv, .long th])), (k3, .inr (2, [.int ph2_84, .int di2_84, .long lm2_84, .long cu2_84, .long la2_84, .long en2_84]))]) [0, 1, 2, 3] (by decide) rfl
                have hK9 := hK.sub (tys' := []) [] rfl
                exact W.iret (v := ph2_84) hx hb hr (fun t ht hW => ⟨⟨ph2_84, (told2_47, ph2_84, di2_84, lm2_84, cu2_84, la2_84, en2_84), rfl, trivial, by rw [ht]; exact hP9, va_K.moved hW.alike hK9, hD9⟩, hS.F ht⟩) hS.2.2 d_X_message_102
            · skip
              refine lv_iconst (v := 1) hx hb d_X_message_67 (by decide) ?_
              refine lv_goto (tgt := 72) hx hb d_X_message_68 (by decide) ?_
              refine lv_istore (lv' := [(6, .int 1), (0, .ref h0), (1, .int p0), (2, .long p1), (4, .long p2)]) hx hb d_X_message_72 hl (by decide) rfl (fun ls hl => ?_)
              refine lv_aload_n hx hb d_X_message_74 rfl (lv_at hl 1 rfl) ?_
              refine va_get (D := (dC, dI)) (ci := 5) (v := .ref k3) (C := R_X) (T := F_X) (N := 6) hx hb hB inC_X hown hK hP 0 rfl rfl 2 (by decide) (hB _ kb_128) (fun _ h9 => h9) rfl d_X_message_75 ?_
              refine lv_iload_n hx hb d_X_message_78 rfl (lv_at hl 2 rfl) ?_
              refine lv_lload_n hx hb d_X_message_79 rfl (lv_at hl 3 rfl) ?_
              refine lv_lload hx hb d_X_message_80 (lv_at hl 4 rfl) ?_
              refine lv_iload hx hb d_X_message_82 (lv_at hl 0 rfl) ?_
              refine kc_i (va_runV (As := [.int p0, .long p1, .long p2, .int 1]) (rest := []) ⟨hx, hb, hml, hown, hts⟩ (c_Ta_take l dC dI k3 H.size ph di lm cu la en p0 p1 p2 1 ) (cwV 4 hts (ginV kb_164 kb_165 kb_166 kb_47 kb_163) rfl rfl rfl (by decide +kernel) ⟨Nat.le_of_ble_eq_true rfl, Nat.le_of_ble_eq_true rfl⟩) (preV (ci := 2) (wc := [(k3, .inr (2, [.int ph, .int di, .long lm, .long cu, .long la, .long en]))]) hK hN hP hD [1] rfl rfl (by decide) [] rfl rfl rfl) rfl rfl hl.1 rfl (lv_room (Nat.le_of_ble_eq_true rfl)) d_X_message_84 ⟨Nat.le_of_ble_eq_true rfl, Nat.le_of_ble_eq_true rfl⟩) hP hD hS hA [1] [0, 2, 3] (wr := [(h0, .inr (5, [.ref k1, .ref k2, .ref k3, .ref k4, .ref k5, .int pl])), (k1, .inr (0, [.long told2_47])), (k2, .inr (1, [.int lv, .long th]))]) rfl rfl (by decide) (by decide) (fun r_84 u_84 H locs hw_84 hP hD hK1 hS => ?_)
              obtain ⟨ph2_84, di2_84, lm2_84, cu2_84, la2_84, en2_84⟩ := u_84
              have hw_84 : True := hw_84
              have hP : va_P (dC, dI) classes [(h0, .inr (5, [.ref k1, .ref k2, .ref k3, .ref k4, .ref k5, .int pl])), (k1, .inr (0, [.long told2_47])), (k2, .inr (1, [.int lv, .long th])), (k3, .inr (2, [.int ph2_84, .int di2_84, .long lm2_84, .long cu2_84, .long la2_84, .long en2_84]))] H := hP
              have hD : va_D A [(h0, .inr (5, [.ref k1, .ref k2, .ref k3, .ref k4, .ref k5, .int pl])), (k1, .inr (0, [.long told2_47])), (k2, .inr (1, [.int lv, .long th])), (k3, .inr (2, [.int ph2_84, .int di2_84, .long lm2_84, .long cu2_84, .long la2_84, .long en2_84]))] := hD
              refine lv_if_eq (tgt := 100) hx hb d_X_message_87 (by decide) (fun c_87 => ?_) (fun c_87 => ?_)
              · skip
                refine lv_bipush (v := (-3)) hx hb d_X_message_100 (by decide) ?_
                have hP9 := hP.sub (ws' := [(h0, .inr (5, [.ref k1, .ref k2, .ref k3, .ref k4, .ref k5, .int pl])), (k1, .inr (0, [.long told2_47])), (k2, .inr (1, [.int lv, .long th])), (k3, .inr (2, [.int ph2_84, .int di2_84, .long lm2_84, .long cu2_84, .long la2_84, .long en2_84]))]) [0, 1, 2, 3] rfl
                have hD9 := hD.sub (ws' := [(h0, .inr (5, [.ref k1, .ref k2, .ref k3, .ref k4, .ref k5, .int pl])), (k1, .inr (0, [.long told2_47])), (k2, .inr (1, [.int lv, .long th])), (k3, .inr (2, [.int ph2_84, .int di2_84, .long lm2_84, .long cu2_84, .long la2_84, .long en2_84]))]) [0, 1, 2, 3] (by decide) rfl
                have hK9 := hK.sub (tys' := []) [] rfl
                exact W.iret (v := (-3)) hx hb hr (fun t ht hW => ⟨⟨(-3), (told2_47, ph2_84, di2_84, lm2_84, cu2_84, la2_84, en2_84), rfl, trivial, by rw [ht]; exact hP9, va_K.moved hW.alike hK9, hD9⟩, hS.F ht⟩) hS.2.2 d_X_message_102
              · skip
                refine lv_aload_n hx hb d_X_message_90 rfl (lv_at hl 1 rfl) ?_
                refine va_get (D := (dC, dI)) (ci := 5) (v := .ref k3) (C := R_X) (T := F_X) (N := 6) hx hb hB inC_X hown hK hP 0 rfl rfl 2 (by decide) (hB _ kb_128) (fun _ h9 => h9) rfl d_X_message_91 ?_
                refine va_getN (host := "ChargeTalk") (D := (dC, dI)) (ci := 2) (v := .int ph2_84) (C := R_Ta) (T := F_Ta) (N := 6) hx hb hB inC_Ta hown hK hP 3 rfl rfl 0 (by decide) (va_Nw.use rfl (hN _ kn_8)) (fun _ h9 => h9) rfl d_X_message_94 ?_
                refine lv_goto (tgt := 102) hx hb d_X_message_97 (by decide) ?_
                have hP9 := hP.sub (ws' := [(h0, .inr (5, [.ref k1, .ref k2, .ref k3, .ref k4, .ref k5, .int pl])), (k1, .inr (0, [.long told2_47])), (k2, .inr (1, [.int lv, .long th])), (k3, .inr (2, [.int ph2_84, .int di2_84, .long lm2_84, .long cu2_84, .long la2_84, .long en2_84]))]) [0, 1, 2, 3] rfl
                have hD9 := hD.sub (ws' := [(h0, .inr (5, [.ref k1, .ref k2, .ref k3, .ref k4, .ref k5, .int pl])), (k1, .inr (0, [.long told2_47])), (k2, .inr (1, [.int lv, .long th])), (k3, .inr (2, [.int ph2_84, .int di2_84, .long lm2_84, .long cu2_84, .long la2_84, .long en2_84]))]) [0, 1, 2, 3] (by decide) rfl
                have hK9 := hK.sub (tys' := []) [] rfl
                exact W.iret (v := ph2_84) hx hb hr (fun t ht hW => ⟨⟨ph2_84, (told2_47, ph2_84, di2_84, lm2_84, cu2_84, la2_84, en2_84), rfl, trivial, by rw [ht]; exact hP9, va_K.moved hW.alike hK9, hD9⟩, hS.F ht⟩) hS.2.2 d_X_message_102
        · have c_35 := bi_n (hw_32.symm.trans c_35)
          refine lv_bipush (v := (-2)) hx hb d_X_message_38 (by decide) ?_
          have hP9 := hP.sub (ws' := [(h0, .inr (5, [.ref k1, .ref k2, .ref k3, .ref k4, .ref k5, .int pl])), (k1, .inr (0, [.long told])), (k2, .inr (1, [.int lv, .long th])), (k3, .inr (2, [.int ph, .int di, .long lm, .long cu, .long la, .long en]))]) [0, 3, 1, 2] rfl
          have hD9 := hD.sub (ws' := [(h0, .inr (5, [.ref k1, .ref k2, .ref k3, .ref k4, .ref k5, .int pl])), (k1, .inr (0, [.long told])), (k2, .inr (1, [.int lv, .long th])), (k3, .inr (2, [.int ph, .int di, .long lm, .long cu, .long la, .long en]))]) [0, 3, 1, 2] (by decide) rfl
          have hK9 := hK.sub (tys' := []) [] rfl
          exact W.iret (v := (-2)) hx hb hr (fun t ht hW => ⟨⟨(-2), (told, ph, di, lm, cu, la, en), rfl, trivial, by rw [ht]; exact hP9, va_K.moved hW.alike hK9, hD9⟩, hS.F ht⟩) hS.2.2 d_X_message_40
    · skip
      refine lv_bipush (v := (-2)) hx hb d_X_message_10 (by decide) ?_
      have hP9 := hP.sub (ws' := [(h0, .inr (5, [.ref k1, .ref k2, .ref k3, .ref k4, .ref k5, .int pl])), (k1, .inr (0, [.long told])), (k2, .inr (1, [.int lv, .long th])), (k3, .inr (2, [.int ph, .int di, .long lm, .long cu, .long la, .long en]))]) [0, 1, 2, 3] rfl
      have hD9 := hD.sub (ws' := [(h0, .inr (5, [.ref k1, .ref k2, .ref k3, .ref k4, .ref k5, .int pl])), (k1, .inr (0, [.long told])), (k2, .inr (1, [.int lv, .long th])), (k3, .inr (2, [.int ph, .int di, .long lm, .long cu, .long la, .long en]))]) [0, 1, 2, 3] (by decide) rfl
      have hK9 := hK.sub (tys' := []) [] rfl
      exact W.iret (v := (-2)) hx hb hr (fun t ht hW => ⟨⟨(-2), (told, ph, di, lm, cu, la, en), rfl, trivial, by rw [ht]; exact hP9, va_K.moved hW.alike hK9, hD9⟩, hS.F ht⟩) hS.2.2 d_X_message_12
set_option maxHeartbeats 4000000 in
set_option maxRecDepth 100000 in
theorem c_X_allowed (l : Launch) (dC : Nat → ClassId) (dI : Nat → Nat → Nat) (h0 : Nat) (k1 : Nat) (k2 : Nat) (k3 : Nat) (k4 : Nat) (k5 : Nat) (sz : Nat) (pl : Int32) (lv : Int32) (th : Int64) : Met l y_X_allowed w_X_allowed ({ frames := 2, cells := 0, slots := 0, locals := 40 }) (cPre dC dI [.ref h0] sz [] [(h0, .inr (5, [.ref k1, .ref k2, .ref k3, .ref k4, .ref k5, .int pl])), (k2, .inr (1, [.int lv, .long th]))]) (va_Qi (fun (r : Int32) (u : Unit) => r = ten lv th) (fun (u : Unit) (t : State) => cB dC dI (va_A [(h0, .inr (5, [.ref k1, .ref k2, .ref k3, .ref k4, .ref k5, .int pl])), (k2, .inr (1, [.int lv, .long th]))] sz) [] [(h0, .inr (5, [.ref k1, .ref k2, .ref k3, .ref k4, .ref k5, .int pl])), (k2, .inr (1, [.int lv, .long th]))] t) (va_A [(h0, .inr (5, [.ref k1, .ref k2, .ref k3, .ref k4, .ref k5, .int pl])), (k2, .inr (1, [.int lv, .long th]))] sz)) 0 0 (va_A [(h0, .inr (5, [.ref k1, .ref k2, .ref k3, .ref k4, .ref k5, .int pl])), (k2, .inr (1, [.int lv, .long th]))] sz) := by
  refine Met.ofW (cc := b_X_allowed) (maxL := 1) (ret := (some .int)) (by decide) rfl ?_
  intro p e s m args below meth c s₁ B hml hv
  obtain ⟨rfl, hsz, hN, hP, hK, hD0⟩ := hv
  have hx := B.exec
  have hb := B.bytes
  have hr := B.returns
  have hts := atoms_spec (ws := w_X_allowed) B.pre
  have hB := big_of hts
  have hown : s.vm.findClass R_X = some m.cls := findClass_of_methodNamed B.named
  have hlocks := B.notSynchronized
  subst hsz
  have hD := hD0.self (sz := s.heap.size)
  generalize hAe : va_A [(h0, .inr (5, [.ref k1, .ref k2, .ref k3, .ref k4, .ref k5, .int pl])), (k2, .inr (1, [.int lv, .long th]))] s.heap.size = A at hD ⊢
  have hA : ∀ q : Nat, s.heap.size ≤ q → A q := fun q h => by rw [← hAe]; exact Or.inr h
  have hS : va_S A s.heap s.heap [] := va_S.rf
  have hP : va_P (dC, dI) classes [(h0, .inr (5, [.ref k1, .ref k2, .ref k3, .ref k4, .ref k5, .int pl])), (k2, .inr (1, [.int lv, .long th]))] s.heap := hP
  have hl := lv_entry ([.ref h0]) (n := 1) (Nat.le_of_ble_eq_true rfl)
  rw [lg_entry_eq]
  generalize (lg_sl ([.ref h0]) ++ List.replicate (1 - (lg_sl ([.ref h0])).length) Slot.unset).toArray = ls at hl ⊢
  have hl : lv_has ls 1 [(0, .ref h0)] := hl
  refine lv_aload_n hx hb d_X_allowed_0 rfl (lv_at hl 0 rfl) ?_
  refine va_get (D := (dC, dI)) (ci := 5) (v := .ref k2) (C := R_X) (T := F_X) (N := 6) hx hb hB inC_X hown hK hP 0 rfl rfl 1 (by decide) (hB _ kb_123) (fun _ h9 => h9) rfl d_X_allowed_1 ?_
  refine kc_i (va_runV (As := []) (rest := []) ⟨hx, hb, hml, hown, hts⟩ (c_Pi_tenthsOfAmpere l dC dI k2 s.heap.size lv th  ) (cwV 0 hts (ginV kb_168 kb_169 kb_170 kb_21 kb_167) rfl rfl rfl (by decide +kernel) ⟨Nat.le_of_ble_eq_true rfl, Nat.le_of_ble_eq_true rfl⟩) (preV (ci := 1) (wc := [(k2, .inr (1, [.int lv, .long th]))]) hK hN hP hD [1] rfl rfl (by decide) [] rfl rfl rfl) rfl rfl hl.1 rfl (lv_room (Nat.le_of_ble_eq_true rfl)) d_X_allowed_4 ⟨Nat.le_of_ble_eq_true rfl, Nat.le_of_ble_eq_true rfl⟩) hP hD hS hA [1] [0] (wr := [(h0, .inr (5, [.ref k1, .ref k2, .ref k3, .ref k4, .ref k5, .int pl]))]) rfl rfl (by decide) (by decide) (fun r_4 u_4 H locs hw_4 hP hD hK1 hS => ?_)
  have hw_4 : r_4 = ten lv th := hw_4
  have hP : va_P (dC, dI) classes [(h0, .inr (5, [.ref k1, .ref k2, .ref k3, .ref k4, .ref k5, .int pl])), (k2, .inr (1, [.int lv, .long th]))] H := hP
  have hD : va_D A [(h0, .inr (5, [.ref k1, .ref k2, .ref k3, .ref k4, .ref k5, .int pl])), (k2, .inr (1, [.int lv, .long th]))] := hD
  have hP9 := hP.sub (ws' := [(h0, .inr (5, [.ref k1, .ref k2, .ref k3, .ref k4, .ref k5, .int pl])), (k2, .inr (1, [.int lv, .long th]))]) [0, 1] rfl
  have hD9 := hD.sub (ws' := [(h0, .inr (5, [.ref k1, .ref k2, .ref k3, .ref k4, .ref k5, .int pl])), (k2, .inr (1, [.int lv, .long th]))]) [0, 1] (by decide) rfl
  have hK9 := hK.sub (tys' := []) [] rfl
  exact W.iret (v := r_4) hx hb hr (fun t ht hW => ⟨⟨r_4, (), rfl, hw_4, by rw [ht]; exact hP9, va_K.moved hW.alike hK9, hD9⟩, hS.F ht⟩) hS.2.2 d_X_allowed_7
set_option maxHeartbeats 4000000 in
set_option maxRecDepth 100000 in
theorem c_X_plug (l : Launch) (dC : Nat → ClassId) (dI : Nat → Nat → Nat) (h0 : Nat) (k1 : Nat) (k2 : Nat) (k3 : Nat) (k4 : Nat) (k5 : Nat) (sz : Nat) (pl : Int32) (ph : Int32) (di : Int32) (lm : Int64) (cu : Int64) (la : Int64) (en : Int64) (p0 : Int32) (hp0 : p0 = 0 ∨ p0 = 1) : Met l y_X_plug w_X_plug ({ frames := 1, cells := 0, slots := 0, locals := 20 }) (cPre dC dI [.ref h0, .int p0] sz [] [(h0, .inr (5, [.ref k1, .ref k2, .ref k3, .ref k4, .ref k5, .int pl])), (k3, .inr (2, [.int ph, .int di, .long lm, .long cu, .long la, .long en]))]) (va_Qi (fun (r : Int32) (u : Int32) => True) (fun (u : Int32) (t : State) => cB dC dI (va_A [(h0, .inr (5, [.ref k1, .ref k2, .ref k3, .ref k4, .ref k5, .int pl])), (k3, .inr (2, [.int ph, .int di, .long lm, .long cu, .long la, .long en]))] sz) [] [(h0, .inr (5, [.ref k1, .ref k2, .ref k3, .ref k4, .ref k5, .int u])), (k3, .inr (2, [.int ph, .int di, .long lm, .long cu, .long la, .long en]))] t) (va_A [(h0, .inr (5, [.ref k1, .ref k2, .ref k3, .ref k4, .ref k5, .int pl])), (k3, .inr (2, [.int ph, .int di, .long lm, .long cu, .long la, .long en]))] sz)) 0 0 (va_A [(h0, .inr (5, [.ref k1, .ref k2, .ref k3, .ref k4, .ref k5, .int pl])), (k3, .inr (2, [.int ph, .int di, .long lm, .long cu, .long la, .long en]))] sz) := by
  refine Met.ofW (cc := b_X_plug) (maxL := 2) (ret := (some .int)) (by decide) rfl ?_
  intro p e s m args below meth c s₁ B hml hv
  obtain ⟨rfl, hsz, hN, hP, hK, hD0⟩ := hv
  have hx := B.exec
  have hb := B.bytes
  have hr := B.returns
  have hts := atoms_spec (ws := w_X_plug) B.pre
  have hB := big_of hts
  have hown : s.vm.findClass R_X = some m.cls := findClass_of_methodNamed B.named
  have hlocks := B.notSynchronized
  subst hsz
  have hD := hD0.self (sz := s.heap.size)
  generalize hAe : va_A [(h0, .inr (5, [.ref k1, .ref k2, .ref k3, .ref k4, .ref k5, .int pl])), (k3, .inr (2, [.int ph, .int di, .long lm, .long cu, .long la, .long en]))] s.heap.size = A at hD ⊢
  have hA : ∀ q : Nat, s.heap.size ≤ q → A q := fun q h => by rw [← hAe]; exact Or.inr h
  have hS : va_S A s.heap s.heap [] := va_S.rf
  have hP : va_P (dC, dI) classes [(h0, .inr (5, [.ref k1, .ref k2, .ref k3, .ref k4, .ref k5, .int pl])), (k3, .inr (2, [.int ph, .int di, .long lm, .long cu, .long la, .long en]))] s.heap := hP
  have hl := lv_entry ([.ref h0, .int p0]) (n := 2) (Nat.le_of_ble_eq_true rfl)
  rw [lg_entry_eq]
  generalize (lg_sl ([.ref h0, .int p0]) ++ List.replicate (2 - (lg_sl ([.ref h0, .int p0])).length) Slot.unset).toArray = ls at hl ⊢
  have hl : lv_has ls 2 [(0, .ref h0), (1, .int p0)] := hl
  refine lv_iload_n hx hb d_X_plug_0 rfl (lv_at hl 1 rfl) ?_
  refine lv_aload_n hx hb d_X_plug_1 rfl (lv_at hl 0 rfl) ?_
  refine va_get (D := (dC, dI)) (ci := 5) (v := .int pl) (C := R_X) (T := F_X) (N := 6) hx hb hB inC_X hown hK hP 0 rfl rfl 5 (by decide) (hB _ kb_141) (fun _ h9 => h9) rfl d_X_plug_2 ?_
  refine lv_icmp_ne (tgt := 10) hx hb d_X_plug_5 (by decide) (fun c_5 => ?_) (fun c_5 => ?_)
  · skip
    refine lv_iload_n hx hb d_X_plug_10 rfl (lv_at hl 1 rfl) ?_
    refine lv_if_ne (tgt := 27) hx hb d_X_plug_11 (by decide) (fun c_11 => ?_) (fun c_11 => ?_)
    · skip
      refine lv_aload_n hx hb d_X_plug_27 rfl (lv_at hl 0 rfl) ?_
      refine lv_iload_n hx hb d_X_plug_28 rfl (lv_at hl 1 rfl) ?_
      refine va_put (D := (dC, dI)) (ci := 5) (v := .int p0) (ty := .boolean) (C := R_X) (T := F_X) (N := 6) hx hb hB inC_X t_X t_X_ok n_X hown hK hP hD hS 0 rfl rfl 5 (by decide) (hB _ kb_141) (fun _ h9 => h9) rfl (by decide +kernel) (nar_b (by assumption)) (fit_b (by assumption)) (Nat.le_of_ble_eq_true rfl) d_X_plug_29 (fun H locs hP hD hS => ?_)
      have hP : va_P (dC, dI) classes [(h0, .inr (5, [.ref k1, .ref k2, .ref k3, .ref k4, .ref k5, .int p0])), (k3, .inr (2, [.int ph, .int di, .long lm, .long cu, .long la, .long en]))] H := hP
      have hD : va_D A [(h0, .inr (5, [.ref k1, .ref k2, .ref k3, .ref k4, .ref k5, .int p0])), (k3, .inr (2, [.int ph, .int di, .long lm, .long cu, .long la, .long en]))] := hD
      refine lv_iconst (v := 1) hx hb d_X_plug_32 (by decide) ?_
      have hP9 := hP.sub (ws' := [(h0, .inr (5, [.ref k1, .ref k2, .ref k3, .ref k4, .ref k5, .int p0])), (k3, .inr (2, [.int ph, .int di, .long lm, .long cu, .long la, .long en]))]) [0, 1] rfl
      have hD9 := hD.sub (ws' := [(h0, .inr (5, [.ref k1, .ref k2, .ref k3, .ref k4, .ref k5, .int p0])), (k3, .inr (2, [.int ph, .int di, .long lm, .long cu, .long la, .long en]))]) [0, 1] (by decide) rfl
      have hK9 := hK.sub (tys' := []) [] rfl
      exact W.iret (v := 1) hx hb hr (fun t ht hW => ⟨⟨1, (p0), rfl, trivial, by rw [ht]; exact hP9, va_K.moved hW.alike hK9, hD9⟩, hS.F ht⟩) hS.2.2 d_X_plug_33
    · skip
      refine lv_aload_n hx hb d_X_plug_14 rfl (lv_at hl 0 rfl) ?_
      refine va_get (D := (dC, dI)) (ci := 5) (v := .ref k3) (C := R_X) (T := F_X) (N := 6) hx hb hB inC_X hown hK hP 0 rfl rfl 2 (by decide) (hB _ kb_128) (fun _ h9 => h9) rfl d_X_plug_15 ?_
      refine kc_i (va_runV (As := []) (rest := []) ⟨hx, hb, hml, hown, hts⟩ (c_Ta_isOn l dC dI k3 s.heap.size ph di lm cu la en  ) (cwV 0 hts (ginV kb_171 kb_51 kb_52 kb_47 kb_49) rfl rfl rfl (by decide +kernel) ⟨Nat.le_of_ble_eq_true rfl, Nat.le_of_ble_eq_true rfl⟩) (preV (ci := 2) (wc := [(k3, .inr (2, [.int ph, .int di, .long lm, .long cu, .long la, .long en]))]) hK hN hP hD [1] rfl rfl (by decide) [] rfl rfl rfl) rfl rfl hl.1 rfl (lv_room (Nat.le_of_ble_eq_true rfl)) d_X_plug_18 ⟨Nat.le_of_ble_eq_true rfl, Nat.le_of_ble_eq_true rfl⟩) hP hD hS hA [1] [0] (wr := [(h0, .inr (5, [.ref k1, .ref k2, .ref k3, .ref k4, .ref k5, .int pl]))]) rfl rfl (by decide) (by decide) (fun r_18 u_18 H locs hw_18 hP hD hK1 hS => ?_)
      have hw_18 : True := hw_18
      have hP : va_P (dC, dI) classes [(h0, .inr (5, [.ref k1, .ref k2, .ref k3, .ref k4, .ref k5, .int pl])), (k3, .inr (2, [.int ph, .int di, .long lm, .long cu, .long la, .long en]))] H := hP
      have hD : va_D A [(h0, .inr (5, [.ref k1, .ref k2, .ref k3, .ref k4, .ref k5, .int pl])), (k3, .inr (2, [.int ph, .int di, .long lm, .long cu, .long la, .long en]))] := hD
      refine lv_if_eq (tgt := 27) hx hb d_X_plug_21 (by decide) (fun c_21 => ?_) (fun c_21 => ?_)
      · skip
        refine lv_aload_n hx hb d_X_plug_27 rfl (lv_at hl 0 rfl) ?_
        refine lv_iload_n hx hb d_X_plug_28 rfl (lv_at hl 1 rfl) ?_
        refine va_put (D := (dC, dI)) (ci := 5) (v := .int p0) (ty := .boolean) (C := R_X) (T := F_X) (N := 6) hx hb hB inC_X t_X t_X_ok n_X hown hK hP hD hS 0 rfl rfl 5 (by decide) (hB _ kb_141) (fun _ h9 => h9) rfl (by decide +kernel) (nar_b (by assumption)) (fit_b (by assumption)) (Nat.le_of_ble_eq_true rfl) d_X_plug_29 (fun H locs hP hD hS => ?_)
        have hP : va_P (dC, dI) classes [(h0, .inr (5, [.ref k1, .ref k2, .ref k3, .ref k4, .ref k5, .int p0])), (k3, .inr (2, [.int ph, .int di, .long lm, .long cu, .long la, .long en]))] H := hP
        have hD : va_D A [(h0, .inr (5, [.ref k1, .ref k2, .ref k3, .ref k4, .ref k5, .int p0])), (k3, .inr (2, [.int ph, .int di, .long lm, .long cu, .long la, .long en]))] := hD
        refine lv_iconst (v := 1) hx hb d_X_plug_32 (by decide) ?_
        have hP9 := hP.sub (ws' := [(h0, .inr (5, [.ref k1, .ref k2, .ref k3, .ref k4, .ref k5, .int p0])), (k3, .inr (2, [.int ph, .int di, .long lm, .long cu, .long la, .long en]))]) [0, 1] rfl
        have hD9 := hD.sub (ws' := [(h0, .inr (5, [.ref k1, .ref k2, .ref k3, .ref k4, .ref k5, .int p0])), (k3, .inr (2, [.int ph, .int di, .long lm, .long cu, .long la, .long en]))]) [0, 1] (by decide) rfl
        have hK9 := hK.sub (tys' := []) [] rfl
        exact W.iret (v := 1) hx hb hr (fun t ht hW => ⟨⟨1, (p0), rfl, trivial, by rw [ht]; exact hP9, va_K.moved hW.alike hK9, hD9⟩, hS.F ht⟩) hS.2.2 d_X_plug_33
      · skip
        refine lv_bipush (v := (-3)) hx hb d_X_plug_24 (by decide) ?_
        have hP9 := hP.sub (ws' := [(h0, .inr (5, [.ref k1, .ref k2, .ref k3, .ref k4, .ref k5, .int pl])), (k3, .inr (2, [.int ph, .int di, .long lm, .long cu, .long la, .long en]))]) [0, 1] rfl
        have hD9 := hD.sub (ws' := [(h0, .inr (5, [.ref k1, .ref k2, .ref k3, .ref k4, .ref k5, .int pl])), (k3, .inr (2, [.int ph, .int di, .long lm, .long cu, .long la, .long en]))]) [0, 1] (by decide) rfl
        have hK9 := hK.sub (tys' := []) [] rfl
        exact W.iret (v := (-3)) hx hb hr (fun t ht hW => ⟨⟨(-3), (pl), rfl, trivial, by rw [ht]; exact hP9, va_K.moved hW.alike hK9, hD9⟩, hS.F ht⟩) hS.2.2 d_X_plug_26
  · skip
    refine lv_iconst (v := 0) hx hb d_X_plug_8 (by decide) ?_
    have hP9 := hP.sub (ws' := [(h0, .inr (5, [.ref k1, .ref k2, .ref k3, .ref k4, .ref k5, .int pl])), (k3, .inr (2, [.int ph, .int di, .long lm, .long cu, .long la, .long en]))]) [0, 1] rfl
    have hD9 := hD.sub (ws' := [(h0, .inr (5, [.ref k1, .ref k2, .ref k3, .ref k4, .ref k5, .int pl])), (k3, .inr (2, [.int ph, .int di, .long lm, .long cu, .long la, .long en]))]) [0, 1] (by decide) rfl
    have hK9 := hK.sub (tys' := []) [] rfl
    exact W.iret (v := 0) hx hb hr (fun t ht hW => ⟨⟨0, (pl), rfl, trivial, by rw [ht]; exact hP9, va_K.moved hW.alike hK9, hD9⟩, hS.F ht⟩) hS.2.2 d_X_plug_9
set_option maxHeartbeats 4000000 in
set_option maxRecDepth 100000 in
theorem c_X_meter (l : Launch) (dC : Nat → ClassId) (dI : Nat → Nat → Nat) (h0 : Nat) (k1 : Nat) (k2 : Nat) (k3 : Nat) (k4 : Nat) (k5 : Nat) (sz : Nat) (pl : Int32) (ph : Int32) (di : Int32) (lm : Int64) (cu : Int64) (la : Int64) (en : Int64) (p0 : Int64) : Met l y_X_meter w_X_meter ({ frames := 1, cells := 0, slots := 0, locals := 25 }) (cPre dC dI [.ref h0, .long p0] sz [] [(h0, .inr (5, [.ref k1, .ref k2, .ref k3, .ref k4, .ref k5, .int pl])), (k3, .inr (2, [.int ph, .int di, .long lm, .long cu, .long la, .long en]))]) (va_Qi (fun (r : Int32) (u : Unit) => True) (fun (u : Unit) (t : State) => cB dC dI (va_A [(h0, .inr (5, [.ref k1, .ref k2, .ref k3, .ref k4, .ref k5, .int pl])), (k3, .inr (2, [.int ph, .int di, .long lm, .long cu, .long la, .long en]))] sz) [] [(h0, .inr (5, [.ref k1, .ref k2, .ref k3, .ref k4, .ref k5, .int pl])), (k3, .inr (2, [.int ph, .int di, .long lm, .long cu, .long la, .long en]))] t) (va_A [(h0, .inr (5, [.ref k1, .ref k2, .ref k3, .ref k4, .ref k5, .int pl])), (k3, .inr (2, [.int ph, .int di, .long lm, .long cu, .long la, .long en]))] sz)) 0 0 (va_A [(h0, .inr (5, [.ref k1, .ref k2, .ref k3, .ref k4, .ref k5, .int pl])), (k3, .inr (2, [.int ph, .int di, .long lm, .long cu, .long la, .long en]))] sz) := by
  refine Met.ofW (cc := b_X_meter) (maxL := 3) (ret := (some .int)) (by decide) rfl ?_
  intro p e s m args below meth c s₁ B hml hv
  obtain ⟨rfl, hsz, hN, hP, hK, hD0⟩ := hv
  have hx := B.exec
  have hb := B.bytes
  have hr := B.returns
  have hts := atoms_spec (ws := w_X_meter) B.pre
  have hB := big_of hts
  have hown : s.vm.findClass R_X = some m.cls := findClass_of_methodNamed B.named
  have hlocks := B.notSynchronized
  subst hsz
  have hD := hD0.self (sz := s.heap.size)
  generalize hAe : va_A [(h0, .inr (5, [.ref k1, .ref k2, .ref k3, .ref k4, .ref k5, .int pl])), (k3, .inr (2, [.int ph, .int di, .long lm, .long cu, .long la, .long en]))] s.heap.size = A at hD ⊢
  have hA : ∀ q : Nat, s.heap.size ≤ q → A q := fun q h => by rw [← hAe]; exact Or.inr h
  have hS : va_S A s.heap s.heap [] := va_S.rf
  have hP : va_P (dC, dI) classes [(h0, .inr (5, [.ref k1, .ref k2, .ref k3, .ref k4, .ref k5, .int pl])), (k3, .inr (2, [.int ph, .int di, .long lm, .long cu, .long la, .long en]))] s.heap := hP
  have hl := lv_entry ([.ref h0, .long p0]) (n := 3) (Nat.le_of_ble_eq_true rfl)
  rw [lg_entry_eq]
  generalize (lg_sl ([.ref h0, .long p0]) ++ List.replicate (3 - (lg_sl ([.ref h0, .long p0])).length) Slot.unset).toArray = ls at hl ⊢
  have hl : lv_has ls 3 [(0, .ref h0), (1, .long p0)] := hl
  refine lv_lload_n hx hb d_X_meter_0 rfl (lv_at hl 1 rfl) ?_
  refine lv_lconst (v := 0) hx hb d_X_meter_1 (by decide) ?_
  refine lv_ldc2 (v := 1000000000) hx hb hown (hB _ kb_172) d_X_meter_2 ?_
  refine kc_i (va_runS (As := [.long p0, .long 0, .long 1000000000]) (rest := []) ⟨hx, hb, hml, hown, hts⟩ (c_X_isWithin l dC dI  s.heap.size  p0 0 1000000000 ) (cwS 3 hts (ginS kb_150 kb_8 kb_7 kb_6) rfl rfl rfl (by decide +kernel) ⟨Nat.le_of_ble_eq_true rfl, Nat.le_of_ble_eq_true rfl⟩) (preS (wc := []) hK hN hP hD [] rfl rfl (by decide) [] rfl) rfl rfl hl.1 rfl (lv_room (Nat.le_of_ble_eq_true rfl)) d_X_meter_5 ⟨Nat.le_of_ble_eq_true rfl, Nat.le_of_ble_eq_true rfl⟩) hP hD hS hA [] [0, 1] (wr := [(h0, .inr (5, [.ref k1, .ref k2, .ref k3, .ref k4, .ref k5, .int pl])), (k3, .inr (2, [.int ph, .int di, .long lm, .long cu, .long la, .long en]))]) rfl rfl (by decide) (by decide) (fun r_5 u_5 H locs hw_5 hP hD hK1 hS => ?_)
  have hw_5 : r_5 = bi (0 ≤ p0 ∧ p0 ≤ 1000000000) := hw_5
  have hP : va_P (dC, dI) classes [(h0, .inr (5, [.ref k1, .ref k2, .ref k3, .ref k4, .ref k5, .int pl])), (k3, .inr (2, [.int ph, .int di, .long lm, .long cu, .long la, .long en]))] H := hP
  have hD : va_D A [(h0, .inr (5, [.ref k1, .ref k2, .ref k3, .ref k4, .ref k5, .int pl])), (k3, .inr (2, [.int ph, .int di, .long lm, .long cu, .long la, .long en]))] := hD
  refine lv_if_ne (tgt := 14) hx hb d_X_meter_8 (by decide) (fun c_8 => ?_) (fun c_8 => ?_)
  · have c_8 := bi_y hw_5 c_8
    refine lv_lload_n hx hb d_X_meter_14 rfl (lv_at hl 1 rfl) ?_
    refine lv_aload_n hx hb d_X_meter_15 rfl (lv_at hl 0 rfl) ?_
    refine va_get (D := (dC, dI)) (ci := 5) (v := .ref k3) (C := R_X) (T := F_X) (N := 6) hx hb hB inC_X hown hK hP 0 rfl rfl 2 (by decide) (hB _ kb_128) (fun _ h9 => h9) rfl d_X_meter_16 ?_
    refine kc_l (va_runV (As := []) (rest := [.long p0]) ⟨hx, hb, hml, hown, hts⟩ (c_Ta_wholeEnergy l dC dI k3 H.size ph di lm cu la en  ) (cwV 0 hts (ginV kb_174 kb_175 kb_176 kb_47 kb_173) rfl rfl rfl (by decide +kernel) ⟨Nat.le_of_ble_eq_true rfl, Nat.le_of_ble_eq_true rfl⟩) (preV (ci := 2) (wc := [(k3, .inr (2, [.int ph, .int di, .long lm, .long cu, .long la, .long en]))]) hK hN hP hD [1] rfl rfl (by decide) [] rfl rfl rfl) rfl rfl hl.1 rfl (lv_room (Nat.le_of_ble_eq_true rfl)) d_X_meter_19 ⟨Nat.le_of_ble_eq_true rfl, Nat.le_of_ble_eq_true rfl⟩) hP hD hS hA [1] [0] (wr := [(h0, .inr (5, [.ref k1, .ref k2, .ref k3, .ref k4, .ref k5, .int pl]))]) rfl rfl (by decide) (by decide) (fun r_19 u_19 H locs hw_19 hP hD hK1 hS => ?_)
    have hw_19 : True := hw_19
    have hP : va_P (dC, dI) classes [(h0, .inr (5, [.ref k1, .ref k2, .ref k3, .ref k4, .ref k5, .int pl])), (k3, .inr (2, [.int ph, .int di, .long lm, .long cu, .long la, .long en]))] H := hP
    have hD : va_D A [(h0, .inr (5, [.ref k1, .ref k2, .ref k3, .ref k4, .ref k5, .int pl])), (k3, .inr (2, [.int ph, .int di, .long lm, .long cu, .long la, .long en]))] := hD
    refine lv_lsub hx hb d_X_meter_22 ?_
    refine lv_topl (fun x_22 ex_22 => ?_)
    refine lv_l2i hx hb d_X_meter_23 rfl ?_
    refine lv_topi (fun x_23 ex_23 => ?_)
    have hP9 := hP.sub (ws' := [(h0, .inr (5, [.ref k1, .ref k2, .ref k3, .ref k4, .ref k5, .int pl])), (k3, .inr (2, [.int ph, .int di, .long lm, .long cu, .long la, .long en]))]) [0, 1] rfl
    have hD9 := hD.sub (ws' := [(h0, .inr (5, [.ref k1, .ref k2, .ref k3, .ref k4, .ref k5, .int pl])), (k3, .inr (2, [.int ph, .int di, .long lm, .long cu, .long la, .long en]))]) [0, 1] (by decide) rfl
    have hK9 := hK.sub (tys' := []) [] rfl
    exact W.iret (v := x_23) hx hb hr (fun t ht hW => ⟨⟨x_23, (), rfl, trivial, by rw [ht]; exact hP9, va_K.moved hW.alike hK9, hD9⟩, hS.F ht⟩) hS.2.2 d_X_meter_24
  · have c_8 := bi_n (hw_5.symm.trans c_8)
    refine lv_bipush (v := (-2)) hx hb d_X_meter_11 (by decide) ?_
    have hP9 := hP.sub (ws' := [(h0, .inr (5, [.ref k1, .ref k2, .ref k3, .ref k4, .ref k5, .int pl])), (k3, .inr (2, [.int ph, .int di, .long lm, .long cu, .long la, .long en]))]) [0, 1] rfl
    have hD9 := hD.sub (ws' := [(h0, .inr (5, [.ref k1, .ref k2, .ref k3, .ref k4, .ref k5, .int pl])), (k3, .inr (2, [.int ph, .int di, .long lm, .long cu, .long la, .long en]))]) [0, 1] (by decide) rfl
    have hK9 := hK.sub (tys' := []) [] rfl
    exact W.iret (v := (-2)) hx hb hr (fun t ht hW => ⟨⟨(-2), (), rfl, trivial, by rw [ht]; exact hP9, va_K.moved hW.alike hK9, hD9⟩, hS.F ht⟩) hS.2.2 d_X_meter_13
set_option maxHeartbeats 4000000 in
set_option maxRecDepth 100000 in
theorem c_X_plan (l : Launch) (dC : Nat → ClassId) (dI : Nat → Nat → Nat) (h0 : Nat) (k1 : Nat) (k2 : Nat) (k3 : Nat) (k4 : Nat) (k5 : Nat) (a1 : Nat) (a2 : Nat) (a3 : Nat) (e1 : ClassId) (e2 : ClassId) (e3 : ClassId) (sz : Nat) (pl : Int32) (lv : Int32) (th : Int64) (sp : Int32) (lk : Int64) (f1 : Nat → Int32) (f2 : Nat → Int32) (f3 : Nat → Int64) (p0 : Int64) (p1 : Int64) : Met l y_X_plan w_X_plan ({ frames := 3, cells := 0, slots := 0, locals := 78 }) (cPre dC dI [.ref h0, .long p0, .long p1] sz [(e1, .int), (e2, .int), (e3, .long)] [(h0, .inr (5, [.ref k1, .ref k2, .ref k3, .ref k4, .ref k5, .int pl])), (k2, .inr (1, [.int lv, .long th])), (k4, .inr (3, [.ref a1, .ref a2, .ref a3, .int sp, .long lk])), (a1, .inl (e1, 1440, .inl f1)), (a2, .inl (e2, 1440, .inl f2)), (a3, .inl (e3, 1001, .inr (.inl f3)))]) (va_Qi (fun (r : Int32) (u : Int64 × (Nat → Int32) × (Nat → Int64)) => (¬ plOk p0 p1 → r = -2 ∧ u.1 = lk ∧ u.2.1 = f2) ∧ (plOk p0 p1 → plP f1 (ten lv th).toInt.toNat p1.toInt.toNat p0.toInt.toNat r u.1 ∧ ∀ k : Nat, k < 1440 → u.2.1 k = nI (Un f1 (ten lv th).toInt.toNat p1.toInt.toNat p0.toInt.toNat k))) (fun (u : Int64 × (Nat → Int32) × (Nat → Int64)) (t : State) => cB dC dI (va_A [(h0, .inr (5, [.ref k1, .ref k2, .ref k3, .ref k4, .ref k5, .int pl])), (k2, .inr (1, [.int lv, .long th])), (k4, .inr (3, [.ref a1, .ref a2, .ref a3, .int sp, .long lk])), (a1, .inl (e1, 1440, .inl f1)), (a2, .inl (e2, 1440, .inl f2)), (a3, .inl (e3, 1001, .inr (.inl f3)))] sz) [(e1, .int), (e2, .int), (e3, .long)] [(h0, .inr (5, [.ref k1, .ref k2, .ref k3, .ref k4, .ref k5, .int pl])), (k2, .inr (1, [.int lv, .long th])), (k4, .inr (3, [.ref a1, .ref a2, .ref a3, .int sp, .long u.1])), (a1, .inl (e1, 1440, .inl f1)), (a2, .inl (e2, 1440, .inl (u.2.1))), (a3, .inl (e3, 1001, .inr (.inl (u.2.2))))] t) (va_A [(h0, .inr (5, [.ref k1, .ref k2, .ref k3, .ref k4, .ref k5, .int pl])), (k2, .inr (1, [.int lv, .long th])), (k4, .inr (3, [.ref a1, .ref a2, .ref a3, .int sp, .long lk])), (a1, .inl (e1, 1440, .inl f1)), (a2, .inl (e2, 1440, .inl f2)), (a3, .inl (e3, 1001, .inr (.inl f3)))] sz)) 0 0 (va_A [(h0, .inr (5, [.ref k1, .ref k2, .ref k3, .ref k4, .ref k5, .int pl])), (k2, .inr (1, [.int lv, .long th])), (k4, .inr (3, [.ref a1, .ref a2, .ref a3, .int sp, .long lk])), (a1, .inl (e1, 1440, .inl f1)), (a2, .inl (e2, 1440, .inl f2)), (a3, .inl (e3, 1001, .inr (.inl f3)))] sz) := by
  refine Met.ofW (cc := b_X_plan) (maxL := 7) (ret := (some .int)) (by decide) rfl ?_
  intro p e s m args below meth c s₁ B hml hv
  obtain ⟨rfl, hsz, hN, hP, hK, hD0⟩ := hv
  have hx := B.exec
  have hb := B.bytes
  have hr := B.returns
  have hts := atoms_spec (ws := w_X_plan) B.pre
  have hB := big_of hts
  have hown : s.vm.findClass R_X = some m.cls := findClass_of_methodNamed B.named
  have hlocks := B.notSynchronized
  subst hsz
  have hD := hD0.self (sz := s.heap.size)
  generalize hAe : va_A [(h0, .inr (5, [.ref k1, .ref k2, .ref k3, .ref k4, .ref k5, .int pl])), (k2, .inr (1, [.int lv, .long th])), (k4, .inr (3, [.ref a1, .ref a2, .ref a3, .int sp, .long lk])), (a1, .inl (e1, 1440, .inl f1)), (a2, .inl (e2, 1440, .inl f2)), (a3, .inl (e3, 1001, .inr (.inl f3)))] s.heap.size = A at hD ⊢
  have hA : ∀ q : Nat, s.heap.size ≤ q → A q := fun q h => by rw [← hAe]; exact Or.inr h
  have hS : va_S A s.heap s.heap [] := va_S.rf
  have hP : va_P (dC, dI) classes [(h0, .inr (5, [.ref k1, .ref k2, .ref k3, .ref k4, .ref k5, .int pl])), (k2, .inr (1, [.int lv, .long th])), (k4, .inr (3, [.ref a1, .ref a2, .ref a3, .int sp, .long lk])), (a1, .inl (e1, 1440, .inl f1)), (a2, .inl (e2, 1440, .inl f2)), (a3, .inl (e3, 1001, .inr (.inl f3)))] s.heap := hP
  have hl := lv_entry ([.ref h0, .long p0, .long p1]) (n := 7) (Nat.le_of_ble_eq_true rfl)
  rw [lg_entry_eq]
  generalize (lg_sl ([.ref h0, .long p0, .long p1]) ++ List.replicate (7 - (lg_sl ([.ref h0, .long p0, .long p1])).length) Slot.unset).toArray = ls at hl ⊢
  have hl : lv_has ls 7 [(0, .ref h0), (1, .long p0), (3, .long p1)] := hl
  refine lv_lload_n hx hb d_X_plan_0 rfl (lv_at hl 1 rfl) ?_
  refine lv_lconst (v := 0) hx hb d_X_plan_1 (by decide) ?_
  refine lv_ldc2 (v := 1000000) hx hb hown (hB _ kb_149) d_X_plan_2 ?_
  refine kc_i (va_runS (As := [.long p0, .long 0, .long 1000000]) (rest := []) ⟨hx, hb, hml, hown, hts⟩ (c_X_isWithin l dC dI  s.heap.size  p0 0 1000000 ) (cwS 3 hts (ginS kb_150 kb_8 kb_7 kb_6) rfl rfl rfl (by decide +kernel) ⟨Nat.le_of_ble_eq_true rfl, Nat.le_of_ble_eq_true rfl⟩) (preS (wc := []) hK hN hP hD [] rfl rfl (by decide) [] rfl) rfl rfl hl.1 rfl (lv_room (Nat.le_of_ble_eq_true rfl)) d_X_plan_5 ⟨Nat.le_of_ble_eq_true rfl, Nat.le_of_ble_eq_true rfl⟩) hP hD hS hA [] [0, 1, 2, 3, 4, 5] (wr := [(h0, .inr (5, [.ref k1, .ref k2, .ref k3, .ref k4, .ref k5, .int pl])), (k2, .inr (1, [.int lv, .long th])), (k4, .inr (3, [.ref a1, .ref a2, .ref a3, .int sp, .long lk])), (a1, .inl (e1, 1440, .inl f1)), (a2, .inl (e2, 1440, .inl f2)), (a3, .inl (e3, 1001, .inr (.inl f3)))]) rfl rfl (by decide) (by decide) (fun r_5 u_5 H locs hw_5 hP hD hK1 hS => ?_)
  have hw_5 : r_5 = bi (0 ≤ p0 ∧ p0 ≤ 1000000) := hw_5
  have hP : va_P (dC, dI) classes [(h0, .inr (5, [.ref k1, .ref k2, .ref k3, .ref k4, .ref k5, .int pl])), (k2, .inr (1, [.int lv, .long th])), (k4, .inr (3, [.ref a1, .ref a2, .ref a3, .int sp, .long lk])), (a1, .inl (e1, 1440, .inl f1)), (a2, .inl (e2, 1440, .inl f2)), (a3, .inl (e3, 1001, .inr (.inl f3)))] H := hP
  have hD : va_D A [(h0, .inr (5, [.ref k1, .ref k2, .ref k3, .ref k4, .ref k5, .int pl])), (k2, .inr (1, [.int lv, .long th])), (k4, .inr (3, [.ref a1, .ref a2, .ref a3, .int sp, .long lk])), (a1, .inl (e1, 1440, .inl f1)), (a2, .inl (e2, 1440, .inl f2)), (a3, .inl (e3, 1001, .inr (.inl f3)))] := hD
  refine lv_if_eq (tgt := 22) hx hb d_X_plan_8 (by decide) (fun c_8 => ?_) (fun c_8 => ?_)
  · have c_8 := bi_n (hw_5.symm.trans c_8)
    refine lv_bipush (v := (-2)) hx hb d_X_plan_22 (by decide) ?_
    have hP9 := hP.sub (ws' := [(h0, .inr (5, [.ref k1, .ref k2, .ref k3, .ref k4, .ref k5, .int pl])), (k2, .inr (1, [.int lv, .long th])), (k4, .inr (3, [.ref a1, .ref a2, .ref a3, .int sp, .long lk])), (a1, .inl (e1, 1440, .inl f1)), (a2, .inl (e2, 1440, .inl f2)), (a3, .inl (e3, 1001, .inr (.inl f3)))]) [0, 1, 2, 3, 4, 5] rfl
    have hD9 := hD.sub (ws' := [(h0, .inr (5, [.ref k1, .ref k2, .ref k3, .ref k4, .ref k5, .int pl])), (k2, .inr (1, [.int lv, .long th])), (k4, .inr (3, [.ref a1, .ref a2, .ref a3, .int sp, .long lk])), (a1, .inl (e1, 1440, .inl f1)), (a2, .inl (e2, 1440, .inl f2)), (a3, .inl (e3, 1001, .inr (.inl f3)))]) [0, 1, 2, 3, 4, 5] (by decide) rfl
    have hK9 := hK.sub (tys' := [(e1, .int), (e2, .int), (e3, .long)]) [0, 1, 2] rfl
    exact W.iret (v := (-2)) hx hb hr (fun t ht hW => ⟨⟨(-2), (lk, f2, f3), rfl, ⟨fun _ => ⟨rfl, rfl, rfl⟩, fun h => absurd h.1 c_8⟩, by rw [ht]; exact hP9, va_K.moved hW.alike hK9, hD9⟩, hS.F ht⟩) hS.2.2 d_X_plan_24
  · have c_8 := bi_y hw_5 c_8
    refine lv_lload_n hx hb d_X_plan_11 rfl (lv_at hl 2 rfl) ?_
    refine lv_lconst (v := 0) hx hb d_X_plan_12 (by decide) ?_
    refine lv_ldc2 (v := 1440) hx hb hown (hB _ kb_177) d_X_plan_13 ?_
    refine kc_i (va_runS (As := [.long p1, .long 0, .long 1440]) (rest := []) ⟨hx, hb, hml, hown, hts⟩ (c_X_isWithin l dC dI  H.size  p1 0 1440 ) (cwS 3 hts (ginS kb_150 kb_8 kb_7 kb_6) rfl rfl rfl (by decide +kernel) ⟨Nat.le_of_ble_eq_true rfl, Nat.le_of_ble_eq_true rfl⟩) (preS (wc := []) hK hN hP hD [] rfl rfl (by decide) [] rfl) rfl rfl hl.1 rfl (lv_room (Nat.le_of_ble_eq_true rfl)) d_X_plan_16 ⟨Nat.le_of_ble_eq_true rfl, Nat.le_of_ble_eq_true rfl⟩) hP hD hS hA [] [0, 1, 2, 3, 4, 5] (wr := [(h0, .inr (5, [.ref k1, .ref k2, .ref k3, .ref k4, .ref k5, .int pl])), (k2, .inr (1, [.int lv, .long th])), (k4, .inr (3, [.ref a1, .ref a2, .ref a3, .int sp, .long lk])), (a1, .inl (e1, 1440, .inl f1)), (a2, .inl (e2, 1440, .inl f2)), (a3, .inl (e3, 1001, .inr (.inl f3)))]) rfl rfl (by decide) (by decide) (fun r_16 u_16 H locs hw_16 hP hD hK1 hS => ?_)
    have hw_16 : r_16 = bi (0 ≤ p1 ∧ p1 ≤ 1440) := hw_16
    have hP : va_P (dC, dI) classes [(h0, .inr (5, [.ref k1, .ref k2, .ref k3, .ref k4, .ref k5, .int pl])), (k2, .inr (1, [.int lv, .long th])), (k4, .inr (3, [.ref a1, .ref a2, .ref a3, .int sp, .long lk])), (a1, .inl (e1, 1440, .inl f1)), (a2, .inl (e2, 1440, .inl f2)), (a3, .inl (e3, 1001, .inr (.inl f3)))] H := hP
    have hD : va_D A [(h0, .inr (5, [.ref k1, .ref k2, .ref k3, .ref k4, .ref k5, .int pl])), (k2, .inr (1, [.int lv, .long th])), (k4, .inr (3, [.ref a1, .ref a2, .ref a3, .int sp, .long lk])), (a1, .inl (e1, 1440, .inl f1)), (a2, .inl (e2, 1440, .inl f2)), (a3, .inl (e3, 1001, .inr (.inl f3)))] := hD
    refine lv_if_ne (tgt := 25) hx hb d_X_plan_19 (by decide) (fun c_19 => ?_) (fun c_19 => ?_)
    · have c_19 := bi_y hw_16 c_19
      refine lv_aload_n hx hb d_X_plan_25 rfl (lv_at hl 0 rfl) ?_
      refine va_get (D := (dC, dI)) (ci := 5) (v := .ref k4) (C := R_X) (T := F_X) (N := 6) hx hb hB inC_X hown hK hP 0 rfl rfl 3 (by decide) (hB _ kb_134) (fun _ h9 => h9) rfl d_X_plan_26 ?_
      refine lv_lload_n hx hb d_X_plan_29 rfl (lv_at hl 1 rfl) ?_
      refine lv_lload_n hx hb d_X_plan_30 rfl (lv_at hl 2 rfl) ?_
      refine lv_l2i hx hb d_X_plan_31 rfl ?_
      refine lv_topi (fun x_31 ex_31 => ?_)
      refine lv_aload_n hx hb d_X_plan_32 rfl (lv_at hl 0 rfl) ?_
      refine va_get (D := (dC, dI)) (ci := 5) (v := .ref k2) (C := R_X) (T := F_X) (N := 6) hx hb hB inC_X hown hK hP 0 rfl rfl 1 (by decide) (hB _ kb_123) (fun _ h9 => h9) rfl d_X_plan_33 ?_
      refine kc_i (va_runV (As := []) (rest := [.int x_31, .long p0, .ref k4]) ⟨hx, hb, hml, hown, hts⟩ (c_Pi_tenthsOfAmpere l dC dI k2 H.size lv th  ) (cwV 0 hts (ginV kb_168 kb_169 kb_170 kb_21 kb_167) rfl rfl rfl (by decide +kernel) ⟨Nat.le_of_ble_eq_true rfl, Nat.le_of_ble_eq_true rfl⟩) (preV (ci := 1) (wc := [(k2, .inr (1, [.int lv, .long th]))]) hK hN hP hD [1] rfl rfl (by decide) [] rfl rfl rfl) rfl rfl hl.1 rfl (lv_room (Nat.le_of_ble_eq_true rfl)) d_X_plan_36 ⟨Nat.le_of_ble_eq_true rfl, Nat.le_of_ble_eq_true rfl⟩) hP hD hS hA [1] [0, 2, 3, 4, 5] (wr := [(h0, .inr (5, [.ref k1, .ref k2, .ref k3, .ref k4, .ref k5, .int pl])), (k4, .inr (3, [.ref a1, .ref a2, .ref a3, .int sp, .long lk])), (a1, .inl (e1, 1440, .inl f1)), (a2, .inl (e2, 1440, .inl f2)), (a3, .inl (e3, 1001, .inr (.inl f3)))]) rfl rfl (by decide) (by decide) (fun r_36 u_36 H locs hw_36 hP hD hK1 hS => ?_)
      have hw_36 : r_36 = ten lv th := hw_36
      have hP : va_P (dC, dI) classes [(h0, .inr (5, [.ref k1, .ref k2, .ref k3, .ref k4, .ref k5, .int pl])), (k4, .inr (3, [.ref a1, .ref a2, .ref a3, .int sp, .long lk])), (a1, .inl (e1, 1440, .inl f1)), (a2, .inl (e2, 1440, .inl f2)), (a3, .inl (e3, 1001, .inr (.inl f3))), (k2, .inr (1, [.int lv, .long th]))] H := hP
      have hD : va_D A [(h0, .inr (5, [.ref k1, .ref k2, .ref k3, .ref k4, .ref k5, .int pl])), (k4, .inr (3, [.ref a1, .ref a2, .ref a3, .int sp, .long lk])), (a1, .inl (e1, 1440, .inl f1)), (a2, .inl (e2, 1440, .inl f2)), (a3, .inl (e3, 1001, .inr (.inl f3))), (k2, .inr (1, [.int lv, .long th]))] := hD
      refine kc_l (va_runV (As := [.long p0, .int x_31, .int r_36]) (rest := []) ⟨hx, hb, hml, hown, hts⟩ (c_Tf_makePlan l dC dI k4 a1 a2 a3 e1 e2 e3 H.size sp lk f1 f2 f3 p0 x_31 r_36 ((pl6 c_8 c_19 ex_31).1) ((pl6 c_8 c_19 ex_31).2.1) (by rw [hw_36]; exact ten_b lv th)) (cwV 3 hts (ginV kb_179 kb_180 kb_181 kb_88 kb_178) rfl rfl rfl (by decide +kernel) ⟨Nat.le_of_ble_eq_true rfl, Nat.le_of_ble_eq_true rfl⟩) (preV (ci := 3) (wc := [(k4, .inr (3, [.ref a1, .ref a2, .ref a3, .int sp, .long lk])), (a1, .inl (e1, 1440, .inl f1)), (a2, .inl (e2, 1440, .inl f2)), (a3, .inl (e3, 1001, .inr (.inl f3)))]) hK hN hP hD [1, 2, 3, 4] rfl rfl (by decide) [0, 1, 2] rfl rfl rfl) rfl rfl hl.1 rfl (lv_room (Nat.le_of_ble_eq_true rfl)) d_X_plan_39 ⟨Nat.le_of_ble_eq_true rfl, Nat.le_of_ble_eq_true rfl⟩) hP hD hS hA [1, 2, 3, 4] [0, 5] (wr := [(h0, .inr (5, [.ref k1, .ref k2, .ref k3, .ref k4, .ref k5, .int pl])), (k2, .inr (1, [.int lv, .long th]))]) rfl rfl (by decide) (by decide) (fun r_39 u_39 H locs hw_39 hP hD hK1 hS => ?_)
      obtain ⟨lk2_39, f2b_39, f3b_39⟩ := u_39
      have hw_39 : (lk2_39 = lN (lf (Rm f1 r_36.toInt.toNat x_31.toInt.toNat) p0.toInt.toNat 1001) ∧ r_39 = lN (kost (Rm f1 r_36.toInt.toNat x_31.toInt.toNat) p0.toInt.toNat 1001)) ∧ ∀ k : Nat, k < 1440 → f2b_39 k = nI (Un f1 r_36.toInt.toNat x_31.toInt.toNat p0.toInt.toNat k) := hw_39
      have hP : va_P (dC, dI) classes [(h0, .inr (5, [.ref k1, .ref k2, .ref k3, .ref k4, .ref k5, .int pl])), (k2, .inr (1, [.int lv, .long th])), (k4, .inr (3, [.ref a1, .ref a2, .ref a3, .int sp, .long lk2_39])), (a1, .inl (e1, 1440, .inl f1)), (a2, .inl (e2, 1440, .inl f2b_39)), (a3, .inl (e3, 1001, .inr (.inl f3b_39)))] H := hP
      have hD : va_D A [(h0, .inr (5, [.ref k1, .ref k2, .ref k3, .ref k4, .ref k5, .int pl])), (k2, .inr (1, [.int lv, .long th])), (k4, .inr (3, [.ref a1, .ref a2, .ref a3, .int sp, .long lk2_39])), (a1, .inl (e1, 1440, .inl f1)), (a2, .inl (e2, 1440, .inl f2b_39)), (a3, .inl (e3, 1001, .inr (.inl f3b_39)))] := hD
      have h_2 := (pl6 c_8 c_19 ex_31).2.2
      have h_3 := hw_39
      rw [h_2, hw_36] at h_3
      refine lv_lstore (lv' := [(5, .long r_39), (0, .ref h0), (1, .long p0), (3, .long p1)]) hx hb d_X_plan_42 hl (by decide) rfl (fun ls hl => ?_)
      refine lv_aload_n hx hb d_X_plan_44 rfl (lv_at hl 1 rfl) ?_
      refine va_get (D := (dC, dI)) (ci := 5) (v := .ref k4) (C := R_X) (T := F_X) (N := 6) hx hb hB inC_X hown hK hP 0 rfl rfl 3 (by decide) (hB _ kb_134) (fun _ h9 => h9) rfl d_X_plan_45 ?_
      refine va_getN (host := "ChargeTalk") (D := (dC, dI)) (ci := 3) (v := .long lk2_39) (C := R_Tf) (T := F_Tf) (N := 5) hx hb hB inC_Tf hown hK hP 2 rfl rfl 4 (by decide) (va_Nw.use rfl (hN _ kn_9)) (fun _ h9 => h9) rfl d_X_plan_48 ?_
      refine lv_lconst (v := 0) hx hb d_X_plan_51 (by decide) ?_
      refine W.lcmp hx hb d_X_plan_52 ?_
      refine lv_if_le (tgt := 60) hx hb d_X_plan_53 (by decide) (fun c_53 => ?_) (fun c_53 => ?_)
      · have c_53 := (lg_cmp_le _ _).mp c_53
        refine lv_lload hx hb d_X_plan_60 (lv_at hl 0 rfl) ?_
        refine lv_l2i hx hb d_X_plan_62 rfl ?_
        refine lv_topi (fun x_62 ex_62 => ?_)
        have hP9 := hP.sub (ws' := [(h0, .inr (5, [.ref k1, .ref k2, .ref k3, .ref k4, .ref k5, .int pl])), (k2, .inr (1, [.int lv, .long th])), (k4, .inr (3, [.ref a1, .ref a2, .ref a3, .int sp, .long lk2_39])), (a1, .inl (e1, 1440, .inl f1)), (a2, .inl (e2, 1440, .inl f2b_39)), (a3, .inl (e3, 1001, .inr (.inl f3b_39)))]) [0, 1, 2, 3, 4, 5] rfl
        have hD9 := hD.sub (ws' := [(h0, .inr (5, [.ref k1, .ref k2, .ref k3, .ref k4, .ref k5, .int pl])), (k2, .inr (1, [.int lv, .long th])), (k4, .inr (3, [.ref a1, .ref a2, .ref a3, .int sp, .long lk2_39])), (a1, .inl (e1, 1440, .inl f1)), (a2, .inl (e2, 1440, .inl f2b_39)), (a3, .inl (e3, 1001, .inr (.inl f3b_39)))]) [0, 1, 2, 3, 4, 5] (by decide) rfl
        have hK9 := hK.sub (tys' := [(e1, .int), (e2, .int), (e3, .long)]) [0, 1, 2] rfl
        exact W.iret (v := x_62) hx hb hr (fun t ht hW => ⟨⟨x_62, (lk2_39, f2b_39, f3b_39), rfl, ⟨fun h => absurd ⟨c_8, c_19⟩ h, fun _ => ⟨⟨h_3.1.1, by rw [if_pos c_53, ex_62, h_3.1.2]⟩, h_3.2⟩⟩, by rw [ht]; exact hP9, va_K.moved hW.alike hK9, hD9⟩, hS.F ht⟩) hS.2.2 d_X_plan_63
      · have c_53 := mt (lg_cmp_le _ _).mpr c_53
        refine lv_iconst (v := (-1)) hx hb d_X_plan_56 (by decide) ?_
        refine lv_goto (tgt := 63) hx hb d_X_plan_57 (by decide) ?_
        have hP9 := hP.sub (ws' := [(h0, .inr (5, [.ref k1, .ref k2, .ref k3, .ref k4, .ref k5, .int pl])), (k2, .inr (1, [.int lv, .long th])), (k4, .inr (3, [.ref a1, .ref a2, .ref a3, .int sp, .long lk2_39])), (a1, .inl (e1, 1440, .inl f1)), (a2, .inl (e2, 1440, .inl f2b_39)), (a3, .inl (e3, 1001, .inr (.inl f3b_39)))]) [0, 1, 2, 3, 4, 5] rfl
        have hD9 := hD.sub (ws' := [(h0, .inr (5, [.ref k1, .ref k2, .ref k3, .ref k4, .ref k5, .int pl])), (k2, .inr (1, [.int lv, .long th])), (k4, .inr (3, [.ref a1, .ref a2, .ref a3, .int sp, .long lk2_39])), (a1, .inl (e1, 1440, .inl f1)), (a2, .inl (e2, 1440, .inl f2b_39)), (a3, .inl (e3, 1001, .inr (.inl f3b_39)))]) [0, 1, 2, 3, 4, 5] (by decide) rfl
        have hK9 := hK.sub (tys' := [(e1, .int), (e2, .int), (e3, .long)]) [0, 1, 2] rfl
        exact W.iret (v := (-1)) hx hb hr (fun t ht hW => ⟨⟨(-1), (lk2_39, f2b_39, f3b_39), rfl, ⟨fun h => absurd ⟨c_8, c_19⟩ h, fun _ => ⟨⟨h_3.1.1, by rw [if_neg c_53]⟩, h_3.2⟩⟩, by rw [ht]; exact hP9, va_K.moved hW.alike hK9, hD9⟩, hS.F ht⟩) hS.2.2 d_X_plan_63
    · have c_19 := bi_n (hw_16.symm.trans c_19)
      refine lv_bipush (v := (-2)) hx hb d_X_plan_22 (by decide) ?_
      have hP9 := hP.sub (ws' := [(h0, .inr (5, [.ref k1, .ref k2, .ref k3, .ref k4, .ref k5, .int pl])), (k2, .inr (1, [.int lv, .long th])), (k4, .inr (3, [.ref a1, .ref a2, .ref a3, .int sp, .long lk])), (a1, .inl (e1, 1440, .inl f1)), (a2, .inl (e2, 1440, .inl f2)), (a3, .inl (e3, 1001, .inr (.inl f3)))]) [0, 1, 2, 3, 4, 5] rfl
      have hD9 := hD.sub (ws' := [(h0, .inr (5, [.ref k1, .ref k2, .ref k3, .ref k4, .ref k5, .int pl])), (k2, .inr (1, [.int lv, .long th])), (k4, .inr (3, [.ref a1, .ref a2, .ref a3, .int sp, .long lk])), (a1, .inl (e1, 1440, .inl f1)), (a2, .inl (e2, 1440, .inl f2)), (a3, .inl (e3, 1001, .inr (.inl f3)))]) [0, 1, 2, 3, 4, 5] (by decide) rfl
      have hK9 := hK.sub (tys' := [(e1, .int), (e2, .int), (e3, .long)]) [0, 1, 2] rfl
      exact W.iret (v := (-2)) hx hb hr (fun t ht hW => ⟨⟨(-2), (lk, f2, f3), rfl, ⟨fun _ => ⟨rfl, rfl, rfl⟩, fun h => absurd h.2 c_19⟩, by rw [ht]; exact hP9, va_K.moved hW.alike hK9, hD9⟩, hS.F ht⟩) hS.2.2 d_X_plan_24
set_option maxHeartbeats 4000000 in
set_option maxRecDepth 100000 in
theorem c_X_short0 (l : Launch) (dC : Nat → ClassId) (dI : Nat → Nat → Nat) (h0 : Nat) (k1 : Nat) (k2 : Nat) (k3 : Nat) (k4 : Nat) (k5 : Nat) (a1 : Nat) (a2 : Nat) (a3 : Nat) (sz : Nat) (pl : Int32) (sp : Int32) (lk : Int64) : Met l y_X_short0 w_X_short0 ({ frames := 0, cells := 0, slots := 0, locals := 0 }) (cPre dC dI [.ref h0] sz [] [(h0, .inr (5, [.ref k1, .ref k2, .ref k3, .ref k4, .ref k5, .int pl])), (k4, .inr (3, [.ref a1, .ref a2, .ref a3, .int sp, .long lk]))]) (va_Ql (fun (r : Int64) (u : Unit) => r = lk) (fun (u : Unit) (t : State) => cB dC dI (va_A [(h0, .inr (5, [.ref k1, .ref k2, .ref k3, .ref k4, .ref k5, .int pl])), (k4, .inr (3, [.ref a1, .ref a2, .ref a3, .int sp, .long lk]))] sz) [] [(h0, .inr (5, [.ref k1, .ref k2, .ref k3, .ref k4, .ref k5, .int pl])), (k4, .inr (3, [.ref a1, .ref a2, .ref a3, .int sp, .long lk]))] t) (va_A [(h0, .inr (5, [.ref k1, .ref k2, .ref k3, .ref k4, .ref k5, .int pl])), (k4, .inr (3, [.ref a1, .ref a2, .ref a3, .int sp, .long lk]))] sz)) 0 0 (va_A [(h0, .inr (5, [.ref k1, .ref k2, .ref k3, .ref k4, .ref k5, .int pl])), (k4, .inr (3, [.ref a1, .ref a2, .ref a3, .int sp, .long lk]))] sz) := by
  refine Met.ofW (cc := b_X_short0) (maxL := 1) (ret := (some .long)) (by decide) rfl ?_
  intro p e s m args below meth c s₁ B hml hv
  obtain ⟨rfl, hsz, hN, hP, hK, hD0⟩ := hv
  have hx := B.exec
  have hb := B.bytes
  have hr := B.returns
  have hts := atoms_spec (ws := w_X_short0) B.pre
  have hB := big_of hts
  have hown : s.vm.findClass R_X = some m.cls := findClass_of_methodNamed B.named
  have hlocks := B.notSynchronized
  subst hsz
  have hD := hD0.self (sz := s.heap.size)
  generalize hAe : va_A [(h0, .inr (5, [.ref k1, .ref k2, .ref k3, .ref k4, .ref k5, .int pl])), (k4, .inr (3, [.ref a1, .ref a2, .ref a3, .int sp, .long lk]))] s.heap.size = A at hD ⊢
  have hA : ∀ q : Nat, s.heap.size ≤ q → A q := fun q h => by rw [← hAe]; exact Or.inr h
  have hS : va_S A s.heap s.heap [] := va_S.rf
  have hP : va_P (dC, dI) classes [(h0, .inr (5, [.ref k1, .ref k2, .ref k3, .ref k4, .ref k5, .int pl])), (k4, .inr (3, [.ref a1, .ref a2, .ref a3, .int sp, .long lk]))] s.heap := hP
  have hl := lv_entry ([.ref h0]) (n := 1) (Nat.le_of_ble_eq_true rfl)
  rw [lg_entry_eq]
  generalize (lg_sl ([.ref h0]) ++ List.replicate (1 - (lg_sl ([.ref h0])).length) Slot.unset).toArray = ls at hl ⊢
  have hl : lv_has ls 1 [(0, .ref h0)] := hl
  refine lv_aload_n hx hb d_X_short0_0 rfl (lv_at hl 0 rfl) ?_
  refine va_get (D := (dC, dI)) (ci := 5) (v := .ref k4) (C := R_X) (T := F_X) (N := 6) hx hb hB inC_X hown hK hP 0 rfl rfl 3 (by decide) (hB _ kb_134) (fun _ h9 => h9) rfl d_X_short0_1 ?_
  refine va_getN (host := "ChargeTalk") (D := (dC, dI)) (ci := 3) (v := .long lk) (C := R_Tf) (T := F_Tf) (N := 5) hx hb hB inC_Tf hown hK hP 1 rfl rfl 4 (by decide) (va_Nw.use rfl (hN _ kn_9)) (fun _ h9 => h9) rfl d_X_short0_4 ?_
  have hP9 := hP.sub (ws' := [(h0, .inr (5, [.ref k1, .ref k2, .ref k3, .ref k4, .ref k5, .int pl])), (k4, .inr (3, [.ref a1, .ref a2, .ref a3, .int sp, .long lk]))]) [0, 1] rfl
  have hD9 := hD.sub (ws' := [(h0, .inr (5, [.ref k1, .ref k2, .ref k3, .ref k4, .ref k5, .int pl])), (k4, .inr (3, [.ref a1, .ref a2, .ref a3, .int sp, .long lk]))]) [0, 1] (by decide) rfl
  have hK9 := hK.sub (tys' := []) [] rfl
  exact W.lret (v := lk) hx hb hr (fun t ht hW => ⟨⟨lk, (), rfl, rfl, by rw [ht]; exact hP9, va_K.moved hW.alike hK9, hD9⟩, hS.F ht⟩) hS.2.2 d_X_short0_7
set_option maxHeartbeats 4000000 in
set_option maxRecDepth 100000 in
theorem c_X_price (l : Launch) (dC : Nat → ClassId) (dI : Nat → Nat → Nat) (h0 : Nat) (k1 : Nat) (k2 : Nat) (k3 : Nat) (k4 : Nat) (k5 : Nat) (a1 : Nat) (a2 : Nat) (a3 : Nat) (e1 : ClassId) (sz : Nat) (pl : Int32) (sp : Int32) (lk : Int64) (f1 : Nat → Int32) (p0 : Int64) (p1 : Int64) (p2 : Int64) : Met l y_X_price w_X_price ({ frames := 2, cells := 0, slots := 0, locals := 47 }) (cPre dC dI [.ref h0, .long p0, .long p1, .long p2] sz [(e1, .int)] [(h0, .inr (5, [.ref k1, .ref k2, .ref k3, .ref k4, .ref k5, .int pl])), (k4, .inr (3, [.ref a1, .ref a2, .ref a3, .int sp, .long lk])), (a1, .inl (e1, 1440, .inl f1))]) (va_Qi (fun (r : Int32) (u : Int32 × (Nat → Int32)) => (¬ prOk p0 p1 p2 → r = -2 ∧ u.1 = sp ∧ u.2 = f1) ∧ (prOk p0 p1 p2 → 20 ≤ sp → r = -4 ∧ u.1 = sp ∧ u.2 = f1) ∧ (prOk p0 p1 p2 → ¬ 20 ≤ sp → r = sp + 1 ∧ u.1 = sp + 1 ∧ ∀ k : Nat, u.2 k = if p0.toInt ≤ k ∧ (k : Int) < p1.toInt then p2.toInt32 else f1 k)) (fun (u : Int32 × (Nat → Int32)) (t : State) => cB dC dI (va_A [(h0, .inr (5, [.ref k1, .ref k2, .ref k3, .ref k4, .ref k5, .int pl])), (k4, .inr (3, [.ref a1, .ref a2, .ref a3, .int sp, .long lk])), (a1, .inl (e1, 1440, .inl f1))] sz) [(e1, .int)] [(h0, .inr (5, [.ref k1, .ref k2, .ref k3, .ref k4, .ref k5, .int pl])), (k4, .inr (3, [.ref a1, .ref a2, .ref a3, .int u.1, .long lk])), (a1, .inl (e1, 1440, .inl (u.2)))] t) (va_A [(h0, .inr (5, [.ref k1, .ref k2, .ref k3, .ref k4, .ref k5, .int pl])), (k4, .inr (3, [.ref a1, .ref a2, .ref a3, .int sp, .long lk])), (a1, .inl (e1, 1440, .inl f1))] sz)) 0 0 (va_A [(h0, .inr (5, [.ref k1, .ref k2, .ref k3, .ref k4, .ref k5, .int pl])), (k4, .inr (3, [.ref a1, .ref a2, .ref a3, .int sp, .long lk])), (a1, .inl (e1, 1440, .inl f1))] sz) := by
  refine Met.ofW (cc := b_X_price) (maxL := 7) (ret := (some .int)) (by decide) rfl ?_
  intro p e s m args below meth c s₁ B hml hv
  obtain ⟨rfl, hsz, hN, hP, hK, hD0⟩ := hv
  have hx := B.exec
  have hb := B.bytes
  have hr := B.returns
  have hts := atoms_spec (ws := w_X_price) B.pre
  have hB := big_of hts
  have hown : s.vm.findClass R_X = some m.cls := findClass_of_methodNamed B.named
  have hlocks := B.notSynchronized
  subst hsz
  have hD := hD0.self (sz := s.heap.size)
  generalize hAe : va_A [(h0, .inr (5, [.ref k1, .ref k2, .ref k3, .ref k4, .ref k5, .int pl])), (k4, .inr (3, [.ref a1, .ref a2, .ref a3, .int sp, .long lk])), (a1, .inl (e1, 1440, .inl f1))] s.heap.size = A at hD ⊢
  have hA : ∀ q : Nat, s.heap.size ≤ q → A q := fun q h => by rw [← hAe]; exact Or.inr h
  have hS : va_S A s.heap s.heap [] := va_S.rf
  have hP : va_P (dC, dI) classes [(h0, .inr (5, [.ref k1, .ref k2, .ref k3, .ref k4, .ref k5, .int pl])), (k4, .inr (3, [.ref a1, .ref a2, .ref a3, .int sp, .long lk])), (a1, .inl (e1, 1440, .inl f1))] s.heap := hP
  have hl := lv_entry ([.ref h0, .long p0, .long p1, .long p2]) (n := 7) (Nat.le_of_ble_eq_true rfl)
  rw [lg_entry_eq]
  generalize (lg_sl ([.ref h0, .long p0, .long p1, .long p2]) ++ List.replicate (7 - (lg_sl ([.ref h0, .long p0, .long p1, .long p2])).length) Slot.unset).toArray = ls at hl ⊢
  have hl : lv_has ls 7 [(0, .ref h0), (1, .long p0), (3, .long p1), (5, .long p2)] := hl
  refine lv_lload_n hx hb d_X_price_0 rfl (lv_at hl 1 rfl) ?_
  refine lv_lconst (v := 0) hx hb d_X_price_1 (by decide) ?_
  refine lv_ldc2 (v := 1439) hx hb hown (hB _ kb_182) d_X_price_2 ?_
  refine kc_i (va_runS (As := [.long p0, .long 0, .long 1439]) (rest := []) ⟨hx, hb, hml, hown, hts⟩ (c_X_isWithin l dC dI  s.heap.size  p0 0 1439 ) (cwS 3 hts (ginS kb_150 kb_8 kb_7 kb_6) rfl rfl rfl (by decide +kernel) ⟨Nat.le_of_ble_eq_true rfl, Nat.le_of_ble_eq_true rfl⟩) (preS (wc := []) hK hN hP hD [] rfl rfl (by decide) [] rfl) rfl rfl hl.1 rfl (lv_room (Nat.le_of_ble_eq_true rfl)) d_X_price_5 ⟨Nat.le_of_ble_eq_true rfl, Nat.le_of_ble_eq_true rfl⟩) hP hD hS hA [] [0, 1, 2] (wr := [(h0, .inr (5, [.ref k1, .ref k2, .ref k3, .ref k4, .ref k5, .int pl])), (k4, .inr (3, [.ref a1, .ref a2, .ref a3, .int sp, .long lk])), (a1, .inl (e1, 1440, .inl f1))]) rfl rfl (by decide) (by decide) (fun r_5 u_5 H locs hw_5 hP hD hK1 hS => ?_)
  have hw_5 : r_5 = bi (0 ≤ p0 ∧ p0 ≤ 1439) := hw_5
  have hP : va_P (dC, dI) classes [(h0, .inr (5, [.ref k1, .ref k2, .ref k3, .ref k4, .ref k5, .int pl])), (k4, .inr (3, [.ref a1, .ref a2, .ref a3, .int sp, .long lk])), (a1, .inl (e1, 1440, .inl f1))] H := hP
  have hD : va_D A [(h0, .inr (5, [.ref k1, .ref k2, .ref k3, .ref k4, .ref k5, .int pl])), (k4, .inr (3, [.ref a1, .ref a2, .ref a3, .int sp, .long lk])), (a1, .inl (e1, 1440, .inl f1))] := hD
  refine lv_if_eq (tgt := 24) hx hb d_X_price_8 (by decide) (fun c_8 => ?_) (fun c_8 => ?_)
  · have c_8 := bi_n (hw_5.symm.trans c_8)
    refine lv_bipush (v := (-2)) hx hb d_X_price_24 (by decide) ?_
    have hP9 := hP.sub (ws' := [(h0, .inr (5, [.ref k1, .ref k2, .ref k3, .ref k4, .ref k5, .int pl])), (k4, .inr (3, [.ref a1, .ref a2, .ref a3, .int sp, .long lk])), (a1, .inl (e1, 1440, .inl f1))]) [0, 1, 2] rfl
    have hD9 := hD.sub (ws' := [(h0, .inr (5, [.ref k1, .ref k2, .ref k3, .ref k4, .ref k5, .int pl])), (k4, .inr (3, [.ref a1, .ref a2, .ref a3, .int sp, .long lk])), (a1, .inl (e1, 1440, .inl f1))]) [0, 1, 2] (by decide) rfl
    have hK9 := hK.sub (tys' := [(e1, .int)]) [0] rfl
    exact W.iret (v := (-2)) hx hb hr (fun t ht hW => ⟨⟨(-2), (sp, f1), rfl, ⟨fun _ => ⟨rfl, rfl, rfl⟩, fun h => absurd h.1 c_8, fun h => absurd h.1 c_8⟩, by rw [ht]; exact hP9, va_K.moved hW.alike hK9, hD9⟩, hS.F ht⟩) hS.2.2 d_X_price_26
  · have c_8 := bi_y hw_5 c_8
    refine lv_lload_n hx hb d_X_price_11 rfl (lv_at hl 2 rfl) ?_
    refine lv_lload_n hx hb d_X_price_12 rfl (lv_at hl 1 rfl) ?_
    refine lv_lconst (v := 1) hx hb d_X_price_13 (by decide) ?_
    refine lv_ladd hx hb d_X_price_14 ?_
    refine lv_topl (fun x_14 ex_14 => ?_)
    refine lv_ldc2 (v := 1440) hx hb hown (hB _ kb_177) d_X_price_15 ?_
    refine kc_i (va_runS (As := [.long p1, .long x_14, .long 1440]) (rest := []) ⟨hx, hb, hml, hown, hts⟩ (c_X_isWithin l dC dI  H.size  p1 x_14 1440 ) (cwS 3 hts (ginS kb_150 kb_8 kb_7 kb_6) rfl rfl rfl (by decide +kernel) ⟨Nat.le_of_ble_eq_true rfl, Nat.le_of_ble_eq_true rfl⟩) (preS (wc := []) hK hN hP hD [] rfl rfl (by decide) [] rfl) rfl rfl hl.1 rfl (lv_room (Nat.le_of_ble_eq_true rfl)) d_X_price_18 ⟨Nat.le_of_ble_eq_true rfl, Nat.le_of_ble_eq_true rfl⟩) hP hD hS hA [] [0, 1, 2] (wr := [(h0, .inr (5, [.ref k1, .ref k2, .ref k3, .ref k4, .ref k5, .int pl])), (k4, .inr (3, [.ref a1, .ref a2, .ref a3, .int sp, .long lk])), (a1, .inl (e1, 1440, .inl f1))]) rfl rfl (by decide) (by decide) (fun r_18 u_18 H locs hw_18 hP hD hK1 hS => ?_)
    have hw_18 : r_18 = bi (x_14 ≤ p1 ∧ p1 ≤ 1440) := hw_18
    have hP : va_P (dC, dI) classes [(h0, .inr (5, [.ref k1, .ref k2, .ref k3, .ref k4, .ref k5, .int pl])), (k4, .inr (3, [.ref a1, .ref a2, .ref a3, .int sp, .long lk])), (a1, .inl (e1, 1440, .inl f1))] H := hP
    have hD : va_D A [(h0, .inr (5, [.ref k1, .ref k2, .ref k3, .ref k4, .ref k5, .int pl])), (k4, .inr (3, [.ref a1, .ref a2, .ref a3, .int sp, .long lk])), (a1, .inl (e1, 1440, .inl f1))] := hD
    refine lv_if_ne (tgt := 27) hx hb d_X_price_21 (by decide) (fun c_21 => ?_) (fun c_21 => ?_)
    · have c_21 := bi_y hw_18 c_21
      refine lv_lload hx hb d_X_price_27 (lv_at hl 3 rfl) ?_
      refine lv_lconst (v := 0) hx hb d_X_price_29 (by decide) ?_
      refine lv_ldc2 (v := 1000) hx hb hown (hB _ kb_183) d_X_price_30 ?_
      refine kc_i (va_runS (As := [.long p2, .long 0, .long 1000]) (rest := []) ⟨hx, hb, hml, hown, hts⟩ (c_X_isWithin l dC dI  H.size  p2 0 1000 ) (cwS 3 hts (ginS kb_150 kb_8 kb_7 kb_6) rfl rfl rfl (by decide +kernel) ⟨Nat.le_of_ble_eq_true rfl, Nat.le_of_ble_eq_true rfl⟩) (preS (wc := []) hK hN hP hD [] rfl rfl (by decide) [] rfl) rfl rfl hl.1 rfl (lv_room (Nat.le_of_ble_eq_true rfl)) d_X_price_33 ⟨Nat.le_of_ble_eq_true rfl, Nat.le_of_ble_eq_true rfl⟩) hP hD hS hA [] [0, 1, 2] (wr := [(h0, .inr (5, [.ref k1, .ref k2, .ref k3, .ref k4, .ref k5, .int pl])), (k4, .inr (3, [.ref a1, .ref a2, .ref a3, .int sp, .long lk])), (a1, .inl (e1, 1440, .inl f1))]) rfl rfl (by decide) (by decide) (fun r_33 u_33 H locs hw_33 hP hD hK1 hS => ?_)
      have hw_33 : r_33 = bi (0 ≤ p2 ∧ p2 ≤ 1000) := hw_33
      have hP : va_P (dC, dI) classes [(h0, .inr (5, [.ref k1, .ref k2, .ref k3, .ref k4, .ref k5, .int pl])), (k4, .inr (3, [.ref a1, .ref a2, .ref a3, .int sp, .long lk])), (a1, .inl (e1, 1440, .inl f1))] H := hP
      have hD : va_D A [(h0, .inr (5, [.ref k1, .ref k2, .ref k3, .ref k4, .ref k5, .int pl])), (k4, .inr (3, [.ref a1, .ref a2, .ref a3, .int sp, .long lk])), (a1, .inl (e1, 1440, .inl f1))] := hD
      refine lv_if_ne (tgt := 42) hx hb d_X_price_36 (by decide) (fun c_36 => ?_) (fun c_36 => ?_)
      · have c_36 := bi_y hw_33 c_36
        refine lv_aload_n hx hb d_X_price_42 rfl (lv_at hl 0 rfl) ?_
        refine va_get (D := (dC, dI)) (ci := 5) (v := .ref k4) (C := R_X) (T := F_X) (N := 6) hx hb hB inC_X hown hK hP 0 rfl rfl 3 (by decide) (hB _ kb_134) (fun _ h9 => h9) rfl d_X_price_43 ?_
        refine kc_i (va_runV (As := []) (rest := []) ⟨hx, hb, hml, hown, hts⟩ (c_Tf_isFull l dC dI k4 a1 a2 a3 H.size sp lk  ) (cwV 0 hts (ginV kb_185 kb_186 kb_187 kb_88 kb_184) rfl rfl rfl (by decide +kernel) ⟨Nat.le_of_ble_eq_true rfl, Nat.le_of_ble_eq_true rfl⟩) (preV (ci := 3) (wc := [(k4, .inr (3, [.ref a1, .ref a2, .ref a3, .int sp, .long lk]))]) hK hN hP hD [1] rfl rfl (by decide) [] rfl rfl rfl) rfl rfl hl.1 rfl (lv_room (Nat.le_of_ble_eq_true rfl)) d_X_price_46 ⟨Nat.le_of_ble_eq_true rfl, Nat.le_of_ble_eq_true rfl⟩) hP hD hS hA [1] [0, 2] (wr := [(h0, .inr (5, [.ref k1, .ref k2, .ref k3, .ref k4, .ref k5, .int pl])), (a1, .inl (e1, 1440, .inl f1))]) rfl rfl (by decide) (by decide) (fun r_46 u_46 H locs hw_46 hP hD hK1 hS => ?_)
        have hw_46 : r_46 = bi (20 ≤ sp) := hw_46
        have hP : va_P (dC, dI) classes [(h0, .inr (5, [.ref k1, .ref k2, .ref k3, .ref k4, .ref k5, .int pl])), (a1, .inl (e1, 1440, .inl f1)), (k4, .inr (3, [.ref a1, .ref a2, .ref a3, .int sp, .long lk]))] H := hP
        have hD : va_D A [(h0, .inr (5, [.ref k1, .ref k2, .ref k3, .ref k4, .ref k5, .int pl])), (a1, .inl (e1, 1440, .inl f1)), (k4, .inr (3, [.ref a1, .ref a2, .ref a3, .int sp, .long lk]))] := hD
        refine lv_if_eq (tgt := 55) hx hb d_X_price_49 (by decide) (fun c_49 => ?_) (fun c_49 => ?_)
        · have c_49 := bi_n (hw_46.symm.trans c_49)
          refine lv_aload_n hx hb d_X_price_55 rfl (lv_at hl 0 rfl) ?_
          refine va_get (D := (dC, dI)) (ci := 5) (v := .ref k4) (C := R_X) (T := F_X) (N := 6) hx hb hB inC_X hown hK hP 0 rfl rfl 3 (by decide) (hB _ kb_134) (fun _ h9 => h9) rfl d_X_price_56 ?_
          refine lv_lload_n hx hb d_X_price_59 rfl (lv_at hl 1 rfl) ?_
          refine lv_l2i hx hb d_X_price_60 rfl ?_
          refine lv_topi (fun x_60 ex_60 => ?_)
          refine lv_lload_n hx hb d_X_price_61 rfl (lv_at hl 2 rfl) ?_
          refine lv_l2i hx hb d_X_price_62 rfl ?_
          refine lv_topi (fun x_62 ex_62 => ?_)
          refine lv_lload hx hb d_X_price_63 (lv_at hl 3 rfl) ?_
          refine lv_l2i hx hb d_X_price_65 rfl ?_
          refine lv_topi (fun x_65 ex_65 => ?_)
          refine kc_i (va_runV (As := [.int x_60, .int x_62, .int x_65]) (rest := []) ⟨hx, hb, hml, hown, hts⟩ (c_Tf_addSpan l dC dI k4 a1 a2 a3 e1 H.size sp lk f1 x_60 x_62 x_65 ((pr6 c_8 c_21 ex_14 ex_60 ex_62).1) ((pr6 c_8 c_21 ex_14 ex_60 ex_62).2.1) ((pr6 c_8 c_21 ex_14 ex_60 ex_62).2.2.1)) (cwV 3 hts (ginV kb_189 kb_190 kb_191 kb_88 kb_188) rfl rfl rfl (by decide +kernel) ⟨Nat.le_of_ble_eq_true rfl, Nat.le_of_ble_eq_true rfl⟩) (preV (ci := 3) (wc := [(k4, .inr (3, [.ref a1, .ref a2, .ref a3, .int sp, .long lk])), (a1, .inl (e1, 1440, .inl f1))]) hK hN hP hD [2, 1] rfl rfl (by decide) [0] rfl rfl rfl) rfl rfl hl.1 rfl (lv_room (Nat.le_of_ble_eq_true rfl)) d_X_price_66 ⟨Nat.le_of_ble_eq_true rfl, Nat.le_of_ble_eq_true rfl⟩) hP hD hS hA [2, 1] [0] (wr := [(h0, .inr (5, [.ref k1, .ref k2, .ref k3, .ref k4, .ref k5, .int pl]))]) rfl rfl (by decide) (by decide) (fun r_66 u_66 H locs hw_66 hP hD hK1 hS => ?_)
          obtain ⟨sp2_66, f1b_66⟩ := u_66
          have hw_66 : r_66 = sp + 1 ∧ sp2_66 = sp + 1 ∧ ∀ k : Nat, f1b_66 k = if x_60.toInt ≤ k ∧ (k : Int) < x_62.toInt then x_65 else f1 k := hw_66
          have hP : va_P (dC, dI) classes [(h0, .inr (5, [.ref k1, .ref k2, .ref k3, .ref k4, .ref k5, .int pl])), (k4, .inr (3, [.ref a1, .ref a2, .ref a3, .int sp2_66, .long lk])), (a1, .inl (e1, 1440, .inl f1b_66))] H := hP
          have hD : va_D A [(h0, .inr (5, [.ref k1, .ref k2, .ref k3, .ref k4, .ref k5, .int pl])), (k4, .inr (3, [.ref a1, .ref a2, .ref a3, .int sp2_66, .long lk])), (a1, .inl (e1, 1440, .inl f1b_66))] := hD
          have hP9 := hP.sub (ws' := [(h0, .inr (5, [.ref k1, .ref k2, .ref k3, .ref k4, .ref k5, .int pl])), (k4, .inr (3, [.ref a1, .ref a2, .ref a3, .int sp2_66, .long lk])), (a1, .inl (e1, 1440, .inl f1b_66))]) [0, 1, 2] rfl
          have hD9 := hD.sub (ws' := [(h0, .inr (5, [.ref k1, .ref k2, .ref k3, .ref k4, .ref k5, .int pl])), (k4, .inr (3, [.ref a1, .ref a2, .ref a3, .int sp2_66, .long lk])), (a1, .inl (e1, 1440, .inl f1b_66))]) [0, 1, 2] (by decide) rfl
          have hK9 := hK.sub (tys' := [(e1, .int)]) [0] rfl
          exact W.iret (v := r_66) hx hb hr (fun t ht hW => ⟨⟨r_66, (sp2_66, f1b_66), rfl, ⟨fun h => absurd (show prOk p0 p1 p2 from ⟨c_8, by rw [← ex_14]; exact c_21, c_36⟩) h, fun _ h => absurd h c_49, fun _ _ => ⟨hw_66.1, hw_66.2.1, pr7 (pr6 c_8 c_21 ex_14 ex_60 ex_62).2.2.2 ex_65 hw_66.2.2⟩⟩, by rw [ht]; exact hP9, va_K.moved hW.alike hK9, hD9⟩, hS.F ht⟩) hS.2.2 d_X_price_69
        · have c_49 := bi_y hw_46 c_49
          refine lv_bipush (v := (-4)) hx hb d_X_price_52 (by decide) ?_
          have hP9 := hP.sub (ws' := [(h0, .inr (5, [.ref k1, .ref k2, .ref k3, .ref k4, .ref k5, .int pl])), (k4, .inr (3, [.ref a1, .ref a2, .ref a3, .int sp, .long lk])), (a1, .inl (e1, 1440, .inl f1))]) [0, 2, 1] rfl
          have hD9 := hD.sub (ws' := [(h0, .inr (5, [.ref k1, .ref k2, .ref k3, .ref k4, .ref k5, .int pl])), (k4, .inr (3, [.ref a1, .ref a2, .ref a3, .int sp, .long lk])), (a1, .inl (e1, 1440, .inl f1))]) [0, 2, 1] (by decide) rfl
          have hK9 := hK.sub (tys' := [(e1, .int)]) [0] rfl
          exact W.iret (v := (-4)) hx hb hr (fun t ht hW => ⟨⟨(-4), (sp, f1), rfl, ⟨fun h => absurd (show prOk p0 p1 p2 from ⟨c_8, by rw [← ex_14]; exact c_21, c_36⟩) h, fun _ _ => ⟨rfl, rfl, rfl⟩, fun _ h => absurd c_49 h⟩, by rw [ht]; exact hP9, va_K.moved hW.alike hK9, hD9⟩, hS.F ht⟩) hS.2.2 d_X_price_54
      · have c_36 := bi_n (hw_33.symm.trans c_36)
        refine lv_bipush (v := (-2)) hx hb d_X_price_39 (by decide) ?_
        have hP9 := hP.sub (ws' := [(h0, .inr (5, [.ref k1, .ref k2, .ref k3, .ref k4, .ref k5, .int pl])), (k4, .inr (3, [.ref a1, .ref a2, .ref a3, .int sp, .long lk])), (a1, .inl (e1, 1440, .inl f1))]) [0, 1, 2] rfl
        have hD9 := hD.sub (ws' := [(h0, .inr (5, [.ref k1, .ref k2, .ref k3, .ref k4, .ref k5, .int pl])), (k4, .inr (3, [.ref a1, .ref a2, .ref a3, .int sp, .long lk])), (a1, .inl (e1, 1440, .inl f1))]) [0, 1, 2] (by decide) rfl
        have hK9 := hK.sub (tys' := [(e1, .int)]) [0] rfl
        exact W.iret (v := (-2)) hx hb hr (fun t ht hW => ⟨⟨(-2), (sp, f1), rfl, ⟨fun _ => ⟨rfl, rfl, rfl⟩, fun h => absurd h.2.2 c_36, fun h => absurd h.2.2 c_36⟩, by rw [ht]; exact hP9, va_K.moved hW.alike hK9, hD9⟩, hS.F ht⟩) hS.2.2 d_X_price_41
    · have c_21 := bi_n (hw_18.symm.trans c_21)
      refine lv_bipush (v := (-2)) hx hb d_X_price_24 (by decide) ?_
      have hP9 := hP.sub (ws' := [(h0, .inr (5, [.ref k1, .ref k2, .ref k3, .ref k4, .ref k5, .int pl])), (k4, .inr (3, [.ref a1, .ref a2, .ref a3, .int sp, .long lk])), (a1, .inl (e1, 1440, .inl f1))]) [0, 1, 2] rfl
      have hD9 := hD.sub (ws' := [(h0, .inr (5, [.ref k1, .ref k2, .ref k3, .ref k4, .ref k5, .int pl])), (k4, .inr (3, [.ref a1, .ref a2, .ref a3, .int sp, .long lk])), (a1, .inl (e1, 1440, .inl f1))]) [0, 1, 2] (by decide) rfl
      have hK9 := hK.sub (tys' := [(e1, .int)]) [0] rfl
      exact W.iret (v := (-2)) hx hb hr (fun t ht hW => ⟨⟨(-2), (sp, f1), rfl, ⟨fun _ => ⟨rfl, rfl, rfl⟩, fun h => absurd h.2.1 (by rw [← ex_14]; exact c_21), fun h => absurd h.2.1 (by rw [← ex_14]; exact c_21)⟩, by rw [ht]; exact hP9, va_K.moved hW.alike hK9, hD9⟩, hS.F ht⟩) hS.2.2 d_X_price_26
set_option maxHeartbeats 4000000 in
set_option maxRecDepth 100000 in
theorem c_X_planned (l : Launch) (dC : Nat → ClassId) (dI : Nat → Nat → Nat) (h0 : Nat) (k1 : Nat) (k2 : Nat) (k3 : Nat) (k4 : Nat) (k5 : Nat) (a1 : Nat) (a2 : Nat) (a3 : Nat) (e2 : ClassId) (sz : Nat) (pl : Int32) (sp : Int32) (lk : Int64) (f2 : Nat → Int32) (p0 : Int64) : Met l y_X_planned w_X_planned ({ frames := 1, cells := 0, slots := 0, locals := 22 }) (cPre dC dI [.ref h0, .long p0] sz [(e2, .int)] [(h0, .inr (5, [.ref k1, .ref k2, .ref k3, .ref k4, .ref k5, .int pl])), (k4, .inr (3, [.ref a1, .ref a2, .ref a3, .int sp, .long lk])), (a2, .inl (e2, 1440, .inl f2))]) (va_Ql (fun (r : Int64) (u : Unit) => r = (if ¬ p0 < 0 ∧ ¬ 1440 ≤ p0 then f2 p0.toInt32.toNatClampNeg else 0).toInt64) (fun (u : Unit) (t : State) => cB dC dI (va_A [(h0, .inr (5, [.ref k1, .ref k2, .ref k3, .ref k4, .ref k5, .int pl])), (k4, .inr (3, [.ref a1, .ref a2, .ref a3, .int sp, .long lk])), (a2, .inl (e2, 1440, .inl f2))] sz) [(e2, .int)] [(h0, .inr (5, [.ref k1, .ref k2, .ref k3, .ref k4, .ref k5, .int pl])), (k4, .inr (3, [.ref a1, .ref a2, .ref a3, .int sp, .long lk])), (a2, .inl (e2, 1440, .inl f2))] t) (va_A [(h0, .inr (5, [.ref k1, .ref k2, .ref k3, .ref k4, .ref k5, .int pl])), (k4, .inr (3, [.ref a1, .ref a2, .ref a3, .int sp, .long lk])), (a2, .inl (e2, 1440, .inl f2))] sz)) 0 0 (va_A [(h0, .inr (5, [.ref k1, .ref k2, .ref k3, .ref k4, .ref k5, .int pl])), (k4, .inr (3, [.ref a1, .ref a2, .ref a3, .int sp, .long lk])), (a2, .inl (e2, 1440, .inl f2))] sz) := by
  refine Met.ofW (cc := b_X_planned) (maxL := 3) (ret := (some .long)) (by decide) rfl ?_
  intro p e s m args below meth c s₁ B hml hv
  obtain ⟨rfl, hsz, hN, hP, hK, hD0⟩ := hv
  have hx := B.exec
  have hb := B.bytes
  have hr := B.returns
  have hts := atoms_spec (ws := w_X_planned) B.pre
  have hB := big_of hts
  have hown : s.vm.findClass R_X = some m.cls := findClass_of_methodNamed B.named
  have hlocks := B.notSynchronized
  subst hsz
  have hD := hD0.self (sz := s.heap.size)
  generalize hAe : va_A [(h0, .inr (5, [.ref k1, .ref k2, .ref k3, .ref k4, .ref k5, .int pl])), (k4, .inr (3, [.ref a1, .ref a2, .ref a3, .int sp, .long lk])), (a2, .inl (e2, 1440, .inl f2))] s.heap.size = A at hD ⊢
  have hA : ∀ q : Nat, s.heap.size ≤ q → A q := fun q h => by rw [← hAe]; exact Or.inr h
  have hS : va_S A s.heap s.heap [] := va_S.rf
  have hP : va_P (dC, dI) classes [(h0, .inr (5, [.ref k1, .ref k2, .ref k3, .ref k4, .ref k5, .int pl])), (k4, .inr (3, [.ref a1, .ref a2, .ref a3, .int sp, .long lk])), (a2, .inl (e2, 1440, .inl f2))] s.heap := hP
  have hl := lv_entry ([.ref h0, .long p0]) (n := 3) (Nat.le_of_ble_eq_true rfl)
  rw [lg_entry_eq]
  generalize (lg_sl ([.ref h0, .long p0]) ++ List.replicate (3 - (lg_sl ([.ref h0, .long p0])).length) Slot.unset).toArray = ls at hl ⊢
  have hl : lv_has ls 3 [(0, .ref h0), (1, .long p0)] := hl
  refine lv_aload_n hx hb d_X_planned_0 rfl (lv_at hl 0 rfl) ?_
  refine va_get (D := (dC, dI)) (ci := 5) (v := .ref k4) (C := R_X) (T := F_X) (N := 6) hx hb hB inC_X hown hK hP 0 rfl rfl 3 (by decide) (hB _ kb_134) (fun _ h9 => h9) rfl d_X_planned_1 ?_
  refine lv_lload_n hx hb d_X_planned_4 rfl (lv_at hl 1 rfl) ?_
  refine kc_i (va_runV (As := [.long p0]) (rest := []) ⟨hx, hb, hml, hown, hts⟩ (c_Tf_unitsIn l dC dI k4 a1 a2 a3 e2 s.heap.size sp lk f2 p0 ) (cwV 1 hts (ginV kb_193 kb_194 kb_195 kb_88 kb_192) rfl rfl rfl (by decide +kernel) ⟨Nat.le_of_ble_eq_true rfl, Nat.le_of_ble_eq_true rfl⟩) (preV (ci := 3) (wc := [(k4, .inr (3, [.ref a1, .ref a2, .ref a3, .int sp, .long lk])), (a2, .inl (e2, 1440, .inl f2))]) hK hN hP hD [1, 2] rfl rfl (by decide) [0] rfl rfl rfl) rfl rfl hl.1 rfl (lv_room (Nat.le_of_ble_eq_true rfl)) d_X_planned_5 ⟨Nat.le_of_ble_eq_true rfl, Nat.le_of_ble_eq_true rfl⟩) hP hD hS hA [1, 2] [0] (wr := [(h0, .inr (5, [.ref k1, .ref k2, .ref k3, .ref k4, .ref k5, .int pl]))]) rfl rfl (by decide) (by decide) (fun r_5 u_5 H locs hw_5 hP hD hK1 hS => ?_)
  have hw_5 : r_5 = if ¬ p0 < 0 ∧ ¬ 1440 ≤ p0 then f2 p0.toInt32.toNatClampNeg else 0 := hw_5
  have hP : va_P (dC, dI) classes [(h0, .inr (5, [.ref k1, .ref k2, .ref k3, .ref k4, .ref k5, .int pl])), (k4, .inr (3, [.ref a1, .ref a2, .ref a3, .int sp, .long lk])), (a2, .inl (e2, 1440, .inl f2))] H := hP
  have hD : va_D A [(h0, .inr (5, [.ref k1, .ref k2, .ref k3, .ref k4, .ref k5, .int pl])), (k4, .inr (3, [.ref a1, .ref a2, .ref a3, .int sp, .long lk])), (a2, .inl (e2, 1440, .inl f2))] := hD
  refine lv_i2l hx hb d_X_planned_8 rfl ?_
  refine lv_topl (fun x_8 ex_8 => ?_)
  have hP9 := hP.sub (ws' := [(h0, .inr (5, [.ref k1, .ref k2, .ref k3, .ref k4, .ref k5, .int pl])), (k4, .inr (3, [.ref a1, .ref a2, .ref a3, .int sp, .long lk])), (a2, .inl (e2, 1440, .inl f2))]) [0, 1, 2] rfl
  have hD9 := hD.sub (ws' := [(h0, .inr (5, [.ref k1, .ref k2, .ref k3, .ref k4, .ref k5, .int pl])), (k4, .inr (3, [.ref a1, .ref a2, .ref a3, .int sp, .long lk])), (a2, .inl (e2, 1440, .inl f2))]) [0, 1, 2] (by decide) rfl
  have hK9 := hK.sub (tys' := [(e2, .int)]) [0] rfl
  exact W.lret (v := x_8) hx hb hr (fun t ht hW => ⟨⟨x_8, (), rfl, by rw [ex_8, hw_5], by rw [ht]; exact hP9, va_K.moved hW.alike hK9, hD9⟩, hS.F ht⟩) hS.2.2 d_X_planned_9
set_option maxHeartbeats 4000000 in
set_option maxRecDepth 100000 in
theorem c_X_stop (l : Launch) (dC : Nat → ClassId) (dI : Nat → Nat → Nat) (h0 : Nat) (k1 : Nat) (k2 : Nat) (k3 : Nat) (k4 : Nat) (k5 : Nat) (sz : Nat) (pl : Int32) (told : Int64) (ph : Int32) (di : Int32) (lm : Int64) (cu : Int64) (la : Int64) (en : Int64) (p0 : Int32) (p1 : Int64) : Met l y_X_stop w_X_stop ({ frames := 2, cells := 0, slots := 0, locals := 47 }) (cPre dC dI [.ref h0, .int p0, .long p1] sz [] [(h0, .inr (5, [.ref k1, .ref k2, .ref k3, .ref k4, .ref k5, .int pl])), (k1, .inr (0, [.long told])), (k3, .inr (2, [.int ph, .int di, .long lm, .long cu, .long la, .long en]))]) (va_Qi (fun (r : Int32) (u : Int64 × Int32) => True) (fun (u : Int64 × Int32) (t : State) => cB dC dI (va_A [(h0, .inr (5, [.ref k1, .ref k2, .ref k3, .ref k4, .ref k5, .int pl])), (k1, .inr (0, [.long told])), (k3, .inr (2, [.int ph, .int di, .long lm, .long cu, .long la, .long en]))] sz) [] [(h0, .inr (5, [.ref k1, .ref k2, .ref k3, .ref k4, .ref k5, .int pl])), (k1, .inr (0, [.long u.1])), (k3, .inr (2, [.int u.2, .int di, .long lm, .long cu, .long la, .long en]))] t) (va_A [(h0, .inr (5, [.ref k1, .ref k2, .ref k3, .ref k4, .ref k5, .int pl])), (k1, .inr (0, [.long told])), (k3, .inr (2, [.int ph, .int di, .long lm, .long cu, .long la, .long en]))] sz)) 0 0 (va_A [(h0, .inr (5, [.ref k1, .ref k2, .ref k3, .ref k4, .ref k5, .int pl])), (k1, .inr (0, [.long told])), (k3, .inr (2, [.int ph, .int di, .long lm, .long cu, .long la, .long en]))] sz) := by
  refine Met.ofW (cc := b_X_stop) (maxL := 4) (ret := (some .int)) (by decide) rfl ?_
  intro p e s m args below meth c s₁ B hml hv
  obtain ⟨rfl, hsz, hN, hP, hK, hD0⟩ := hv
  have hx := B.exec
  have hb := B.bytes
  have hr := B.returns
  have hts := atoms_spec (ws := w_X_stop) B.pre
  have hB := big_of hts
  have hown : s.vm.findClass R_X = some m.cls := findClass_of_methodNamed B.named
  have hlocks := B.notSynchronized
  subst hsz
  have hD := hD0.self (sz := s.heap.size)
  generalize hAe : va_A [(h0, .inr (5, [.ref k1, .ref k2, .ref k3, .ref k4, .ref k5, .int pl])), (k1, .inr (0, [.long told])), (k3, .inr (2, [.int ph, .int di, .long lm, .long cu, .long la, .long en]))] s.heap.size = A at hD ⊢
  have hA : ∀ q : Nat, s.heap.size ≤ q → A q := fun q h => by rw [← hAe]; exact Or.inr h
  have hS : va_S A s.heap s.heap [] := va_S.rf
  have hP : va_P (dC, dI) classes [(h0, .inr (5, [.ref k1, .ref k2, .ref k3, .ref k4, .ref k5, .int pl])), (k1, .inr (0, [.long told])), (k3, .inr (2, [.int ph, .int di, .long lm, .long cu, .long la, .long en]))] s.heap := hP
  have hl := lv_entry ([.ref h0, .int p0, .long p1]) (n := 4) (Nat.le_of_ble_eq_true rfl)
  rw [lg_entry_eq]
  generalize (lg_sl ([.ref h0, .int p0, .long p1]) ++ List.replicate (4 - (lg_sl ([.ref h0, .int p0, .long p1])).length) Slot.unset).toArray = ls at hl ⊢
  have hl : lv_has ls 4 [(0, .ref h0), (1, .int p0), (2, .long p1)] := hl
  refine lv_iload_n hx hb d_X_stop_0 rfl (lv_at hl 1 rfl) ?_
  refine lv_if_eq (tgt := 11) hx hb d_X_stop_1 (by decide) (fun c_1 => ?_) (fun c_1 => ?_)
  · skip
    refine lv_aload_n hx hb d_X_stop_11 rfl (lv_at hl 0 rfl) ?_
    refine va_get (D := (dC, dI)) (ci := 5) (v := .ref k1) (C := R_X) (T := F_X) (N := 6) hx hb hB inC_X hown hK hP 0 rfl rfl 0 (by decide) (hB _ kb_118) (fun _ h9 => h9) rfl d_X_stop_12 ?_
    refine lv_lload_n hx hb d_X_stop_15 rfl (lv_at hl 2 rfl) ?_
    refine kc_i (va_runV (As := [.long p1]) (rest := []) ⟨hx, hb, hml, hown, hts⟩ (c_Ck_canTell l dC dI k1 s.heap.size told p1 ) (cwV 1 hts (ginV kb_152 kb_153 kb_154 kb_115 kb_151) rfl rfl rfl (by decide +kernel) ⟨Nat.le_of_ble_eq_true rfl, Nat.le_of_ble_eq_true rfl⟩) (preV (ci := 0) (wc := [(k1, .inr (0, [.long told]))]) hK hN hP hD [1] rfl rfl (by decide) [] rfl rfl rfl) rfl rfl hl.1 rfl (lv_room (Nat.le_of_ble_eq_true rfl)) d_X_stop_16 ⟨Nat.le_of_ble_eq_true rfl, Nat.le_of_ble_eq_true rfl⟩) hP hD hS hA [1] [0, 2] (wr := [(h0, .inr (5, [.ref k1, .ref k2, .ref k3, .ref k4, .ref k5, .int pl])), (k3, .inr (2, [.int ph, .int di, .long lm, .long cu, .long la, .long en]))]) rfl rfl (by decide) (by decide) (fun r_16 u_16 H locs hw_16 hP hD hK1 hS => ?_)
    have hw_16 : r_16 = bi (told ≤ p1 ∧ p1 ≤ 1125899906842624) := hw_16
    have hP : va_P (dC, dI) classes [(h0, .inr (5, [.ref k1, .ref k2, .ref k3, .ref k4, .ref k5, .int pl])), (k3, .inr (2, [.int ph, .int di, .long lm, .long cu, .long la, .long en])), (k1, .inr (0, [.long told]))] H := hP
    have hD : va_D A [(h0, .inr (5, [.ref k1, .ref k2, .ref k3, .ref k4, .ref k5, .int pl])), (k3, .inr (2, [.int ph, .int di, .long lm, .long cu, .long la, .long en])), (k1, .inr (0, [.long told]))] := hD
    refine lv_if_ne (tgt := 25) hx hb d_X_stop_19 (by decide) (fun c_19 => ?_) (fun c_19 => ?_)
    · have c_19 := bi_y hw_16 c_19
      refine lv_aload_n hx hb d_X_stop_25 rfl (lv_at hl 0 rfl) ?_
      refine va_get (D := (dC, dI)) (ci := 5) (v := .ref k3) (C := R_X) (T := F_X) (N := 6) hx hb hB inC_X hown hK hP 0 rfl rfl 2 (by decide) (hB _ kb_128) (fun _ h9 => h9) rfl d_X_stop_26 ?_
      refine kc_i (va_runV (As := []) (rest := []) ⟨hx, hb, hml, hown, hts⟩ (c_Ta_isCharging l dC dI k3 H.size ph di lm cu la en  ) (cwV 0 hts (ginV kb_196 kb_65 kb_66 kb_47 kb_63) rfl rfl rfl (by decide +kernel) ⟨Nat.le_of_ble_eq_true rfl, Nat.le_of_ble_eq_true rfl⟩) (preV (ci := 2) (wc := [(k3, .inr (2, [.int ph, .int di, .long lm, .long cu, .long la, .long en]))]) hK hN hP hD [1] rfl rfl (by decide) [] rfl rfl rfl) rfl rfl hl.1 rfl (lv_room (Nat.le_of_ble_eq_true rfl)) d_X_stop_29 ⟨Nat.le_of_ble_eq_true rfl, Nat.le_of_ble_eq_true rfl⟩) hP hD hS hA [1] [0, 2] (wr := [(h0, .inr (5, [.ref k1, .ref k2, .ref k3, .ref k4, .ref k5, .int pl])), (k1, .inr (0, [.long told]))]) rfl rfl (by decide) (by decide) (fun r_29 u_29 H locs hw_29 hP hD hK1 hS => ?_)
      have hw_29 : True := hw_29
      have hP : va_P (dC, dI) classes [(h0, .inr (5, [.ref k1, .ref k2, .ref k3, .ref k4, .ref k5, .int pl])), (k1, .inr (0, [.long told])), (k3, .inr (2, [.int ph, .int di, .long lm, .long cu, .long la, .long en]))] H := hP
      have hD : va_D A [(h0, .inr (5, [.ref k1, .ref k2, .ref k3, .ref k4, .ref k5, .int pl])), (k1, .inr (0, [.long told])), (k3, .inr (2, [.int ph, .int di, .long lm, .long cu, .long la, .long en]))] := hD
      refine lv_if_ne (tgt := 38) hx hb d_X_stop_32 (by decide) (fun c_32 => ?_) (fun c_32 => ?_)
      · skip
        refine lv_aload_n hx hb d_X_stop_38 rfl (lv_at hl 0 rfl) ?_
        refine va_get (D := (dC, dI)) (ci := 5) (v := .ref k1) (C := R_X) (T := F_X) (N := 6) hx hb hB inC_X hown hK hP 0 rfl rfl 0 (by decide) (hB _ kb_118) (fun _ h9 => h9) rfl d_X_stop_39 ?_
        refine lv_lload_n hx hb d_X_stop_42 rfl (lv_at hl 2 rfl) ?_
        refine kc_v (va_runV (As := [.long p1]) (rest := []) ⟨hx, hb, hml, hown, hts⟩ (c_Ck_tell l dC dI k1 H.size told p1 ) (cwV 1 hts (ginV kb_156 kb_157 kb_158 kb_115 kb_155) rfl rfl rfl (by decide +kernel) ⟨Nat.le_of_ble_eq_true rfl, Nat.le_of_ble_eq_true rfl⟩) (preV (ci := 0) (wc := [(k1, .inr (0, [.long told]))]) hK hN hP hD [1] rfl rfl (by decide) [] rfl rfl rfl) rfl rfl hl.1 rfl (lv_room (Nat.le_of_ble_eq_true rfl)) d_X_stop_43 ⟨Nat.le_of_ble_eq_true rfl, Nat.le_of_ble_eq_true rfl⟩) hP hD hS hA [1] [0, 2] (wr := [(h0, .inr (5, [.ref k1, .ref k2, .ref k3, .ref k4, .ref k5, .int pl])), (k3, .inr (2, [.int ph, .int di, .long lm, .long cu, .long la, .long en]))]) rfl rfl (by decide) (by decide) (fun u_43 H locs hw_43 hP hD hK1 hS => ?_)
        obtain ⟨told2_43, rfl⟩ : ∃ z, z = u_43 := ⟨_, rfl⟩
        have hw_43 : told2_43 = p1 := hw_43
        have hP : va_P (dC, dI) classes [(h0, .inr (5, [.ref k1, .ref k2, .ref k3, .ref k4, .ref k5, .int pl])), (k3, .inr (2, [.int ph, .int di, .long lm, .long cu, .long la, .long en])), (k1, .inr (0, [.long told2_43]))] H := hP
        have hD : va_D A [(h0, .inr (5, [.ref k1, .ref k2, .ref k3, .ref k4, .ref k5, .int pl])), (k3, .inr (2, [.int ph, .int di, .long lm, .long cu, .long la, .long en])), (k1, .inr (0, [.long told2_43]))] := hD
        refine lv_iload_n hx hb d_X_stop_46 rfl (lv_at hl 1 rfl) ?_
        refine lv_iconst (v := 1) hx hb d_X_stop_47 (by decide) ?_
        refine lv_icmp_ne (tgt := 61) hx hb d_X_stop_48 (by decide) (fun c_48 => ?_) (fun c_48 => ?_)
        · skip
          refine lv_aload_n hx hb d_X_stop_61 rfl (lv_at hl 0 rfl) ?_
          refine va_get (D := (dC, dI)) (ci := 5) (v := .ref k3) (C := R_X) (T := F_X) (N := 6) hx hb hB inC_X hown hK hP 0 rfl rfl 2 (by decide) (hB _ kb_128) (fun _ h9 => h9) rfl d_X_stop_62 ?_
          refine kc_i (va_runV (As := []) (rest := []) ⟨hx, hb, hml, hown, hts⟩ (c_Ta_runDown l dC dI k3 H.size ph di lm cu la en  ) (cwV 0 hts (ginV kb_198 kb_199 kb_200 kb_47 kb_197) rfl rfl rfl (by decide +kernel) ⟨Nat.le_of_ble_eq_true rfl, Nat.le_of_ble_eq_true rfl⟩) (preV (ci := 2) (wc := [(k3, .inr (2, [.int ph, .int di, .long lm, .long cu, .long la, .long en]))]) hK hN hP hD [1] rfl rfl (by decide) [] rfl rfl rfl) rfl rfl hl.1 rfl (lv_room (Nat.le_of_ble_eq_true rfl)) d_X_stop_65 ⟨Nat.le_of_ble_eq_true rfl, Nat.le_of_ble_eq_true rfl⟩) hP hD hS hA [1] [0, 2] (wr := [(h0, .inr (5, [.ref k1, .ref k2, .ref k3, .ref k4, .ref k5, .int pl])), (k1, .inr (0, [.long told2_43]))]) rfl rfl (by decide) (by decide) (fun r_65 u_65 H locs hw_65 hP hD hK1 hS => ?_)
          obtain ⟨ph2_65, rfl⟩ : ∃ z, z = u_65 := ⟨_, rfl⟩
          have hw_65 : True := hw_65
          have hP : va_P (dC, dI) classes [(h0, .inr (5, [.ref k1, .ref k2, .ref k3, .ref k4, .ref k5, .int pl])), (k1, .inr (0, [.long told2_43])), (k3, .inr (2, [.int ph2_65, .int di, .long lm, .long cu, .long la, .long en]))] H := hP
          have hD : va_D A [(h0, .inr (5, [.ref k1, .ref k2, .ref k3, .ref k4, .ref k5, .int pl])), (k1, .inr (0, [.long told2_43])), (k3, .inr (2, [.int ph2_65, .int di, .long lm, .long cu, .long la, .long en]))] := hD
          have hP9 := hP.sub (ws' := [(h0, .inr (5, [.ref k1, .ref k2, .ref k3, .ref k4, .ref k5, .int pl])), (k1, .inr (0, [.long told2_43])), (k3, .inr (2, [.int ph2_65, .int di, .long lm, .long cu, .long la, .long en]))]) [0, 1, 2] rfl
          have hD9 := hD.sub (ws' := [(h0, .inr (5, [.ref k1, .ref k2, .ref k3, .ref k4, .ref k5, .int pl])), (k1, .inr (0, [.long told2_43])), (k3, .inr (2, [.int ph2_65, .int di, .long lm, .long cu, .long la, .long en]))]) [0, 1, 2] (by decide) rfl
          have hK9 := hK.sub (tys' := []) [] rfl
          exact W.iret (v := r_65) hx hb hr (fun t ht hW => ⟨⟨r_65, (told2_43, ph2_65), rfl, trivial, by rw [ht]; exact hP9, va_K.moved hW.alike hK9, hD9⟩, hS.F ht⟩) hS.2.2 d_X_stop_68
        · skip
          refine lv_aload_n hx hb d_X_stop_51 rfl (lv_at hl 0 rfl) ?_
          refine va_get (D := (dC, dI)) (ci := 5) (v := .ref k3) (C := R_X) (T := F_X) (N := 6) hx hb hB inC_X hown hK hP 0 rfl rfl 2 (by decide) (hB _ kb_128) (fun _ h9 => h9) rfl d_X_stop_52 ?_
          refine kc_i (va_runV (As := []) (rest := []) ⟨hx, hb, hml, hown, hts⟩ (c_Ta_breakOff l dC dI k3 H.size ph di lm cu la en  ) (cwV 0 hts (ginV kb_202 kb_203 kb_204 kb_47 kb_201) rfl rfl rfl (by decide +kernel) ⟨Nat.le_of_ble_eq_true rfl, Nat.le_of_ble_eq_true rfl⟩) (preV (ci := 2) (wc := [(k3, .inr (2, [.int ph, .int di, .long lm, .long cu, .long la, .long en]))]) hK hN hP hD [1] rfl rfl (by decide) [] rfl rfl rfl) rfl rfl hl.1 rfl (lv_room (Nat.le_of_ble_eq_true rfl)) d_X_stop_55 ⟨Nat.le_of_ble_eq_true rfl, Nat.le_of_ble_eq_true rfl⟩) hP hD hS hA [1] [0, 2] (wr := [(h0, .inr (5, [.ref k1, .ref k2, .ref k3, .ref k4, .ref k5, .int pl])), (k1, .inr (0, [.long told2_43]))]) rfl rfl (by decide) (by decide) (fun r_55 u_55 H locs hw_55 hP hD hK1 hS => ?_)
          obtain ⟨ph2_55, rfl⟩ : ∃ z, z = u_55 := ⟨_, rfl⟩
          have hw_55 : True := hw_55
          have hP : va_P (dC, dI) classes [(h0, .inr (5, [.ref k1, .ref k2, .ref k3, .ref k4, .ref k5, .int pl])), (k1, .inr (0, [.long told2_43])), (k3, .inr (2, [.int ph2_55, .int di, .long lm, .long cu, .long la, .long en]))] H := hP
          have hD : va_D A [(h0, .inr (5, [.ref k1, .ref k2, .ref k3, .ref k4, .ref k5, .int pl])), (k1, .inr (0, [.long told2_43])), (k3, .inr (2, [.int ph2_55, .int di, .long lm, .long cu, .long la, .long en]))] := hD
          refine lv_goto (tgt := 68) hx hb d_X_stop_58 (by decide) ?_
          have hP9 := hP.sub (ws' := [(h0, .inr (5, [.ref k1, .ref k2, .ref k3, .ref k4, .ref k5, .int pl])), (k1, .inr (0, [.long told2_43])), (k3, .inr (2, [.int ph2_55, .int di, .long lm, .long cu, .long la, .long en]))]) [0, 1, 2] rfl
          have hD9 := hD.sub (ws' := [(h0, .inr (5, [.ref k1, .ref k2, .ref k3, .ref k4, .ref k5, .int pl])), (k1, .inr (0, [.long told2_43])), (k3, .inr (2, [.int ph2_55, .int di, .long lm, .long cu, .long la, .long en]))]) [0, 1, 2] (by decide) rfl
          have hK9 := hK.sub (tys' := []) [] rfl
          exact W.iret (v := r_55) hx hb hr (fun t ht hW => ⟨⟨r_55, (told2_43, ph2_55), rfl, trivial, by rw [ht]; exact hP9, va_K.moved hW.alike hK9, hD9⟩, hS.F ht⟩) hS.2.2 d_X_stop_68
      · skip
        refine lv_bipush (v := (-3)) hx hb d_X_stop_35 (by decide) ?_
        have hP9 := hP.sub (ws' := [(h0, .inr (5, [.ref k1, .ref k2, .ref k3, .ref k4, .ref k5, .int pl])), (k1, .inr (0, [.long told])), (k3, .inr (2, [.int ph, .int di, .long lm, .long cu, .long la, .long en]))]) [0, 1, 2] rfl
        have hD9 := hD.sub (ws' := [(h0, .inr (5, [.ref k1, .ref k2, .ref k3, .ref k4, .ref k5, .int pl])), (k1, .inr (0, [.long told])), (k3, .inr (2, [.int ph, .int di, .long lm, .long cu, .long la, .long en]))]) [0, 1, 2] (by decide) rfl
        have hK9 := hK.sub (tys' := []) [] rfl
        exact W.iret (v := (-3)) hx hb hr (fun t ht hW => ⟨⟨(-3), (told, ph), rfl, trivial, by rw [ht]; exact hP9, va_K.moved hW.alike hK9, hD9⟩, hS.F ht⟩) hS.2.2 d_X_stop_37
    · have c_19 := bi_n (hw_16.symm.trans c_19)
      refine lv_bipush (v := (-2)) hx hb d_X_stop_22 (by decide) ?_
      have hP9 := hP.sub (ws' := [(h0, .inr (5, [.ref k1, .ref k2, .ref k3, .ref k4, .ref k5, .int pl])), (k1, .inr (0, [.long told])), (k3, .inr (2, [.int ph, .int di, .long lm, .long cu, .long la, .long en]))]) [0, 2, 1] rfl
      have hD9 := hD.sub (ws' := [(h0, .inr (5, [.ref k1, .ref k2, .ref k3, .ref k4, .ref k5, .int pl])), (k1, .inr (0, [.long told])), (k3, .inr (2, [.int ph, .int di, .long lm, .long cu, .long la, .long en]))]) [0, 2, 1] (by decide) rfl
      have hK9 := hK.sub (tys' := []) [] rfl
      exact W.iret (v := (-2)) hx hb hr (fun t ht hW => ⟨⟨(-2), (told, ph), rfl, trivial, by rw [ht]; exact hP9, va_K.moved hW.alike hK9, hD9⟩, hS.F ht⟩) hS.2.2 d_X_stop_24
  · skip
    refine lv_iload_n hx hb d_X_stop_4 rfl (lv_at hl 1 rfl) ?_
    refine lv_iconst (v := 1) hx hb d_X_stop_5 (by decide) ?_
    refine lv_icmp_eq (tgt := 11) hx hb d_X_stop_6 (by decide) (fun c_6 => ?_) (fun c_6 => ?_)
    · skip
      refine lv_aload_n hx hb d_X_stop_11 rfl (lv_at hl 0 rfl) ?_
      refine va_get (D := (dC, dI)) (ci := 5) (v := .ref k1) (C := R_X) (T := F_X) (N := 6) hx hb hB inC_X hown hK hP 0 rfl rfl 0 (by decide) (hB _ kb_118) (fun _ h9 => h9) rfl d_X_stop_12 ?_
      refine lv_lload_n hx hb d_X_stop_15 rfl (lv_at hl 2 rfl) ?_
      refine kc_i (va_runV (As := [.long p1]) (rest := []) ⟨hx, hb, hml, hown, hts⟩ (c_Ck_canTell l dC dI k1 s.heap.size told p1 ) (cwV 1 hts (ginV kb_152 kb_153 kb_154 kb_115 kb_151) rfl rfl rfl (by decide +kernel) ⟨Nat.le_of_ble_eq_true rfl, Nat.le_of_ble_eq_true rfl⟩) (preV (ci := 0) (wc := [(k1, .inr (0, [.long told]))]) hK hN hP hD [1] rfl rfl (by decide) [] rfl rfl rfl) rfl rfl hl.1 rfl (lv_room (Nat.le_of_ble_eq_true rfl)) d_X_stop_16 ⟨Nat.le_of_ble_eq_true rfl, Nat.le_of_ble_eq_true rfl⟩) hP hD hS hA [1] [0, 2] (wr := [(h0, .inr (5, [.ref k1, .ref k2, .ref k3, .ref k4, .ref k5, .int pl])), (k3, .inr (2, [.int ph, .int di, .long lm, .long cu, .long la, .long en]))]) rfl rfl (by decide) (by decide) (fun r_16 u_16 H locs hw_16 hP hD hK1 hS => ?_)
      have hw_16 : r_16 = bi (told ≤ p1 ∧ p1 ≤ 1125899906842624) := hw_16
      have hP : va_P (dC, dI) classes [(h0, .inr (5, [.ref k1, .ref k2, .ref k3, .ref k4, .ref k5, .int pl])), (k3, .inr (2, [.int ph, .int di, .long lm, .long cu, .long la, .long en])), (k1, .inr (0, [.long told]))] H := hP
      have hD : va_D A [(h0, .inr (5, [.ref k1, .ref k2, .ref k3, .ref k4, .ref k5, .int pl])), (k3, .inr (2, [.int ph, .int di, .long lm, .long cu, .long la, .long en])), (k1, .inr (0, [.long told]))] := hD
      refine lv_if_ne (tgt := 25) hx hb d_X_stop_19 (by decide) (fun c_19 => ?_) (fun c_19 => ?_)
      · have c_19 := bi_y hw_16 c_19
        refine lv_aload_n hx hb d_X_stop_25 rfl (lv_at hl 0 rfl) ?_
        refine va_get (D := (dC, dI)) (ci := 5) (v := .ref k3) (C := R_X) (T := F_X) (N := 6) hx hb hB inC_X hown hK hP 0 rfl rfl 2 (by decide) (hB _ kb_128) (fun _ h9 => h9) rfl d_X_stop_26 ?_
        refine kc_i (va_runV (As := []) (rest := []) ⟨hx, hb, hml, hown, hts⟩ (c_Ta_isCharging l dC dI k3 H.size ph di lm cu la en  ) (cwV 0 hts (ginV kb_196 kb_65 kb_66 kb_47 kb_63) rfl rfl rfl (by decide +kernel) ⟨Nat.le_of_ble_eq_true rfl, Nat.le_of_ble_eq_true rfl⟩) (preV (ci := 2) (wc := [(k3, .inr (2, [.int ph, .int di, .long lm, .long cu, .long la, .long en]))]) hK hN hP hD [1] rfl rfl (by decide) [] rfl rfl rfl) rfl rfl hl.1 rfl (lv_room (Nat.le_of_ble_eq_true rfl)) d_X_stop_29 ⟨Nat.le_of_ble_eq_true rfl, Nat.le_of_ble_eq_true rfl⟩) hP hD hS hA [1] [0, 2] (wr := [(h0, .inr (5, [.ref k1, .ref k2, .ref k3, .ref k4, .ref k5, .int pl])), (k1, .inr (0, [.long told]))]) rfl rfl (by decide) (by decide) (fun r_29 u_29 H locs hw_29 hP hD hK1 hS => ?_)
        have hw_29 : True := hw_29
        have hP : va_P (dC, dI) classes [(h0, .inr (5, [.ref k1, .ref k2, .ref k3, .ref k4, .ref k5, .int pl])), (k1, .inr (0, [.long told])), (k3, .inr (2, [.int ph, .int di, .long lm, .long cu, .long la, .long en]))] H := hP
        have hD : va_D A [(h0, .inr (5, [.ref k1, .ref k2, .ref k3, .ref k4, .ref k5, .int pl])), (k1, .inr (0, [.long told])), (k3, .inr (2, [.int ph, .int di, .long lm, .long cu, .long la, .long en]))] := hD
        refine lv_if_ne (tgt := 38) hx hb d_X_stop_32 (by decide) (fun c_32 => ?_) (fun c_32 => ?_)
        · skip
          refine lv_aload_n hx hb d_X_stop_38 rfl (lv_at hl 0 rfl) ?_
          refine va_get (D := (dC, dI)) (ci := 5) (v := .ref k1) (C := R_X) (T := F_X) (N := 6) hx hb hB inC_X hown hK hP 0 rfl rfl 0 (by decide) (hB _ kb_118) (fun _ h9 => h9) rfl d_X_stop_39 ?_
          refine lv_lload_n hx hb d_X_stop_42 rfl (lv_at hl 2 rfl) ?_
          refine kc_v (va_runV (As := [.long p1]) (rest := []) ⟨hx, hb, hml, hown, hts⟩ (c_Ck_tell l dC dI k1 H.size told p1 ) (cwV 1 hts (ginV kb_156 kb_157 kb_158 kb_115 kb_155) rfl rfl rfl (by decide +kernel) ⟨Nat.le_of_ble_eq_true rfl, Nat.le_of_ble_eq_true rfl⟩) (preV (ci := 0) (wc := [(k1, .inr (0, [.long told]))]) hK hN hP hD [1] rfl rfl (by decide) [] rfl rfl rfl) rfl rfl hl.1 rfl (lv_room (Nat.le_of_ble_eq_true rfl)) d_X_stop_43 ⟨Nat.le_of_ble_eq_true rfl, Nat.le_of_ble_eq_true rfl⟩) hP hD hS hA [1] [0, 2] (wr := [(h0, .inr (5, [.ref k1, .ref k2, .ref k3, .ref k4, .ref k5, .int pl])), (k3, .inr (2, [.int ph, .int di, .long lm, .long cu, .long la, .long en]))]) rfl rfl (by decide) (by decide) (fun u_43 H locs hw_43 hP hD hK1 hS => ?_)
          obtain ⟨told2_43, rfl⟩ : ∃ z, z = u_43 := ⟨_, rfl⟩
          have hw_43 : told2_43 = p1 := hw_43
          have hP : va_P (dC, dI) classes [(h0, .inr (5, [.ref k1, .ref k2, .ref k3, .ref k4, .ref k5, .int pl])), (k3, .inr (2, [.int ph, .int di, .long lm, .long cu, .long la, .long en])), (k1, .inr (0, [.long told2_43]))] H := hP
          have hD : va_D A [(h0, .inr (5, [.ref k1, .ref k2, .ref k3, .ref k4, .ref k5, .int pl])), (k3, .inr (2, [.int ph, .int di, .long lm, .long cu, .long la, .long en])), (k1, .inr (0, [.long told2_43]))] := hD
          refine lv_iload_n hx hb d_X_stop_46 rfl (lv_at hl 1 rfl) ?_
          refine lv_iconst (v := 1) hx hb d_X_stop_47 (by decide) ?_
          refine lv_icmp_ne (tgt := 61) hx hb d_X_stop_48 (by decide) (fun c_48 => ?_) (fun c_48 => ?_)
          · skip
            refine lv_aload_n hx hb d_X_stop_61 rfl (lv_at hl 0 rfl) ?_
            refine va_get (D := (dC, dI)) (ci := 5) (v := .ref k3) (C := R_X) (T := F_X) (N := 6) hx hb hB inC_X hown hK hP 0 rfl rfl 2 (by decide) (hB _ kb_128) (fun _ h9 => h9) rfl d_X_stop_62 ?_
            refine kc_i (va_runV (As := []) (rest := []) ⟨hx, hb, hml, hown, hts⟩ (c_Ta_runDown l dC dI k3 H.size ph di lm cu la en  ) (cwV 0 hts (ginV kb_198 kb_199 kb_200 kb_47 kb_197) rfl rfl rfl (by decide +kernel) ⟨Nat.le_of_ble_eq_true rfl, Nat.le_of_ble_eq_true rfl⟩) (preV (ci := 2) (wc := [(k3, .inr (2, [.int ph, .int di, .long lm, .long cu, .long la, .long en]))]) hK hN hP hD [1] rfl rfl (by decide) [] rfl rfl rfl) rfl rfl hl.1 rfl (lv_room (Nat.le_of_ble_eq_true rfl)) d_X_stop_65 ⟨Nat.le_of_ble_eq_true rfl, Nat.le_of_ble_eq_true rfl⟩) hP hD hS hA [1] [0, 2] (wr := [(h0, .inr (5, [.ref k1, .ref k2, .ref k3, .ref k4, .ref k5, .int pl])), (k1, .inr (0, [.long told2_43]))]) rfl rfl (by decide) (by decide) (fun r_65 u_65 H locs hw_65 hP hD hK1 hS => ?_)
            obtain ⟨ph2_65, rfl⟩ : ∃ z, z = u_65 := ⟨_, rfl⟩
            have hw_65 : True := hw_65
            have hP : va_P (dC, dI) classes [(h0, .inr (5, [.ref k1, .ref k2, .ref k3, .ref k4, .ref k5, .int pl])), (k1, .inr (0, [.long told2_43])), (k3, .inr (2, [.int ph2_65, .int di, .long lm, .long cu, .long la, .long en]))] H := hP
            have hD : va_D A [(h0, .inr (5, [.ref k1, .ref k2, .ref k3, .ref k4, .ref k5, .int pl])), (k1, .inr (0, [.long told2_43])), (k3, .inr (2, [.int ph2_65, .int di, .long lm, .long cu, .long la, .long en]))] := hD
            have hP9 := hP.sub (ws' := [(h0, .inr (5, [.ref k1, .ref k2, .ref k3, .ref k4, .ref k5, .int pl])), (k1, .inr (0, [.long told2_43])), (k3, .inr (2, [.int ph2_65, .int di, .long lm, .long cu, .long la, .long en]))]) [0, 1, 2] rfl
            have hD9 := hD.sub (ws' := [(h0, .inr (5, [.ref k1, .ref k2, .ref k3, .ref k4, .ref k5, .int pl])), (k1, .inr (0, [.long told2_43])), (k3, .inr (2, [.int ph2_65, .int di, .long lm, .long cu, .long la, .long en]))]) [0, 1, 2] (by decide) rfl
            have hK9 := hK.sub (tys' := []) [] rfl
            exact W.iret (v := r_65) hx hb hr (fun t ht hW => ⟨⟨r_65, (told2_43, ph2_65), rfl, trivial, by rw [ht]; exact hP9, va_K.moved hW.alike hK9, hD9⟩, hS.F ht⟩) hS.2.2 d_X_stop_68
          · skip
            refine lv_aload_n hx hb d_X_stop_51 rfl (lv_at hl 0 rfl) ?_
            refine va_get (D := (dC, dI)) (ci := 5) (v := .ref k3) (C := R_X) (T := F_X) (N := 6) hx hb hB inC_X hown hK hP 0 rfl rfl 2 (by decide) (hB _ kb_128) (fun _ h9 => h9) rfl d_X_stop_52 ?_
            refine kc_i (va_runV (As := []) (rest := []) ⟨hx, hb, hml, hown, hts⟩ (c_Ta_breakOff l dC dI k3 H.size ph di lm cu la en  ) (cwV 0 hts (ginV kb_202 kb_203 kb_204 kb_47 kb_201) rfl rfl rfl (by decide +kernel) ⟨Nat.le_of_ble_eq_true rfl, Nat.le_of_ble_eq_true rfl⟩) (preV (ci := 2) (wc := [(k3, .inr (2, [.int ph, .int di, .long lm, .long cu, .long la, .long en]))]) hK hN hP hD [1] rfl rfl (by decide) [] rfl rfl rfl) rfl rfl hl.1 rfl (lv_room (Nat.le_of_ble_eq_true rfl)) d_X_stop_55 ⟨Nat.le_of_ble_eq_true rfl, Nat.le_of_ble_eq_true rfl⟩) hP hD hS hA [1] [0, 2] (wr := [(h0, .inr (5, [.ref k1, .ref k2, .ref k3, .ref k4, .ref k5, .int pl])), (k1, .inr (0, [.long told2_43]))]) rfl rfl (by decide) (by decide) (fun r_55 u_55 H locs hw_55 hP hD hK1 hS => ?_)
            obtain ⟨ph2_55, rfl⟩ : ∃ z, z = u_55 := ⟨_, rfl⟩
            have hw_55 : True := hw_55
            have hP : va_P (dC, dI) classes [(h0, .inr (5, [.ref k1, .ref k2, .ref k3, .ref k4, .ref k5, .int pl])), (k1, .inr (0, [.long told2_43])), (k3, .inr (2, [.int ph2_55, .int di, .long lm, .long cu, .long la, .long en]))] H := hP
            have hD : va_D A [(h0, .inr (5, [.ref k1, .ref k2, .ref k3, .ref k4, .ref k5, .int pl])), (k1, .inr (0, [.long told2_43])), (k3, .inr (2, [.int ph2_55, .int di, .long lm, .long cu, .long la, .long en]))] := hD
            refine lv_goto (tgt := 68) hx hb d_X_stop_58 (by decide) ?_
            have hP9 := hP.sub (ws' := [(h0, .inr (5, [.ref k1, .ref k2, .ref k3, .ref k4, .ref k5, .int pl])), (k1, .inr (0, [.long told2_43])), (k3, .inr (2, [.int ph2_55, .int di, .long lm, .long cu, .long la, .long en]))]) [0, 1, 2] rfl
            have hD9 := hD.sub (ws' := [(h0, .inr (5, [.ref k1, .ref k2, .ref k3, .ref k4, .ref k5, .int pl])), (k1, .inr (0, [.long told2_43])), (k3, .inr (2, [.int ph2_55, .int di, .long lm, .long cu, .long la, .long en]))]) [0, 1, 2] (by decide) rfl
            have hK9 := hK.sub (tys' := []) [] rfl
            exact W.iret (v := r_55) hx hb hr (fun t ht hW => ⟨⟨r_55, (told2_43, ph2_55), rfl, trivial, by rw [ht]; exact hP9, va_K.moved hW.alike hK9, hD9⟩, hS.F ht⟩) hS.2.2 d_X_stop_68
        · skip
          refine lv_bipush (v := (-3)) hx hb d_X_stop_35 (by decide) ?_
          have hP9 := hP.sub (ws' := [(h0, .inr (5, [.ref k1, .ref k2, .ref k3, .ref k4, .ref k5, .int pl])), (k1, .inr (0, [.long told])), (k3, .inr (2, [.int ph, .int di, .long lm, .long cu, .long la, .long en]))]) [0, 1, 2] rfl
          have hD9 := hD.sub (ws' := [(h0, .inr (5, [.ref k1, .ref k2, .ref k3, .ref k4, .ref k5, .int pl])), (k1, .inr (0, [.long told])), (k3, .inr (2, [.int ph, .int di, .long lm, .long cu, .long la, .long en]))]) [0, 1, 2] (by decide) rfl
          have hK9 := hK.sub (tys' := []) [] rfl
          exact W.iret (v := (-3)) hx hb hr (fun t ht hW => ⟨⟨(-3), (told, ph), rfl, trivial, by rw [ht]; exact hP9, va_K.moved hW.alike hK9, hD9⟩, hS.F ht⟩) hS.2.2 d_X_stop_37
      · have c_19 := bi_n (hw_16.symm.trans c_19)
        refine lv_bipush (v := (-2)) hx hb d_X_stop_22 (by decide) ?_
        have hP9 := hP.sub (ws' := [(h0, .inr (5, [.ref k1, .ref k2, .ref k3, .ref k4, .ref k5, .int pl])), (k1, .inr (0, [.long told])), (k3, .inr (2, [.int ph, .int di, .long lm, .long cu, .long la, .long en]))]) [0, 2, 1] rfl
        have hD9 := hD.sub (ws' := [(h0, .inr (5, [.ref k1, .ref k2, .ref k3, .ref k4, .ref k5, .int pl])), (k1, .inr (0, [.long told])), (k3, .inr (2, [.int ph, .int di, .long lm, .long cu, .long la, .long en]))]) [0, 2, 1] (by decide) rfl
        have hK9 := hK.sub (tys' := []) [] rfl
        exact W.iret (v := (-2)) hx hb hr (fun t ht hW => ⟨⟨(-2), (told, ph), rfl, trivial, by rw [ht]; exact hP9, va_K.moved hW.alike hK9, hD9⟩, hS.F ht⟩) hS.2.2 d_X_stop_24
    · skip
      refine lv_iconst (v := (-1)) hx hb d_X_stop_9 (by decide) ?_
      have hP9 := hP.sub (ws' := [(h0, .inr (5, [.ref k1, .ref k2, .ref k3, .ref k4, .ref k5, .int pl])), (k1, .inr (0, [.long told])), (k3, .inr (2, [.int ph, .int di, .long lm, .long cu, .long la, .long en]))]) [0, 1, 2] rfl
      have hD9 := hD.sub (ws' := [(h0, .inr (5, [.ref k1, .ref k2, .ref k3, .ref k4, .ref k5, .int pl])), (k1, .inr (0, [.long told])), (k3, .inr (2, [.int ph, .int di, .long lm, .long cu, .long la, .long en]))]) [0, 1, 2] (by decide) rfl
      have hK9 := hK.sub (tys' := []) [] rfl
      exact W.iret (v := (-1)) hx hb hr (fun t ht hW => ⟨⟨(-1), (told, ph), rfl, trivial, by rw [ht]; exact hP9, va_K.moved hW.alike hK9, hD9⟩, hS.F ht⟩) hS.2.2 d_X_stop_10
set_option maxHeartbeats 4000000 in
set_option maxRecDepth 100000 in
theorem c_X_lost (l : Launch) (dC : Nat → ClassId) (dI : Nat → Nat → Nat) (h0 : Nat) (k1 : Nat) (k2 : Nat) (k3 : Nat) (k4 : Nat) (k5 : Nat) (sz : Nat) (pl : Int32) (told : Int64) (ph : Int32) (di : Int32) (lm : Int64) (cu : Int64) (la : Int64) (en : Int64) (p0 : Int64) : Met l y_X_lost w_X_lost ({ frames := 2, cells := 0, slots := 0, locals := 47 }) (cPre dC dI [.ref h0, .long p0] sz [] [(h0, .inr (5, [.ref k1, .ref k2, .ref k3, .ref k4, .ref k5, .int pl])), (k1, .inr (0, [.long told])), (k3, .inr (2, [.int ph, .int di, .long lm, .long cu, .long la, .long en]))]) (va_Qi (fun (r : Int32) (u : Int64 × Int32) => True) (fun (u : Int64 × Int32) (t : State) => cB dC dI (va_A [(h0, .inr (5, [.ref k1, .ref k2, .ref k3, .ref k4, .ref k5, .int pl])), (k1, .inr (0, [.long told])), (k3, .inr (2, [.int ph, .int di, .long lm, .long cu, .long la, .long en]))] sz) [] [(h0, .inr (5, [.ref k1, .ref k2, .ref k3, .ref k4, .ref k5, .int pl])), (k1, .inr (0, [.long u.1])), (k3, .inr (2, [.int u.2, .int di, .long lm, .long cu, .long la, .long en]))] t) (va_A [(h0, .inr (5, [.ref k1, .ref k2, .ref k3, .ref k4, .ref k5, .int pl])), (k1, .inr (0, [.long told])), (k3, .inr (2, [.int ph, .int di, .long lm, .long cu, .long la, .long en]))] sz)) 0 0 (va_A [(h0, .inr (5, [.ref k1, .ref k2, .ref k3, .ref k4, .ref k5, .int pl])), (k1, .inr (0, [.long told])), (k3, .inr (2, [.int ph, .int di, .long lm, .long cu, .long la, .long en]))] sz) := by
  refine Met.ofW (cc := b_X_lost) (maxL := 4) (ret := (some .int)) (by decide) rfl ?_
  intro p e s m args below meth c s₁ B hml hv
  obtain ⟨rfl, hsz, hN, hP, hK, hD0⟩ := hv
  have hx := B.exec
  have hb := B.bytes
  have hr := B.returns
  have hts := atoms_spec (ws := w_X_lost) B.pre
  have hB := big_of hts
  have hown : s.vm.findClass R_X = some m.cls := findClass_of_methodNamed B.named
  have hlocks := B.notSynchronized
  subst hsz
  have hD := hD0.self (sz := s.heap.size)
  generalize hAe : va_A [(h0, .inr (5, [.ref k1, .ref k2, .ref k3, .ref k4, .ref k5, .int pl])), (k1, .inr (0, [.long told])), (k3, .inr (2, [.int ph, .int di, .long lm, .long cu, .long la, .long en]))] s.heap.size = A at hD ⊢
  have hA : ∀ q : Nat, s.heap.size ≤ q → A q := fun q h => by rw [← hAe]; exact Or.inr h
  have hS : va_S A s.heap s.heap [] := va_S.rf
  have hP : va_P (dC, dI) classes [(h0, .inr (5, [.ref k1, .ref k2, .ref k3, .ref k4, .ref k5, .int pl])), (k1, .inr (0, [.long told])), (k3, .inr (2, [.int ph, .int di, .long lm, .long cu, .long la, .long en]))] s.heap := hP
  have hl := lv_entry ([.ref h0, .long p0]) (n := 4) (Nat.le_of_ble_eq_true rfl)
  rw [lg_entry_eq]
  generalize (lg_sl ([.ref h0, .long p0]) ++ List.replicate (4 - (lg_sl ([.ref h0, .long p0])).length) Slot.unset).toArray = ls at hl ⊢
  have hl : lv_has ls 4 [(0, .ref h0), (1, .long p0)] := hl
  refine lv_aload_n hx hb d_X_lost_0 rfl (lv_at hl 0 rfl) ?_
  refine va_get (D := (dC, dI)) (ci := 5) (v := .ref k1) (C := R_X) (T := F_X) (N := 6) hx hb hB inC_X hown hK hP 0 rfl rfl 0 (by decide) (hB _ kb_118) (fun _ h9 => h9) rfl d_X_lost_1 ?_
  refine lv_lload_n hx hb d_X_lost_4 rfl (lv_at hl 1 rfl) ?_
  refine kc_i (va_runV (As := [.long p0]) (rest := []) ⟨hx, hb, hml, hown, hts⟩ (c_Ck_canTell l dC dI k1 s.heap.size told p0 ) (cwV 1 hts (ginV kb_152 kb_153 kb_154 kb_115 kb_151) rfl rfl rfl (by decide +kernel) ⟨Nat.le_of_ble_eq_true rfl, Nat.le_of_ble_eq_true rfl⟩) (preV (ci := 0) (wc := [(k1, .inr (0, [.long told]))]) hK hN hP hD [1] rfl rfl (by decide) [] rfl rfl rfl) rfl rfl hl.1 rfl (lv_room (Nat.le_of_ble_eq_true rfl)) d_X_lost_5 ⟨Nat.le_of_ble_eq_true rfl, Nat.le_of_ble_eq_true rfl⟩) hP hD hS hA [1] [0, 2] (wr := [(h0, .inr (5, [.ref k1, .ref k2, .ref k3, .ref k4, .ref k5, .int pl])), (k3, .inr (2, [.int ph, .int di, .long lm, .long cu, .long la, .long en]))]) rfl rfl (by decide) (by decide) (fun r_5 u_5 H locs hw_5 hP hD hK1 hS => ?_)
  have hw_5 : r_5 = bi (told ≤ p0 ∧ p0 ≤ 1125899906842624) := hw_5
  have hP : va_P (dC, dI) classes [(h0, .inr (5, [.ref k1, .ref k2, .ref k3, .ref k4, .ref k5, .int pl])), (k3, .inr (2, [.int ph, .int di, .long lm, .long cu, .long la, .long en])), (k1, .inr (0, [.long told]))] H := hP
  have hD : va_D A [(h0, .inr (5, [.ref k1, .ref k2, .ref k3, .ref k4, .ref k5, .int pl])), (k3, .inr (2, [.int ph, .int di, .long lm, .long cu, .long la, .long en])), (k1, .inr (0, [.long told]))] := hD
  refine lv_if_ne (tgt := 14) hx hb d_X_lost_8 (by decide) (fun c_8 => ?_) (fun c_8 => ?_)
  · have c_8 := bi_y hw_5 c_8
    refine lv_aload_n hx hb d_X_lost_14 rfl (lv_at hl 0 rfl) ?_
    refine va_get (D := (dC, dI)) (ci := 5) (v := .ref k1) (C := R_X) (T := F_X) (N := 6) hx hb hB inC_X hown hK hP 0 rfl rfl 0 (by decide) (hB _ kb_118) (fun _ h9 => h9) rfl d_X_lost_15 ?_
    refine lv_lload_n hx hb d_X_lost_18 rfl (lv_at hl 1 rfl) ?_
    refine kc_v (va_runV (As := [.long p0]) (rest := []) ⟨hx, hb, hml, hown, hts⟩ (c_Ck_tell l dC dI k1 H.size told p0 ) (cwV 1 hts (ginV kb_156 kb_157 kb_158 kb_115 kb_155) rfl rfl rfl (by decide +kernel) ⟨Nat.le_of_ble_eq_true rfl, Nat.le_of_ble_eq_true rfl⟩) (preV (ci := 0) (wc := [(k1, .inr (0, [.long told]))]) hK hN hP hD [2] rfl rfl (by decide) [] rfl rfl rfl) rfl rfl hl.1 rfl (lv_room (Nat.le_of_ble_eq_true rfl)) d_X_lost_19 ⟨Nat.le_of_ble_eq_true rfl, Nat.le_of_ble_eq_true rfl⟩) hP hD hS hA [2] [0, 1] (wr := [(h0, .inr (5, [.ref k1, .ref k2, .ref k3, .ref k4, .ref k5, .int pl])), (k3, .inr (2, [.int ph, .int di, .long lm, .long cu, .long la, .long en]))]) rfl rfl (by decide) (by decide) (fun u_19 H locs hw_19 hP hD hK1 hS => ?_)
    obtain ⟨told2_19, rfl⟩ : ∃ z, z = u_19 := ⟨_, rfl⟩
    have hw_19 : told2_19 = p0 := hw_19
    have hP : va_P (dC, dI) classes [(h0, .inr (5, [.ref k1, .ref k2, .ref k3, .ref k4, .ref k5, .int pl])), (k3, .inr (2, [.int ph, .int di, .long lm, .long cu, .long la, .long en])), (k1, .inr (0, [.long told2_19]))] H := hP
    have hD : va_D A [(h0, .inr (5, [.ref k1, .ref k2, .ref k3, .ref k4, .ref k5, .int pl])), (k3, .inr (2, [.int ph, .int di, .long lm, .long cu, .long la, .long en])), (k1, .inr (0, [.long told2_19]))] := hD
    refine lv_aload_n hx hb d_X_lost_22 rfl (lv_at hl 0 rfl) ?_
    refine va_get (D := (dC, dI)) (ci := 5) (v := .ref k3) (C := R_X) (T := F_X) (N := 6) hx hb hB inC_X hown hK hP 0 rfl rfl 2 (by decide) (hB _ kb_128) (fun _ h9 => h9) rfl d_X_lost_23 ?_
    refine va_getN (host := "ChargeTalk") (D := (dC, dI)) (ci := 2) (v := .int ph) (C := R_Ta) (T := F_Ta) (N := 6) hx hb hB inC_Ta hown hK hP 1 rfl rfl 0 (by decide) (va_Nw.use rfl (hN _ kn_8)) (fun _ h9 => h9) rfl d_X_lost_26 ?_
    refine lv_istore_n (lv' := [(3, .int ph), (0, .ref h0), (1, .long p0)]) hx hb d_X_lost_29 rfl hl (by decide) rfl (fun ls hl => ?_)
    refine lv_aload_n hx hb d_X_lost_30 rfl (lv_at hl 1 rfl) ?_
    refine va_get (D := (dC, dI)) (ci := 5) (v := .ref k3) (C := R_X) (T := F_X) (N := 6) hx hb hB inC_X hown hK hP 0 rfl rfl 2 (by decide) (hB _ kb_128) (fun _ h9 => h9) rfl d_X_lost_31 ?_
    refine kc_v (va_runV (As := []) (rest := []) ⟨hx, hb, hml, hown, hts⟩ (c_Ta_end l dC dI k3 H.size ph di lm cu la en  ) (cwV 0 hts (ginV kb_147 kb_45 kb_46 kb_47 kb_43) rfl rfl rfl (by decide +kernel) ⟨Nat.le_of_ble_eq_true rfl, Nat.le_of_ble_eq_true rfl⟩) (preV (ci := 2) (wc := [(k3, .inr (2, [.int ph, .int di, .long lm, .long cu, .long la, .long en]))]) hK hN hP hD [1] rfl rfl (by decide) [] rfl rfl rfl) rfl rfl hl.1 rfl (lv_room (Nat.le_of_ble_eq_true rfl)) d_X_lost_34 ⟨Nat.le_of_ble_eq_true rfl, Nat.le_of_ble_eq_true rfl⟩) hP hD hS hA [1] [0, 2] (wr := [(h0, .inr (5, [.ref k1, .ref k2, .ref k3, .ref k4, .ref k5, .int pl])), (k1, .inr (0, [.long told2_19]))]) rfl rfl (by decide) (by decide) (fun u_34 H locs hw_34 hP hD hK1 hS => ?_)
    obtain ⟨ph2_34, rfl⟩ : ∃ z, z = u_34 := ⟨_, rfl⟩
    have hw_34 : True := hw_34
    have hP : va_P (dC, dI) classes [(h0, .inr (5, [.ref k1, .ref k2, .ref k3, .ref k4, .ref k5, .int pl])), (k1, .inr (0, [.long told2_19])), (k3, .inr (2, [.int ph2_34, .int di, .long lm, .long cu, .long la, .long en]))] H := hP
    have hD : va_D A [(h0, .inr (5, [.ref k1, .ref k2, .ref k3, .ref k4, .ref k5, .int pl])), (k1, .inr (0, [.long told2_19])), (k3, .inr (2, [.int ph2_34, .int di, .long lm, .long cu, .long la, .long en]))] := hD
    refine lv_iload_n hx hb d_X_lost_37 rfl (lv_at hl 0 rfl) ?_
    have hP9 := hP.sub (ws' := [(h0, .inr (5, [.ref k1, .ref k2, .ref k3, .ref k4, .ref k5, .int pl])), (k1, .inr (0, [.long told2_19])), (k3, .inr (2, [.int ph2_34, .int di, .long lm, .long cu, .long la, .long en]))]) [0, 1, 2] rfl
    have hD9 := hD.sub (ws' := [(h0, .inr (5, [.ref k1, .ref k2, .ref k3, .ref k4, .ref k5, .int pl])), (k1, .inr (0, [.long told2_19])), (k3, .inr (2, [.int ph2_34, .int di, .long lm, .long cu, .long la, .long en]))]) [0, 1, 2] (by decide) rfl
    have hK9 := hK.sub (tys' := []) [] rfl
    exact W.iret (v := ph) hx hb hr (fun t ht hW => ⟨⟨ph, (told2_19, ph2_34), rfl, trivial, by rw [ht]; exact hP9, va_K.moved hW.alike hK9, hD9⟩, hS.F ht⟩) hS.2.2 d_X_lost_38
  · have c_8 := bi_n (hw_5.symm.trans c_8)
    refine lv_bipush (v := (-2)) hx hb d_X_lost_11 (by decide) ?_
    have hP9 := hP.sub (ws' := [(h0, .inr (5, [.ref k1, .ref k2, .ref k3, .ref k4, .ref k5, .int pl])), (k1, .inr (0, [.long told])), (k3, .inr (2, [.int ph, .int di, .long lm, .long cu, .long la, .long en]))]) [0, 2, 1] rfl
    have hD9 := hD.sub (ws' := [(h0, .inr (5, [.ref k1, .ref k2, .ref k3, .ref k4, .ref k5, .int pl])), (k1, .inr (0, [.long told])), (k3, .inr (2, [.int ph, .int di, .long lm, .long cu, .long la, .long en]))]) [0, 2, 1] (by decide) rfl
    have hK9 := hK.sub (tys' := []) [] rfl
    exact W.iret (v := (-2)) hx hb hr (fun t ht hW => ⟨⟨(-2), (told, ph), rfl, trivial, by rw [ht]; exact hP9, va_K.moved hW.alike hK9, hD9⟩, hS.F ht⟩) hS.2.2 d_X_lost_13
set_option maxHeartbeats 4000000 in
set_option maxRecDepth 100000 in
theorem c_X_state (l : Launch) (dC : Nat → ClassId) (dI : Nat → Nat → Nat) (h0 : Nat) (k1 : Nat) (k2 : Nat) (k3 : Nat) (k4 : Nat) (k5 : Nat) (sz : Nat) (pl : Int32) (ph : Int32) (di : Int32) (lm : Int64) (cu : Int64) (la : Int64) (en : Int64) : Met l y_X_state w_X_state ({ frames := 0, cells := 0, slots := 0, locals := 0 }) (cPre dC dI [.ref h0] sz [] [(h0, .inr (5, [.ref k1, .ref k2, .ref k3, .ref k4, .ref k5, .int pl])), (k3, .inr (2, [.int ph, .int di, .long lm, .long cu, .long la, .long en]))]) (va_Qi (fun (r : Int32) (u : Unit) => True) (fun (u : Unit) (t : State) => cB dC dI (va_A [(h0, .inr (5, [.ref k1, .ref k2, .ref k3, .ref k4, .ref k5, .int pl])), (k3, .inr (2, [.int ph, .int di, .long lm, .long cu, .long la, .long en]))] sz) [] [(h0, .inr (5, [.ref k1, .ref k2, .ref k3, .ref k4, .ref k5, .int pl])), (k3, .inr (2, [.int ph, .int di, .long lm, .long cu, .long la, .long en]))] t) (va_A [(h0, .inr (5, [.ref k1, .ref k2, .ref k3, .ref k4, .ref k5, .int pl])), (k3, .inr (2, [.int ph, .int di, .long lm, .long cu, .long la, .long en]))] sz)) 0 0 (va_A [(h0, .inr (5, [.ref k1, .ref k2, .ref k3, .ref k4, .ref k5, .int pl])), (k3, .inr (2, [.int ph, .int di, .long lm, .long cu, .long la, .long en]))] sz) := by
  refine Met.ofW (cc := b_X_state) (maxL := 1) (ret := (some .int)) (by decide) rfl ?_
  intro p e s m args below meth c s₁ B hml hv
  obtain ⟨rfl, hsz, hN, hP, hK, hD0⟩ := hv
  have hx := B.exec
  have hb := B.bytes
  have hr := B.returns
  have hts := atoms_spec (ws := w_X_state) B.pre
  have hB := big_of hts
  have hown : s.vm.findClass R_X = some m.cls := findClass_of_methodNamed B.named
  have hlocks := B.notSynchronized
  subst hsz
  have hD := hD0.self (sz := s.heap.size)
  generalize hAe : va_A [(h0, .inr (5, [.ref k1, .ref k2, .ref k3, .ref k4, .ref k5, .int pl])), (k3, .inr (2, [.int ph, .int di, .long lm, .long cu, .long la, .long en]))] s.heap.size = A at hD ⊢
  have hA : ∀ q : Nat, s.heap.size ≤ q → A q := fun q h => by rw [← hAe]; exact Or.inr h
  have hS : va_S A s.heap s.heap [] := va_S.rf
  have hP : va_P (dC, dI) classes [(h0, .inr (5, [.ref k1, .ref k2, .ref k3, .ref k4, .ref k5, .int pl])), (k3, .inr (2, [.int ph, .int di, .long lm, .long cu, .long la, .long en]))] s.heap := hP
  have hl := lv_entry ([.ref h0]) (n := 1) (Nat.le_of_ble_eq_true rfl)
  rw [lg_entry_eq]
  generalize (lg_sl ([.ref h0]) ++ List.replicate (1 - (lg_sl ([.ref h0])).length) Slot.unset).toArray = ls at hl ⊢
  have hl : lv_has ls 1 [(0, .ref h0)] := hl
  refine lv_aload_n hx hb d_X_state_0 rfl (lv_at hl 0 rfl) ?_
  refine va_get (D := (dC, dI)) (ci := 5) (v := .ref k3) (C := R_X) (T := F_X) (N := 6) hx hb hB inC_X hown hK hP 0 rfl rfl 2 (by decide) (hB _ kb_128) (fun _ h9 => h9) rfl d_X_state_1 ?_
  refine va_getN (host := "ChargeTalk") (D := (dC, dI)) (ci := 2) (v := .int ph) (C := R_Ta) (T := F_Ta) (N := 6) hx hb hB inC_Ta hown hK hP 1 rfl rfl 0 (by decide) (va_Nw.use rfl (hN _ kn_8)) (fun _ h9 => h9) rfl d_X_state_4 ?_
  have hP9 := hP.sub (ws' := [(h0, .inr (5, [.ref k1, .ref k2, .ref k3, .ref k4, .ref k5, .int pl])), (k3, .inr (2, [.int ph, .int di, .long lm, .long cu, .long la, .long en]))]) [0, 1] rfl
  have hD9 := hD.sub (ws' := [(h0, .inr (5, [.ref k1, .ref k2, .ref k3, .ref k4, .ref k5, .int pl])), (k3, .inr (2, [.int ph, .int di, .long lm, .long cu, .long la, .long en]))]) [0, 1] (by decide) rfl
  have hK9 := hK.sub (tys' := []) [] rfl
  exact W.iret (v := ph) hx hb hr (fun t ht hW => ⟨⟨ph, (), rfl, trivial, by rw [ht]; exact hP9, va_K.moved hW.alike hK9, hD9⟩, hS.F ht⟩) hS.2.2 d_X_state_7
set_option maxHeartbeats 4000000 in
set_option maxRecDepth 100000 in
theorem c_X_car (l : Launch) (dC : Nat → ClassId) (dI : Nat → Nat → Nat) (h0 : Nat) (k1 : Nat) (k2 : Nat) (k3 : Nat) (k4 : Nat) (k5 : Nat) (a4 : Nat) (e4 : ClassId) (sz : Nat) (pl : Int32) (cn : Int32) (to : Int64) (f4 : Nat → Int32) (p0 : Int32) (hc0 : 0 ≤ cn) : Met l y_X_car w_X_car ({ frames := 1, cells := 0, slots := 0, locals := 25 }) (cPre dC dI [.ref h0, .int p0] sz [(e4, .int)] [(h0, .inr (5, [.ref k1, .ref k2, .ref k3, .ref k4, .ref k5, .int pl])), (k5, .inr (4, [.ref a4, .int cn, .long to])), (a4, .inl (e4, 10, .inl f4))]) (va_Qi (fun (r : Int32) (u : Int32 × Int64 × (Nat → Int32)) => (¬ (0 ≤ p0 ∧ p0 ≤ 1000) → r = -2 ∧ u.1 = cn ∧ u.2.1 = to ∧ u.2.2 = f4) ∧ (0 ≤ p0 ∧ p0 ≤ 1000 → 10 ≤ cn → r = -4 ∧ u.1 = cn ∧ u.2.1 = to ∧ u.2.2 = f4) ∧ (0 ≤ p0 ∧ p0 ≤ 1000 → ¬ 10 ≤ cn → r = cn + 1 ∧ u.1 = cn + 1 ∧ u.2.1 = to + p0.toInt64 ∧ u.2.2 = upd f4 cn.toNatClampNeg p0)) (fun (u : Int32 × Int64 × (Nat → Int32)) (t : State) => cB dC dI (va_A [(h0, .inr (5, [.ref k1, .ref k2, .ref k3, .ref k4, .ref k5, .int pl])), (k5, .inr (4, [.ref a4, .int cn, .long to])), (a4, .inl (e4, 10, .inl f4))] sz) [(e4, .int)] [(h0, .inr (5, [.ref k1, .ref k2, .ref k3, .ref k4, .ref k5, .int pl])), (k5, .inr (4, [.ref a4, .int u.1, .long u.2.1])), (a4, .inl (e4, 10, .inl (u.2.2)))] t) (va_A [(h0, .inr (5, [.ref k1, .ref k2, .ref k3, .ref k4, .ref k5, .int pl])), (k5, .inr (4, [.ref a4, .int cn, .long to])), (a4, .inl (e4, 10, .inl f4))] sz)) 0 0 (va_A [(h0, .inr (5, [.ref k1, .ref k2, .ref k3, .ref k4, .ref k5, .int pl])), (k5, .inr (4, [.ref a4, .int cn, .long to])), (a4, .inl (e4, 10, .inl f4))] sz) := by
  refine Met.ofW (cc := b_X_car) (maxL := 2) (ret := (some .int)) (by decide) rfl ?_
  intro p e s m args below meth c s₁ B hml hv
  obtain ⟨rfl, hsz, hN, hP, hK, hD0⟩ := hv
  have hx := B.exec
  have hb := B.bytes
  have hr := B.returns
  have hts := atoms_spec (ws := w_X_car) B.pre
  have hB := big_of hts
  have hown : s.vm.findClass R_X = some m.cls := findClass_of_methodNamed B.named
  have hlocks := B.notSynchronized
  subst hsz
  have hD := hD0.self (sz := s.heap.size)
  generalize hAe : va_A [(h0, .inr (5, [.ref k1, .ref k2, .ref k3, .ref k4, .ref k5, .int pl])), (k5, .inr (4, [.ref a4, .int cn, .long to])), (a4, .inl (e4, 10, .inl f4))] s.heap.size = A at hD ⊢
  have hA : ∀ q : Nat, s.heap.size ≤ q → A q := fun q h => by rw [← hAe]; exact Or.inr h
  have hS : va_S A s.heap s.heap [] := va_S.rf
  have hP : va_P (dC, dI) classes [(h0, .inr (5, [.ref k1, .ref k2, .ref k3, .ref k4, .ref k5, .int pl])), (k5, .inr (4, [.ref a4, .int cn, .long to])), (a4, .inl (e4, 10, .inl f4))] s.heap := hP
  have hl := lv_entry ([.ref h0, .int p0]) (n := 2) (Nat.le_of_ble_eq_true rfl)
  rw [lg_entry_eq]
  generalize (lg_sl ([.ref h0, .int p0]) ++ List.replicate (2 - (lg_sl ([.ref h0, .int p0])).length) Slot.unset).toArray = ls at hl ⊢
  have hl : lv_has ls 2 [(0, .ref h0), (1, .int p0)] := hl
  refine lv_iload_n hx hb d_X_car_0 rfl (lv_at hl 1 rfl) ?_
  refine lv_i2l hx hb d_X_car_1 rfl ?_
  refine lv_topl (fun x_1 ex_1 => ?_)
  refine lv_lconst (v := 0) hx hb d_X_car_2 (by decide) ?_
  refine lv_ldc2 (v := 1000) hx hb hown (hB _ kb_183) d_X_car_3 ?_
  refine kc_i (va_runS (As := [.long x_1, .long 0, .long 1000]) (rest := []) ⟨hx, hb, hml, hown, hts⟩ (c_X_isWithin l dC dI  s.heap.size  x_1 0 1000 ) (cwS 3 hts (ginS kb_150 kb_8 kb_7 kb_6) rfl rfl rfl (by decide +kernel) ⟨Nat.le_of_ble_eq_true rfl, Nat.le_of_ble_eq_true rfl⟩) (preS (wc := []) hK hN hP hD [] rfl rfl (by decide) [] rfl) rfl rfl hl.1 rfl (lv_room (Nat.le_of_ble_eq_true rfl)) d_X_car_6 ⟨Nat.le_of_ble_eq_true rfl, Nat.le_of_ble_eq_true rfl⟩) hP hD hS hA [] [0, 1, 2] (wr := [(h0, .inr (5, [.ref k1, .ref k2, .ref k3, .ref k4, .ref k5, .int pl])), (k5, .inr (4, [.ref a4, .int cn, .long to])), (a4, .inl (e4, 10, .inl f4))]) rfl rfl (by decide) (by decide) (fun r_6 u_6 H locs hw_6 hP hD hK1 hS => ?_)
  have hw_6 : r_6 = bi (0 ≤ x_1 ∧ x_1 ≤ 1000) := hw_6
  have hP : va_P (dC, dI) classes [(h0, .inr (5, [.ref k1, .ref k2, .ref k3, .ref k4, .ref k5, .int pl])), (k5, .inr (4, [.ref a4, .int cn, .long to])), (a4, .inl (e4, 10, .inl f4))] H := hP
  have hD : va_D A [(h0, .inr (5, [.ref k1, .ref k2, .ref k3, .ref k4, .ref k5, .int pl])), (k5, .inr (4, [.ref a4, .int cn, .long to])), (a4, .inl (e4, 10, .inl f4))] := hD
  refine lv_if_ne (tgt := 15) hx hb d_X_car_9 (by decide) (fun c_9 => ?_) (fun c_9 => ?_)
  · have c_9 := bi_y hw_6 c_9
    refine lv_aload_n hx hb d_X_car_15 rfl (lv_at hl 0 rfl) ?_
    refine va_get (D := (dC, dI)) (ci := 5) (v := .ref k5) (C := R_X) (T := F_X) (N := 6) hx hb hB inC_X hown hK hP 0 rfl rfl 4 (by decide) (hB _ kb_140) (fun _ h9 => h9) rfl d_X_car_16 ?_
    refine kc_i (va_runV (As := []) (rest := []) ⟨hx, hb, hml, hown, hts⟩ (c_Li_isFull l dC dI k5 a4 H.size cn to  ) (cwV 0 hts (ginV kb_206 kb_207 kb_208 kb_137 kb_205) rfl rfl rfl (by decide +kernel) ⟨Nat.le_of_ble_eq_true rfl, Nat.le_of_ble_eq_true rfl⟩) (preV (ci := 4) (wc := [(k5, .inr (4, [.ref a4, .int cn, .long to]))]) hK hN hP hD [1] rfl rfl (by decide) [] rfl rfl rfl) rfl rfl hl.1 rfl (lv_room (Nat.le_of_ble_eq_true rfl)) d_X_car_19 ⟨Nat.le_of_ble_eq_true rfl, Nat.le_of_ble_eq_true rfl⟩) hP hD hS hA [1] [0, 2] (wr := [(h0, .inr (5, [.ref k1, .ref k2, .ref k3, .ref k4, .ref k5, .int pl])), (a4, .inl (e4, 10, .inl f4))]) rfl rfl (by decide) (by decide) (fun r_19 u_19 H locs hw_19 hP hD hK1 hS => ?_)
    have hw_19 : r_19 = bi (10 ≤ cn) := hw_19
    have hP : va_P (dC, dI) classes [(h0, .inr (5, [.ref k1, .ref k2, .ref k3, .ref k4, .ref k5, .int pl])), (a4, .inl (e4, 10, .inl f4)), (k5, .inr (4, [.ref a4, .int cn, .long to]))] H := hP
    have hD : va_D A [(h0, .inr (5, [.ref k1, .ref k2, .ref k3, .ref k4, .ref k5, .int pl])), (a4, .inl (e4, 10, .inl f4)), (k5, .inr (4, [.ref a4, .int cn, .long to]))] := hD
    refine lv_if_eq (tgt := 28) hx hb d_X_car_22 (by decide) (fun c_22 => ?_) (fun c_22 => ?_)
    · have c_22 := bi_n (hw_19.symm.trans c_22)
      refine lv_aload_n hx hb d_X_car_28 rfl (lv_at hl 0 rfl) ?_
      refine va_get (D := (dC, dI)) (ci := 5) (v := .ref k5) (C := R_X) (T := F_X) (N := 6) hx hb hB inC_X hown hK hP 0 rfl rfl 4 (by decide) (hB _ kb_140) (fun _ h9 => h9) rfl d_X_car_29 ?_
      refine lv_iload_n hx hb d_X_car_32 rfl (lv_at hl 1 rfl) ?_
      refine kc_i (va_runV (As := [.int p0]) (rest := []) ⟨hx, hb, hml, hown, hts⟩ (c_Li_add l dC dI k5 a4 e4 H.size cn to f4 p0 (by assumption)) (cwV 1 hts (ginV kb_210 kb_211 kb_212 kb_137 kb_209) rfl rfl rfl (by decide +kernel) ⟨Nat.le_of_ble_eq_true rfl, Nat.le_of_ble_eq_true rfl⟩) (preV (ci := 4) (wc := [(k5, .inr (4, [.ref a4, .int cn, .long to])), (a4, .inl (e4, 10, .inl f4))]) hK hN hP hD [2, 1] rfl rfl (by decide) [0] rfl rfl rfl) rfl rfl hl.1 rfl (lv_room (Nat.le_of_ble_eq_true rfl)) d_X_car_33 ⟨Nat.le_of_ble_eq_true rfl, Nat.le_of_ble_eq_true rfl⟩) hP hD hS hA [2, 1] [0] (wr := [(h0, .inr (5, [.ref k1, .ref k2, .ref k3, .ref k4, .ref k5, .int pl]))]) rfl rfl (by decide) (by decide) (fun r_33 u_33 H locs hw_33 hP hD hK1 hS => ?_)
      obtain ⟨cn2_33, to2_33, f4b_33⟩ := u_33
      have hw_33 : (¬ 10 ≤ cn → r_33 = cn + 1 ∧ cn2_33 = cn + 1 ∧ to2_33 = to + p0.toInt64 ∧ f4b_33 = upd f4 cn.toNatClampNeg p0) ∧ (10 ≤ cn → r_33 = cn ∧ cn2_33 = cn ∧ to2_33 = to ∧ f4b_33 = f4) := hw_33
      have hP : va_P (dC, dI) classes [(h0, .inr (5, [.ref k1, .ref k2, .ref k3, .ref k4, .ref k5, .int pl])), (k5, .inr (4, [.ref a4, .int cn2_33, .long to2_33])), (a4, .inl (e4, 10, .inl f4b_33))] H := hP
      have hD : va_D A [(h0, .inr (5, [.ref k1, .ref k2, .ref k3, .ref k4, .ref k5, .int pl])), (k5, .inr (4, [.ref a4, .int cn2_33, .long to2_33])), (a4, .inl (e4, 10, .inl f4b_33))] := hD
      have hP9 := hP.sub (ws' := [(h0, .inr (5, [.ref k1, .ref k2, .ref k3, .ref k4, .ref k5, .int pl])), (k5, .inr (4, [.ref a4, .int cn2_33, .long to2_33])), (a4, .inl (e4, 10, .inl f4b_33))]) [0, 1, 2] rfl
      have hD9 := hD.sub (ws' := [(h0, .inr (5, [.ref k1, .ref k2, .ref k3, .ref k4, .ref k5, .int pl])), (k5, .inr (4, [.ref a4, .int cn2_33, .long to2_33])), (a4, .inl (e4, 10, .inl f4b_33))]) [0, 1, 2] (by decide) rfl
      have hK9 := hK.sub (tys' := [(e4, .int)]) [0] rfl
      exact W.iret (v := r_33) hx hb hr (fun t ht hW => ⟨⟨r_33, (cn2_33, to2_33, f4b_33), rfl, ⟨fun h => absurd ((i2l_w ex_1).mp c_9) h, fun _ h => absurd h c_22, fun _ _ => hw_33.1 c_22⟩, by rw [ht]; exact hP9, va_K.moved hW.alike hK9, hD9⟩, hS.F ht⟩) hS.2.2 d_X_car_36
    · have c_22 := bi_y hw_19 c_22
      refine lv_bipush (v := (-4)) hx hb d_X_car_25 (by decide) ?_
      have hP9 := hP.sub (ws' := [(h0, .inr (5, [.ref k1, .ref k2, .ref k3, .ref k4, .ref k5, .int pl])), (k5, .inr (4, [.ref a4, .int cn, .long to])), (a4, .inl (e4, 10, .inl f4))]) [0, 2, 1] rfl
      have hD9 := hD.sub (ws' := [(h0, .inr (5, [.ref k1, .ref k2, .ref k3, .ref k4, .ref k5, .int pl])), (k5, .inr (4, [.ref a4, .int cn, .long to])), (a4, .inl (e4, 10, .inl f4))]) [0, 2, 1] (by decide) rfl
      have hK9 := hK.sub (tys' := [(e4, .int)]) [0] rfl
      exact W.iret (v := (-4)) hx hb hr (fun t ht hW => ⟨⟨(-4), (cn, to, f4), rfl, ⟨fun h => absurd ((i2l_w ex_1).mp c_9) h, fun _ _ => ⟨rfl, rfl, rfl, rfl⟩, fun _ h => absurd c_22 h⟩, by rw [ht]; exact hP9, va_K.moved hW.alike hK9, hD9⟩, hS.F ht⟩) hS.2.2 d_X_car_27
  · have c_9 := bi_n (hw_6.symm.trans c_9)
    refine lv_bipush (v := (-2)) hx hb d_X_car_12 (by decide) ?_
    have hP9 := hP.sub (ws' := [(h0, .inr (5, [.ref k1, .ref k2, .ref k3, .ref k4, .ref k5, .int pl])), (k5, .inr (4, [.ref a4, .int cn, .long to])), (a4, .inl (e4, 10, .inl f4))]) [0, 1, 2] rfl
    have hD9 := hD.sub (ws' := [(h0, .inr (5, [.ref k1, .ref k2, .ref k3, .ref k4, .ref k5, .int pl])), (k5, .inr (4, [.ref a4, .int cn, .long to])), (a4, .inl (e4, 10, .inl f4))]) [0, 1, 2] (by decide) rfl
    have hK9 := hK.sub (tys' := [(e4, .int)]) [0] rfl
    exact W.iret (v := (-2)) hx hb hr (fun t ht hW => ⟨⟨(-2), (cn, to, f4), rfl, ⟨fun _ => ⟨rfl, rfl, rfl, rfl⟩, fun h => absurd ((i2l_w ex_1).mpr h) c_9, fun h => absurd ((i2l_w ex_1).mpr h) c_9⟩, by rw [ht]; exact hP9, va_K.moved hW.alike hK9, hD9⟩, hS.F ht⟩) hS.2.2 d_X_car_14
set_option maxHeartbeats 4000000 in
set_option maxRecDepth 100000 in
theorem c_X_commonFactor (l : Launch) (dC : Nat → ClassId) (dI : Nat → Nat → Nat) (sz : Nat) (p0 : Int64) (p1 : Int64) (h0 : 0 ≤ p0.toInt) (h1 : 0 ≤ p1.toInt) (h2 : p1.toInt < 16384) : Met l y_X_commonFactor w_X_commonFactor ({ frames := 0, cells := 0, slots := 0, locals := 0 }) (cPre dC dI [.long p0, .long p1] sz [] []) (va_Ql (fun (r : Int64) (u : Unit) => r.toInt = (Nat.gcd p0.toInt.toNat p1.toInt.toNat : Nat)) (fun (u : Unit) (t : State) => cB dC dI (va_A [] sz) [] [] t) (va_A [] sz)) 0 0 (va_A [] sz) := by
  refine Met.ofW (cc := b_X_commonFactor) (maxL := 11) (ret := (some .long)) (by decide) rfl ?_
  intro p e s m args below meth c s₁ B hml hv
  obtain ⟨rfl, hsz, hN, hP, hK, hD0⟩ := hv
  have hx := B.exec
  have hb := B.bytes
  have hr := B.returns
  have hts := atoms_spec (ws := w_X_commonFactor) B.pre
  have hB := big_of hts
  have hown : s.vm.findClass R_X = some m.cls := findClass_of_methodNamed B.named
  have hlocks := B.notSynchronized
  subst hsz
  have hD := hD0.self (sz := s.heap.size)
  generalize hAe : va_A [] s.heap.size = A at hD ⊢
  have hA : ∀ q : Nat, s.heap.size ≤ q → A q := fun q h => by rw [← hAe]; exact Or.inr h
  have hS : va_S A s.heap s.heap [] := va_S.rf
  have hP : va_P (dC, dI) classes [] s.heap := hP
  have hl := lv_entry ([.long p0, .long p1]) (n := 11) (Nat.le_of_ble_eq_true rfl)
  rw [lg_entry_eq]
  generalize (lg_sl ([.long p0, .long p1]) ++ List.replicate (11 - (lg_sl ([.long p0, .long p1])).length) Slot.unset).toArray = ls at hl ⊢
  have hl : lv_has ls 11 [(0, .long p0), (2, .long p1)] := hl
  have cut : ∀ n : Nat, (∀ (xx : Int64) (yy : Int64) (i : Int32) (H : Heap) (locs : List Loc) (ls : Array Slot), (0 ≤ i) → (cfI p0 p1 xx yy i) → (200 - i.toInt).toNat < n → va_P (dC, dI) classes [] H → va_D A [] → va_S A s.heap H locs → lv_has ls 11 [(0, .long p0), (2, .long p1), (4, .long xx), (6, .long yy), (8, .int i)] → W p l e (headSpec w_X_commonFactor ({ frames := 0, cells := 0, slots := 0, locals := 0 })).room s m (List.toArray [.long p0, .long p1]) below meth c H locs 0 0 (MQ below (va_Ql (fun (r : Int64) (u : Unit) => r.toInt = (Nat.gcd p0.toInt.toNat p1.toInt.toNat : Nat)) (fun (u : Unit) (t : State) => cB dC dI A [] [] t) A) (List.toArray [.long p0, .long p1]) s 0 0 A) (F0 m 9 ls [])) := by
    intro n
    induction n with
    | zero => intros; first | exact (Nat.not_lt_zero _ (by assumption)).elim | omega
    | succ n ih =>
      intro xx yy i H locs ls h_i h_c hmu hP hD hS hl
      refine lv_iload hx hb d_X_commonFactor_9 (lv_at hl 4 rfl) ?_
      refine lv_sipush (v := 200) hx hb d_X_commonFactor_11 (by decide) ?_
      refine lv_icmp_ge (tgt := 45) hx hb d_X_commonFactor_14 (by decide) (fun c_14 => ?_) (fun c_14 => ?_)
      · skip
        refine lv_lload hx hb d_X_commonFactor_45 (lv_at hl 2 rfl) ?_
        have hP9 := hP.sub (ws' := []) [] rfl
        have hD9 := hD.sub (ws' := []) [] (by decide) rfl
        have hK9 := hK.sub (tys' := []) [] rfl
        exact W.lret (v := xx) hx hb hr (fun t ht hW => ⟨⟨xx, (), rfl, cf_e h_c (Or.inl c_14), by rw [ht]; exact hP9, va_K.moved hW.alike hK9, hD9⟩, hS.F ht⟩) hS.2.2 d_X_commonFactor_47
      · skip
        refine lv_lload hx hb d_X_commonFactor_17 (lv_at hl 3 rfl) ?_
        refine lv_lconst (v := 0) hx hb d_X_commonFactor_19 (by decide) ?_
        refine W.lcmp hx hb d_X_commonFactor_20 ?_
        refine lv_if_eq (tgt := 45) hx hb d_X_commonFactor_21 (by decide) (fun c_21 => ?_) (fun c_21 => ?_)
        · have c_21 := (lg_cmp_eq _ _).mp c_21
          refine lv_lload hx hb d_X_commonFactor_45 (lv_at hl 2 rfl) ?_
          have hP9 := hP.sub (ws' := []) [] rfl
          have hD9 := hD.sub (ws' := []) [] (by decide) rfl
          have hK9 := hK.sub (tys' := []) [] rfl
          exact W.lret (v := xx) hx hb hr (fun t ht hW => ⟨⟨xx, (), rfl, cf_e h_c (Or.inr c_21), by rw [ht]; exact hP9, va_K.moved hW.alike hK9, hD9⟩, hS.F ht⟩) hS.2.2 d_X_commonFactor_47
        · have c_21 := mt (lg_cmp_eq _ _).mpr c_21
          refine lv_lload hx hb d_X_commonFactor_24 (lv_at hl 2 rfl) ?_
          refine lv_lload hx hb d_X_commonFactor_26 (lv_at hl 3 rfl) ?_
          refine lv_lrem hx hb d_X_commonFactor_28 (c_21) ?_
          refine lv_topl (fun x_28 ex_28 => ?_)
          refine lv_lstore (lv' := [(9, .long x_28), (0, .long p0), (2, .long p1), (4, .long xx), (6, .long yy), (8, .int i)]) hx hb d_X_commonFactor_29 hl (by decide) rfl (fun ls hl => ?_)
          refine lv_lload hx hb d_X_commonFactor_31 (lv_at hl 4 rfl) ?_
          refine lv_lstore (lv' := [(4, .long yy), (9, .long x_28), (0, .long p0), (2, .long p1), (6, .long yy), (8, .int i)]) hx hb d_X_commonFactor_33 hl (by decide) rfl (fun ls hl => ?_)
          refine lv_lload hx hb d_X_commonFactor_35 (lv_at hl 1 rfl) ?_
          refine lv_lstore (lv' := [(6, .long x_28), (4, .long yy), (9, .long x_28), (0, .long p0), (2, .long p1), (8, .int i)]) hx hb d_X_commonFactor_37 hl (by decide) rfl (fun ls hl => ?_)
          obtain ⟨x_39, ex_39⟩ : ∃ y : Int32, y = i + 1 := ⟨_, rfl⟩
          refine lv_iinc (v := x_39) (lv' := [(8, .int x_39), (6, .long x_28), (4, .long yy), (9, .long x_28), (0, .long p0), (2, .long p1)]) hx hb d_X_commonFactor_39 hl (k := 5) rfl (by rw [ex_39]; rfl) (by decide) rfl (fun ls hl => ?_)
          refine lv_goto (tgt := 9) hx hb d_X_commonFactor_42 (by decide) ?_
          exact ih yy x_28 x_39 _ _ _ ((ii0 200 h_i c_14 ex_39).1) (cf_s h_c h_i c_14 c_21 ex_28 ex_39) (by have h9 := (ii0 200 h_i c_14 ex_39).2; have h8 : (200 : Int32).toInt = 200 := (by decide); omega) (hP.sub [] rfl) (hD.sub [] (by decide) rfl) hS (lv_sub hl [4, 5, 2, 1, 0] rfl)
  refine lv_lload_n hx hb d_X_commonFactor_0 rfl (lv_at hl 0 rfl) ?_
  refine lv_lstore (lv' := [(4, .long p0), (0, .long p0), (2, .long p1)]) hx hb d_X_commonFactor_1 hl (by decide) rfl (fun ls hl => ?_)
  refine lv_lload_n hx hb d_X_commonFactor_3 rfl (lv_at hl 2 rfl) ?_
  refine lv_lstore (lv' := [(6, .long p1), (4, .long p0), (0, .long p0), (2, .long p1)]) hx hb d_X_commonFactor_4 hl (by decide) rfl (fun ls hl => ?_)
  refine lv_iconst (v := 0) hx hb d_X_commonFactor_6 (by decide) ?_
  refine lv_istore (lv' := [(8, .int 0), (6, .long p1), (4, .long p0), (0, .long p0), (2, .long p1)]) hx hb d_X_commonFactor_7 hl (by decide) rfl (fun ls hl => ?_)
  exact (cut 201) p0 p1 0 _ _ _ (le0) (cf_0 h0 h1 h2) (by decide) (hP.sub [] rfl) (hD.sub [] (by decide) rfl) hS (lv_sub hl [3, 4, 2, 1, 0] rfl)
