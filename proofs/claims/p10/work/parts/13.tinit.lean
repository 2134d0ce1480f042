set_option maxHeartbeats 4000000 in
set_option maxRecDepth 100000 in
theorem c_Tf_init (l : Launch) (dC : Nat → ClassId) (dI : Nat → Nat → Nat) (h0 : Nat) (sz : Nat) : Met l y_Tf_init w_Tf_init ({ frames := 1, cells := 3, slots := 3881, locals := 20 }) (cPre dC dI [.ref h0] sz [] [(h0, .inr (3, [.null, .null, .null, .int 0, .long 0]))]) (va_Qv (fun (u : Nat × Nat × Nat × ClassId × ClassId × ClassId × (Nat → Int32)) => ∀ k : Nat, k < 1440 → u.2.2.2.2.2.2 k = -1) (fun (u : Nat × Nat × Nat × ClassId × ClassId × ClassId × (Nat → Int32)) (t : State) => cB dC dI (va_A [(h0, .inr (3, [.null, .null, .null, .int 0, .long 0]))] sz) [(u.2.2.2.1, .int), (u.2.2.2.2.1, .int), (u.2.2.2.2.2.1, .long)] [(h0, .inr (3, [.ref u.1, .ref u.2.1, .ref u.2.2.1, .int 0, .long 0])), (u.1, .inl (u.2.2.2.1, 1440, .inl (u.2.2.2.2.2.2))), (u.2.1, .inl (u.2.2.2.2.1, 1440, .inl (fun _ => 0))), (u.2.2.1, .inl (u.2.2.2.2.2.1, 1001, .inr (.inl (fun _ => 0))))] t) (va_A [(h0, .inr (3, [.null, .null, .null, .int 0, .long 0]))] sz)) 3 3881 (va_A [(h0, .inr (3, [.null, .null, .null, .int 0, .long 0]))] sz) := by
  refine Met.ofW (cc := b_Tf_init) (maxL := 2) (ret := none) (by decide) rfl ?_
  intro p e s m args below meth c s₁ B hml hv
  obtain ⟨rfl, hsz, hN, hP, hK, hD0⟩ := hv
  have hx := B.exec
  have hb := B.bytes
  have hr := B.returns
  have hts := atoms_spec (ws := w_Tf_init) B.pre
  have hB := big_of hts
  have hown : s.vm.findClass R_Tf = some m.cls := findClass_of_methodNamed B.named
  have hlocks := B.notSynchronized
  have hin : meth.name = "<init>" := (name_of_methodNamed B.named B.method).1
  subst hsz
  have hD := hD0.self (sz := s.heap.size)
  generalize hAe : va_A [(h0, .inr (3, [.null, .null, .null, .int 0, .long 0]))] s.heap.size = A at hD ⊢
  have hA : ∀ q : Nat, s.heap.size ≤ q → A q := fun q h => by rw [← hAe]; exact Or.inr h
  have hS : va_S A s.heap s.heap [] := va_S.rf
  have hP : va_P (dC, dI) classes [(h0, .inr (3, [.null, .null, .null, .int 0, .long 0]))] s.heap := hP
  have hl := lv_entry ([.ref h0]) (n := 2) (Nat.le_of_ble_eq_true rfl)
  rw [lg_entry_eq]
  generalize (lg_sl ([.ref h0]) ++ List.replicate (2 - (lg_sl ([.ref h0])).length) Slot.unset).toArray = ls at hl ⊢
  have hl : lv_has ls 2 [(0, .ref h0)] := hl
  refine lv_aload_n hx hb d_Tf_init_0 rfl (lv_at hl 0 rfl) ?_
  refine W.objInit hx hb hown (hB _ kb_105) (hB _ kb_1) (hB _ kb_2) rfl (by rw [hml]; exact hl.1) rfl d_Tf_init_1 (Nat.le_of_ble_eq_true rfl) (Nat.le_of_ble_eq_true rfl) ?_
  refine W.eq (g2 := F0 m 4 ls []) rfl ?_
  refine lv_aload_n hx hb d_Tf_init_4 rfl (lv_at hl 0 rfl) ?_
  refine lv_sipush (v := 1440) hx hb d_Tf_init_5 (by decide) ?_
  refine va_newa (atype := .int) (ty := .int) (N' := 1440) (a0 := (1440, .inl (fun _ => 0))) hx hb (hB (.arrayClass .int) kb_106) rfl hK hP hD hS hA (fun _ => rfl) (by decide) (by decide) (by decide) (Nat.le_of_ble_eq_true rfl) (Nat.le_of_ble_eq_true rfl) d_Tf_init_8 (fun q_8 k_8 H hK hP hD hS => ?_)
  have hP : va_P (dC, dI) classes [(h0, .inr (3, [.null, .null, .null, .int 0, .long 0])), (q_8, .inl (k_8, 1440, .inl (fun _ => 0)))] H := hP
  have hD : va_D A [(h0, .inr (3, [.null, .null, .null, .int 0, .long 0])), (q_8, .inl (k_8, 1440, .inl (fun _ => 0)))] := hD
  have hK : va_K (dC, dI) classes [(k_8, .int)] s := hK
  refine W.widen (k := 1) (n := 1440) (Nat.le_of_ble_eq_true rfl) (Nat.le_of_ble_eq_true rfl) ?_
  refine va_putF (D := (dC, dI)) (ci := 3) (v := .ref q_8) (ty := (.array .int)) (C := R_Tf) (T := F_Tf) (N := 5) hx hb hB inC_Tf t_Tf t_Tf_ok n_Tf hown hK hP hD hS 0 rfl rfl 0 (by decide) (hB _ kb_80) (fun _ h9 => h9) rfl hin rfl (by decide +kernel) rfl rfl (Nat.le_of_ble_eq_true rfl) d_Tf_init_10 (fun H locs hP hD hS => ?_)
  have hP : va_P (dC, dI) classes [(h0, .inr (3, [.ref q_8, .null, .null, .int 0, .long 0])), (q_8, .inl (k_8, 1440, .inl (fun _ => 0)))] H := hP
  have hD : va_D A [(h0, .inr (3, [.ref q_8, .null, .null, .int 0, .long 0])), (q_8, .inl (k_8, 1440, .inl (fun _ => 0)))] := hD
  refine lv_aload_n hx hb d_Tf_init_13 rfl (lv_at hl 0 rfl) ?_
  refine lv_sipush (v := 1440) hx hb d_Tf_init_14 (by decide) ?_
  refine va_newa (atype := .int) (ty := .int) (N' := 1440) (a0 := (1440, .inl (fun _ => 0))) hx hb (hB (.arrayClass .int) kb_106) rfl hK hP hD hS hA (fun _ => rfl) (by decide) (by decide) (by decide) (Nat.le_of_ble_eq_true rfl) (Nat.le_of_ble_eq_true rfl) d_Tf_init_17 (fun q_17 k_17 H hK hP hD hS => ?_)
  have hP : va_P (dC, dI) classes [(h0, .inr (3, [.ref q_8, .null, .null, .int 0, .long 0])), (q_8, .inl (k_8, 1440, .inl (fun _ => 0))), (q_17, .inl (k_17, 1440, .inl (fun _ => 0)))] H := hP
  have hD : va_D A [(h0, .inr (3, [.ref q_8, .null, .null, .int 0, .long 0])), (q_8, .inl (k_8, 1440, .inl (fun _ => 0))), (q_17, .inl (k_17, 1440, .inl (fun _ => 0)))] := hD
  have hK : va_K (dC, dI) classes [(k_8, .int), (k_17, .int)] s := hK
  refine W.widen (k := 2) (n := 2880) (Nat.le_of_ble_eq_true rfl) (Nat.le_of_ble_eq_true rfl) ?_
  refine va_putF (D := (dC, dI)) (ci := 3) (v := .ref q_17) (ty := (.array .int)) (C := R_Tf) (T := F_Tf) (N := 5) hx hb hB inC_Tf t_Tf t_Tf_ok n_Tf hown hK hP hD hS 0 rfl rfl 1 (by decide) (hB _ kb_83) (fun _ h9 => h9) rfl hin rfl (by decide +kernel) rfl rfl (Nat.le_of_ble_eq_true rfl) d_Tf_init_19 (fun H locs hP hD hS => ?_)
  have hP : va_P (dC, dI) classes [(h0, .inr (3, [.ref q_8, .ref q_17, .null, .int 0, .long 0])), (q_8, .inl (k_8, 1440, .inl (fun _ => 0))), (q_17, .inl (k_17, 1440, .inl (fun _ => 0)))] H := hP
  have hD : va_D A [(h0, .inr (3, [.ref q_8, .ref q_17, .null, .int 0, .long 0])), (q_8, .inl (k_8, 1440, .inl (fun _ => 0))), (q_17, .inl (k_17, 1440, .inl (fun _ => 0)))] := hD
  refine lv_aload_n hx hb d_Tf_init_22 rfl (lv_at hl 0 rfl) ?_
  refine lv_sipush (v := 1001) hx hb d_Tf_init_23 (by decide) ?_
  refine va_newa (atype := .long) (ty := .long) (N' := 1001) (a0 := (1001, .inr (.inl (fun _ => 0)))) hx hb (hB (.arrayClass .long) kb_107) rfl hK hP hD hS hA (fun _ => rfl) (by decide) (by decide) (by decide) (Nat.le_of_ble_eq_true rfl) (Nat.le_of_ble_eq_true rfl) d_Tf_init_26 (fun q_26 k_26 H hK hP hD hS => ?_)
  have hP : va_P (dC, dI) classes [(h0, .inr (3, [.ref q_8, .ref q_17, .null, .int 0, .long 0])), (q_8, .inl (k_8, 1440, .inl (fun _ => 0))), (q_17, .inl (k_17, 1440, .inl (fun _ => 0))), (q_26, .inl (k_26, 1001, .inr (.inl (fun _ => 0))))] H := hP
  have hD : va_D A [(h0, .inr (3, [.ref q_8, .ref q_17, .null, .int 0, .long 0])), (q_8, .inl (k_8, 1440, .inl (fun _ => 0))), (q_17, .inl (k_17, 1440, .inl (fun _ => 0))), (q_26, .inl (k_26, 1001, .inr (.inl (fun _ => 0))))] := hD
  have hK : va_K (dC, dI) classes [(k_8, .int), (k_17, .int), (k_26, .long)] s := hK
  refine W.widen (k := 3) (n := 3881) (Nat.le_of_ble_eq_true rfl) (Nat.le_of_ble_eq_true rfl) ?_
  refine va_putF (D := (dC, dI)) (ci := 3) (v := .ref q_26) (ty := (.array .long)) (C := R_Tf) (T := F_Tf) (N := 5) hx hb hB inC_Tf t_Tf t_Tf_ok n_Tf hown hK hP hD hS 0 rfl rfl 2 (by decide) (hB _ kb_84) (fun _ h9 => h9) rfl hin rfl (by decide +kernel) rfl rfl (Nat.le_of_ble_eq_true rfl) d_Tf_init_28 (fun H locs hP hD hS => ?_)
  have hP : va_P (dC, dI) classes [(h0, .inr (3, [.ref q_8, .ref q_17, .ref q_26, .int 0, .long 0])), (q_8, .inl (k_8, 1440, .inl (fun _ => 0))), (q_17, .inl (k_17, 1440, .inl (fun _ => 0))), (q_26, .inl (k_26, 1001, .inr (.inl (fun _ => 0))))] H := hP
  have hD : va_D A [(h0, .inr (3, [.ref q_8, .ref q_17, .ref q_26, .int 0, .long 0])), (q_8, .inl (k_8, 1440, .inl (fun _ => 0))), (q_17, .inl (k_17, 1440, .inl (fun _ => 0))), (q_26, .inl (k_26, 1001, .inr (.inl (fun _ => 0))))] := hD
  refine lv_aload_n hx hb d_Tf_init_31 rfl (lv_at hl 0 rfl) ?_
  refine lv_iconst (v := 0) hx hb d_Tf_init_32 (by decide) ?_
  refine va_put (D := (dC, dI)) (ci := 3) (v := .int 0) (ty := .int) (C := R_Tf) (T := F_Tf) (N := 5) hx hb hB inC_Tf t_Tf t_Tf_ok n_Tf hown hK hP hD hS 0 rfl rfl 3 (by decide) (hB _ kb_79) (fun _ h9 => h9) rfl (by decide +kernel) rfl rfl (Nat.le_of_ble_eq_true rfl) d_Tf_init_33 (fun H locs hP hD hS => ?_)
  have hP : va_P (dC, dI) classes [(h0, .inr (3, [.ref q_8, .ref q_17, .ref q_26, .int 0, .long 0])), (q_8, .inl (k_8, 1440, .inl (fun _ => 0))), (q_17, .inl (k_17, 1440, .inl (fun _ => 0))), (q_26, .inl (k_26, 1001, .inr (.inl (fun _ => 0))))] H := hP
  have hD : va_D A [(h0, .inr (3, [.ref q_8, .ref q_17, .ref q_26, .int 0, .long 0])), (q_8, .inl (k_8, 1440, .inl (fun _ => 0))), (q_17, .inl (k_17, 1440, .inl (fun _ => 0))), (q_26, .inl (k_26, 1001, .inr (.inl (fun _ => 0))))] := hD
  refine lv_aload_n hx hb d_Tf_init_36 rfl (lv_at hl 0 rfl) ?_
  refine lv_lconst (v := 0) hx hb d_Tf_init_37 (by decide) ?_
  refine va_put (D := (dC, dI)) (ci := 3) (v := .long 0) (ty := .long) (C := R_Tf) (T := F_Tf) (N := 5) hx hb hB inC_Tf t_Tf t_Tf_ok n_Tf hown hK hP hD hS 0 rfl rfl 4 (by decide) (hB _ kb_89) (fun _ h9 => h9) rfl (by decide +kernel) rfl rfl (Nat.le_of_ble_eq_true rfl) d_Tf_init_38 (fun H locs hP hD hS => ?_)
  have hP : va_P (dC, dI) classes [(h0, .inr (3, [.ref q_8, .ref q_17, .ref q_26, .int 0, .long 0])), (q_8, .inl (k_8, 1440, .inl (fun _ => 0))), (q_17, .inl (k_17, 1440, .inl (fun _ => 0))), (q_26, .inl (k_26, 1001, .inr (.inl (fun _ => 0))))] H := hP
  have hD : va_D A [(h0, .inr (3, [.ref q_8, .ref q_17, .ref q_26, .int 0, .long 0])), (q_8, .inl (k_8, 1440, .inl (fun _ => 0))), (q_17, .inl (k_17, 1440, .inl (fun _ => 0))), (q_26, .inl (k_26, 1001, .inr (.inl (fun _ => 0))))] := hD
  refine lv_iconst (v := 0) hx hb d_Tf_init_41 (by decide) ?_
  refine lv_istore_n (lv' := [(1, .int 0), (0, .ref h0)]) hx hb d_Tf_init_42 rfl hl (by decide) rfl (fun ls hl => ?_)
  have cut : ∀ n : Nat, (∀ (i : Int32) (g : Nat → Int32) (H : Heap) (locs : List Loc) (ls : Array Slot), (0 ≤ i) → (∀ k : Nat, (k : Int) < i.toInt → g k = -1) → (1440 - i.toInt).toNat < n → va_P (dC, dI) classes [(h0, .inr (3, [.ref q_8, .ref q_17, .ref q_26, .int 0, .long 0])), (q_8, .inl (k_8, 1440, .inl g)), (q_17, .inl (k_17, 1440, .inl (fun _ => 0))), (q_26, .inl (k_26, 1001, .inr (.inl (fun _ => 0))))] H → va_D A [(h0, .inr (3, [.ref q_8, .ref q_17, .ref q_26, .int 0, .long 0])), (q_8, .inl (k_8, 1440, .inl g)), (q_17, .inl (k_17, 1440, .inl (fun _ => 0))), (q_26, .inl (k_26, 1001, .inr (.inl (fun _ => 0))))] → va_S A s.heap H locs → lv_has ls 2 [(0, .ref h0), (1, .int i)] → W p l e (headSpec w_Tf_init ({ frames := 1, cells := 3, slots := 3881, locals := 20 })).room s m (List.toArray [.ref h0]) below meth c H locs 3 3881 (MQ below (va_Qv (fun (u : Nat × Nat × Nat × ClassId × ClassId × ClassId × (Nat → Int32)) => ∀ k : Nat, k < 1440 → u.2.2.2.2.2.2 k = -1) (fun (u : Nat × Nat × Nat × ClassId × ClassId × ClassId × (Nat → Int32)) (t : State) => cB dC dI A [(u.2.2.2.1, .int), (u.2.2.2.2.1, .int), (u.2.2.2.2.2.1, .long)] [(h0, .inr (3, [.ref u.1, .ref u.2.1, .ref u.2.2.1, .int 0, .long 0])), (u.1, .inl (u.2.2.2.1, 1440, .inl (u.2.2.2.2.2.2))), (u.2.1, .inl (u.2.2.2.2.1, 1440, .inl (fun _ => 0))), (u.2.2.1, .inl (u.2.2.2.2.2.1, 1001, .inr (.inl (fun _ => 0))))] t) A) (List.toArray [.ref h0]) s 3 3881 A) (F0 m 43 ls [])) := by
    intro n
    induction n with
    | zero => intros; first | exact (Nat.not_lt_zero _ (by assumption)).elim | omega
    | succ n ih =>
      intro i g H locs ls h_i h_z hmu hP hD hS hl
      refine lv_iload_n hx hb d_Tf_init_43 rfl (lv_at hl 1 rfl) ?_
      refine lv_sipush (v := 1440) hx hb d_Tf_init_44 (by decide) ?_
      refine lv_icmp_ge (tgt := 63) hx hb d_Tf_init_47 (by decide) (fun c_47 => ?_) (fun c_47 => ?_)
      · skip
        have hP9 := hP.sub (ws' := [(h0, .inr (3, [.ref q_8, .ref q_17, .ref q_26, .int 0, .long 0])), (q_8, .inl (k_8, 1440, .inl g)), (q_17, .inl (k_17, 1440, .inl (fun _ => 0))), (q_26, .inl (k_26, 1001, .inr (.inl (fun _ => 0))))]) [0, 1, 2, 3] rfl
        have hD9 := hD.sub (ws' := [(h0, .inr (3, [.ref q_8, .ref q_17, .ref q_26, .int 0, .long 0])), (q_8, .inl (k_8, 1440, .inl g)), (q_17, .inl (k_17, 1440, .inl (fun _ => 0))), (q_26, .inl (k_26, 1001, .inr (.inl (fun _ => 0))))]) [0, 1, 2, 3] (by decide) rfl
        have hK9 := hK.sub (tys' := [(k_8, .int), (k_17, .int), (k_26, .long)]) [0, 1, 2] rfl
        exact W.vret hx hb hr (fun t ht hW => ⟨⟨(q_8, q_17, q_26, k_8, k_17, k_26, g), rfl, fun k hk => h_z k (by have h9 := c_47; rw [Int32.le_iff_toInt_le] at h9; have h8 : (1440 : Int32).toInt = 1440 := (by decide); omega), by rw [ht]; exact hP9, va_K.moved hW.alike hK9, hD9⟩, hS.F ht⟩) hS.2.2 d_Tf_init_63
      · skip
        refine lv_aload_n hx hb d_Tf_init_50 rfl (lv_at hl 0 rfl) ?_
        refine va_get (D := (dC, dI)) (ci := 3) (v := .ref q_8) (C := R_Tf) (T := F_Tf) (N := 5) hx hb hB inC_Tf hown hK hP 0 rfl rfl 0 (by decide) (hB _ kb_80) (fun _ h9 => h9) rfl d_Tf_init_51 ?_
        refine lv_iload_n hx hb d_Tf_init_54 rfl (lv_at hl 1 rfl) ?_
        refine lv_iconst (v := (-1)) hx hb d_Tf_init_55 (by decide) ?_
        have h_56 : vp_in i 1440 := vinB 1440 h_i c_47 (by decide)
        refine va_iast hx hb hK hP hD hS 1 0 rfl rfl h_56 d_Tf_init_56 (fun H locs hP hD hS => ?_)
        obtain ⟨f_56, ef_56⟩ : ∃ y, y = upd g i.toNatClampNeg (-1) := ⟨_, rfl⟩
        rw [← ef_56] at hP hD
        have hP : va_P (dC, dI) classes [(h0, .inr (3, [.ref q_8, .ref q_17, .ref q_26, .int 0, .long 0])), (q_8, .inl (k_8, 1440, .inl f_56)), (q_17, .inl (k_17, 1440, .inl (fun _ => 0))), (q_26, .inl (k_26, 1001, .inr (.inl (fun _ => 0))))] H := hP
        have hD : va_D A [(h0, .inr (3, [.ref q_8, .ref q_17, .ref q_26, .int 0, .long 0])), (q_8, .inl (k_8, 1440, .inl f_56)), (q_17, .inl (k_17, 1440, .inl (fun _ => 0))), (q_26, .inl (k_26, 1001, .inr (.inl (fun _ => 0))))] := hD
        obtain ⟨x_57, ex_57⟩ : ∃ y : Int32, y = i + 1 := ⟨_, rfl⟩
        refine lv_iinc (v := x_57) (lv' := [(1, .int x_57), (0, .ref h0)]) hx hb d_Tf_init_57 hl (k := 1) rfl (by rw [ex_57]; rfl) (by decide) rfl (fun ls hl => ?_)
        refine lv_goto (tgt := 43) hx hb d_Tf_init_60 (by decide) ?_
        exact ih x_57 f_56 _ _ _ ((ii0 1440 h_i c_47 ex_57).1) (ti_s h_z h_i c_47 ef_56 ex_57) (by have h9 := (ii0 1440 h_i c_47 ex_57).2; have h8 : (1440 : Int32).toInt = 1440 := (by decide); omega) (hP.sub [0, 1, 2, 3] rfl) (hD.sub [0, 1, 2, 3] (by decide) rfl) hS (lv_sub hl [1, 0] rfl)
  exact (cut 1441) 0 ((fun _ => 0)) _ _ _ (le0) (by intro k hk; have h8 : (0 : Int32).toInt = 0 := (by decide); omega) (by decide) (hP.sub [0, 1, 2, 3] rfl) (hD.sub [0, 1, 2, 3] (by decide) rfl) hS (lv_sub hl [1, 0] rfl)
