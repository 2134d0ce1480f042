set_option maxHeartbeats 4000000 in
set_option maxRecDepth 100000 in
theorem c_Tf_isPrice (l : Launch) (dC : Nat → ClassId) (dI : Nat → Nat → Nat) (sz : Nat) (p0 : Int32) : Met l y_Tf_isPrice w_Tf_isPrice ({ frames := 0, cells := 0, slots := 0, locals := 0 }) (cPre dC dI [.int p0] sz [] []) (va_Qi (fun (r : Int32) (u : Unit) => r = bi (0 ≤ p0 ∧ p0 ≤ 1000)) (fun (u : Unit) (t : State) => cB dC dI (va_A [] sz) [] [] t) (va_A [] sz)) 0 0 (va_A [] sz) := by
  refine Met.ofW (cc := b_Tf_isPrice) (maxL := 1) (ret := (some .boolean)) (by decide) rfl ?_
  intro p e s m args below meth c s₁ B hml hv
  obtain ⟨rfl, hsz, hN, hP, hK, hD0⟩ := hv
  have hx := B.exec
  have hb := B.bytes
  have hr := B.returns
  have hts := atoms_spec (ws := w_Tf_isPrice) B.pre
  have hB := big_of hts
  have hown : s.vm.findClass R_Tf = some m.cls := findClass_of_methodNamed B.named
  have hlocks := B.notSynchronized
  subst hsz
  have hD := hD0.self (sz := s.heap.size)
  generalize hAe : va_A [] s.heap.size = A at hD ⊢
  have hA : ∀ q : Nat, s.heap.size ≤ q → A q := fun q h => by rw [← hAe]; exact Or.inr h
  have hS : va_S A s.heap s.heap [] := va_S.rf
  have hP : va_P (dC, dI) classes [] s.heap := hP
  have hl := lv_entry ([.int p0]) (n := 1) (Nat.le_of_ble_eq_true rfl)
  rw [lg_entry_eq]
  generalize (lg_sl ([.int p0]) ++ List.replicate (1 - (lg_sl ([.int p0])).length) Slot.unset).toArray = ls at hl ⊢
  have hl : lv_has ls 1 [(0, .int p0)] := hl
  refine lv_iload_n hx hb d_Tf_isPrice_0 rfl (lv_at hl 0 rfl) ?_
  refine lv_if_lt (tgt := 15) hx hb d_Tf_isPrice_1 (by decide) (fun c_1 => ?_) (fun c_1 => ?_)
  · skip
    refine lv_iconst (v := 0) hx hb d_Tf_isPrice_15 (by decide) ?_
    have hP9 := hP.sub (ws' := []) [] rfl
    have hD9 := hD.sub (ws' := []) [] (by decide) rfl
    have hK9 := hK.sub (tys' := []) [] rfl
    exact W.zret (v := 0) (ty := .boolean) hx hb hr (rfl) (fun t ht hW => ⟨⟨0, (), rfl, (bi_f (fun h => absurd h.1 (Int32.not_le.mpr c_1))).symm, by rw [ht]; exact hP9, va_K.moved hW.alike hK9, hD9⟩, hS.F ht⟩) hS.2.2 d_Tf_isPrice_16
  · skip
    refine lv_iload_n hx hb d_Tf_isPrice_4 rfl (lv_at hl 0 rfl) ?_
    refine lv_sipush (v := 1000) hx hb d_Tf_isPrice_5 (by decide) ?_
    refine lv_icmp_gt (tgt := 15) hx hb d_Tf_isPrice_8 (by decide) (fun c_8 => ?_) (fun c_8 => ?_)
    · skip
      refine lv_iconst (v := 0) hx hb d_Tf_isPrice_15 (by decide) ?_
      have hP9 := hP.sub (ws' := []) [] rfl
      have hD9 := hD.sub (ws' := []) [] (by decide) rfl
      have hK9 := hK.sub (tys' := []) [] rfl
      exact W.zret (v := 0) (ty := .boolean) hx hb hr (rfl) (fun t ht hW => ⟨⟨0, (), rfl, (bi_f (fun h => absurd h.2 (Int32.not_le.mpr c_8))).symm, by rw [ht]; exact hP9, va_K.moved hW.alike hK9, hD9⟩, hS.F ht⟩) hS.2.2 d_Tf_isPrice_16
    · skip
      refine lv_iconst (v := 1) hx hb d_Tf_isPrice_11 (by decide) ?_
      refine lv_goto (tgt := 16) hx hb d_Tf_isPrice_12 (by decide) ?_
      have hP9 := hP.sub (ws' := []) [] rfl
      have hD9 := hD.sub (ws' := []) [] (by decide) rfl
      have hK9 := hK.sub (tys' := []) [] rfl
      exact W.zret (v := 1) (ty := .boolean) hx hb hr (rfl) (fun t ht hW => ⟨⟨1, (), rfl, (bi_t ⟨Int32.not_lt.mp c_1, Int32.not_lt.mp c_8⟩).symm, by rw [ht]; exact hP9, va_K.moved hW.alike hK9, hD9⟩, hS.F ht⟩) hS.2.2 d_Tf_isPrice_16
set_option maxHeartbeats 4000000 in
set_option maxRecDepth 100000 in
theorem c_Tf_isFull (l : Launch) (dC : Nat → ClassId) (dI : Nat → Nat → Nat) (h0 : Nat) (a1 : Nat) (a2 : Nat) (a3 : Nat) (sz : Nat) (sp : Int32) (lk : Int64) : Met l y_Tf_isFull w_Tf_isFull ({ frames := 0, cells := 0, slots := 0, locals := 0 }) (cPre dC dI [.ref h0] sz [] [(h0, .inr (3, [.ref a1, .ref a2, .ref a3, .int sp, .long lk]))]) (va_Qi (fun (r : Int32) (u : Unit) => r = bi (20 ≤ sp)) (fun (u : Unit) (t : State) => cB dC dI (va_A [(h0, .inr (3, [.ref a1, .ref a2, .ref a3, .int sp, .long lk]))] sz) [] [(h0, .inr (3, [.ref a1, .ref a2, .ref a3, .int sp, .long lk]))] t) (va_A [(h0, .inr (3, [.ref a1, .ref a2, .ref a3, .int sp, .long lk]))] sz)) 0 0 (va_A [(h0, .inr (3, [.ref a1, .ref a2, .ref a3, .int sp, .long lk]))] sz) := by
  refine Met.ofW (cc := b_Tf_isFull) (maxL := 1) (ret := (some .boolean)) (by decide) rfl ?_
  intro p e s m args below meth c s₁ B hml hv
  obtain ⟨rfl, hsz, hN, hP, hK, hD0⟩ := hv
  have hx := B.exec
  have hb := B.bytes
  have hr := B.returns
  have hts := atoms_spec (ws := w_Tf_isFull) B.pre
  have hB := big_of hts
  have hown : s.vm.findClass R_Tf = some m.cls := findClass_of_methodNamed B.named
  have hlocks := B.notSynchronized
  subst hsz
  have hD := hD0.self (sz := s.heap.size)
  generalize hAe : va_A [(h0, .inr (3, [.ref a1, .ref a2, .ref a3, .int sp, .long lk]))] s.heap.size = A at hD ⊢
  have hA : ∀ q : Nat, s.heap.size ≤ q → A q := fun q h => by rw [← hAe]; exact Or.inr h
  have hS : va_S A s.heap s.heap [] := va_S.rf
  have hP : va_P (dC, dI) classes [(h0, .inr (3, [.ref a1, .ref a2, .ref a3, .int sp, .long lk]))] s.heap := hP
  have hl := lv_entry ([.ref h0]) (n := 1) (Nat.le_of_ble_eq_true rfl)
  rw [lg_entry_eq]
  generalize (lg_sl ([.ref h0]) ++ List.replicate (1 - (lg_sl ([.ref h0])).length) Slot.unset).toArray = ls at hl ⊢
  have hl : lv_has ls 1 [(0, .ref h0)] := hl
  refine lv_aload_n hx hb d_Tf_isFull_0 rfl (lv_at hl 0 rfl) ?_
  refine va_get (D := (dC, dI)) (ci := 3) (v := .int sp) (C := R_Tf) (T := F_Tf) (N := 5) hx hb hB inC_Tf hown hK hP 0 rfl rfl 3 (by decide) (hB _ kb_79) (fun _ h9 => h9) rfl d_Tf_isFull_1 ?_
  refine lv_bipush (v := 20) hx hb d_Tf_isFull_4 (by decide) ?_
  refine lv_icmp_lt (tgt := 13) hx hb d_Tf_isFull_6 (by decide) (fun c_6 => ?_) (fun c_6 => ?_)
  · skip
    refine lv_iconst (v := 0) hx hb d_Tf_isFull_13 (by decide) ?_
    have hP9 := hP.sub (ws' := [(h0, .inr (3, [.ref a1, .ref a2, .ref a3, .int sp, .long lk]))]) [0] rfl
    have hD9 := hD.sub (ws' := [(h0, .inr (3, [.ref a1, .ref a2, .ref a3, .int sp, .long lk]))]) [0] (by decide) rfl
    have hK9 := hK.sub (tys' := []) [] rfl
    exact W.zret (v := 0) (ty := .boolean) hx hb hr (rfl) (fun t ht hW => ⟨⟨0, (), rfl, (bi_f (Int32.not_le.mpr c_6)).symm, by rw [ht]; exact hP9, va_K.moved hW.alike hK9, hD9⟩, hS.F ht⟩) hS.2.2 d_Tf_isFull_14
  · skip
    refine lv_iconst (v := 1) hx hb d_Tf_isFull_9 (by decide) ?_
    refine lv_goto (tgt := 14) hx hb d_Tf_isFull_10 (by decide) ?_
    have hP9 := hP.sub (ws' := [(h0, .inr (3, [.ref a1, .ref a2, .ref a3, .int sp, .long lk]))]) [0] rfl
    have hD9 := hD.sub (ws' := [(h0, .inr (3, [.ref a1, .ref a2, .ref a3, .int sp, .long lk]))]) [0] (by decide) rfl
    have hK9 := hK.sub (tys' := []) [] rfl
    exact W.zret (v := 1) (ty := .boolean) hx hb hr (rfl) (fun t ht hW => ⟨⟨1, (), rfl, (bi_t (Int32.not_lt.mp c_6)).symm, by rw [ht]; exact hP9, va_K.moved hW.alike hK9, hD9⟩, hS.F ht⟩) hS.2.2 d_Tf_isFull_14
set_option maxHeartbeats 4000000 in
set_option maxRecDepth 100000 in
theorem c_Tf_addSpan (l : Launch) (dC : Nat → ClassId) (dI : Nat → Nat → Nat) (h0 : Nat) (a1 : Nat) (a2 : Nat) (a3 : Nat) (e1 : ClassId) (sz : Nat) (sp : Int32) (lk : Int64) (f1 : Nat → Int32) (p0 : Int32) (p1 : Int32) (p2 : Int32) (hp0 : 0 ≤ p0.toInt) (hp1 : p1.toInt ≤ 1440) (hp2 : p0.toInt < p1.toInt) : Met l y_Tf_addSpan w_Tf_addSpan ({ frames := 1, cells := 0, slots := 0, locals := 23 }) (cPre dC dI [.ref h0, .int p0, .int p1, .int p2] sz [(e1, .int)] [(h0, .inr (3, [.ref a1, .ref a2, .ref a3, .int sp, .long lk])), (a1, .inl (e1, 1440, .inl f1))]) (va_Qi (fun (r : Int32) (u : Int32 × (Nat → Int32)) => r = sp + 1 ∧ u.1 = sp + 1 ∧ ∀ k : Nat, u.2 k = if p0.toInt ≤ k ∧ (k : Int) < p1.toInt then p2 else f1 k) (fun (u : Int32 × (Nat → Int32)) (t : State) => cB dC dI (va_A [(h0, .inr (3, [.ref a1, .ref a2, .ref a3, .int sp, .long lk])), (a1, .inl (e1, 1440, .inl f1))] sz) [(e1, .int)] [(h0, .inr (3, [.ref a1, .ref a2, .ref a3, .int u.1, .long lk])), (a1, .inl (e1, 1440, .inl (u.2)))] t) (va_A [(h0, .inr (3, [.ref a1, .ref a2, .ref a3, .int sp, .long lk])), (a1, .inl (e1, 1440, .inl f1))] sz)) 0 0 (va_A [(h0, .inr (3, [.ref a1, .ref a2, .ref a3, .int sp, .long lk])), (a1, .inl (e1, 1440, .inl f1))] sz) := by
  refine Met.ofW (cc := b_Tf_addSpan) (maxL := 5) (ret := (some .int)) (by decide) rfl ?_
  intro p e s m args below meth c s₁ B hml hv
  obtain ⟨rfl, hsz, hN, hP, hK, hD0⟩ := hv
  have hx := B.exec
  have hb := B.bytes
  have hr := B.returns
  have hts := atoms_spec (ws := w_Tf_addSpan) B.pre
  have hB := big_of hts
  have hown : s.vm.findClass R_Tf = some m.cls := findClass_of_methodNamed B.named
  have hlocks := B.notSynchronized
  subst hsz
  have hD := hD0.self (sz := s.heap.size)
  generalize hAe : va_A [(h0, .inr (3, [.ref a1, .ref a2, .ref a3, .int sp, .long lk])), (a1, .inl (e1, 1440, .inl f1))] s.heap.size = A at hD ⊢
  have hA : ∀ q : Nat, s.heap.size ≤ q → A q := fun q h => by rw [← hAe]; exact Or.inr h
  have hS : va_S A s.heap s.heap [] := va_S.rf
  have hP : va_P (dC, dI) classes [(h0, .inr (3, [.ref a1, .ref a2, .ref a3, .int sp, .long lk])), (a1, .inl (e1, 1440, .inl f1))] s.heap := hP
  have hl := lv_entry ([.ref h0, .int p0, .int p1, .int p2]) (n := 5) (Nat.le_of_ble_eq_true rfl)
  rw [lg_entry_eq]
  generalize (lg_sl ([.ref h0, .int p0, .int p1, .int p2]) ++ List.replicate (5 - (lg_sl ([.ref h0, .int p0, .int p1, .int p2])).length) Slot.unset).toArray = ls at hl ⊢
  have hl : lv_has ls 5 [(0, .ref h0), (1, .int p0), (2, .int p1), (3, .int p2)] := hl
  have cut : ∀ n : Nat, (∀ (i : Int32) (g : Nat → Int32) (H : Heap) (locs : List Loc) (ls : Array Slot), (0 ≤ i) → (p0.toInt ≤ i.toInt ∧ i.toInt ≤ p1.toInt) → (∀ k : Nat, g k = if p0.toInt ≤ k ∧ (k : Int) < i.toInt then p2 else f1 k) → (1440 - i.toInt).toNat < n → va_P (dC, dI) classes [(h0, .inr (3, [.ref a1, .ref a2, .ref a3, .int sp, .long lk])), (a1, .inl (e1, 1440, .inl g))] H → va_D A [(h0, .inr (3, [.ref a1, .ref a2, .ref a3, .int sp, .long lk])), (a1, .inl (e1, 1440, .inl g))] → va_S A s.heap H locs → lv_has ls 5 [(0, .ref h0), (1, .int p0), (2, .int p1), (3, .int p2), (4, .int i)] → W p l e (headSpec w_Tf_addSpan ({ frames := 1, cells := 0, slots := 0, locals := 23 })).room s m (List.toArray [.ref h0, .int p0, .int p1, .int p2]) below meth c H locs 0 0 (MQ below (va_Qi (fun (r : Int32) (u : Int32 × (Nat → Int32)) => r = sp + 1 ∧ u.1 = sp + 1 ∧ ∀ k : Nat, u.2 k = if p0.toInt ≤ k ∧ (k : Int) < p1.toInt then p2 else f1 k) (fun (u : Int32 × (Nat → Int32)) (t : State) => cB dC dI A [(e1, .int)] [(h0, .inr (3, [.ref a1, .ref a2, .ref a3, .int u.1, .long lk])), (a1, .inl (e1, 1440, .inl (u.2)))] t) A) (List.toArray [.ref h0, .int p0, .int p1, .int p2]) s 0 0 A) (F0 m 7 ls [])) := by
    intro n
    induction n with
    | zero => intros; first | exact (Nat.not_lt_zero _ (by assumption)).elim | omega
    | succ n ih =>
      intro i g H locs ls h_i h_i2 h_f hmu hP hD hS hl
      refine lv_iload hx hb d_Tf_addSpan_7 (lv_at hl 4 rfl) ?_
      refine lv_iload_n hx hb d_Tf_addSpan_9 rfl (lv_at hl 2 rfl) ?_
      refine lv_icmp_ge (tgt := 35) hx hb d_Tf_addSpan_10 (by decide) (fun c_10 => ?_) (fun c_10 => ?_)
      · skip
        refine lv_aload_n hx hb d_Tf_addSpan_35 rfl (lv_at hl 0 rfl) ?_
        refine lv_dup hx hb d_Tf_addSpan_36 rfl ?_
        refine va_get (D := (dC, dI)) (ci := 3) (v := .int sp) (C := R_Tf) (T := F_Tf) (N := 5) hx hb hB inC_Tf hown hK hP 0 rfl rfl 3 (by decide) (hB _ kb_79) (fun _ h9 => h9) rfl d_Tf_addSpan_37 ?_
        refine lv_iconst (v := 1) hx hb d_Tf_addSpan_40 (by decide) ?_
        refine lv_iadd hx hb d_Tf_addSpan_41 ?_
        refine lv_topi (fun x_41 ex_41 => ?_)
        refine va_put (D := (dC, dI)) (ci := 3) (v := .int x_41) (ty := .int) (C := R_Tf) (T := F_Tf) (N := 5) hx hb hB inC_Tf t_Tf t_Tf_ok n_Tf hown hK hP hD hS 0 rfl rfl 3 (by decide) (hB _ kb_79) (fun _ h9 => h9) rfl (by decide +kernel) rfl rfl (Nat.le_of_ble_eq_true rfl) d_Tf_addSpan_42 (fun H locs hP hD hS => ?_)
        have hP : va_P (dC, dI) classes [(h0, .inr (3, [.ref a1, .ref a2, .ref a3, .int x_41, .long lk])), (a1, .inl (e1, 1440, .inl g))] H := hP
        have hD : va_D A [(h0, .inr (3, [.ref a1, .ref a2, .ref a3, .int x_41, .long lk])), (a1, .inl (e1, 1440, .inl g))] := hD
        refine lv_aload_n hx hb d_Tf_addSpan_45 rfl (lv_at hl 0 rfl) ?_
        refine va_get (D := (dC, dI)) (ci := 3) (v := .int x_41) (C := R_Tf) (T := F_Tf) (N := 5) hx hb hB inC_Tf hown hK hP 0 rfl rfl 3 (by decide) (hB _ kb_79) (fun _ h9 => h9) rfl d_Tf_addSpan_46 ?_
        have hP9 := hP.sub (ws' := [(h0, .inr (3, [.ref a1, .ref a2, .ref a3, .int x_41, .long lk])), (a1, .inl (e1, 1440, .inl g))]) [0, 1] rfl
        have hD9 := hD.sub (ws' := [(h0, .inr (3, [.ref a1, .ref a2, .ref a3, .int x_41, .long lk])), (a1, .inl (e1, 1440, .inl g))]) [0, 1] (by decide) rfl
        have hK9 := hK.sub (tys' := [(e1, .int)]) [0] rfl
        exact W.iret (v := x_41) hx hb hr (fun t ht hW => ⟨⟨x_41, (x_41, g), rfl, ⟨ex_41, ex_41, as_e h_f h_i2 hp1 (Or.inl c_10)⟩, by rw [ht]; exact hP9, va_K.moved hW.alike hK9, hD9⟩, hS.F ht⟩) hS.2.2 d_Tf_addSpan_49
      · skip
        refine lv_iload hx hb d_Tf_addSpan_13 (lv_at hl 4 rfl) ?_
        refine lv_sipush (v := 1440) hx hb d_Tf_addSpan_15 (by decide) ?_
        refine lv_icmp_ge (tgt := 35) hx hb d_Tf_addSpan_18 (by decide) (fun c_18 => ?_) (fun c_18 => ?_)
        · skip
          refine lv_aload_n hx hb d_Tf_addSpan_35 rfl (lv_at hl 0 rfl) ?_
          refine lv_dup hx hb d_Tf_addSpan_36 rfl ?_
          refine va_get (D := (dC, dI)) (ci := 3) (v := .int sp) (C := R_Tf) (T := F_Tf) (N := 5) hx hb hB inC_Tf hown hK hP 0 rfl rfl 3 (by decide) (hB _ kb_79) (fun _ h9 => h9) rfl d_Tf_addSpan_37 ?_
          refine lv_iconst (v := 1) hx hb d_Tf_addSpan_40 (by decide) ?_
          refine lv_iadd hx hb d_Tf_addSpan_41 ?_
          refine lv_topi (fun x_41 ex_41 => ?_)
          refine va_put (D := (dC, dI)) (ci := 3) (v := .int x_41) (ty := .int) (C := R_Tf) (T := F_Tf) (N := 5) hx hb hB inC_Tf t_Tf t_Tf_ok n_Tf hown hK hP hD hS 0 rfl rfl 3 (by decide) (hB _ kb_79) (fun _ h9 => h9) rfl (by decide +kernel) rfl rfl (Nat.le_of_ble_eq_true rfl) d_Tf_addSpan_42 (fun H locs hP hD hS => ?_)
          have hP : va_P (dC, dI) classes [(h0, .inr (3, [.ref a1, .ref a2, .ref a3, .int x_41, .long lk])), (a1, .inl (e1, 1440, .inl g))] H := hP
          have hD : va_D A [(h0, .inr (3, [.ref a1, .ref a2, .ref a3, .int x_41, .long lk])), (a1, .inl (e1, 1440, .inl g))] := hD
          refine lv_aload_n hx hb d_Tf_addSpan_45 rfl (lv_at hl 0 rfl) ?_
          refine va_get (D := (dC, dI)) (ci := 3) (v := .int x_41) (C := R_Tf) (T := F_Tf) (N := 5) hx hb hB inC_Tf hown hK hP 0 rfl rfl 3 (by decide) (hB _ kb_79) (fun _ h9 => h9) rfl d_Tf_addSpan_46 ?_
          have hP9 := hP.sub (ws' := [(h0, .inr (3, [.ref a1, .ref a2, .ref a3, .int x_41, .long lk])), (a1, .inl (e1, 1440, .inl g))]) [0, 1] rfl
          have hD9 := hD.sub (ws' := [(h0, .inr (3, [.ref a1, .ref a2, .ref a3, .int x_41, .long lk])), (a1, .inl (e1, 1440, .inl g))]) [0, 1] (by decide) rfl
          have hK9 := hK.sub (tys' := [(e1, .int)]) [0] rfl
          exact W.iret (v := x_41) hx hb hr (fun t ht hW => ⟨⟨x_41, (x_41, g), rfl, ⟨ex_41, ex_41, as_e h_f h_i2 hp1 (Or.inr c_18)⟩, by rw [ht]; exact hP9, va_K.moved hW.alike hK9, hD9⟩, hS.F ht⟩) hS.2.2 d_Tf_addSpan_49
        · skip
          refine lv_aload_n hx hb d_Tf_addSpan_21 rfl (lv_at hl 0 rfl) ?_
          refine va_get (D := (dC, dI)) (ci := 3) (v := .ref a1) (C := R_Tf) (T := F_Tf) (N := 5) hx hb hB inC_Tf hown hK hP 0 rfl rfl 0 (by decide) (hB _ kb_80) (fun _ h9 => h9) rfl d_Tf_addSpan_22 ?_
          refine lv_iload hx hb d_Tf_addSpan_25 (lv_at hl 4 rfl) ?_
          refine lv_iload_n hx hb d_Tf_addSpan_27 rfl (lv_at hl 3 rfl) ?_
          have h_28 : vp_in i 1440 := vinB 1440 h_i c_18 (by decide)
          refine va_iast hx hb hK hP hD hS 1 0 rfl rfl h_28 d_Tf_addSpan_28 (fun H locs hP hD hS => ?_)
          obtain ⟨f_28, ef_28⟩ : ∃ y, y = upd g i.toNatClampNeg p2 := ⟨_, rfl⟩
          rw [← ef_28] at hP hD
          have hP : va_P (dC, dI) classes [(h0, .inr (3, [.ref a1, .ref a2, .ref a3, .int sp, .long lk])), (a1, .inl (e1, 1440, .inl f_28))] H := hP
          have hD : va_D A [(h0, .inr (3, [.ref a1, .ref a2, .ref a3, .int sp, .long lk])), (a1, .inl (e1, 1440, .inl f_28))] := hD
          obtain ⟨x_29, ex_29⟩ : ∃ y : Int32, y = i + 1 := ⟨_, rfl⟩
          refine lv_iinc (v := x_29) (lv' := [(4, .int x_29), (0, .ref h0), (1, .int p0), (2, .int p1), (3, .int p2)]) hx hb d_Tf_addSpan_29 hl (k := 4) rfl (by rw [ex_29]; rfl) (by decide) rfl (fun ls hl => ?_)
          refine lv_goto (tgt := 7) hx hb d_Tf_addSpan_32 (by decide) ?_
          exact ih x_29 f_28 _ _ _ ((ii0 1440 h_i c_18 ex_29).1) (by have h9 := (ii0 1440 h_i c_18 ex_29).2; have h8 := i32nle c_10; omega) (as_s h_f h_i2.1 h_i c_18 ef_28 ex_29) (by have h9 := (ii0 1440 h_i c_18 ex_29).2; have h8 : (1440 : Int32).toInt = 1440 := (by decide); omega) (hP.sub [0, 1] rfl) (hD.sub [0, 1] (by decide) rfl) hS (lv_sub hl [1, 2, 3, 4, 0] rfl)
  refine lv_iconst (v := 0) hx hb d_Tf_addSpan_0 (by decide) ?_
  refine lv_iload_n hx hb d_Tf_addSpan_1 rfl (lv_at hl 1 rfl) ?_
  refine va_mmax hx hb (by rw [hml]; exact hl.1.symm) hown (hB _ kb_81) (hB _ kb_40) (hB _ kb_41) (hB _ kb_42) (Nat.le_of_ble_eq_true rfl) (Nat.le_of_ble_eq_true rfl) (Nat.le_of_ble_eq_true rfl) (Nat.le_of_ble_eq_true rfl) d_Tf_addSpan_2 ?_
  refine lv_topi (fun x_2 ex_2 => ?_)
  refine lv_istore (lv' := [(4, .int x_2), (0, .ref h0), (1, .int p0), (2, .int p1), (3, .int p2)]) hx hb d_Tf_addSpan_5 hl (by decide) rfl (fun ls hl => ?_)
  exact (cut 1441) x_2 f1 _ _ _ ((mx0 ex_2).1) (by rw [mxp hp0 ex_2]; omega) (as_0 (mxp hp0 ex_2)) (by have h9 := (mx0 ex_2).2; omega) (hP.sub [0, 1] rfl) (hD.sub [0, 1] (by decide) rfl) hS (lv_sub hl [1, 2, 3, 4, 0] rfl)
set_option maxHeartbeats 4000000 in
set_option maxRecDepth 100000 in
theorem c_Tf_unitsIn (l : Launch) (dC : Nat → ClassId) (dI : Nat → Nat → Nat) (h0 : Nat) (a1 : Nat) (a2 : Nat) (a3 : Nat) (e2 : ClassId) (sz : Nat) (sp : Int32) (lk : Int64) (f2 : Nat → Int32) (p0 : Int64) : Met l y_Tf_unitsIn w_Tf_unitsIn ({ frames := 0, cells := 0, slots := 0, locals := 0 }) (cPre dC dI [.ref h0, .long p0] sz [(e2, .int)] [(h0, .inr (3, [.ref a1, .ref a2, .ref a3, .int sp, .long lk])), (a2, .inl (e2, 1440, .inl f2))]) (va_Qi (fun (r : Int32) (u : Unit) => r = if ¬ p0 < 0 ∧ ¬ 1440 ≤ p0 then f2 p0.toInt32.toNatClampNeg else 0) (fun (u : Unit) (t : State) => cB dC dI (va_A [(h0, .inr (3, [.ref a1, .ref a2, .ref a3, .int sp, .long lk])), (a2, .inl (e2, 1440, .inl f2))] sz) [(e2, .int)] [(h0, .inr (3, [.ref a1, .ref a2, .ref a3, .int sp, .long lk])), (a2, .inl (e2, 1440, .inl f2))] t) (va_A [(h0, .inr (3, [.ref a1, .ref a2, .ref a3, .int sp, .long lk])), (a2, .inl (e2, 1440, .inl f2))] sz)) 0 0 (va_A [(h0, .inr (3, [.ref a1, .ref a2, .ref a3, .int sp, .long lk])), (a2, .inl (e2, 1440, .inl f2))] sz) := by
  refine Met.ofW (cc := b_Tf_unitsIn) (maxL := 3) (ret := (some .int)) (by decide) rfl ?_
  intro p e s m args below meth c s₁ B hml hv
  obtain ⟨rfl, hsz, hN, hP, hK, hD0⟩ := hv
  have hx := B.exec
  have hb := B.bytes
  have hr := B.returns
  have hts := atoms_spec (ws := w_Tf_unitsIn) B.pre
  have hB := big_of hts
  have hown : s.vm.findClass R_Tf = some m.cls := findClass_of_methodNamed B.named
  have hlocks := B.notSynchronized
  subst hsz
  have hD := hD0.self (sz := s.heap.size)
  generalize hAe : va_A [(h0, .inr (3, [.ref a1, .ref a2, .ref a3, .int sp, .long lk])), (a2, .inl (e2, 1440, .inl f2))] s.heap.size = A at hD ⊢
  have hA : ∀ q : Nat, s.heap.size ≤ q → A q := fun q h => by rw [← hAe]; exact Or.inr h
  have hS : va_S A s.heap s.heap [] := va_S.rf
  have hP : va_P (dC, dI) classes [(h0, .inr (3, [.ref a1, .ref a2, .ref a3, .int sp, .long lk])), (a2, .inl (e2, 1440, .inl f2))] s.heap := hP
  have hl := lv_entry ([.ref h0, .long p0]) (n := 3) (Nat.le_of_ble_eq_true rfl)
  rw [lg_entry_eq]
  generalize (lg_sl ([.ref h0, .long p0]) ++ List.replicate (3 - (lg_sl ([.ref h0, .long p0])).length) Slot.unset).toArray = ls at hl ⊢
  have hl : lv_has ls 3 [(0, .ref h0), (1, .long p0)] := hl
  refine lv_lload_n hx hb d_Tf_unitsIn_0 rfl (lv_at hl 1 rfl) ?_
  refine lv_lconst (v := 0) hx hb d_Tf_unitsIn_1 (by decide) ?_
  refine W.lcmp hx hb d_Tf_unitsIn_2 ?_
  refine lv_if_lt (tgt := 24) hx hb d_Tf_unitsIn_3 (by decide) (fun c_3 => ?_) (fun c_3 => ?_)
  · have c_3 := (lg_cmp_lt _ _).mp c_3
    refine lv_iconst (v := 0) hx hb d_Tf_unitsIn_24 (by decide) ?_
    have hP9 := hP.sub (ws' := [(h0, .inr (3, [.ref a1, .ref a2, .ref a3, .int sp, .long lk])), (a2, .inl (e2, 1440, .inl f2))]) [0, 1] rfl
    have hD9 := hD.sub (ws' := [(h0, .inr (3, [.ref a1, .ref a2, .ref a3, .int sp, .long lk])), (a2, .inl (e2, 1440, .inl f2))]) [0, 1] (by decide) rfl
    have hK9 := hK.sub (tys' := [(e2, .int)]) [0] rfl
    exact W.iret (v := 0) hx hb hr (fun t ht hW => ⟨⟨0, (), rfl, (if_neg (fun h => h.1 c_3)).symm, by rw [ht]; exact hP9, va_K.moved hW.alike hK9, hD9⟩, hS.F ht⟩) hS.2.2 d_Tf_unitsIn_25
  · have c_3 := mt (lg_cmp_lt _ _).mpr c_3
    refine lv_lload_n hx hb d_Tf_unitsIn_6 rfl (lv_at hl 1 rfl) ?_
    refine lv_ldc2 (v := 1440) hx hb hown (hB _ kb_82) d_Tf_unitsIn_7 ?_
    refine W.lcmp hx hb d_Tf_unitsIn_10 ?_
    refine lv_if_ge (tgt := 24) hx hb d_Tf_unitsIn_11 (by decide) (fun c_11 => ?_) (fun c_11 => ?_)
    · have c_11 := (lg_cmp_ge _ _).mp c_11
      refine lv_iconst (v := 0) hx hb d_Tf_unitsIn_24 (by decide) ?_
      have hP9 := hP.sub (ws' := [(h0, .inr (3, [.ref a1, .ref a2, .ref a3, .int sp, .long lk])), (a2, .inl (e2, 1440, .inl f2))]) [0, 1] rfl
      have hD9 := hD.sub (ws' := [(h0, .inr (3, [.ref a1, .ref a2, .ref a3, .int sp, .long lk])), (a2, .inl (e2, 1440, .inl f2))]) [0, 1] (by decide) rfl
      have hK9 := hK.sub (tys' := [(e2, .int)]) [0] rfl
      exact W.iret (v := 0) hx hb hr (fun t ht hW => ⟨⟨0, (), rfl, (if_neg (fun h => h.2 c_11)).symm, by rw [ht]; exact hP9, va_K.moved hW.alike hK9, hD9⟩, hS.F ht⟩) hS.2.2 d_Tf_unitsIn_25
    · have c_11 := mt (lg_cmp_ge _ _).mpr c_11
      refine lv_aload_n hx hb d_Tf_unitsIn_14 rfl (lv_at hl 0 rfl) ?_
      refine va_get (D := (dC, dI)) (ci := 3) (v := .ref a2) (C := R_Tf) (T := F_Tf) (N := 5) hx hb hB inC_Tf hown hK hP 0 rfl rfl 1 (by decide) (hB _ kb_83) (fun _ h9 => h9) rfl d_Tf_unitsIn_15 ?_
      refine lv_lload_n hx hb d_Tf_unitsIn_18 rfl (lv_at hl 1 rfl) ?_
      refine lv_l2i hx hb d_Tf_unitsIn_19 rfl ?_
      refine lv_topi (fun x_19 ex_19 => ?_)
      have h_20 : vp_in x_19 1440 := vinL 0 c_3 (nle6 c_11 (by decide)) (by decide) ex_19
      refine va_iald hx hb hK hP 1 0 rfl rfl h_20 d_Tf_unitsIn_20 ?_
      refine lv_topi (fun x_20 ex_20 => ?_)
      refine lv_goto (tgt := 25) hx hb d_Tf_unitsIn_21 (by decide) ?_
      have hP9 := hP.sub (ws' := [(h0, .inr (3, [.ref a1, .ref a2, .ref a3, .int sp, .long lk])), (a2, .inl (e2, 1440, .inl f2))]) [0, 1] rfl
      have hD9 := hD.sub (ws' := [(h0, .inr (3, [.ref a1, .ref a2, .ref a3, .int sp, .long lk])), (a2, .inl (e2, 1440, .inl f2))]) [0, 1] (by decide) rfl
      have hK9 := hK.sub (tys' := [(e2, .int)]) [0] rfl
      exact W.iret (v := x_20) hx hb hr (fun t ht hW => ⟨⟨x_20, (), rfl, by rw [if_pos ⟨c_3, c_11⟩, ex_20, ex_19], by rw [ht]; exact hP9, va_K.moved hW.alike hK9, hD9⟩, hS.F ht⟩) hS.2.2 d_Tf_unitsIn_25
set_option maxHeartbeats 4000000 in
set_option maxRecDepth 100000 in
theorem c_Tf_measureRoom (l : Launch) (dC : Nat → ClassId) (dI : Nat → Nat → Nat) (h0 : Nat) (a1 : Nat) (a2 : Nat) (a3 : Nat) (e1 : ClassId) (e3 : ClassId) (sz : Nat) (sp : Int32) (lk : Int64) (f1 : Nat → Int32) (f3 : Nat → Int64) (p0 : Int32) (p1 : Int32) (hu : 0 ≤ p0.toInt ∧ p0.toInt ≤ 1440) (hm : 0 ≤ p1.toInt) : Met l y_Tf_measureRoom w_Tf_measureRoom ({ frames := 1, cells := 0, slots := 0, locals := 20 }) (cPre dC dI [.ref h0, .int p0, .int p1] sz [(e1, .int), (e3, .long)] [(h0, .inr (3, [.ref a1, .ref a2, .ref a3, .int sp, .long lk])), (a1, .inl (e1, 1440, .inl f1)), (a3, .inl (e3, 1001, .inr (.inl f3)))]) (va_Qv (fun (u : (Nat → Int64)) => ∀ c : Nat, c ≤ 1000 → u c = lN (Rm f1 p1.toInt.toNat p0.toInt.toNat c)) (fun (u : (Nat → Int64)) (t : State) => cB dC dI (va_A [(h0, .inr (3, [.ref a1, .ref a2, .ref a3, .int sp, .long lk])), (a1, .inl (e1, 1440, .inl f1)), (a3, .inl (e3, 1001, .inr (.inl f3)))] sz) [(e1, .int), (e3, .long)] [(h0, .inr (3, [.ref a1, .ref a2, .ref a3, .int sp, .long lk])), (a1, .inl (e1, 1440, .inl f1)), (a3, .inl (e3, 1001, .inr (.inl u)))] t) (va_A [(h0, .inr (3, [.ref a1, .ref a2, .ref a3, .int sp, .long lk])), (a1, .inl (e1, 1440, .inl f1)), (a3, .inl (e3, 1001, .inr (.inl f3)))] sz)) 0 0 (va_A [(h0, .inr (3, [.ref a1, .ref a2, .ref a3, .int sp, .long lk])), (a1, .inl (e1, 1440, .inl f1)), (a3, .inl (e3, 1001, .inr (.inl f3)))] sz) := by
  refine Met.ofW (cc := b_Tf_measureRoom) (maxL := 5) (ret := none) (by decide) rfl ?_
  intro p e s m args below meth c s₁ B hml hv
  obtain ⟨rfl, hsz, hN, hP, hK, hD0⟩ := hv
  have hx := B.exec
  have hb := B.bytes
  have hr := B.returns
  have hts := atoms_spec (ws := w_Tf_measureRoom) B.pre
  have hB := big_of hts
  have hown : s.vm.findClass R_Tf = some m.cls := findClass_of_methodNamed B.named
  have hlocks := B.notSynchronized
  subst hsz
  have hD := hD0.self (sz := s.heap.size)
  generalize hAe : va_A [(h0, .inr (3, [.ref a1, .ref a2, .ref a3, .int sp, .long lk])), (a1, .inl (e1, 1440, .inl f1)), (a3, .inl (e3, 1001, .inr (.inl f3)))] s.heap.size = A at hD ⊢
  have hA : ∀ q : Nat, s.heap.size ≤ q → A q := fun q h => by rw [← hAe]; exact Or.inr h
  have hS : va_S A s.heap s.heap [] := va_S.rf
  have hP : va_P (dC, dI) classes [(h0, .inr (3, [.ref a1, .ref a2, .ref a3, .int sp, .long lk])), (a1, .inl (e1, 1440, .inl f1)), (a3, .inl (e3, 1001, .inr (.inl f3)))] s.heap := hP
  have hl := lv_entry ([.ref h0, .int p0, .int p1]) (n := 5) (Nat.le_of_ble_eq_true rfl)
  rw [lg_entry_eq]
  generalize (lg_sl ([.ref h0, .int p0, .int p1]) ++ List.replicate (5 - (lg_sl ([.ref h0, .int p0, .int p1])).length) Slot.unset).toArray = ls at hl ⊢
  have hl : lv_has ls 5 [(0, .ref h0), (1, .int p0), (2, .int p1)] := hl
  have cut : ∀ n : Nat, (∀ (i : Int32) (g : Nat → Int64) (H : Heap) (locs : List Loc) (ls : Array Slot), (0 ≤ i) → (∀ c : Nat, (c : Int) < i.toInt → g c = 0) → (1001 - i.toInt).toNat + 2000 < n → va_P (dC, dI) classes [(h0, .inr (3, [.ref a1, .ref a2, .ref a3, .int sp, .long lk])), (a1, .inl (e1, 1440, .inl f1)), (a3, .inl (e3, 1001, .inr (.inl g)))] H → va_D A [(h0, .inr (3, [.ref a1, .ref a2, .ref a3, .int sp, .long lk])), (a1, .inl (e1, 1440, .inl f1)), (a3, .inl (e3, 1001, .inr (.inl g)))] → va_S A s.heap H locs → lv_has ls 5 [(0, .ref h0), (1, .int p0), (2, .int p1), (3, .int i)] → W p l e (headSpec w_Tf_measureRoom ({ frames := 1, cells := 0, slots := 0, locals := 20 })).room s m (List.toArray [.ref h0, .int p0, .int p1]) below meth c H locs 0 0 (MQ below (va_Qv (fun (u : (Nat → Int64)) => ∀ c : Nat, c ≤ 1000 → u c = lN (Rm f1 p1.toInt.toNat p0.toInt.toNat c)) (fun (u : (Nat → Int64)) (t : State) => cB dC dI A [(e1, .int), (e3, .long)] [(h0, .inr (3, [.ref a1, .ref a2, .ref a3, .int sp, .long lk])), (a1, .inl (e1, 1440, .inl f1)), (a3, .inl (e3, 1001, .inr (.inl u)))] t) A) (List.toArray [.ref h0, .int p0, .int p1]) s 0 0 A) (F0 m 2 ls [])) ∧ (∀ (i : Int32) (g : Nat → Int64) (H : Heap) (locs : List Loc) (ls : Array Slot), (0 ≤ i) → (i.toInt ≤ p0.toInt) → (∀ c : Nat, c ≤ 1000 → g c = lN (p1.toInt.toNat * cnt f1 (nI c) i.toInt.toNat)) → (1440 - i.toInt).toNat < n → va_P (dC, dI) classes [(h0, .inr (3, [.ref a1, .ref a2, .ref a3, .int sp, .long lk])), (a1, .inl (e1, 1440, .inl f1)), (a3, .inl (e3, 1001, .inr (.inl g)))] H → va_D A [(h0, .inr (3, [.ref a1, .ref a2, .ref a3, .int sp, .long lk])), (a1, .inl (e1, 1440, .inl f1)), (a3, .inl (e3, 1001, .inr (.inl g)))] → va_S A s.heap H locs → lv_has ls 5 [(0, .ref h0), (1, .int p0), (2, .int p1), (3, .int i)] → W p l e (headSpec w_Tf_measureRoom ({ frames := 1, cells := 0, slots := 0, locals := 20 })).room s m (List.toArray [.ref h0, .int p0, .int p1]) below meth c H locs 0 0 (MQ below (va_Qv (fun (u : (Nat → Int64)) => ∀ c : Nat, c ≤ 1000 → u c = lN (Rm f1 p1.toInt.toNat p0.toInt.toNat c)) (fun (u : (Nat → Int64)) (t : State) => cB dC dI A [(e1, .int), (e3, .long)] [(h0, .inr (3, [.ref a1, .ref a2, .ref a3, .int sp, .long lk])), (a1, .inl (e1, 1440, .inl f1)), (a3, .inl (e3, 1001, .inr (.inl u)))] t) A) (List.toArray [.ref h0, .int p0, .int p1]) s 0 0 A) (F0 m 24 ls [])) := by
    intro n
    induction n with
    | zero => exact ⟨by intros; first | exact (Nat.not_lt_zero _ (by assumption)).elim | omega, by intros; first | exact (Nat.not_lt_zero _ (by assumption)).elim | omega⟩
    | succ n ih =>
      refine ⟨?_, ?_⟩
      · intro i g H locs ls h_i h_z hmu hP hD hS hl
        refine lv_iload_n hx hb d_Tf_measureRoom_2 rfl (lv_at hl 3 rfl) ?_
        refine lv_sipush (v := 1000) hx hb d_Tf_measureRoom_3 (by decide) ?_
        refine lv_icmp_gt (tgt := 22) hx hb d_Tf_measureRoom_6 (by decide) (fun c_6 => ?_) (fun c_6 => ?_)
        · skip
          refine lv_iconst (v := 0) hx hb d_Tf_measureRoom_22 (by decide) ?_
          refine lv_istore_n (lv' := [(3, .int 0), (0, .ref h0), (1, .int p0), (2, .int p1)]) hx hb d_Tf_measureRoom_23 rfl hl (by decide) rfl (fun ls hl => ?_)
          exact ih.2 0 g _ _ _ (le0) (by have h8 : (0 : Int32).toInt = 0 := (by decide); omega) (mr_b h_z c_6) (by have h8 : (0 : Int32).toInt = 0 := (by decide); omega) (hP.sub [0, 1, 2] rfl) (hD.sub [0, 1, 2] (by decide) rfl) hS (lv_sub hl [1, 2, 3, 0] rfl)
        · skip
          refine lv_aload_n hx hb d_Tf_measureRoom_9 rfl (lv_at hl 0 rfl) ?_
          refine va_get (D := (dC, dI)) (ci := 3) (v := .ref a3) (C := R_Tf) (T := F_Tf) (N := 5) hx hb hB inC_Tf hown hK hP 0 rfl rfl 2 (by decide) (hB _ kb_84) (fun _ h9 => h9) rfl d_Tf_measureRoom_10 ?_
          refine lv_iload_n hx hb d_Tf_measureRoom_13 rfl (lv_at hl 3 rfl) ?_
          refine lv_lconst (v := 0) hx hb d_Tf_measureRoom_14 (by decide) ?_
          have h_15 : vp_in i 1001 := vinC 1000 h_i c_6 (by decide)
          refine va_last hx hb hK hP hD hS 2 1 rfl rfl h_15 d_Tf_measureRoom_15 (fun H locs hP hD hS => ?_)
          obtain ⟨f_15, ef_15⟩ : ∃ y, y = vp_updL g i.toNatClampNeg 0 := ⟨_, rfl⟩
          rw [← ef_15] at hP hD
          have hP : va_P (dC, dI) classes [(h0, .inr (3, [.ref a1, .ref a2, .ref a3, .int sp, .long lk])), (a1, .inl (e1, 1440, .inl f1)), (a3, .inl (e3, 1001, .inr (.inl f_15)))] H := hP
          have hD : va_D A [(h0, .inr (3, [.ref a1, .ref a2, .ref a3, .int sp, .long lk])), (a1, .inl (e1, 1440, .inl f1)), (a3, .inl (e3, 1001, .inr (.inl f_15)))] := hD
          obtain ⟨x_16, ex_16⟩ : ∃ y : Int32, y = i + 1 := ⟨_, rfl⟩
          refine lv_iinc (v := x_16) (lv' := [(3, .int x_16), (0, .ref h0), (1, .int p0), (2, .int p1)]) hx hb d_Tf_measureRoom_16 hl (k := 3) rfl (by rw [ex_16]; rfl) (by decide) rfl (fun ls hl => ?_)
          refine lv_goto (tgt := 2) hx hb d_Tf_measureRoom_19 (by decide) ?_
          exact ih.1 x_16 f_15 _ _ _ ((ij0 1000 h_i c_6 (by decide) ex_16).1) (mr_a h_z h_i c_6 ef_15 ex_16) (by have h9 := (ij0 1000 h_i c_6 (by decide) ex_16).2; have h8 : (1000 : Int32).toInt = 1000 := (by decide); omega) (hP.sub [0, 1, 2] rfl) (hD.sub [0, 1, 2] (by decide) rfl) hS (lv_sub hl [1, 2, 3, 0] rfl)
      · intro i g H locs ls h_i h_u h_r hmu hP hD hS hl
        refine lv_iload_n hx hb d_Tf_measureRoom_24 rfl (lv_at hl 3 rfl) ?_
        refine lv_iload_n hx hb d_Tf_measureRoom_25 rfl (lv_at hl 1 rfl) ?_
        refine lv_icmp_ge (tgt := 70) hx hb d_Tf_measureRoom_26 (by decide) (fun c_26 => ?_) (fun c_26 => ?_)
        · skip
          have hP9 := hP.sub (ws' := [(h0, .inr (3, [.ref a1, .ref a2, .ref a3, .int sp, .long lk])), (a1, .inl (e1, 1440, .inl f1)), (a3, .inl (e3, 1001, .inr (.inl g)))]) [0, 1, 2] rfl
          have hD9 := hD.sub (ws' := [(h0, .inr (3, [.ref a1, .ref a2, .ref a3, .int sp, .long lk])), (a1, .inl (e1, 1440, .inl f1)), (a3, .inl (e3, 1001, .inr (.inl g)))]) [0, 1, 2] (by decide) rfl
          have hK9 := hK.sub (tys' := [(e1, .int), (e3, .long)]) [0, 1] rfl
          exact W.vret hx hb hr (fun t ht hW => ⟨⟨(g), rfl, by have h9 : i.toInt.toNat = p0.toInt.toNat := mr_i h_u hu.2 (Or.inl c_26); rw [h9] at h_r; exact h_r, by rw [ht]; exact hP9, va_K.moved hW.alike hK9, hD9⟩, hS.F ht⟩) hS.2.2 d_Tf_measureRoom_70
        · skip
          refine lv_iload_n hx hb d_Tf_measureRoom_29 rfl (lv_at hl 3 rfl) ?_
          refine lv_sipush (v := 1440) hx hb d_Tf_measureRoom_30 (by decide) ?_
          refine lv_icmp_ge (tgt := 70) hx hb d_Tf_measureRoom_33 (by decide) (fun c_33 => ?_) (fun c_33 => ?_)
          · skip
            have hP9 := hP.sub (ws' := [(h0, .inr (3, [.ref a1, .ref a2, .ref a3, .int sp, .long lk])), (a1, .inl (e1, 1440, .inl f1)), (a3, .inl (e3, 1001, .inr (.inl g)))]) [0, 1, 2] rfl
            have hD9 := hD.sub (ws' := [(h0, .inr (3, [.ref a1, .ref a2, .ref a3, .int sp, .long lk])), (a1, .inl (e1, 1440, .inl f1)), (a3, .inl (e3, 1001, .inr (.inl g)))]) [0, 1, 2] (by decide) rfl
            have hK9 := hK.sub (tys' := [(e1, .int), (e3, .long)]) [0, 1] rfl
            exact W.vret hx hb hr (fun t ht hW => ⟨⟨(g), rfl, by have h9 : i.toInt.toNat = p0.toInt.toNat := mr_i h_u hu.2 (Or.inr c_33); rw [h9] at h_r; exact h_r, by rw [ht]; exact hP9, va_K.moved hW.alike hK9, hD9⟩, hS.F ht⟩) hS.2.2 d_Tf_measureRoom_70
          · skip
            refine lv_aload_n hx hb d_Tf_measureRoom_36 rfl (lv_at hl 0 rfl) ?_
            refine va_get (D := (dC, dI)) (ci := 3) (v := .ref a1) (C := R_Tf) (T := F_Tf) (N := 5) hx hb hB inC_Tf hown hK hP 0 rfl rfl 0 (by decide) (hB _ kb_80) (fun _ h9 => h9) rfl d_Tf_measureRoom_37 ?_
            refine lv_iload_n hx hb d_Tf_measureRoom_40 rfl (lv_at hl 3 rfl) ?_
            have h_41 : vp_in i 1440 := vinB 1440 h_i c_33 (by decide)
            refine va_iald hx hb hK hP 1 0 rfl rfl h_41 d_Tf_measureRoom_41 ?_
            refine lv_topi (fun x_41 ex_41 => ?_)
            refine lv_istore (lv' := [(4, .int x_41), (0, .ref h0), (1, .int p0), (2, .int p1), (3, .int i)]) hx hb d_Tf_measureRoom_42 hl (by decide) rfl (fun ls hl => ?_)
            refine lv_iload hx hb d_Tf_measureRoom_44 (lv_at hl 0 rfl) ?_
            refine kc_i (va_runS (As := [.int x_41]) (rest := []) ⟨hx, hb, hml, hown, hts⟩ (c_Tf_isPrice l dC dI  H.size  x_41 ) (cwS 1 hts (ginS kb_86 kb_87 kb_88 kb_85) rfl rfl rfl (by decide +kernel) ⟨Nat.le_of_ble_eq_true rfl, Nat.le_of_ble_eq_true rfl⟩) (preS (wc := []) hK hN hP hD [] rfl rfl (by decide) [] rfl) rfl rfl hl.1 rfl (lv_room (Nat.le_of_ble_eq_true rfl)) d_Tf_measureRoom_46 ⟨Nat.le_of_ble_eq_true rfl, Nat.le_of_ble_eq_true rfl⟩) hP hD hS hA [] [0, 1, 2] (wr := [(h0, .inr (3, [.ref a1, .ref a2, .ref a3, .int sp, .long lk])), (a1, .inl (e1, 1440, .inl f1)), (a3, .inl (e3, 1001, .inr (.inl g)))]) rfl rfl (by decide) (by decide) (fun r_46 u_46 H locs hw_46 hP hD hK1 hS => ?_)
            have hw_46 : r_46 = bi (0 ≤ x_41 ∧ x_41 ≤ 1000) := hw_46
            have hP : va_P (dC, dI) classes [(h0, .inr (3, [.ref a1, .ref a2, .ref a3, .int sp, .long lk])), (a1, .inl (e1, 1440, .inl f1)), (a3, .inl (e3, 1001, .inr (.inl g)))] H := hP
            have hD : va_D A [(h0, .inr (3, [.ref a1, .ref a2, .ref a3, .int sp, .long lk])), (a1, .inl (e1, 1440, .inl f1)), (a3, .inl (e3, 1001, .inr (.inl g)))] := hD
            refine lv_if_eq (tgt := 64) hx hb d_Tf_measureRoom_49 (by decide) (fun c_49 => ?_) (fun c_49 => ?_)
            · have c_49 := bi_n (hw_46.symm.trans c_49)
              obtain ⟨x_64, ex_64⟩ : ∃ y : Int32, y = i + 1 := ⟨_, rfl⟩
              refine lv_iinc (v := x_64) (lv' := [(3, .int x_64), (4, .int x_41), (0, .ref h0), (1, .int p0), (2, .int p1)]) hx hb d_Tf_measureRoom_64 hl (k := 4) rfl (by rw [ex_64]; rfl) (by decide) rfl (fun ls hl => ?_)
              refine lv_goto (tgt := 24) hx hb d_Tf_measureRoom_67 (by decide) ?_
              exact ih.2 x_64 g _ _ _ ((ii0 1440 h_i c_33 ex_64).1) (by have h9 := (ii0 1440 h_i c_33 ex_64).2; have h8 := i32nle c_26; omega) (mr_d h_r h_i c_33 ex_64 ex_41 c_49) (by have h9 := (ii0 1440 h_i c_33 ex_64).2; have h8 : (1440 : Int32).toInt = 1440 := (by decide); omega) (hP.sub [0, 1, 2] rfl) (hD.sub [0, 1, 2] (by decide) rfl) hS (lv_sub hl [2, 3, 4, 0] rfl)
            · have c_49 := bi_y hw_46 c_49
              refine lv_aload_n hx hb d_Tf_measureRoom_52 rfl (lv_at hl 1 rfl) ?_
              refine va_get (D := (dC, dI)) (ci := 3) (v := .ref a3) (C := R_Tf) (T := F_Tf) (N := 5) hx hb hB inC_Tf hown hK hP 0 rfl rfl 2 (by decide) (hB _ kb_84) (fun _ h9 => h9) rfl d_Tf_measureRoom_53 ?_
              refine lv_iload hx hb d_Tf_measureRoom_56 (lv_at hl 0 rfl) ?_
              refine lv_dup2_11 hx hb d_Tf_measureRoom_58 rfl rfl ?_
              have h_59 : vp_in x_41 1001 := vinC 1000 c_49.1 (Int32.not_lt.mpr c_49.2) (by decide)
              refine va_lald hx hb hK hP 2 1 rfl rfl h_59 d_Tf_measureRoom_59 ?_
              refine lv_topl (fun x_59 ex_59 => ?_)
              refine lv_iload_n hx hb d_Tf_measureRoom_60 rfl (lv_at hl 3 rfl) ?_
              refine lv_i2l hx hb d_Tf_measureRoom_61 rfl ?_
              refine lv_topl (fun x_61 ex_61 => ?_)
              refine lv_ladd hx hb d_Tf_measureRoom_62 ?_
              refine lv_topl (fun x_62 ex_62 => ?_)
              have h_63 : vp_in x_41 1001 := vinC 1000 c_49.1 (Int32.not_lt.mpr c_49.2) (by decide)
              refine va_last hx hb hK hP hD hS 2 1 rfl rfl h_63 d_Tf_measureRoom_63 (fun H locs hP hD hS => ?_)
              obtain ⟨f_63, ef_63⟩ : ∃ y, y = vp_updL g x_41.toNatClampNeg x_62 := ⟨_, rfl⟩
              rw [← ef_63] at hP hD
              have hP : va_P (dC, dI) classes [(h0, .inr (3, [.ref a1, .ref a2, .ref a3, .int sp, .long lk])), (a1, .inl (e1, 1440, .inl f1)), (a3, .inl (e3, 1001, .inr (.inl f_63)))] H := hP
              have hD : va_D A [(h0, .inr (3, [.ref a1, .ref a2, .ref a3, .int sp, .long lk])), (a1, .inl (e1, 1440, .inl f1)), (a3, .inl (e3, 1001, .inr (.inl f_63)))] := hD
              obtain ⟨x_64, ex_64⟩ : ∃ y : Int32, y = i + 1 := ⟨_, rfl⟩
              refine lv_iinc (v := x_64) (lv' := [(3, .int x_64), (4, .int x_41), (0, .ref h0), (1, .int p0), (2, .int p1)]) hx hb d_Tf_measureRoom_64 hl (k := 4) rfl (by rw [ex_64]; rfl) (by decide) rfl (fun ls hl => ?_)
              refine lv_goto (tgt := 24) hx hb d_Tf_measureRoom_67 (by decide) ?_
              exact ih.2 x_64 f_63 _ _ _ ((ii0 1440 h_i c_33 ex_64).1) (by have h9 := (ii0 1440 h_i c_33 ex_64).2; have h8 := i32nle c_26; omega) (mr_c h_r hm h_i c_33 ex_64 ex_41 c_49 ex_59 ex_61 ex_62 ef_63) (by have h9 := (ii0 1440 h_i c_33 ex_64).2; have h8 : (1440 : Int32).toInt = 1440 := (by decide); omega) (hP.sub [0, 1, 2] rfl) (hD.sub [0, 1, 2] (by decide) rfl) hS (lv_sub hl [2, 3, 4, 0] rfl)
  refine lv_iconst (v := 0) hx hb d_Tf_measureRoom_0 (by decide) ?_
  refine lv_istore_n (lv' := [(3, .int 0), (0, .ref h0), (1, .int p0), (2, .int p1)]) hx hb d_Tf_measureRoom_1 rfl hl (by decide) rfl (fun ls hl => ?_)
  exact (cut 3002).1 0 f3 _ _ _ (le0) (by intro c hc; have h8 : (0 : Int32).toInt = 0 := (by decide); omega) (by decide) (hP.sub [0, 1, 2] rfl) (hD.sub [0, 1, 2] (by decide) rfl) hS (lv_sub hl [1, 2, 3, 0] rfl)
set_option maxHeartbeats 4000000 in
set_option maxRecDepth 100000 in
theorem c_Tf_buyCheapest (l : Launch) (dC : Nat → ClassId) (dI : Nat → Nat → Nat) (h0 : Nat) (a1 : Nat) (a2 : Nat) (a3 : Nat) (e3 : ClassId) (sz : Nat) (sp : Int32) (lk : Int64) (f3 : Nat → Int64) (RR : Nat → Nat) (p0 : Int64) (hw : 0 ≤ p0.toInt ∧ p0.toInt ≤ 1000000) (hR : ∀ c : Nat, c ≤ 1000 → f3 c = lN (RR c)) (hRb : ∀ c, RR c < 2 ^ 62) : Met l y_Tf_buyCheapest w_Tf_buyCheapest ({ frames := 1, cells := 0, slots := 0, locals := 23 }) (cPre dC dI [.ref h0, .long p0] sz [(e3, .long)] [(h0, .inr (3, [.ref a1, .ref a2, .ref a3, .int sp, .long lk])), (a3, .inl (e3, 1001, .inr (.inl f3)))]) (va_Ql (fun (r : Int64) (u : Int64 × (Nat → Int64)) => (u.1 = lN (lf RR p0.toInt.toNat 1001) ∧ r = lN (kost RR p0.toInt.toNat 1001)) ∧ ∀ c : Nat, c ≤ 1000 → u.2 c = lN (min (lf RR p0.toInt.toNat c) (RR c))) (fun (u : Int64 × (Nat → Int64)) (t : State) => cB dC dI (va_A [(h0, .inr (3, [.ref a1, .ref a2, .ref a3, .int sp, .long lk])), (a3, .inl (e3, 1001, .inr (.inl f3)))] sz) [(e3, .long)] [(h0, .inr (3, [.ref a1, .ref a2, .ref a3, .int sp, .long u.1])), (a3, .inl (e3, 1001, .inr (.inl (u.2))))] t) (va_A [(h0, .inr (3, [.ref a1, .ref a2, .ref a3, .int sp, .long lk])), (a3, .inl (e3, 1001, .inr (.inl f3)))] sz)) 0 0 (va_A [(h0, .inr (3, [.ref a1, .ref a2, .ref a3, .int sp, .long lk])), (a3, .inl (e3, 1001, .inr (.inl f3)))] sz) := by
  refine Met.ofW (cc := b_Tf_buyCheapest) (maxL := 10) (ret := (some .long)) (by decide) rfl ?_
  intro p e s m args below meth c s₁ B hml hv
  obtain ⟨rfl, hsz, hN, hP, hK, hD0⟩ := hv
  have hx := B.exec
  have hb := B.bytes
  have hr := B.returns
  have hts := atoms_spec (ws := w_Tf_buyCheapest) B.pre
  have hB := big_of hts
  have hown : s.vm.findClass R_Tf = some m.cls := findClass_of_methodNamed B.named
  have hlocks := B.notSynchronized
  subst hsz
  have hD := hD0.self (sz := s.heap.size)
  generalize hAe : va_A [(h0, .inr (3, [.ref a1, .ref a2, .ref a3, .int sp, .long lk])), (a3, .inl (e3, 1001, .inr (.inl f3)))] s.heap.size = A at hD ⊢
  have hA : ∀ q : Nat, s.heap.size ≤ q → A q := fun q h => by rw [← hAe]; exact Or.inr h
  have hS : va_S A s.heap s.heap [] := va_S.rf
  have hP : va_P (dC, dI) classes [(h0, .inr (3, [.ref a1, .ref a2, .ref a3, .int sp, .long lk])), (a3, .inl (e3, 1001, .inr (.inl f3)))] s.heap := hP
  have hl := lv_entry ([.ref h0, .long p0]) (n := 10) (Nat.le_of_ble_eq_true rfl)
  rw [lg_entry_eq]
  generalize (lg_sl ([.ref h0, .long p0]) ++ List.replicate (10 - (lg_sl ([.ref h0, .long p0])).length) Slot.unset).toArray = ls at hl ⊢
  have hl : lv_has ls 10 [(0, .ref h0), (1, .long p0)] := hl
  have cut : ∀ n : Nat, (∀ (lft : Int64) (ct : Int64) (i : Int32) (g : Nat → Int64) (H : Heap) (locs : List Loc) (ls : Array Slot), (0 ≤ i) → (i.toInt ≤ 1001) → (lft = lN (lf RR p0.toInt.toNat i.toInt.toNat) ∧ ct = lN (kost RR p0.toInt.toNat i.toInt.toNat)) → (∀ c : Nat, (c : Int) < i.toInt → g c = lN (min (lf RR p0.toInt.toNat c) (RR c))) → (∀ c : Nat, i.toInt ≤ c → c ≤ 1000 → g c = lN (RR c)) → (1001 - i.toInt).toNat < n → va_P (dC, dI) classes [(h0, .inr (3, [.ref a1, .ref a2, .ref a3, .int sp, .long lk])), (a3, .inl (e3, 1001, .inr (.inl g)))] H → va_D A [(h0, .inr (3, [.ref a1, .ref a2, .ref a3, .int sp, .long lk])), (a3, .inl (e3, 1001, .inr (.inl g)))] → va_S A s.heap H locs → lv_has ls 10 [(0, .ref h0), (1, .long p0), (3, .long lft), (5, .long ct), (7, .int i)] → W p l e (headSpec w_Tf_buyCheapest ({ frames := 1, cells := 0, slots := 0, locals := 23 })).room s m (List.toArray [.ref h0, .long p0]) below meth c H locs 0 0 (MQ below (va_Ql (fun (r : Int64) (u : Int64 × (Nat → Int64)) => (u.1 = lN (lf RR p0.toInt.toNat 1001) ∧ r = lN (kost RR p0.toInt.toNat 1001)) ∧ ∀ c : Nat, c ≤ 1000 → u.2 c = lN (min (lf RR p0.toInt.toNat c) (RR c))) (fun (u : Int64 × (Nat → Int64)) (t : State) => cB dC dI A [(e3, .long)] [(h0, .inr (3, [.ref a1, .ref a2, .ref a3, .int sp, .long u.1])), (a3, .inl (e3, 1001, .inr (.inl (u.2))))] t) A) (List.toArray [.ref h0, .long p0]) s 0 0 A) (F0 m 8 ls [])) := by
    intro n
    induction n with
    | zero => intros; first | exact (Nat.not_lt_zero _ (by assumption)).elim | omega
    | succ n ih =>
      intro lft ct i g H locs ls h_i h_i2 h_l h_a h_b hmu hP hD hS hl
      refine lv_iload hx hb d_Tf_buyCheapest_8 (lv_at hl 4 rfl) ?_
      refine lv_sipush (v := 1000) hx hb d_Tf_buyCheapest_10 (by decide) ?_
      refine lv_icmp_gt (tgt := 60) hx hb d_Tf_buyCheapest_13 (by decide) (fun c_13 => ?_) (fun c_13 => ?_)
      · skip
        refine lv_aload_n hx hb d_Tf_buyCheapest_60 rfl (lv_at hl 0 rfl) ?_
        refine lv_lload_n hx hb d_Tf_buyCheapest_61 rfl (lv_at hl 2 rfl) ?_
        refine va_put (D := (dC, dI)) (ci := 3) (v := .long lft) (ty := .long) (C := R_Tf) (T := F_Tf) (N := 5) hx hb hB inC_Tf t_Tf t_Tf_ok n_Tf hown hK hP hD hS 0 rfl rfl 4 (by decide) (hB _ kb_89) (fun _ h9 => h9) rfl (by decide +kernel) rfl rfl (Nat.le_of_ble_eq_true rfl) d_Tf_buyCheapest_62 (fun H locs hP hD hS => ?_)
        have hP : va_P (dC, dI) classes [(h0, .inr (3, [.ref a1, .ref a2, .ref a3, .int sp, .long lft])), (a3, .inl (e3, 1001, .inr (.inl g)))] H := hP
        have hD : va_D A [(h0, .inr (3, [.ref a1, .ref a2, .ref a3, .int sp, .long lft])), (a3, .inl (e3, 1001, .inr (.inl g)))] := hD
        refine lv_lload hx hb d_Tf_buyCheapest_65 (lv_at hl 3 rfl) ?_
        have hP9 := hP.sub (ws' := [(h0, .inr (3, [.ref a1, .ref a2, .ref a3, .int sp, .long lft])), (a3, .inl (e3, 1001, .inr (.inl g)))]) [0, 1] rfl
        have hD9 := hD.sub (ws' := [(h0, .inr (3, [.ref a1, .ref a2, .ref a3, .int sp, .long lft])), (a3, .inl (e3, 1001, .inr (.inl g)))]) [0, 1] (by decide) rfl
        have hK9 := hK.sub (tys' := [(e3, .long)]) [0] rfl
        exact W.lret (v := ct) hx hb hr (fun t ht hW => ⟨⟨ct, (lft, g), rfl, by have h9 := bc_e h_i2 c_13; rw [h9] at h_l; exact ⟨h_l, fun c hc => h_a c (by omega)⟩, by rw [ht]; exact hP9, va_K.moved hW.alike hK9, hD9⟩, hS.F ht⟩) hS.2.2 d_Tf_buyCheapest_67
      · skip
        refine lv_lload_n hx hb d_Tf_buyCheapest_16 rfl (lv_at hl 2 rfl) ?_
        refine lv_aload_n hx hb d_Tf_buyCheapest_17 rfl (lv_at hl 0 rfl) ?_
        refine va_get (D := (dC, dI)) (ci := 3) (v := .ref a3) (C := R_Tf) (T := F_Tf) (N := 5) hx hb hB inC_Tf hown hK hP 0 rfl rfl 2 (by decide) (hB _ kb_84) (fun _ h9 => h9) rfl d_Tf_buyCheapest_18 ?_
        refine lv_iload hx hb d_Tf_buyCheapest_21 (lv_at hl 4 rfl) ?_
        have h_23 : vp_in i 1001 := vinC 1000 h_i c_13 (by decide)
        refine va_lald hx hb hK hP 1 0 rfl rfl h_23 d_Tf_buyCheapest_23 ?_
        refine lv_topl (fun x_23 ex_23 => ?_)
        refine va_mmin_long hx hb (by rw [hml]; exact hl.1.symm) hown (hB _ kb_90) (hB _ kb_91) (hB _ kb_41) (hB _ kb_92) (Nat.le_of_ble_eq_true rfl) (Nat.le_of_ble_eq_true rfl) (Nat.le_of_ble_eq_true rfl) (Nat.le_of_ble_eq_true rfl) d_Tf_buyCheapest_24 ?_
        refine lv_topl (fun x_24 ex_24 => ?_)
        refine lv_lstore (lv' := [(8, .long x_24), (0, .ref h0), (1, .long p0), (3, .long lft), (5, .long ct), (7, .int i)]) hx hb d_Tf_buyCheapest_27 hl (by decide) rfl (fun ls hl => ?_)
        refine lv_aload_n hx hb d_Tf_buyCheapest_29 rfl (lv_at hl 1 rfl) ?_
        refine va_get (D := (dC, dI)) (ci := 3) (v := .ref a3) (C := R_Tf) (T := F_Tf) (N := 5) hx hb hB inC_Tf hown hK hP 0 rfl rfl 2 (by decide) (hB _ kb_84) (fun _ h9 => h9) rfl d_Tf_buyCheapest_30 ?_
        refine lv_iload hx hb d_Tf_buyCheapest_33 (lv_at hl 5 rfl) ?_
        refine lv_lload hx hb d_Tf_buyCheapest_35 (lv_at hl 0 rfl) ?_
        have h_37 : vp_in i 1001 := vinC 1000 h_i c_13 (by decide)
        refine va_last hx hb hK hP hD hS 1 0 rfl rfl h_37 d_Tf_buyCheapest_37 (fun H locs hP hD hS => ?_)
        obtain ⟨f_37, ef_37⟩ : ∃ y, y = vp_updL g i.toNatClampNeg x_24 := ⟨_, rfl⟩
        rw [← ef_37] at hP hD
        have hP : va_P (dC, dI) classes [(h0, .inr (3, [.ref a1, .ref a2, .ref a3, .int sp, .long lk])), (a3, .inl (e3, 1001, .inr (.inl f_37)))] H := hP
        have hD : va_D A [(h0, .inr (3, [.ref a1, .ref a2, .ref a3, .int sp, .long lk])), (a3, .inl (e3, 1001, .inr (.inl f_37)))] := hD
        refine lv_lload_n hx hb d_Tf_buyCheapest_38 rfl (lv_at hl 3 rfl) ?_
        refine lv_lload hx hb d_Tf_buyCheapest_39 (lv_at hl 0 rfl) ?_
        refine lv_lsub hx hb d_Tf_buyCheapest_41 ?_
        refine lv_topl (fun x_41 ex_41 => ?_)
        refine lv_lstore_n (lv' := [(3, .long x_41), (8, .long x_24), (0, .ref h0), (1, .long p0), (5, .long ct), (7, .int i)]) hx hb d_Tf_buyCheapest_42 rfl hl (by decide) rfl (fun ls hl => ?_)
        refine lv_lload hx hb d_Tf_buyCheapest_43 (lv_at hl 4 rfl) ?_
        refine lv_lload hx hb d_Tf_buyCheapest_45 (lv_at hl 1 rfl) ?_
        refine lv_iload hx hb d_Tf_buyCheapest_47 (lv_at hl 5 rfl) ?_
        refine lv_i2l hx hb d_Tf_buyCheapest_49 rfl ?_
        refine lv_topl (fun x_49 ex_49 => ?_)
        refine lv_lmul hx hb d_Tf_buyCheapest_50 ?_
        refine lv_topl (fun x_50 ex_50 => ?_)
        refine lv_ladd hx hb d_Tf_buyCheapest_51 ?_
        refine lv_topl (fun x_51 ex_51 => ?_)
        refine lv_lstore (lv' := [(5, .long x_51), (3, .long x_41), (8, .long x_24), (0, .ref h0), (1, .long p0), (7, .int i)]) hx hb d_Tf_buyCheapest_52 hl (by decide) rfl (fun ls hl => ?_)
        obtain ⟨x_54, ex_54⟩ : ∃ y : Int32, y = i + 1 := ⟨_, rfl⟩
        refine lv_iinc (v := x_54) (lv' := [(7, .int x_54), (5, .long x_51), (3, .long x_41), (8, .long x_24), (0, .ref h0), (1, .long p0)]) hx hb d_Tf_buyCheapest_54 hl (k := 5) rfl (by rw [ex_54]; rfl) (by decide) rfl (fun ls hl => ?_)
        refine lv_goto (tgt := 8) hx hb d_Tf_buyCheapest_57 (by decide) ?_
        exact ih x_41 x_51 x_54 f_37 _ _ _ ((ij0 1000 h_i c_13 (by decide) ex_54).1) (by have h9 := (ij0 1000 h_i c_13 (by decide) ex_54).2; have h8 : (1000 : Int32).toInt = 1000 := (by decide); omega) ((bc_s (by omega) hRb h_i c_13 h_l.1 h_l.2 h_a h_b ex_23 ex_24 ef_37 ex_41 ex_49 ex_50 ex_51 ex_54).1) ((bc_s (by omega) hRb h_i c_13 h_l.1 h_l.2 h_a h_b ex_23 ex_24 ef_37 ex_41 ex_49 ex_50 ex_51 ex_54).2.1) ((bc_s (by omega) hRb h_i c_13 h_l.1 h_l.2 h_a h_b ex_23 ex_24 ef_37 ex_41 ex_49 ex_50 ex_51 ex_54).2.2) (by have h9 := (ij0 1000 h_i c_13 (by decide) ex_54).2; have h8 : (1000 : Int32).toInt = 1000 := (by decide); omega) (hP.sub [0, 1] rfl) (hD.sub [0, 1] (by decide) rfl) hS (lv_sub hl [4, 5, 2, 1, 0] rfl)
  refine lv_lload_n hx hb d_Tf_buyCheapest_0 rfl (lv_at hl 1 rfl) ?_
  refine lv_lstore_n (lv' := [(3, .long p0), (0, .ref h0), (1, .long p0)]) hx hb d_Tf_buyCheapest_1 rfl hl (by decide) rfl (fun ls hl => ?_)
  refine lv_lconst (v := 0) hx hb d_Tf_buyCheapest_2 (by decide) ?_
  refine lv_lstore (lv' := [(5, .long 0), (3, .long p0), (0, .ref h0), (1, .long p0)]) hx hb d_Tf_buyCheapest_3 hl (by decide) rfl (fun ls hl => ?_)
  refine lv_iconst (v := 0) hx hb d_Tf_buyCheapest_5 (by decide) ?_
  refine lv_istore (lv' := [(7, .int 0), (5, .long 0), (3, .long p0), (0, .ref h0), (1, .long p0)]) hx hb d_Tf_buyCheapest_6 hl (by decide) rfl (fun ls hl => ?_)
  exact (cut 1002) p0 0 0 f3 _ _ _ (le0) (by decide) ((bc_0 hw.1 hR).1) ((bc_0 hw.1 hR).2.1) ((bc_0 hw.1 hR).2.2) (by decide) (hP.sub [0, 1] rfl) (hD.sub [0, 1] (by decide) rfl) hS (lv_sub hl [3, 4, 2, 1, 0] rfl)
set_option maxHeartbeats 4000000 in
set_option maxRecDepth 100000 in
theorem c_Tf_spread (l : Launch) (dC : Nat → ClassId) (dI : Nat → Nat → Nat) (h0 : Nat) (a1 : Nat) (a2 : Nat) (a3 : Nat) (e1 : ClassId) (e2 : ClassId) (e3 : ClassId) (sz : Nat) (sp : Int32) (lk : Int64) (f1 : Nat → Int32) (f2 : Nat → Int32) (f3 : Nat → Int64) (BB : Nat → Nat) (p0 : Int32) (p1 : Int32) (hu : 0 ≤ p0.toInt ∧ p0.toInt ≤ 1440) (hm : 0 ≤ p1.toInt) (hF : ∀ c : Nat, c ≤ 1000 → f3 c = lN (BB c)) (hBb : ∀ c, BB c < 2 ^ 62) : Met l y_Tf_spread w_Tf_spread ({ frames := 1, cells := 0, slots := 0, locals := 23 }) (cPre dC dI [.ref h0, .int p0, .int p1] sz [(e1, .int), (e2, .int), (e3, .long)] [(h0, .inr (3, [.ref a1, .ref a2, .ref a3, .int sp, .long lk])), (a1, .inl (e1, 1440, .inl f1)), (a2, .inl (e2, 1440, .inl f2)), (a3, .inl (e3, 1001, .inr (.inl f3)))]) (va_Qv (fun (u : (Nat → Int32) × (Nat → Int64)) => ∀ k : Nat, k < 1440 → u.1 k = nI (Us f1 p1.toInt.toNat p0.toInt.toNat BB k)) (fun (u : (Nat → Int32) × (Nat → Int64)) (t : State) => cB dC dI (va_A [(h0, .inr (3, [.ref a1, .ref a2, .ref a3, .int sp, .long lk])), (a1, .inl (e1, 1440, .inl f1)), (a2, .inl (e2, 1440, .inl f2)), (a3, .inl (e3, 1001, .inr (.inl f3)))] sz) [(e1, .int), (e2, .int), (e3, .long)] [(h0, .inr (3, [.ref a1, .ref a2, .ref a3, .int sp, .long lk])), (a1, .inl (e1, 1440, .inl f1)), (a2, .inl (e2, 1440, .inl (u.1))), (a3, .inl (e3, 1001, .inr (.inl (u.2))))] t) (va_A [(h0, .inr (3, [.ref a1, .ref a2, .ref a3, .int sp, .long lk])), (a1, .inl (e1, 1440, .inl f1)), (a2, .inl (e2, 1440, .inl f2)), (a3, .inl (e3, 1001, .inr (.inl f3)))] sz)) 0 0 (va_A [(h0, .inr (3, [.ref a1, .ref a2, .ref a3, .int sp, .long lk])), (a1, .inl (e1, 1440, .inl f1)), (a2, .inl (e2, 1440, .inl f2)), (a3, .inl (e3, 1001, .inr (.inl f3)))] sz) := by
  refine Met.ofW (cc := b_Tf_spread) (maxL := 6) (ret := none) (by decide) rfl ?_
  intro p e s m args below meth c s₁ B hml hv
  obtain ⟨rfl, hsz, hN, hP, hK, hD0⟩ := hv
  have hx := B.exec
  have hb := B.bytes
  have hr := B.returns
  have hts := atoms_spec (ws := w_Tf_spread) B.pre
  have hB := big_of hts
  have hown : s.vm.findClass R_Tf = some m.cls := findClass_of_methodNamed B.named
  have hlocks := B.notSynchronized
  subst hsz
  have hD := hD0.self (sz := s.heap.size)
  generalize hAe : va_A [(h0, .inr (3, [.ref a1, .ref a2, .ref a3, .int sp, .long lk])), (a1, .inl (e1, 1440, .inl f1)), (a2, .inl (e2, 1440, .inl f2)), (a3, .inl (e3, 1001, .inr (.inl f3)))] s.heap.size = A at hD ⊢
  have hA : ∀ q : Nat, s.heap.size ≤ q → A q := fun q h => by rw [← hAe]; exact Or.inr h
  have hS : va_S A s.heap s.heap [] := va_S.rf
  have hP : va_P (dC, dI) classes [(h0, .inr (3, [.ref a1, .ref a2, .ref a3, .int sp, .long lk])), (a1, .inl (e1, 1440, .inl f1)), (a2, .inl (e2, 1440, .inl f2)), (a3, .inl (e3, 1001, .inr (.inl f3)))] s.heap := hP
  have hl := lv_entry ([.ref h0, .int p0, .int p1]) (n := 6) (Nat.le_of_ble_eq_true rfl)
  rw [lg_entry_eq]
  generalize (lg_sl ([.ref h0, .int p0, .int p1]) ++ List.replicate (6 - (lg_sl ([.ref h0, .int p0, .int p1])).length) Slot.unset).toArray = ls at hl ⊢
  have hl : lv_has ls 6 [(0, .ref h0), (1, .int p0), (2, .int p1)] := hl
  have cut : ∀ n : Nat, (∀ (i : Int32) (g : Nat → Int32) (gl : Nat → Int64) (H : Heap) (locs : List Loc) (ls : Array Slot), (0 ≤ i) → (i.toInt ≤ 1440) → (∀ k : Nat, (k : Int) < i.toInt → g k = nI (Us f1 p1.toInt.toNat p0.toInt.toNat BB k)) → (∀ c : Nat, c ≤ 1000 → gl c = lN (BB c - p1.toInt.toNat * cnt f1 (nI c) (min i.toInt.toNat p0.toInt.toNat))) → (1440 - i.toInt).toNat < n → va_P (dC, dI) classes [(h0, .inr (3, [.ref a1, .ref a2, .ref a3, .int sp, .long lk])), (a1, .inl (e1, 1440, .inl f1)), (a2, .inl (e2, 1440, .inl g)), (a3, .inl (e3, 1001, .inr (.inl gl)))] H → va_D A [(h0, .inr (3, [.ref a1, .ref a2, .ref a3, .int sp, .long lk])), (a1, .inl (e1, 1440, .inl f1)), (a2, .inl (e2, 1440, .inl g)), (a3, .inl (e3, 1001, .inr (.inl gl)))] → va_S A s.heap H locs → lv_has ls 6 [(0, .ref h0), (1, .int p0), (2, .int p1), (3, .int i)] → W p l e (headSpec w_Tf_spread ({ frames := 1, cells := 0, slots := 0, locals := 23 })).room s m (List.toArray [.ref h0, .int p0, .int p1]) below meth c H locs 0 0 (MQ below (va_Qv (fun (u : (Nat → Int32) × (Nat → Int64)) => ∀ k : Nat, k < 1440 → u.1 k = nI (Us f1 p1.toInt.toNat p0.toInt.toNat BB k)) (fun (u : (Nat → Int32) × (Nat → Int64)) (t : State) => cB dC dI A [(e1, .int), (e2, .int), (e3, .long)] [(h0, .inr (3, [.ref a1, .ref a2, .ref a3, .int sp, .long lk])), (a1, .inl (e1, 1440, .inl f1)), (a2, .inl (e2, 1440, .inl (u.1))), (a3, .inl (e3, 1001, .inr (.inl (u.2))))] t) A) (List.toArray [.ref h0, .int p0, .int p1]) s 0 0 A) (F0 m 2 ls [])) := by
    intro n
    induction n with
    | zero => intros; first | exact (Nat.not_lt_zero _ (by assumption)).elim | omega
    | succ n ih =>
      intro i g gl H locs ls h_i h_i2 h_k h_g hmu hP hD hS hl
      refine lv_iload_n hx hb d_Tf_spread_2 rfl (lv_at hl 3 rfl) ?_
      refine lv_sipush (v := 1440) hx hb d_Tf_spread_3 (by decide) ?_
      refine lv_icmp_ge (tgt := 75) hx hb d_Tf_spread_6 (by decide) (fun c_6 => ?_) (fun c_6 => ?_)
      · skip
        have hP9 := hP.sub (ws' := [(h0, .inr (3, [.ref a1, .ref a2, .ref a3, .int sp, .long lk])), (a1, .inl (e1, 1440, .inl f1)), (a2, .inl (e2, 1440, .inl g)), (a3, .inl (e3, 1001, .inr (.inl gl)))]) [0, 1, 2, 3] rfl
        have hD9 := hD.sub (ws' := [(h0, .inr (3, [.ref a1, .ref a2, .ref a3, .int sp, .long lk])), (a1, .inl (e1, 1440, .inl f1)), (a2, .inl (e2, 1440, .inl g)), (a3, .inl (e3, 1001, .inr (.inl gl)))]) [0, 1, 2, 3] (by decide) rfl
        have hK9 := hK.sub (tys' := [(e1, .int), (e2, .int), (e3, .long)]) [0, 1, 2] rfl
        exact W.vret hx hb hr (fun t ht hW => ⟨⟨(g, gl), rfl, fun k hk => h_k k (by have h9 := c_6; rw [Int32.le_iff_toInt_le] at h9; have h8 : (1440 : Int32).toInt = 1440 := (by decide); omega), by rw [ht]; exact hP9, va_K.moved hW.alike hK9, hD9⟩, hS.F ht⟩) hS.2.2 d_Tf_spread_75
      · skip
        refine lv_aload_n hx hb d_Tf_spread_9 rfl (lv_at hl 0 rfl) ?_
        refine va_get (D := (dC, dI)) (ci := 3) (v := .ref a1) (C := R_Tf) (T := F_Tf) (N := 5) hx hb hB inC_Tf hown hK hP 0 rfl rfl 0 (by decide) (hB _ kb_80) (fun _ h9 => h9) rfl d_Tf_spread_10 ?_
        refine lv_iload_n hx hb d_Tf_spread_13 rfl (lv_at hl 3 rfl) ?_
        have h_14 : vp_in i 1440 := vinB 1440 h_i c_6 (by decide)
        refine va_iald hx hb hK hP 1 0 rfl rfl h_14 d_Tf_spread_14 ?_
        refine lv_topi (fun x_14 ex_14 => ?_)
        refine lv_istore (lv' := [(4, .int x_14), (0, .ref h0), (1, .int p0), (2, .int p1), (3, .int i)]) hx hb d_Tf_spread_15 hl (by decide) rfl (fun ls hl => ?_)
        refine lv_iconst (v := 0) hx hb d_Tf_spread_17 (by decide) ?_
        refine lv_istore (lv' := [(5, .int 0), (4, .int x_14), (0, .ref h0), (1, .int p0), (2, .int p1), (3, .int i)]) hx hb d_Tf_spread_18 hl (by decide) rfl (fun ls hl => ?_)
        refine lv_iload_n hx hb d_Tf_spread_20 rfl (lv_at hl 5 rfl) ?_
        refine lv_iload_n hx hb d_Tf_spread_21 rfl (lv_at hl 3 rfl) ?_
        refine lv_icmp_ge (tgt := 61) hx hb d_Tf_spread_22 (by decide) (fun c_22 => ?_) (fun c_22 => ?_)
        · skip
          refine lv_aload_n hx hb d_Tf_spread_61 rfl (lv_at hl 2 rfl) ?_
          refine va_get (D := (dC, dI)) (ci := 3) (v := .ref a2) (C := R_Tf) (T := F_Tf) (N := 5) hx hb hB inC_Tf hown hK hP 0 rfl rfl 1 (by decide) (hB _ kb_83) (fun _ h9 => h9) rfl d_Tf_spread_62 ?_
          refine lv_iload_n hx hb d_Tf_spread_65 rfl (lv_at hl 5 rfl) ?_
          refine lv_iload hx hb d_Tf_spread_66 (lv_at hl 0 rfl) ?_
          have h_68 : vp_in i 1440 := vinB 1440 h_i c_6 (by decide)
          refine va_iast hx hb hK hP hD hS 2 1 rfl rfl h_68 d_Tf_spread_68 (fun H locs hP hD hS => ?_)
          obtain ⟨f_68, ef_68⟩ : ∃ y, y = upd g i.toNatClampNeg 0 := ⟨_, rfl⟩
          rw [← ef_68] at hP hD
          have hP : va_P (dC, dI) classes [(h0, .inr (3, [.ref a1, .ref a2, .ref a3, .int sp, .long lk])), (a1, .inl (e1, 1440, .inl f1)), (a2, .inl (e2, 1440, .inl f_68)), (a3, .inl (e3, 1001, .inr (.inl gl)))] H := hP
          have hD : va_D A [(h0, .inr (3, [.ref a1, .ref a2, .ref a3, .int sp, .long lk])), (a1, .inl (e1, 1440, .inl f1)), (a2, .inl (e2, 1440, .inl f_68)), (a3, .inl (e3, 1001, .inr (.inl gl)))] := hD
          obtain ⟨x_69, ex_69⟩ : ∃ y : Int32, y = i + 1 := ⟨_, rfl⟩
          refine lv_iinc (v := x_69) (lv' := [(3, .int x_69), (5, .int 0), (4, .int x_14), (0, .ref h0), (1, .int p0), (2, .int p1)]) hx hb d_Tf_spread_69 hl (k := 5) rfl (by rw [ex_69]; rfl) (by decide) rfl (fun ls hl => ?_)
          refine lv_goto (tgt := 2) hx hb d_Tf_spread_72 (by decide) ?_
          exact ih x_69 f_68 gl _ _ _ ((ii0 1440 h_i c_6 ex_69).1) (by have h9 := (ii0 1440 h_i c_6 ex_69).2; have h8 : (1440 : Int32).toInt = 1440 := (by decide); omega) ((sp_b h_i c_6 hu.1 h_k h_g ex_14 (Or.inl c_22) ef_68 ex_69).1) ((sp_b h_i c_6 hu.1 h_k h_g ex_14 (Or.inl c_22) ef_68 ex_69).2) (by have h9 := (ii0 1440 h_i c_6 ex_69).2; have h8 : (1440 : Int32).toInt = 1440 := (by decide); omega) (hP.sub [0, 1, 2, 3] rfl) (hD.sub [0, 1, 2, 3] (by decide) rfl) hS (lv_sub hl [3, 4, 5, 0] rfl)
        · skip
          refine lv_iload hx hb d_Tf_spread_25 (lv_at hl 1 rfl) ?_
          refine kc_i (va_runS (As := [.int x_14]) (rest := []) ⟨hx, hb, hml, hown, hts⟩ (c_Tf_isPrice l dC dI  H.size  x_14 ) (cwS 1 hts (ginS kb_86 kb_87 kb_88 kb_85) rfl rfl rfl (by decide +kernel) ⟨Nat.le_of_ble_eq_true rfl, Nat.le_of_ble_eq_true rfl⟩) (preS (wc := []) hK hN hP hD [] rfl rfl (by decide) [] rfl) rfl rfl hl.1 rfl (lv_room (Nat.le_of_ble_eq_true rfl)) d_Tf_spread_27 ⟨Nat.le_of_ble_eq_true rfl, Nat.le_of_ble_eq_true rfl⟩) hP hD hS hA [] [0, 1, 2, 3] (wr := [(h0, .inr (3, [.ref a1, .ref a2, .ref a3, .int sp, .long lk])), (a1, .inl (e1, 1440, .inl f1)), (a2, .inl (e2, 1440, .inl g)), (a3, .inl (e3, 1001, .inr (.inl gl)))]) rfl rfl (by decide) (by decide) (fun r_27 u_27 H locs hw_27 hP hD hK1 hS => ?_)
          have hw_27 : r_27 = bi (0 ≤ x_14 ∧ x_14 ≤ 1000) := hw_27
          have hP : va_P (dC, dI) classes [(h0, .inr (3, [.ref a1, .ref a2, .ref a3, .int sp, .long lk])), (a1, .inl (e1, 1440, .inl f1)), (a2, .inl (e2, 1440, .inl g)), (a3, .inl (e3, 1001, .inr (.inl gl)))] H := hP
          have hD : va_D A [(h0, .inr (3, [.ref a1, .ref a2, .ref a3, .int sp, .long lk])), (a1, .inl (e1, 1440, .inl f1)), (a2, .inl (e2, 1440, .inl g)), (a3, .inl (e3, 1001, .inr (.inl gl)))] := hD
          refine lv_if_eq (tgt := 61) hx hb d_Tf_spread_30 (by decide) (fun c_30 => ?_) (fun c_30 => ?_)
          · have c_30 := bi_n (hw_27.symm.trans c_30)
            refine lv_aload_n hx hb d_Tf_spread_61 rfl (lv_at hl 2 rfl) ?_
            refine va_get (D := (dC, dI)) (ci := 3) (v := .ref a2) (C := R_Tf) (T := F_Tf) (N := 5) hx hb hB inC_Tf hown hK hP 0 rfl rfl 1 (by decide) (hB _ kb_83) (fun _ h9 => h9) rfl d_Tf_spread_62 ?_
            refine lv_iload_n hx hb d_Tf_spread_65 rfl (lv_at hl 5 rfl) ?_
            refine lv_iload hx hb d_Tf_spread_66 (lv_at hl 0 rfl) ?_
            have h_68 : vp_in i 1440 := vinB 1440 h_i c_6 (by decide)
            refine va_iast hx hb hK hP hD hS 2 1 rfl rfl h_68 d_Tf_spread_68 (fun H locs hP hD hS => ?_)
            obtain ⟨f_68, ef_68⟩ : ∃ y, y = upd g i.toNatClampNeg 0 := ⟨_, rfl⟩
            rw [← ef_68] at hP hD
            have hP : va_P (dC, dI) classes [(h0, .inr (3, [.ref a1, .ref a2, .ref a3, .int sp, .long lk])), (a1, .inl (e1, 1440, .inl f1)), (a2, .inl (e2, 1440, .inl f_68)), (a3, .inl (e3, 1001, .inr (.inl gl)))] H := hP
            have hD : va_D A [(h0, .inr (3, [.ref a1, .ref a2, .ref a3, .int sp, .long lk])), (a1, .inl (e1, 1440, .inl f1)), (a2, .inl (e2, 1440, .inl f_68)), (a3, .inl (e3, 1001, .inr (.inl gl)))] := hD
            obtain ⟨x_69, ex_69⟩ : ∃ y : Int32, y = i + 1 := ⟨_, rfl⟩
            refine lv_iinc (v := x_69) (lv' := [(3, .int x_69), (5, .int 0), (4, .int x_14), (0, .ref h0), (1, .int p0), (2, .int p1)]) hx hb d_Tf_spread_69 hl (k := 5) rfl (by rw [ex_69]; rfl) (by decide) rfl (fun ls hl => ?_)
            refine lv_goto (tgt := 2) hx hb d_Tf_spread_72 (by decide) ?_
            exact ih x_69 f_68 gl _ _ _ ((ii0 1440 h_i c_6 ex_69).1) (by have h9 := (ii0 1440 h_i c_6 ex_69).2; have h8 : (1440 : Int32).toInt = 1440 := (by decide); omega) ((sp_b h_i c_6 hu.1 h_k h_g ex_14 (Or.inr c_30) ef_68 ex_69).1) ((sp_b h_i c_6 hu.1 h_k h_g ex_14 (Or.inr c_30) ef_68 ex_69).2) (by have h9 := (ii0 1440 h_i c_6 ex_69).2; have h8 : (1440 : Int32).toInt = 1440 := (by decide); omega) (hP.sub [0, 1, 2, 3] rfl) (hD.sub [0, 1, 2, 3] (by decide) rfl) hS (lv_sub hl [3, 4, 5, 0] rfl)
          · have c_30 := bi_y hw_27 c_30
            refine lv_iload_n hx hb d_Tf_spread_33 rfl (lv_at hl 4 rfl) ?_
            refine lv_i2l hx hb d_Tf_spread_34 rfl ?_
            refine lv_topl (fun x_34 ex_34 => ?_)
            refine lv_aload_n hx hb d_Tf_spread_35 rfl (lv_at hl 2 rfl) ?_
            refine va_get (D := (dC, dI)) (ci := 3) (v := .ref a3) (C := R_Tf) (T := F_Tf) (N := 5) hx hb hB inC_Tf hown hK hP 0 rfl rfl 2 (by decide) (hB _ kb_84) (fun _ h9 => h9) rfl d_Tf_spread_36 ?_
            refine lv_iload hx hb d_Tf_spread_39 (lv_at hl 1 rfl) ?_
            have h_41 : vp_in x_14 1001 := vinC 1000 c_30.1 (Int32.not_lt.mpr c_30.2) (by decide)
            refine va_lald hx hb hK hP 3 2 rfl rfl h_41 d_Tf_spread_41 ?_
            refine lv_topl (fun x_41 ex_41 => ?_)
            refine va_mmin_long hx hb (by rw [hml]; exact hl.1.symm) hown (hB _ kb_90) (hB _ kb_91) (hB _ kb_41) (hB _ kb_92) (Nat.le_of_ble_eq_true rfl) (Nat.le_of_ble_eq_true rfl) (Nat.le_of_ble_eq_true rfl) (Nat.le_of_ble_eq_true rfl) d_Tf_spread_42 ?_
            refine lv_topl (fun x_42 ex_42 => ?_)
            refine lv_l2i hx hb d_Tf_spread_45 rfl ?_
            refine lv_topi (fun x_45 ex_45 => ?_)
            refine lv_istore (lv' := [(5, .int x_45), (4, .int x_14), (0, .ref h0), (1, .int p0), (2, .int p1), (3, .int i)]) hx hb d_Tf_spread_46 hl (by decide) rfl (fun ls hl => ?_)
            refine lv_aload_n hx hb d_Tf_spread_48 rfl (lv_at hl 2 rfl) ?_
            refine va_get (D := (dC, dI)) (ci := 3) (v := .ref a3) (C := R_Tf) (T := F_Tf) (N := 5) hx hb hB inC_Tf hown hK hP 0 rfl rfl 2 (by decide) (hB _ kb_84) (fun _ h9 => h9) rfl d_Tf_spread_49 ?_
            refine lv_iload hx hb d_Tf_spread_52 (lv_at hl 1 rfl) ?_
            refine lv_dup2_11 hx hb d_Tf_spread_54 rfl rfl ?_
            have h_55 : vp_in x_14 1001 := vinC 1000 c_30.1 (Int32.not_lt.mpr c_30.2) (by decide)
            refine va_lald hx hb hK hP 3 2 rfl rfl h_55 d_Tf_spread_55 ?_
            refine lv_topl (fun x_55 ex_55 => ?_)
            refine lv_iload hx hb d_Tf_spread_56 (lv_at hl 0 rfl) ?_
            refine lv_i2l hx hb d_Tf_spread_58 rfl ?_
            refine lv_topl (fun x_58 ex_58 => ?_)
            refine lv_lsub hx hb d_Tf_spread_59 ?_
            refine lv_topl (fun x_59 ex_59 => ?_)
            have h_60 : vp_in x_14 1001 := vinC 1000 c_30.1 (Int32.not_lt.mpr c_30.2) (by decide)
            refine va_last hx hb hK hP hD hS 3 2 rfl rfl h_60 d_Tf_spread_60 (fun H locs hP hD hS => ?_)
            obtain ⟨f_60, ef_60⟩ : ∃ y, y = vp_updL gl x_14.toNatClampNeg x_59 := ⟨_, rfl⟩
            rw [← ef_60] at hP hD
            have hP : va_P (dC, dI) classes [(h0, .inr (3, [.ref a1, .ref a2, .ref a3, .int sp, .long lk])), (a1, .inl (e1, 1440, .inl f1)), (a2, .inl (e2, 1440, .inl g)), (a3, .inl (e3, 1001, .inr (.inl f_60)))] H := hP
            have hD : va_D A [(h0, .inr (3, [.ref a1, .ref a2, .ref a3, .int sp, .long lk])), (a1, .inl (e1, 1440, .inl f1)), (a2, .inl (e2, 1440, .inl g)), (a3, .inl (e3, 1001, .inr (.inl f_60)))] := hD
            refine lv_aload_n hx hb d_Tf_spread_61 rfl (lv_at hl 2 rfl) ?_
            refine va_get (D := (dC, dI)) (ci := 3) (v := .ref a2) (C := R_Tf) (T := F_Tf) (N := 5) hx hb hB inC_Tf hown hK hP 0 rfl rfl 1 (by decide) (hB _ kb_83) (fun _ h9 => h9) rfl d_Tf_spread_62 ?_
            refine lv_iload_n hx hb d_Tf_spread_65 rfl (lv_at hl 5 rfl) ?_
            refine lv_iload hx hb d_Tf_spread_66 (lv_at hl 0 rfl) ?_
            have h_68 : vp_in i 1440 := vinB 1440 h_i c_6 (by decide)
            refine va_iast hx hb hK hP hD hS 2 1 rfl rfl h_68 d_Tf_spread_68 (fun H locs hP hD hS => ?_)
            obtain ⟨f_68, ef_68⟩ : ∃ y, y = upd g i.toNatClampNeg x_45 := ⟨_, rfl⟩
            rw [← ef_68] at hP hD
            have hP : va_P (dC, dI) classes [(h0, .inr (3, [.ref a1, .ref a2, .ref a3, .int sp, .long lk])), (a1, .inl (e1, 1440, .inl f1)), (a2, .inl (e2, 1440, .inl f_68)), (a3, .inl (e3, 1001, .inr (.inl f_60)))] H := hP
            have hD : va_D A [(h0, .inr (3, [.ref a1, .ref a2, .ref a3, .int sp, .long lk])), (a1, .inl (e1, 1440, .inl f1)), (a2, .inl (e2, 1440, .inl f_68)), (a3, .inl (e3, 1001, .inr (.inl f_60)))] := hD
            obtain ⟨x_69, ex_69⟩ : ∃ y : Int32, y = i + 1 := ⟨_, rfl⟩
            refine lv_iinc (v := x_69) (lv' := [(3, .int x_69), (5, .int x_45), (4, .int x_14), (0, .ref h0), (1, .int p0), (2, .int p1)]) hx hb d_Tf_spread_69 hl (k := 5) rfl (by rw [ex_69]; rfl) (by decide) rfl (fun ls hl => ?_)
            refine lv_goto (tgt := 2) hx hb d_Tf_spread_72 (by decide) ?_
            exact ih x_69 f_68 f_60 _ _ _ ((ii0 1440 h_i c_6 ex_69).1) (by have h9 := (ii0 1440 h_i c_6 ex_69).2; have h8 : (1440 : Int32).toInt = 1440 := (by decide); omega) ((sp_a hBb hm h_i c_6 hu.2 h_k h_g ex_14 c_22 c_30 ex_34 ex_41 ex_42 ex_45 ex_55 ex_58 ex_59 ef_60 ef_68 ex_69).1) ((sp_a hBb hm h_i c_6 hu.2 h_k h_g ex_14 c_22 c_30 ex_34 ex_41 ex_42 ex_45 ex_55 ex_58 ex_59 ef_60 ef_68 ex_69).2) (by have h9 := (ii0 1440 h_i c_6 ex_69).2; have h8 : (1440 : Int32).toInt = 1440 := (by decide); omega) (hP.sub [0, 1, 2, 3] rfl) (hD.sub [0, 1, 2, 3] (by decide) rfl) hS (lv_sub hl [3, 4, 5, 0] rfl)
  refine lv_iconst (v := 0) hx hb d_Tf_spread_0 (by decide) ?_
  refine lv_istore_n (lv' := [(3, .int 0), (0, .ref h0), (1, .int p0), (2, .int p1)]) hx hb d_Tf_spread_1 rfl hl (by decide) rfl (fun ls hl => ?_)
  exact (cut 1441) 0 f2 f3 _ _ _ (le0) (by decide) (by intro k hk; have h8 : (0 : Int32).toInt = 0 := (by decide); omega) (sp_0 hF) (by decide) (hP.sub [0, 1, 2, 3] rfl) (hD.sub [0, 1, 2, 3] (by decide) rfl) hS (lv_sub hl [1, 2, 3, 0] rfl)
set_option maxHeartbeats 4000000 in
set_option maxRecDepth 100000 in
theorem c_Tf_makePlan (l : Launch) (dC : Nat → ClassId) (dI : Nat → Nat → Nat) (h0 : Nat) (a1 : Nat) (a2 : Nat) (a3 : Nat) (e1 : ClassId) (e2 : ClassId) (e3 : ClassId) (sz : Nat) (sp : Int32) (lk : Int64) (f1 : Nat → Int32) (f2 : Nat → Int32) (f3 : Nat → Int64) (p0 : Int64) (p1 : Int32) (p2 : Int32) (hw : 0 ≤ p0.toInt ∧ p0.toInt ≤ 1000000) (hu : 0 ≤ p1.toInt ∧ p1.toInt ≤ 1440) (hm : 0 ≤ p2.toInt ∧ p2.toInt ≤ 800) : Met l y_Tf_makePlan w_Tf_makePlan ({ frames := 2, cells := 0, slots := 0, locals := 52 }) (cPre dC dI [.ref h0, .long p0, .int p1, .int p2] sz [(e1, .int), (e2, .int), (e3, .long)] [(h0, .inr (3, [.ref a1, .ref a2, .ref a3, .int sp, .long lk])), (a1, .inl (e1, 1440, .inl f1)), (a2, .inl (e2, 1440, .inl f2)), (a3, .inl (e3, 1001, .inr (.inl f3)))]) (va_Ql (fun (r : Int64) (u : Int64 × (Nat → Int32) × (Nat → Int64)) => (u.1 = lN (lf (Rm f1 p2.toInt.toNat p1.toInt.toNat) p0.toInt.toNat 1001) ∧ r = lN (kost (Rm f1 p2.toInt.toNat p1.toInt.toNat) p0.toInt.toNat 1001)) ∧ ∀ k : Nat, k < 1440 → u.2.1 k = nI (Un f1 p2.toInt.toNat p1.toInt.toNat p0.toInt.toNat k)) (fun (u : Int64 × (Nat → Int32) × (Nat → Int64)) (t : State) => cB dC dI (va_A [(h0, .inr (3, [.ref a1, .ref a2, .ref a3, .int sp, .long lk])), (a1, .inl (e1, 1440, .inl f1)), (a2, .inl (e2, 1440, .inl f2)), (a3, .inl (e3, 1001, .inr (.inl f3)))] sz) [(e1, .int), (e2, .int), (e3, .long)] [(h0, .inr (3, [.ref a1, .ref a2, .ref a3, .int sp, .long u.1])), (a1, .inl (e1, 1440, .inl f1)), (a2, .inl (e2, 1440, .inl (u.2.1))), (a3, .inl (e3, 1001, .inr (.inl (u.2.2))))] t) (va_A [(h0, .inr (3, [.ref a1, .ref a2, .ref a3, .int sp, .long lk])), (a1, .inl (e1, 1440, .inl f1)), (a2, .inl (e2, 1440, .inl f2)), (a3, .inl (e3, 1001, .inr (.inl f3)))] sz)) 0 0 (va_A [(h0, .inr (3, [.ref a1, .ref a2, .ref a3, .int sp, .long lk])), (a1, .inl (e1, 1440, .inl f1)), (a2, .inl (e2, 1440, .inl f2)), (a3, .inl (e3, 1001, .inr (.inl f3)))] sz) := by
  refine Met.ofW (cc := b_Tf_makePlan) (maxL := 7) (ret := (some .long)) (by decide) rfl ?_
  intro p e s m args below meth c s₁ B hml hv
  obtain ⟨rfl, hsz, hN, hP, hK, hD0⟩ := hv
  have hx := B.exec
  have hb := B.bytes
  have hr := B.returns
  have hts := atoms_spec (ws := w_Tf_makePlan) B.pre
  have hB := big_of hts
  have hown : s.vm.findClass R_Tf = some m.cls := findClass_of_methodNamed B.named
  have hlocks := B.notSynchronized
  subst hsz
  have hD := hD0.self (sz := s.heap.size)
  generalize hAe : va_A [(h0, .inr (3, [.ref a1, .ref a2, .ref a3, .int sp, .long lk])), (a1, .inl (e1, 1440, .inl f1)), (a2, .inl (e2, 1440, .inl f2)), (a3, .inl (e3, 1001, .inr (.inl f3)))] s.heap.size = A at hD ⊢
  have hA : ∀ q : Nat, s.heap.size ≤ q → A q := fun q h => by rw [← hAe]; exact Or.inr h
  have hS : va_S A s.heap s.heap [] := va_S.rf
  have hP : va_P (dC, dI) classes [(h0, .inr (3, [.ref a1, .ref a2, .ref a3, .int sp, .long lk])), (a1, .inl (e1, 1440, .inl f1)), (a2, .inl (e2, 1440, .inl f2)), (a3, .inl (e3, 1001, .inr (.inl f3)))] s.heap := hP
  have hl := lv_entry ([.ref h0, .long p0, .int p1, .int p2]) (n := 7) (Nat.le_of_ble_eq_true rfl)
  rw [lg_entry_eq]
  generalize (lg_sl ([.ref h0, .long p0, .int p1, .int p2]) ++ List.replicate (7 - (lg_sl ([.ref h0, .long p0, .int p1, .int p2])).length) Slot.unset).toArray = ls at hl ⊢
  have hl : lv_has ls 7 [(0, .ref h0), (1, .long p0), (3, .int p1), (4, .int p2)] := hl
  refine lv_aload_n hx hb d_Tf_makePlan_0 rfl (lv_at hl 0 rfl) ?_
  refine lv_iload_n hx hb d_Tf_makePlan_1 rfl (lv_at hl 2 rfl) ?_
  refine lv_iload hx hb d_Tf_makePlan_2 (lv_at hl 3 rfl) ?_
  refine kc_v (va_runV (As := [.int p1, .int p2]) (rest := []) ⟨hx, hb, hml, hown, hts⟩ (c_Tf_measureRoom l dC dI h0 a1 a2 a3 e1 e3 s.heap.size sp lk f1 f3 p1 p2 (hu) (hm.1)) (cwV 2 hts (ginV kb_94 kb_95 kb_96 kb_88 kb_93) rfl rfl rfl (by decide +kernel) ⟨Nat.le_of_ble_eq_true rfl, Nat.le_of_ble_eq_true rfl⟩) (preV (ci := 3) (wc := [(h0, .inr (3, [.ref a1, .ref a2, .ref a3, .int sp, .long lk])), (a1, .inl (e1, 1440, .inl f1)), (a3, .inl (e3, 1001, .inr (.inl f3)))]) hK hN hP hD [0, 1, 3] rfl rfl (by decide) [0, 2] rfl rfl rfl) rfl rfl hl.1 rfl (lv_room (Nat.le_of_ble_eq_true rfl)) d_Tf_makePlan_4 ⟨Nat.le_of_ble_eq_true rfl, Nat.le_of_ble_eq_true rfl⟩) hP hD hS hA [0, 1, 3] [2] (wr := [(a2, .inl (e2, 1440, .inl f2))]) rfl rfl (by decide) (by decide) (fun u_4 H locs hw_4 hP hD hK1 hS => ?_)
  obtain ⟨f3b_4, rfl⟩ : ∃ z, z = u_4 := ⟨_, rfl⟩
  have hw_4 : ∀ c : Nat, c ≤ 1000 → f3b_4 c = lN (Rm f1 p2.toInt.toNat p1.toInt.toNat c) := hw_4
  have hP : va_P (dC, dI) classes [(a2, .inl (e2, 1440, .inl f2)), (h0, .inr (3, [.ref a1, .ref a2, .ref a3, .int sp, .long lk])), (a1, .inl (e1, 1440, .inl f1)), (a3, .inl (e3, 1001, .inr (.inl f3b_4)))] H := hP
  have hD : va_D A [(a2, .inl (e2, 1440, .inl f2)), (h0, .inr (3, [.ref a1, .ref a2, .ref a3, .int sp, .long lk])), (a1, .inl (e1, 1440, .inl f1)), (a3, .inl (e3, 1001, .inr (.inl f3b_4)))] := hD
  refine lv_aload_n hx hb d_Tf_makePlan_7 rfl (lv_at hl 0 rfl) ?_
  refine lv_lload_n hx hb d_Tf_makePlan_8 rfl (lv_at hl 1 rfl) ?_
  refine kc_l (va_runV (As := [.long p0]) (rest := []) ⟨hx, hb, hml, hown, hts⟩ (c_Tf_buyCheapest l dC dI h0 a1 a2 a3 e3 H.size sp lk f3b_4 (Rm f1 p2.toInt.toNat p1.toInt.toNat) p0 (hw) (hw_4) (fun c => Rm_b (by omega) (by omega))) (cwV 1 hts (ginV kb_98 kb_99 kb_100 kb_88 kb_97) rfl rfl rfl (by decide +kernel) ⟨Nat.le_of_ble_eq_true rfl, Nat.le_of_ble_eq_true rfl⟩) (preV (ci := 3) (wc := [(h0, .inr (3, [.ref a1, .ref a2, .ref a3, .int sp, .long lk])), (a3, .inl (e3, 1001, .inr (.inl f3b_4)))]) hK hN hP hD [1, 3] rfl rfl (by decide) [2] rfl rfl rfl) rfl rfl hl.1 rfl (lv_room (Nat.le_of_ble_eq_true rfl)) d_Tf_makePlan_9 ⟨Nat.le_of_ble_eq_true rfl, Nat.le_of_ble_eq_true rfl⟩) hP hD hS hA [1, 3] [0, 2] (wr := [(a2, .inl (e2, 1440, .inl f2)), (a1, .inl (e1, 1440, .inl f1))]) rfl rfl (by decide) (by decide) (fun r_9 u_9 H locs hw_9 hP hD hK1 hS => ?_)
  obtain ⟨lk2_9, f3b_9⟩ := u_9
  have hw_9 : (lk2_9 = lN (lf (Rm f1 p2.toInt.toNat p1.toInt.toNat) p0.toInt.toNat 1001) ∧ r_9 = lN (kost (Rm f1 p2.toInt.toNat p1.toInt.toNat) p0.toInt.toNat 1001)) ∧ ∀ c : Nat, c ≤ 1000 → f3b_9 c = lN (min (lf (Rm f1 p2.toInt.toNat p1.toInt.toNat) p0.toInt.toNat c) ((Rm f1 p2.toInt.toNat p1.toInt.toNat) c)) := hw_9
  have hP : va_P (dC, dI) classes [(a2, .inl (e2, 1440, .inl f2)), (a1, .inl (e1, 1440, .inl f1)), (h0, .inr (3, [.ref a1, .ref a2, .ref a3, .int sp, .long lk2_9])), (a3, .inl (e3, 1001, .inr (.inl f3b_9)))] H := hP
  have hD : va_D A [(a2, .inl (e2, 1440, .inl f2)), (a1, .inl (e1, 1440, .inl f1)), (h0, .inr (3, [.ref a1, .ref a2, .ref a3, .int sp, .long lk2_9])), (a3, .inl (e3, 1001, .inr (.inl f3b_9)))] := hD
  refine lv_lstore (lv' := [(5, .long r_9), (0, .ref h0), (1, .long p0), (3, .int p1), (4, .int p2)]) hx hb d_Tf_makePlan_12 hl (by decide) rfl (fun ls hl => ?_)
  refine lv_aload_n hx hb d_Tf_makePlan_14 rfl (lv_at hl 1 rfl) ?_
  refine lv_iload_n hx hb d_Tf_makePlan_15 rfl (lv_at hl 3 rfl) ?_
  refine lv_iload hx hb d_Tf_makePlan_16 (lv_at hl 4 rfl) ?_
  refine kc_v (va_runV (As := [.int p1, .int p2]) (rest := []) ⟨hx, hb, hml, hown, hts⟩ (c_Tf_spread l dC dI h0 a1 a2 a3 e1 e2 e3 H.size sp lk2_9 f1 f2 f3b_9 (fun c => min (lf (Rm f1 p2.toInt.toNat p1.toInt.toNat) p0.toInt.toNat c) ((Rm f1 p2.toInt.toNat p1.toInt.toNat) c)) p1 p2 (hu) (hm.1) (hw_9.2) (fun c => Nat.lt_of_le_of_lt (Nat.min_le_right _ _) (Rm_b (by omega) (by omega)))) (cwV 2 hts (ginV kb_102 kb_103 kb_104 kb_88 kb_101) rfl rfl rfl (by decide +kernel) ⟨Nat.le_of_ble_eq_true rfl, Nat.le_of_ble_eq_true rfl⟩) (preV (ci := 3) (wc := [(h0, .inr (3, [.ref a1, .ref a2, .ref a3, .int sp, .long lk2_9])), (a1, .inl (e1, 1440, .inl f1)), (a2, .inl (e2, 1440, .inl f2)), (a3, .inl (e3, 1001, .inr (.inl f3b_9)))]) hK hN hP hD [2, 1, 0, 3] rfl rfl (by decide) [0, 1, 2] rfl rfl rfl) rfl rfl hl.1 rfl (lv_room (Nat.le_of_ble_eq_true rfl)) d_Tf_makePlan_18 ⟨Nat.le_of_ble_eq_true rfl, Nat.le_of_ble_eq_true rfl⟩) hP hD hS hA [2, 1, 0, 3] [] (wr := []) rfl rfl (by decide) (by decide) (fun u_18 H locs hw_18 hP hD hK1 hS => ?_)
  obtain ⟨f2b_18, f3b_18⟩ := u_18
  have hw_18 : ∀ k : Nat, k < 1440 → f2b_18 k = nI (Us f1 p2.toInt.toNat p1.toInt.toNat (fun c => min (lf (Rm f1 p2.toInt.toNat p1.toInt.toNat) p0.toInt.toNat c) ((Rm f1 p2.toInt.toNat p1.toInt.toNat) c)) k) := hw_18
  have hP : va_P (dC, dI) classes [(h0, .inr (3, [.ref a1, .ref a2, .ref a3, .int sp, .long lk2_9])), (a1, .inl (e1, 1440, .inl f1)), (a2, .inl (e2, 1440, .inl f2b_18)), (a3, .inl (e3, 1001, .inr (.inl f3b_18)))] H := hP
  have hD : va_D A [(h0, .inr (3, [.ref a1, .ref a2, .ref a3, .int sp, .long lk2_9])), (a1, .inl (e1, 1440, .inl f1)), (a2, .inl (e2, 1440, .inl f2b_18)), (a3, .inl (e3, 1001, .inr (.inl f3b_18)))] := hD
  refine lv_lload hx hb d_Tf_makePlan_21 (lv_at hl 0 rfl) ?_
  have hP9 := hP.sub (ws' := [(h0, .inr (3, [.ref a1, .ref a2, .ref a3, .int sp, .long lk2_9])), (a1, .inl (e1, 1440, .inl f1)), (a2, .inl (e2, 1440, .inl f2b_18)), (a3, .inl (e3, 1001, .inr (.inl f3b_18)))]) [0, 1, 2, 3] rfl
  have hD9 := hD.sub (ws' := [(h0, .inr (3, [.ref a1, .ref a2, .ref a3, .int sp, .long lk2_9])), (a1, .inl (e1, 1440, .inl f1)), (a2, .inl (e2, 1440, .inl f2b_18)), (a3, .inl (e3, 1001, .inr (.inl f3b_18)))]) [0, 1, 2, 3] (by decide) rfl
  have hK9 := hK.sub (tys' := [(e1, .int), (e2, .int), (e3, .long)]) [0, 1, 2] rfl
  exact W.lret (v := r_9) hx hb hr (fun t ht hW => ⟨⟨r_9, (lk2_9, f2b_18, f3b_18), rfl, ⟨hw_9.1, fun k hk => (hw_18 k hk).trans (by rw [UsUn])⟩, by rw [ht]; exact hP9, va_K.moved hW.alike hK9, hD9⟩, hS.F ht⟩) hS.2.2 d_Tf_makePlan_23
