set_option maxHeartbeats 4000000 in
set_option maxRecDepth 100000 in
theorem c_Law_share (l : Launch) (dC : Nat → ClassId) (dI : Nat → Nat → Nat) (k1 : Nat) (k2 : Nat) (k3 : Nat) (k4 : Nat) (k5 : Nat) (a4 : Nat) (e4 : ClassId) (e9 : ClassId) (sa : Nat) (sz : Nat) (pl : Int32) (cn : Int32) (to : Int64) (f4 : Nat → Int32) (fo : Nat → Int64) (p0 : Nat) (p1 : Int32) (p2 : Int64) (p3 : Int32) (p4 : Nat) (hst : l.stackTraces = false) (hq1 : 0 ≤ to.toInt) (hq2 : to.toInt ≤ 10000) (hq3 : ∀ k : Nat, (k : Int) < cn.toInt → 0 ≤ (f4 k).toInt ∧ (f4 k).toInt ≤ 1000) (hq4 : cn.toInt ≤ 10) : Met l y_Law_share w_Law_share ({ frames := 7, cells := 1, slots := 6, locals := 120 }) (fun v U => cPre dC dI [.ref p0, .int p1, .long p2, .int p3, .ref p4] sz [(e4, .int), (e9, .long)] [(p0, .inr (5, [.ref k1, .ref k2, .ref k3, .ref k4, .ref k5, .int pl])), (k5, .inr (4, [.ref a4, .int cn, .long to])), (a4, .inl (e4, 10, .inl f4)), (p4, .inl (e9, 1, .inr (.inl fo)))] v U ∧ thr sa U) (va_Qi (fun (r : Int32) (u : (Nat → Int64)) => (shT p1 p2 cn to.toInt → r = 1) ∧ (¬ shT p1 p2 cn to.toInt → r = 0 ∧ shP p1 p2 p3 cn to.toInt (f4 (p1 - 1).toNatClampNeg).toInt64 (u 0))) (fun (u : (Nat → Int64)) (t : State) => cB dC dI (va_A [(p0, .inr (5, [.ref k1, .ref k2, .ref k3, .ref k4, .ref k5, .int pl])), (k5, .inr (4, [.ref a4, .int cn, .long to])), (a4, .inl (e4, 10, .inl f4)), (p4, .inl (e9, 1, .inr (.inl fo)))] sz) [(e4, .int), (e9, .long)] [(p0, .inr (5, [.ref k1, .ref k2, .ref k3, .ref k4, .ref k5, .int pl])), (k5, .inr (4, [.ref a4, .int cn, .long to])), (a4, .inl (e4, 10, .inl f4)), (p4, .inl (e9, 1, .inr (.inl u)))] t) (va_A [(p0, .inr (5, [.ref k1, .ref k2, .ref k3, .ref k4, .ref k5, .int pl])), (k5, .inr (4, [.ref a4, .int cn, .long to])), (a4, .inl (e4, 10, .inl f4)), (p4, .inl (e9, 1, .inr (.inl fo)))] sz)) 1 6 (va_A [(p0, .inr (5, [.ref k1, .ref k2, .ref k3, .ref k4, .ref k5, .int pl])), (k5, .inr (4, [.ref a4, .int cn, .long to])), (a4, .inl (e4, 10, .inl f4)), (p4, .inl (e9, 1, .inr (.inl fo)))] sz) := by
  refine va_MetW (cc := b_Law_share) (maxL := 7) (ret := (some .int)) (hh := [(0, 12, 15, 13)]) (by decide) rfl ?_
  intro p e s m args below meth c s₁ B hml hv
  obtain ⟨⟨rfl, hsz, hN, hP, hK, hD0⟩, hth⟩ := hv
  have hx := B.exec
  have hb := B.bytes
  have hr := B.returns
  have hts := atoms_spec (ws := w_Law_share) B.pre
  have hB := big_of hts
  have hown : s.vm.findClass R_Law = some m.cls := findClass_of_methodNamed B.named
  have hlocks := B.notSynchronized
  subst hsz
  have hD := hD0.self (sz := s.heap.size)
  have hns := ns_of (ws := [(p0, .inr (5, [.ref k1, .ref k2, .ref k3, .ref k4, .ref k5, .int pl])), (k5, .inr (4, [.ref a4, .int cn, .long to])), (a4, .inl (e4, 10, .inl f4)), (p4, .inl (e9, 1, .inr (.inl fo)))]) hP
  have hTab := x_tab B (hts _ List.mem_cons_self)
  generalize hAe : va_A [(p0, .inr (5, [.ref k1, .ref k2, .ref k3, .ref k4, .ref k5, .int pl])), (k5, .inr (4, [.ref a4, .int cn, .long to])), (a4, .inl (e4, 10, .inl f4)), (p4, .inl (e9, 1, .inr (.inl fo)))] s.heap.size = A at hD hns ⊢
  have hA : ∀ q : Nat, s.heap.size ≤ q → A q := fun q h => by rw [← hAe]; exact Or.inr h
  have hS : va_S A s.heap s.heap [] := va_S.rf
  have hP : va_P (dC, dI) classes [(p0, .inr (5, [.ref k1, .ref k2, .ref k3, .ref k4, .ref k5, .int pl])), (k5, .inr (4, [.ref a4, .int cn, .long to])), (a4, .inl (e4, 10, .inl f4)), (p4, .inl (e9, 1, .inr (.inl fo)))] s.heap := hP
  have hl := lv_entry ([.ref p0, .int p1, .long p2, .int p3, .ref p4]) (n := 7) (Nat.le_of_ble_eq_true rfl)
  rw [lg_entry_eq]
  generalize (lg_sl ([.ref p0, .int p1, .long p2, .int p3, .ref p4]) ++ List.replicate (7 - (lg_sl ([.ref p0, .int p1, .long p2, .int p3, .ref p4])).length) Slot.unset).toArray = ls at hl ⊢
  have hl : lv_has ls 7 [(0, .ref p0), (1, .int p1), (2, .long p2), (4, .int p3), (5, .ref p4)] := hl
  refine lv_aload hx hb d_Law_share_0 (lv_at hl 4 rfl) ?_
  refine lv_iconst (v := 0) hx hb d_Law_share_2 (by decide) ?_
  refine lv_aload_n hx hb d_Law_share_3 rfl (lv_at hl 0 rfl) ?_
  refine lv_iload_n hx hb d_Law_share_4 rfl (lv_at hl 1 rfl) ?_
  refine lv_lload_n hx hb d_Law_share_5 rfl (lv_at hl 2 rfl) ?_
  refine lv_iload hx hb d_Law_share_6 (lv_at hl 3 rfl) ?_
  by_cases hT : shT p1 p2 cn to.toInt
  · refine x_catch (As := [.int p1, .long p2, .int p3]) (rest := [.int 0, .ref p4]) ⟨hx, hb, hml, hown, hts⟩ (c_X_shareT l dC dI p0 k1 k2 k3 k4 k5 a4 e4 sa s.heap.size pl cn to f4 p1 p2 p3 hst hT.1 hT.2.1 hT.2.2) (cwV 3 hts (ginV kb_234 kb_235 kb_236 kb_7 kb_233) rfl rfl rfl (by decide +kernel) ⟨Nat.le_of_ble_eq_true rfl, Nat.le_of_ble_eq_true rfl⟩) (preVT (preV (ci := 5) (wc := [(p0, .inr (5, [.ref k1, .ref k2, .ref k3, .ref k4, .ref k5, .int pl])), (k5, .inr (4, [.ref a4, .int cn, .long to])), (a4, .inl (e4, 10, .inl f4))]) hK hN hP hD [0, 1, 2] rfl rfl (by decide) [0] rfl rfl rfl) hth hS hns) rfl hl.1 rfl (Nat.le_of_ble_eq_true rfl) d_Law_share_8 ⟨Nat.le_of_ble_eq_true rfl, Nat.le_of_ble_eq_true rfl⟩ ⟨0, 12, 15, 13⟩ hTab (by decide) (by decide) (hB _ kb_237) (hth.own _ _ (by decide +kernel)) (fun q_8 H hz hold => ?_)
    have hS : va_S A s.heap H [] := ⟨Nat.le_trans hS.1 hz, fun q h1 h2 => by rw [hold q h1], hS.2.2⟩
    have hP : va_P (dC, dI) classes [(p0, .inr (5, [.ref k1, .ref k2, .ref k3, .ref k4, .ref k5, .int pl])), (k5, .inr (4, [.ref a4, .int cn, .long to])), (a4, .inl (e4, 10, .inl f4)), (p4, .inl (e9, 1, .inr (.inl fo)))] H := hP.kept (fun k z hk => hold z.1 ((hP k z hk).lt))
    refine lv_astore (lv' := [(6, .ref q_8), (0, .ref p0), (1, .int p1), (2, .long p2), (4, .int p3), (5, .ref p4)]) hx hb d_Law_share_15 hl (by decide) rfl (fun ls hl => ?_)
    refine lv_iconst (v := 1) hx hb d_Law_share_17 (by decide) ?_
    have hP9 := hP.sub (ws' := [(p0, .inr (5, [.ref k1, .ref k2, .ref k3, .ref k4, .ref k5, .int pl])), (k5, .inr (4, [.ref a4, .int cn, .long to])), (a4, .inl (e4, 10, .inl f4)), (p4, .inl (e9, 1, .inr (.inl fo)))]) [0, 1, 2, 3] rfl
    have hD9 := hD.sub (ws' := [(p0, .inr (5, [.ref k1, .ref k2, .ref k3, .ref k4, .ref k5, .int pl])), (k5, .inr (4, [.ref a4, .int cn, .long to])), (a4, .inl (e4, 10, .inl f4)), (p4, .inl (e9, 1, .inr (.inl fo)))]) [0, 1, 2, 3] (by decide) rfl
    have hK9 := hK.sub (tys' := [(e4, .int), (e9, .long)]) [0, 1] rfl
    exact W.iret (v := 1) hx hb hr (fun t ht hW => ⟨⟨1, (fo), rfl, ⟨fun _ => rfl, fun h => absurd hT h⟩, by rw [ht]; exact hP9, va_K.moved hW.alike hK9, hD9⟩, hS.F ht⟩) hS.2.2 d_Law_share_18
  refine kc_l (va_runV (As := [.int p1, .long p2, .int p3]) (rest := [.int 0, .ref p4]) ⟨hx, hb, hml, hown, hts⟩ (c_X_share l dC dI p0 k1 k2 k3 k4 k5 a4 e4 s.heap.size pl cn to f4 p1 p2 p3 (hT) (hq1) (hq2) (hq3) (hq4)) (cwV 3 hts (ginV kb_234 kb_235 kb_236 kb_7 kb_233) rfl rfl rfl (by decide +kernel) ⟨Nat.le_of_ble_eq_true rfl, Nat.le_of_ble_eq_true rfl⟩) (preV (ci := 5) (wc := [(p0, .inr (5, [.ref k1, .ref k2, .ref k3, .ref k4, .ref k5, .int pl])), (k5, .inr (4, [.ref a4, .int cn, .long to])), (a4, .inl (e4, 10, .inl f4))]) hK hN hP hD [0, 1, 2] rfl rfl (by decide) [0] rfl rfl rfl) rfl rfl hl.1 rfl (lv_room (Nat.le_of_ble_eq_true rfl)) d_Law_share_8 ⟨Nat.le_of_ble_eq_true rfl, Nat.le_of_ble_eq_true rfl⟩) hP hD hS hA [0, 1, 2] [3] (wr := [(p4, .inl (e9, 1, .inr (.inl fo)))]) rfl rfl (by decide) (by decide) (fun r_8 u_8 H locs hw_8 hP hD hK1 hS => ?_)
  have hw_8 : shP p1 p2 p3 cn to.toInt (f4 (p1 - 1).toNatClampNeg).toInt64 r_8 := hw_8
  have hP : va_P (dC, dI) classes [(p4, .inl (e9, 1, .inr (.inl fo))), (p0, .inr (5, [.ref k1, .ref k2, .ref k3, .ref k4, .ref k5, .int pl])), (k5, .inr (4, [.ref a4, .int cn, .long to])), (a4, .inl (e4, 10, .inl f4))] H := hP
  have hD : va_D A [(p4, .inl (e9, 1, .inr (.inl fo))), (p0, .inr (5, [.ref k1, .ref k2, .ref k3, .ref k4, .ref k5, .int pl])), (k5, .inr (4, [.ref a4, .int cn, .long to])), (a4, .inl (e4, 10, .inl f4))] := hD
  have h_11 : vp_in 0 1 := vin1
  refine va_last hx hb hK hP hD hS 0 1 rfl rfl h_11 d_Law_share_11 (fun H locs hP hD hS => ?_)
  obtain ⟨f_11, ef_11⟩ : ∃ y, y = vp_updL fo (0 : Int32).toNatClampNeg r_8 := ⟨_, rfl⟩
  rw [← ef_11] at hP hD
  have hP : va_P (dC, dI) classes [(p4, .inl (e9, 1, .inr (.inl f_11))), (p0, .inr (5, [.ref k1, .ref k2, .ref k3, .ref k4, .ref k5, .int pl])), (k5, .inr (4, [.ref a4, .int cn, .long to])), (a4, .inl (e4, 10, .inl f4))] H := hP
  have hD : va_D A [(p4, .inl (e9, 1, .inr (.inl f_11))), (p0, .inr (5, [.ref k1, .ref k2, .ref k3, .ref k4, .ref k5, .int pl])), (k5, .inr (4, [.ref a4, .int cn, .long to])), (a4, .inl (e4, 10, .inl f4))] := hD
  refine lv_goto (tgt := 19) hx hb d_Law_share_12 (by decide) ?_
  refine lv_iconst (v := 0) hx hb d_Law_share_19 (by decide) ?_
  have hP9 := hP.sub (ws' := [(p0, .inr (5, [.ref k1, .ref k2, .ref k3, .ref k4, .ref k5, .int pl])), (k5, .inr (4, [.ref a4, .int cn, .long to])), (a4, .inl (e4, 10, .inl f4)), (p4, .inl (e9, 1, .inr (.inl f_11)))]) [1, 2, 3, 0] rfl
  have hD9 := hD.sub (ws' := [(p0, .inr (5, [.ref k1, .ref k2, .ref k3, .ref k4, .ref k5, .int pl])), (k5, .inr (4, [.ref a4, .int cn, .long to])), (a4, .inl (e4, 10, .inl f4)), (p4, .inl (e9, 1, .inr (.inl f_11)))]) [1, 2, 3, 0] (by decide) rfl
  have hK9 := hK.sub (tys' := [(e4, .int), (e9, .long)]) [0, 1] rfl
  refine W.widen (k := 1) (n := 6) (Nat.le_of_ble_eq_true rfl) (Nat.le_of_ble_eq_true rfl) ?_
  exact W.iret (v := 0) hx hb hr (fun t ht hW => ⟨⟨0, (f_11), rfl, ⟨fun h => absurd h hT, fun _ => ⟨rfl, by rw [ef_11]; exact hw_8⟩⟩, by rw [ht]; exact hP9, va_K.moved hW.alike hK9, hD9⟩, hS.F ht⟩) hS.2.2 d_Law_share_20
