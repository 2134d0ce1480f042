set_option maxHeartbeats 4000000 in
set_option maxRecDepth 100000 in
theorem whole_start {p : Program} {e : Env} {s : State} {m : MethodId} {below : List Frame} {meth : Method} {c : Code} (l : Launch) (hst : l.stackTraces = false) {b L : Nat} {xs : Nat → Int32} (hL : L ≤ 3584) (C0 : lw_At p s m meth c b L xs) : W p l e room_1 s m #[Value.ref b] below meth c s.heap [] 0 0 (lw_Z below #[Value.ref b] s) (entryFrame m ([Value.ref b] : List Value).toArray 8) := by
  obtain ⟨hx, hb, hr, hml, hown, hts0, hX, hbl, hlocks, hgv⟩ := id C0
  have hB := law_big hts0
  have hts := law_ts hts0
  have hN := law_nst hts0
  have hA : ∀ q : Nat, s.heap.size ≤ q → (fun q : Nat => s.heap.size ≤ q) q := fun _ h => h
  have hbA : ¬ (fun q : Nat => s.heap.size ≤ q) b := Nat.not_le.mpr hbl
  obtain ⟨c0, iS0, hKn0⟩ := u_known (C := R_Ck) (T := F_Ck) (N := 1) (n := 1) hB inC_Ck (hB _ kb_114)
  obtain ⟨c1, iS1, hKn1⟩ := u_known (C := R_Pi) (T := F_Pi) (N := 2) (n := 2) hB inC_Pi (hB _ kb_120)
  obtain ⟨c2, iS2, hKn2⟩ := u_known (C := R_Ta) (T := F_Ta) (N := 6) (n := 6) hB inC_Ta (hB _ kb_125)
  obtain ⟨c3, iS3, hKn3⟩ := u_known (C := R_Tf) (T := F_Tf) (N := 5) (n := 5) hB inC_Tf (hB _ kb_130)
  obtain ⟨c4, iS4, hKn4⟩ := u_known (C := R_Li) (T := F_Li) (N := 3) (n := 3) hB inC_Li (hB _ kb_136)
  obtain ⟨c5, iS5, hKn5⟩ := u_known (C := R_X) (T := F_X) (N := 6) (n := 6) hB inC_X (hB _ kb_413)
  obtain ⟨c6, iS6, hKn6⟩ := u_known (C := R_Mo) (T := F_Mo) (N := 19) (n := 19) hB inC_Mo (hB _ kb_414)
  obtain ⟨dC, dI, hKc⟩ : ∃ (dC : Nat → ClassId) (dI : Nat → Nat → Nat), ∀ (k : Nat) (q : vw_C), classes[k]? = some q → u_Kn s q.1 q.2.1 q.2.2 (dC k) (dI k) := by
    refine ⟨fun k => if k = 0 then c0 else if k = 1 then c1 else if k = 2 then c2 else if k = 3 then c3 else if k = 4 then c4 else if k = 5 then c5 else c6, fun k => if k = 0 then iS0 else if k = 1 then iS1 else if k = 2 then iS2 else if k = 3 then iS3 else if k = 4 then iS4 else if k = 5 then iS5 else iS6, ?_⟩
    intro k q hq
    match k, hq with
    | 0, hq => cases hq; exact hKn0
    | 1, hq => cases hq; exact hKn1
    | 2, hq => cases hq; exact hKn2
    | 3, hq => cases hq; exact hKn3
    | 4, hq => cases hq; exact hKn4
    | 5, hq => cases hq; exact hKn5
    | 6, hq => cases hq; exact hKn6
    | k + 7, hq => simp [classes] at hq
  have hS : va_S (fun q : Nat => s.heap.size ≤ q) s.heap s.heap [] := va_S.rf
  have hK : va_K (dC, dI) classes [] s := ⟨hKc, fun k q h => by simp at h⟩
  have hP : va_P (dC, dI) classes [] s.heap := fun k q h => by simp at h
  have hD : va_D (fun q : Nat => s.heap.size ≤ q) [] := ⟨fun i j p q h => by simp at h, fun k q h => by simp at h⟩
  have hl := lv_entry ([.ref b]) (n := 8) (Nat.le_of_ble_eq_true rfl)
  rw [lg_entry_eq]
  generalize (lg_sl ([.ref b]) ++ List.replicate (8 - (lg_sl ([.ref b])).length) Slot.unset).toArray = ls at hl ⊢
  have hl : lv_has ls 8 [(0, .ref b)] := hl
  refine va_new (ci := 5) (fs := [.null, .null, .null, .null, .null, .int 0]) (C := R_X) (T := F_X) (N := 6) hx hb hB inC_X t_X t_X_ok hown (hB _ kb_415) (hB _ kb_413) (hB _ kb_7) hK hP hD hS hA rfl (fun j hj => by rcases (show j = 0 ∨ j = 1 ∨ j = 2 ∨ j = 3 ∨ j = 4 ∨ j = 5 by omega) with rfl | rfl | rfl | rfl | rfl | rfl <;> rfl) (Nat.le_of_ble_eq_true rfl) (Nat.le_of_ble_eq_true rfl) d_Law_law_0 (fun q_0 H hP hD hS => ?_)
  have hP : va_P (dC, dI) classes [(q_0, .inr (5, [.null, .null, .null, .null, .null, .int 0]))] H := hP
  have hD : va_D (fun q : Nat => s.heap.size ≤ q) [(q_0, .inr (5, [.null, .null, .null, .null, .null, .int 0]))] := hD
  refine W.widen (k := 1) (n := 6) (Nat.le_of_ble_eq_true rfl) (Nat.le_of_ble_eq_true rfl) ?_
  refine lv_dup hx hb d_Law_law_3 rfl ?_
  refine kc_v (va_runI (As := []) (rest := [.ref q_0]) ⟨hx, hb, hml, hown, hts⟩ (c_X_init l dC dI q_0 H.size   ) (cwI 0 hts (gin kb_416) rfl rfl rfl (hB _ kb_7) (hB _ kb_417) (hB _ kb_418) rfl (by decide +kernel) ⟨Nat.le_of_ble_eq_true rfl, Nat.le_of_ble_eq_true rfl⟩) (preS (wc := [(q_0, .inr (5, [.null, .null, .null, .null, .null, .int 0]))]) hK hN hP hD [0] rfl rfl (by decide) [] rfl) rfl rfl hl.1 rfl (lv_room (Nat.le_of_ble_eq_true rfl)) d_Law_law_4 ⟨Nat.le_of_ble_eq_true rfl, Nat.le_of_ble_eq_true rfl⟩) hP hD hS hA [0] [] (wr := []) rfl rfl (by decide) (by decide) (fun u_4 H locs hw_4 hP hD hK1 hS => ?_)
  obtain ⟨n5_4, n6_4, n7_4, n8_4, n9_4, n1_4, n2_4, n3_4, n4_4, j1_4, j2_4, j3_4, j4_4, told2_4, ph2_4, di2_4, lm2_4, cu2_4, la2_4, en2_4, f1b_4⟩ := u_4
  have hw_4 : ∀ k : Nat, k < 1440 → f1b_4 k = -1 := hw_4
  have hP : va_P (dC, dI) classes [(q_0, .inr (5, [.ref n5_4, .ref n6_4, .ref n7_4, .ref n8_4, .ref n9_4, .int 0])), (n5_4, .inr (0, [.long told2_4])), (n6_4, .inr (1, [.int 0, .long 0])), (n7_4, .inr (2, [.int ph2_4, .int di2_4, .long lm2_4, .long cu2_4, .long la2_4, .long en2_4])), (n8_4, .inr (3, [.ref n1_4, .ref n2_4, .ref n3_4, .int 0, .long 0])), (n1_4, .inl (j1_4, 1440, .inl f1b_4)), (n2_4, .inl (j2_4, 1440, .inl (fun _ => 0))), (n3_4, .inl (j3_4, 1001, .inr (.inl (fun _ => 0)))), (n9_4, .inr (4, [.ref n4_4, .int 0, .long 0])), (n4_4, .inl (j4_4, 10, .inl (fun _ => 0)))] H := hP
  have hD : va_D (fun q : Nat => s.heap.size ≤ q) [(q_0, .inr (5, [.ref n5_4, .ref n6_4, .ref n7_4, .ref n8_4, .ref n9_4, .int 0])), (n5_4, .inr (0, [.long told2_4])), (n6_4, .inr (1, [.int 0, .long 0])), (n7_4, .inr (2, [.int ph2_4, .int di2_4, .long lm2_4, .long cu2_4, .long la2_4, .long en2_4])), (n8_4, .inr (3, [.ref n1_4, .ref n2_4, .ref n3_4, .int 0, .long 0])), (n1_4, .inl (j1_4, 1440, .inl f1b_4)), (n2_4, .inl (j2_4, 1440, .inl (fun _ => 0))), (n3_4, .inl (j3_4, 1001, .inr (.inl (fun _ => 0)))), (n9_4, .inr (4, [.ref n4_4, .int 0, .long 0])), (n4_4, .inl (j4_4, 10, .inl (fun _ => 0)))] := hD
  have hK : va_K (dC, dI) classes [(j1_4, .int), (j2_4, .int), (j3_4, .long), (j4_4, .int)] s := hK.app hK1
  refine W.widen (k := 10) (n := 3914) (Nat.le_of_ble_eq_true rfl) (Nat.le_of_ble_eq_true rfl) ?_
  refine lv_astore_n (lv' := [(1, .ref q_0), (0, .ref b)]) hx hb d_Law_law_7 rfl hl (by decide) rfl (fun ls hl => ?_)
  refine va_new (ci := 6) (fs := [.int 0, .int 0, .int 0, .int 0, .int 0, .int 0, .long 0, .long 0, .long 0, .long 0, .long 0, .int 0, .null, .null, .null, .null, .long 0, .int 0, .null]) (C := R_Mo) (T := F_Mo) (N := 19) hx hb hB inC_Mo t_Mo t_Mo_ok hown (hB _ kb_419) (hB _ kb_414) (hB _ kb_251) hK hP hD hS hA rfl (fun j hj => by rcases (show j = 0 ∨ j = 1 ∨ j = 2 ∨ j = 3 ∨ j = 4 ∨ j = 5 ∨ j = 6 ∨ j = 7 ∨ j = 8 ∨ j = 9 ∨ j = 10 ∨ j = 11 ∨ j = 12 ∨ j = 13 ∨ j = 14 ∨ j = 15 ∨ j = 16 ∨ j = 17 ∨ j = 18 by omega) with rfl | rfl | rfl | rfl | rfl | rfl | rfl | rfl | rfl | rfl | rfl | rfl | rfl | rfl | rfl | rfl | rfl | rfl | rfl <;> rfl) (Nat.le_of_ble_eq_true rfl) (Nat.le_of_ble_eq_true rfl) d_Law_law_8 (fun q_8 H hP hD hS => ?_)
  have hP : va_P (dC, dI) classes [(q_0, .inr (5, [.ref n5_4, .ref n6_4, .ref n7_4, .ref n8_4, .ref n9_4, .int 0])), (n5_4, .inr (0, [.long told2_4])), (n6_4, .inr (1, [.int 0, .long 0])), (n7_4, .inr (2, [.int ph2_4, .int di2_4, .long lm2_4, .long cu2_4, .long la2_4, .long en2_4])), (n8_4, .inr (3, [.ref n1_4, .ref n2_4, .ref n3_4, .int 0, .long 0])), (n1_4, .inl (j1_4, 1440, .inl f1b_4)), (n2_4, .inl (j2_4, 1440, .inl (fun _ => 0))), (n3_4, .inl (j3_4, 1001, .inr (.inl (fun _ => 0)))), (n9_4, .inr (4, [.ref n4_4, .int 0, .long 0])), (n4_4, .inl (j4_4, 10, .inl (fun _ => 0))), (q_8, .inr (6, [.int 0, .int 0, .int 0, .int 0, .int 0, .int 0, .long 0, .long 0, .long 0, .long 0, .long 0, .int 0, .null, .null, .null, .null, .long 0, .int 0, .null]))] H := hP
  have hD : va_D (fun q : Nat => s.heap.size ≤ q) [(q_0, .inr (5, [.ref n5_4, .ref n6_4, .ref n7_4, .ref n8_4, .ref n9_4, .int 0])), (n5_4, .inr (0, [.long told2_4])), (n6_4, .inr (1, [.int 0, .long 0])), (n7_4, .inr (2, [.int ph2_4, .int di2_4, .long lm2_4, .long cu2_4, .long la2_4, .long en2_4])), (n8_4, .inr (3, [.ref n1_4, .ref n2_4, .ref n3_4, .int 0, .long 0])), (n1_4, .inl (j1_4, 1440, .inl f1b_4)), (n2_4, .inl (j2_4, 1440, .inl (fun _ => 0))), (n3_4, .inl (j3_4, 1001, .inr (.inl (fun _ => 0)))), (n9_4, .inr (4, [.ref n4_4, .int 0, .long 0])), (n4_4, .inl (j4_4, 10, .inl (fun _ => 0))), (q_8, .inr (6, [.int 0, .int 0, .int 0, .int 0, .int 0, .int 0, .long 0, .long 0, .long 0, .long 0, .long 0, .int 0, .null, .null, .null, .null, .long 0, .int 0, .null]))] := hD
  refine W.widen (k := 11) (n := 3933) (Nat.le_of_ble_eq_true rfl) (Nat.le_of_ble_eq_true rfl) ?_
  refine lv_dup hx hb d_Law_law_11 rfl ?_
  refine kc_v (va_runI (As := []) (rest := [.ref q_8]) ⟨hx, hb, hml, hown, hts⟩ (c_Mo_init l dC dI q_8 H.size   ) (cwI 0 hts (gin kb_420) rfl rfl rfl (hB _ kb_251) (hB _ kb_421) (hB _ kb_422) rfl (by decide +kernel) ⟨Nat.le_of_ble_eq_true rfl, Nat.le_of_ble_eq_true rfl⟩) (preS (wc := [(q_8, .inr (6, [.int 0, .int 0, .int 0, .int 0, .int 0, .int 0, .long 0, .long 0, .long 0, .long 0, .long 0, .int 0, .null, .null, .null, .null, .long 0, .int 0, .null]))]) hK hN hP hD [10] rfl rfl (by decide) [] rfl) rfl rfl hl.1 rfl (lv_room (Nat.le_of_ble_eq_true rfl)) d_Law_law_12 ⟨Nat.le_of_ble_eq_true rfl, Nat.le_of_ble_eq_true rfl⟩) hP hD hS hA [10] [0, 1, 2, 3, 4, 5, 6, 7, 8, 9] (wr := [(q_0, .inr (5, [.ref n5_4, .ref n6_4, .ref n7_4, .ref n8_4, .ref n9_4, .int 0])), (n5_4, .inr (0, [.long told2_4])), (n6_4, .inr (1, [.int 0, .long 0])), (n7_4, .inr (2, [.int ph2_4, .int di2_4, .long lm2_4, .long cu2_4, .long la2_4, .long en2_4])), (n8_4, .inr (3, [.ref n1_4, .ref n2_4, .ref n3_4, .int 0, .long 0])), (n1_4, .inl (j1_4, 1440, .inl f1b_4)), (n2_4, .inl (j2_4, 1440, .inl (fun _ => 0))), (n3_4, .inl (j3_4, 1001, .inr (.inl (fun _ => 0)))), (n9_4, .inr (4, [.ref n4_4, .int 0, .long 0])), (n4_4, .inl (j4_4, 10, .inl (fun _ => 0)))]) rfl rfl (by decide) (by decide) (fun u_12 H locs hw_12 hP hD hK1 hS => ?_)
  obtain ⟨n1_12, n2_12, n3_12, n4_12, n5_12, j1_12, j2_12, j3_12, j4_12, j5_12⟩ := u_12
  have hw_12 : True := hw_12
  have hP : va_P (dC, dI) classes [(q_0, .inr (5, [.ref n5_4, .ref n6_4, .ref n7_4, .ref n8_4, .ref n9_4, .int 0])), (n5_4, .inr (0, [.long told2_4])), (n6_4, .inr (1, [.int 0, .long 0])), (n7_4, .inr (2, [.int ph2_4, .int di2_4, .long lm2_4, .long cu2_4, .long la2_4, .long en2_4])), (n8_4, .inr (3, [.ref n1_4, .ref n2_4, .ref n3_4, .int 0, .long 0])), (n1_4, .inl (j1_4, 1440, .inl f1b_4)), (n2_4, .inl (j2_4, 1440, .inl (fun _ => 0))), (n3_4, .inl (j3_4, 1001, .inr (.inl (fun _ => 0)))), (n9_4, .inr (4, [.ref n4_4, .int 0, .long 0])), (n4_4, .inl (j4_4, 10, .inl (fun _ => 0))), (q_8, .inr (6, [.int 0, .int 0, .int 0, .int 0, .int 0, .int 0, .long 0, .long 0, .long 0, .long 0, .long 0, .int 0, .ref n1_12, .ref n2_12, .ref n3_12, .ref n4_12, .long 0, .int 0, .ref n5_12])), (n1_12, .inl (j1_12, 20, .inl (fun _ => 0))), (n2_12, .inl (j2_12, 20, .inl (fun _ => 0))), (n3_12, .inl (j3_12, 20, .inl (fun _ => 0))), (n4_12, .inl (j4_12, 1440, .inr (.inl (fun _ => 0)))), (n5_12, .inl (j5_12, 11, .inl (fun _ => 0)))] H := hP
  have hD : va_D (fun q : Nat => s.heap.size ≤ q) [(q_0, .inr (5, [.ref n5_4, .ref n6_4, .ref n7_4, .ref n8_4, .ref n9_4, .int 0])), (n5_4, .inr (0, [.long told2_4])), (n6_4, .inr (1, [.int 0, .long 0])), (n7_4, .inr (2, [.int ph2_4, .int di2_4, .long lm2_4, .long cu2_4, .long la2_4, .long en2_4])), (n8_4, .inr (3, [.ref n1_4, .ref n2_4, .ref n3_4, .int 0, .long 0])), (n1_4, .inl (j1_4, 1440, .inl f1b_4)), (n2_4, .inl (j2_4, 1440, .inl (fun _ => 0))), (n3_4, .inl (j3_4, 1001, .inr (.inl (fun _ => 0)))), (n9_4, .inr (4, [.ref n4_4, .int 0, .long 0])), (n4_4, .inl (j4_4, 10, .inl (fun _ => 0))), (q_8, .inr (6, [.int 0, .int 0, .int 0, .int 0, .int 0, .int 0, .long 0, .long 0, .long 0, .long 0, .long 0, .int 0, .ref n1_12, .ref n2_12, .ref n3_12, .ref n4_12, .long 0, .int 0, .ref n5_12])), (n1_12, .inl (j1_12, 20, .inl (fun _ => 0))), (n2_12, .inl (j2_12, 20, .inl (fun _ => 0))), (n3_12, .inl (j3_12, 20, .inl (fun _ => 0))), (n4_12, .inl (j4_12, 1440, .inr (.inl (fun _ => 0)))), (n5_12, .inl (j5_12, 11, .inl (fun _ => 0)))] := hD
  have hK : va_K (dC, dI) classes [(j1_4, .int), (j2_4, .int), (j3_4, .long), (j4_4, .int), (j1_12, .int), (j2_12, .int), (j3_12, .int), (j4_12, .long), (j5_12, .int)] s := hK.app hK1
  refine W.widen (k := 16) (n := 5444) (Nat.le_of_ble_eq_true rfl) (Nat.le_of_ble_eq_true rfl) ?_
  refine lv_astore_n (lv' := [(2, .ref q_8), (1, .ref q_0), (0, .ref b)]) hx hb d_Law_law_15 rfl hl (by decide) rfl (fun ls hl => ?_)
  refine lv_iconst (v := 1) hx hb d_Law_law_16 (by decide) ?_
  refine va_newa (atype := .long) (ty := .long) (N' := 1) (a0 := (1, .inr (.inl (fun _ => 0)))) hx hb (hB (.arrayClass .long) kb_107) rfl hK hP hD hS hA (fun _ => rfl) (by decide) (by decide) (by decide) (Nat.le_of_ble_eq_true rfl) (Nat.le_of_ble_eq_true rfl) d_Law_law_17 (fun q_17 k_17 H hK hP hD hS => ?_)
  have hP : va_P (dC, dI) classes [(q_0, .inr (5, [.ref n5_4, .ref n6_4, .ref n7_4, .ref n8_4, .ref n9_4, .int 0])), (n5_4, .inr (0, [.long told2_4])), (n6_4, .inr (1, [.int 0, .long 0])), (n7_4, .inr (2, [.int ph2_4, .int di2_4, .long lm2_4, .long cu2_4, .long la2_4, .long en2_4])), (n8_4, .inr (3, [.ref n1_4, .ref n2_4, .ref n3_4, .int 0, .long 0])), (n1_4, .inl (j1_4, 1440, .inl f1b_4)), (n2_4, .inl (j2_4, 1440, .inl (fun _ => 0))), (n3_4, .inl (j3_4, 1001, .inr (.inl (fun _ => 0)))), (n9_4, .inr (4, [.ref n4_4, .int 0, .long 0])), (n4_4, .inl (j4_4, 10, .inl (fun _ => 0))), (q_8, .inr (6, [.int 0, .int 0, .int 0, .int 0, .int 0, .int 0, .long 0, .long 0, .long 0, .long 0, .long 0, .int 0, .ref n1_12, .ref n2_12, .ref n3_12, .ref n4_12, .long 0, .int 0, .ref n5_12])), (n1_12, .inl (j1_12, 20, .inl (fun _ => 0))), (n2_12, .inl (j2_12, 20, .inl (fun _ => 0))), (n3_12, .inl (j3_12, 20, .inl (fun _ => 0))), (n4_12, .inl (j4_12, 1440, .inr (.inl (fun _ => 0)))), (n5_12, .inl (j5_12, 11, .inl (fun _ => 0))), (q_17, .inl (k_17, 1, .inr (.inl (fun _ => 0))))] H := hP
  have hD : va_D (fun q : Nat => s.heap.size ≤ q) [(q_0, .inr (5, [.ref n5_4, .ref n6_4, .ref n7_4, .ref n8_4, .ref n9_4, .int 0])), (n5_4, .inr (0, [.long told2_4])), (n6_4, .inr (1, [.int 0, .long 0])), (n7_4, .inr (2, [.int ph2_4, .int di2_4, .long lm2_4, .long cu2_4, .long la2_4, .long en2_4])), (n8_4, .inr (3, [.ref n1_4, .ref n2_4, .ref n3_4, .int 0, .long 0])), (n1_4, .inl (j1_4, 1440, .inl f1b_4)), (n2_4, .inl (j2_4, 1440, .inl (fun _ => 0))), (n3_4, .inl (j3_4, 1001, .inr (.inl (fun _ => 0)))), (n9_4, .inr (4, [.ref n4_4, .int 0, .long 0])), (n4_4, .inl (j4_4, 10, .inl (fun _ => 0))), (q_8, .inr (6, [.int 0, .int 0, .int 0, .int 0, .int 0, .int 0, .long 0, .long 0, .long 0, .long 0, .long 0, .int 0, .ref n1_12, .ref n2_12, .ref n3_12, .ref n4_12, .long 0, .int 0, .ref n5_12])), (n1_12, .inl (j1_12, 20, .inl (fun _ => 0))), (n2_12, .inl (j2_12, 20, .inl (fun _ => 0))), (n3_12, .inl (j3_12, 20, .inl (fun _ => 0))), (n4_12, .inl (j4_12, 1440, .inr (.inl (fun _ => 0)))), (n5_12, .inl (j5_12, 11, .inl (fun _ => 0))), (q_17, .inl (k_17, 1, .inr (.inl (fun _ => 0))))] := hD
  have hK : va_K (dC, dI) classes [(j1_4, .int), (j2_4, .int), (j3_4, .long), (j4_4, .int), (j1_12, .int), (j2_12, .int), (j3_12, .int), (j4_12, .long), (j5_12, .int), (k_17, .long)] s := hK
  refine W.widen (k := 17) (n := 5445) (Nat.le_of_ble_eq_true rfl) (Nat.le_of_ble_eq_true rfl) ?_
  refine lv_astore_n (lv' := [(3, .ref q_17), (2, .ref q_8), (1, .ref q_0), (0, .ref b)]) hx hb d_Law_law_19 rfl hl (by decide) rfl (fun ls hl => ?_)
  refine lv_iconst (v := 0) hx hb d_Law_law_20 (by decide) ?_
  refine lv_istore (lv' := [(4, .int 0), (3, .ref q_17), (2, .ref q_8), (1, .ref q_0), (0, .ref b)]) hx hb d_Law_law_21 hl (by decide) rfl (fun ls hl => ?_)
  refine W.widen (k := 17) (n := 5445) (by omega) (by omega) ?_
  exact law_loop hst hL C0 q_0 n5_4 n6_4 n7_4 n8_4 n1_4 n2_4 n3_4 n9_4 n4_4 q_8 n1_12 n2_12 n3_12 n4_12 n5_12 q_17 j1_4 j2_4 j3_4 j4_4 j1_12 j2_12 j3_12 j4_12 j5_12 k_17 (hK.sub [0, 1, 2, 3, 4, 5, 6, 7, 8, 9] rfl) 513 0 0 17 5445 (Nat.zero_le L) (by omega) (by omega) (by omega) (by omega) nI_0.symm 0 told2_4 0 0 ph2_4 di2_4 lm2_4 cu2_4 la2_4 en2_4 0 0 f1b_4 (fun _ => 0) (fun _ => 0) 0 0 (fun _ => 0) 0 0 0 0 0 0 0 0 0 0 0 0 0 0 (fun _ => 0) (fun _ => 0) (fun _ => 0) (fun _ => 0) (fun _ => 0) (fun _ => 0) _ _ _ (⟨linv0, srel0, erel0 hw_4, rfl, frel0⟩) (hP.sub [0, 1, 2, 3, 4, 5, 6, 7, 8, 9, 10, 11, 12, 13, 14, 15, 16] rfl) (hD.sub [0, 1, 2, 3, 4, 5, 6, 7, 8, 9, 10, 11, 12, 13, 14, 15, 16] (by decide) rfl) hS (lv_sub hl [4, 3, 2, 1, 0] rfl)
-- ===== YOUR PART ENDS =====
set_option maxHeartbeats 4000000 in
theorem lw_walk (l : Launch) (hst : l.stackTraces = false) (b : Addr) (xs : List Int32) : MetFree l x (headSpec (Jvm.Cond.code x code maxLocals ret :: tables_1) room_1) (lw_P b xs) (fun _ _ _ _ _ => True) lw_Q := by
  refine MetFree.of_bodyS (code := code) (maxLocals := maxLocals) (ret := ret) (by decide) ?_ ?_
  · intro args s m h hn
    obtain ⟨meth, c, h1, h2, h3, h4, h5, h6, -, -⟩ := Cond.code_spec hn (atoms_spec (ws := Jvm.Cond.code x code maxLocals ret :: tables_1) h _ List.mem_cons_self)
    exact ⟨meth, c, h1, h2, h3, h4, h5, h6⟩
  · intro p e s m args below meth c s₁ B hml0 hP _
    obtain ⟨rfl, hx, hbd, hgv⟩ := hP
    obtain ⟨scr, harrAt, hlist, hof, hsmall⟩ := hx
    obtain ⟨hcb, hkn, -, -⟩ := State.arrayAt?_spec harrAt
    have hown : s.vm.findClass R_law = some m.cls := findClass_of_methodNamed B.named
    have hts0 : ∀ c ∈ (Jvm.Cond.code x code maxLocals ret :: tables_1), c.before #[Value.ref b] s = true := atoms_spec (ws := Jvm.Cond.code x code maxLocals ret :: tables_1) B.pre
    have hts : ∀ w ∈ lw_tbl, w.before #[Value.ref b] s = true := k2_hts_sels lw_privs (fun w hw => hts0 w (List.mem_cons_of_mem _ hw)) lw_privs_ok
    have hml : c.maxLocals = 8 := B.maxLocals_eq (hts0 _ List.mem_cons_self)
    have X₀ : Stand p l e room_1 s m #[Value.ref b] below meth c s₁ [] 0 0 := Stand.of_body B
    have hh0 : s₁.heap = s.heap := by rw [B.state]; rfl
    have hsz : scr.slots.size = xs.length := by rw [← Array.length_toList, hlist, List.length_map]
    have hval : ∀ j : Nat, j < xs.length → scr.slots[j]? = some (.int (xs.getD j 0)) := fun j hj => by
      rw [← Array.getElem?_toList, hlist]
      simp [hj]
    have hbl : b < s.heap.size := (Array.getElem?_eq_some_iff.mp hcb).1
    have hX : va_X b xs.length (fun j => xs.getD j 0) s s.heap := ⟨scr, hcb, hof, hkn, hsz, hval⟩
    have K : W p l e room_1 s m #[Value.ref b] below meth c s₁.heap [] 0 0 (lw_Z below #[Value.ref b] s) (entryFrame m ([Value.ref b] : List Value).toArray 8) := by
      rw [hh0]
      exact whole_start l hst hbd ⟨B.exec, B.bytes, B.returns, hml, hown, hts, hX, hbl, B.notSynchronized, hgv⟩
    obtain ⟨t, a1, o, b1, b2, b3⟩ := K s₁ rfl X₀
    exact ⟨t, o, a1, b1, b2, b3⟩
theorem lw_pre_spec {args : Array Value} {s : State} (h : (Jvm.Cond.and given_1 narrow_1).before args s = true) (hr : rest_1_c.before args s = true) : ∃ (b : Addr) (xs : List Int32), lw_P b xs args s := by
  have hs := flat_of_before _ h
  have hq := flat_of_before _ hr
  have hc : (Cond.count 1).before args s = true := hs _ (by decide +kernel)
  have harr : (Cond.arrayOf (.arg 0) .int).before args s = true := hs _ (by decide +kernel)
  have hle : (Cond.le (.length (.arg 0)) (.int 3584)).before args s = true := hs _ (by decide +kernel)
  have hlen : (Cond.isInt (.length (.arg 0))).before args s = true := hq _ (by decide +kernel)
  have hall : (Cond.all (.arg 0) (.isInt (.elem (.arg 0) (.index 0)))).before args s = true := hq _ (by decide +kernel)
  obtain ⟨b, xs, hb, hx⟩ := State.ints_of_pre rfl harr hlen hall
  have hsm : xs.length < 2 ^ 31 := hx.choose_spec.2.2.2
  have hev : (Term.length (.arg 0)).eval args s none [] s = some (.int xs.length.toInt32) := hx.length_eval hb
  have hv := Cond.le_ints hev (show (Term.int 3584).eval args s none [] s = some (.int 3584) from rfl)
  have hd : xs.length.toInt32 ≤ 3584 := by
    simpa [Cond.before, Cond.holds, hv] using hle
  have hN : xs.length ≤ 3584 := (Int32.ofNat_le_ofNat hsm (by decide)).mp (show Int32.ofNat xs.length ≤ Int32.ofNat 3584 from hd)
  exact ⟨b, xs, Cond.one_arg hc (show args[0]? = some (.ref b) from hb), hx, hN, h⟩
theorem lw_comes (l : Launch) (hst : l.stackTraces = false) : Comes l x (Jvm.Cond.code x code maxLocals ret :: tables_1) room_1 (fun tb e args s => Calls_1 tb e args s ∧ rest_1 tb e args s ∧ Pre_1 tb e args s)
    (fun _ _ args s o t => lw_Q args s o t) := by
  intro p e ha hc hk s m args below hf hfit hheap happ hpre
  obtain ⟨b, xs, hP⟩ := lw_pre_spec hpre.2.2 hpre.2.1
  obtain ⟨k, o, h1, h2, h3, hQ⟩ := lw_walk l hst b xs p e ha hc hk s m args below hf ((Spec.applies_iff_loose hf).mp happ).1 hP trivial
  exact ⟨k, o, h1, h2, h3, hQ⟩
theorem lw_frame {s t : State} {o : Outcome} {args : Array Value} (h : Framed s o t [] 1042 13643) :
    Framed s o t (fieldLocs frame_1_writes args s ++ arrayLocs frame_1_arrays args s ++ staticLocs frame_1_statics s) 1042 13643 := h
theorem lw_limb (L : Cond) (hL : ∀ (args : Array Value) (s t : State), L.after args s (.returned (some (.int 1))) t = true) :
    ArmFor flags0 classFile x code maxLocals ret World_1 tables_1 room_1 Calls_1 rest_1 Pre_1
      (fun tb e a s o t => postC L tb e a s o t ∧ Framed s o t (fieldLocs frame_1_writes a s ++ arrayLocs frame_1_arrays a s ++ staticLocs frame_1_statics s) 1042 13643) := by
  intro l hfl _ _ p e ha hc hk s m args below hf hfit hheap happ hpre
  obtain ⟨k, o, h1, h2, h3, rfl, hF⟩ := lw_comes l (by rw [Launch.stackTraces, hfl]; decide) p e ha hc hk s m args below hf hfit hheap happ hpre
  exact ⟨k, _, h1, h2, h3, hL args s _, lw_frame hF⟩
theorem i_vc : Claimed_1_1 ∧ Claimed_1_2 := ⟨lw_limb limb_1_1 (fun args s t => by simp [limb_1_1, Cond.after, Cond.holds, Cond.value]), lw_limb limb_1_2 (fun args s t => Cond.after_iff.mpr (by
  first | (rw [show limb_1_2 = Cond.eq .result (.int 1) from rfl, Cond.eq_ints (x := 1) (y := 1) rfl rfl]; simp; done) | (simp [limb_1_2, Cond.value, Term.eval]; done)))⟩

