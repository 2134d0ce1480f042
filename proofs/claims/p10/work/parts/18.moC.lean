set_option maxHeartbeats 4000000 in
set_option maxRecDepth 100000 in
theorem c_Mo_message (l : Launch) (dC : Nat → ClassId) (dI : Nat → Nat → Nat) (h0 : Nat) (b1 : Nat) (b2 : Nat) (b3 : Nat) (b4 : Nat) (b5 : Nat) (sz : Nat) (co : Int32) (pi : Int32) (sh : Int32) (lo : Int32) (ph : Int32) (di : Int32) (lm : Int64) (en : Int64) (la : Int64) (cu : Int64) (nw : Int64) (sp : Int32) (lk : Int64) (cs : Int32) (p0 : Int32) (p1 : Int64) (p2 : Int64) : Met l y_Mo_message w_Mo_message ({ frames := 2, cells := 0, slots := 0, locals := 45 }) (cPre dC dI [.ref h0, .int p0, .long p1, .long p2] sz [] [(h0, .inr (6, [.int co, .int pi, .int sh, .int lo, .int ph, .int di, .long lm, .long en, .long la, .long cu, .long nw, .int sp, .ref b1, .ref b2, .ref b3, .ref b4, .long lk, .int cs, .ref b5]))]) (va_Qi (fun (r : Int32) (u : Int32 × Int32 × Int32 × Int64 × Int64 × Int64 × Int64 × Int64) => True) (fun (u : Int32 × Int32 × Int32 × Int64 × Int64 × Int64 × Int64 × Int64) (t : State) => cB dC dI (va_A [(h0, .inr (6, [.int co, .int pi, .int sh, .int lo, .int ph, .int di, .long lm, .long en, .long la, .long cu, .long nw, .int sp, .ref b1, .ref b2, .ref b3, .ref b4, .long lk, .int cs, .ref b5]))] sz) [] [(h0, .inr (6, [.int u.1, .int pi, .int sh, .int lo, .int u.2.1, .int u.2.2.1, .long u.2.2.2.1, .long u.2.2.2.2.1, .long u.2.2.2.2.2.1, .long u.2.2.2.2.2.2.1, .long u.2.2.2.2.2.2.2, .int sp, .ref b1, .ref b2, .ref b3, .ref b4, .long lk, .int cs, .ref b5]))] t) (va_A [(h0, .inr (6, [.int co, .int pi, .int sh, .int lo, .int ph, .int di, .long lm, .long en, .long la, .long cu, .long nw, .int sp, .ref b1, .ref b2, .ref b3, .ref b4, .long lk, .int cs, .ref b5]))] sz)) 0 0 (va_A [(h0, .inr (6, [.int co, .int pi, .int sh, .int lo, .int ph, .int di, .long lm, .long en, .long la, .long cu, .long nw, .int sp, .ref b1, .ref b2, .ref b3, .ref b4, .long lk, .int cs, .ref b5]))] sz) := by
  refine Met.ofW (cc := b_Mo_message) (maxL := 7) (ret := (some .int)) (by decide) rfl ?_
  intro p e s m args below meth c s₁ B hml hv
  obtain ⟨rfl, hsz, hN, hP, hK, hD0⟩ := hv
  have hx := B.exec
  have hb := B.bytes
  have hr := B.returns
  have hts := atoms_spec (ws := w_Mo_message) B.pre
  have hB := big_of hts
  have hown : s.vm.findClass R_Mo = some m.cls := findClass_of_methodNamed B.named
  have hlocks := B.notSynchronized
  subst hsz
  have hD := hD0.self (sz := s.heap.size)
  generalize hAe : va_A [(h0, .inr (6, [.int co, .int pi, .int sh, .int lo, .int ph, .int di, .long lm, .long en, .long la, .long cu, .long nw, .int sp, .ref b1, .ref b2, .ref b3, .ref b4, .long lk, .int cs, .ref b5]))] s.heap.size = A at hD ⊢
  have hA : ∀ q : Nat, s.heap.size ≤ q → A q := fun q h => by rw [← hAe]; exact Or.inr h
  have hS : va_S A s.heap s.heap [] := va_S.rf
  have hP : va_P (dC, dI) classes [(h0, .inr (6, [.int co, .int pi, .int sh, .int lo, .int ph, .int di, .long lm, .long en, .long la, .long cu, .long nw, .int sp, .ref b1, .ref b2, .ref b3, .ref b4, .long lk, .int cs, .ref b5]))] s.heap := hP
  have hl := lv_entry ([.ref h0, .int p0, .long p1, .long p2]) (n := 7) (Nat.le_of_ble_eq_true rfl)
  rw [lg_entry_eq]
  generalize (lg_sl ([.ref h0, .int p0, .long p1, .long p2]) ++ List.replicate (7 - (lg_sl ([.ref h0, .int p0, .long p1, .long p2])).length) Slot.unset).toArray = ls at hl ⊢
  have hl : lv_has ls 7 [(0, .ref h0), (1, .int p0), (2, .long p1), (4, .long p2)] := hl
  have cut : ∀ n : Nat, (∀ (nx : Int32) (H : Heap) (locs : List Loc) (ls : Array Slot), 6 < n → va_P (dC, dI) classes [(h0, .inr (6, [.int 0, .int pi, .int sh, .int lo, .int ph, .int di, .long lm, .long en, .long la, .long cu, .long p2, .int sp, .ref b1, .ref b2, .ref b3, .ref b4, .long lk, .int cs, .ref b5]))] H → va_D A [(h0, .inr (6, [.int 0, .int pi, .int sh, .int lo, .int ph, .int di, .long lm, .long en, .long la, .long cu, .long p2, .int sp, .ref b1, .ref b2, .ref b3, .ref b4, .long lk, .int cs, .ref b5]))] → va_S A s.heap H locs → lv_has ls 7 [(0, .ref h0), (1, .int p0), (2, .long p1), (4, .long p2)] → W p l e (headSpec w_Mo_message ({ frames := 2, cells := 0, slots := 0, locals := 45 })).room s m (List.toArray [.ref h0, .int p0, .long p1, .long p2]) below meth c H locs 0 0 (MQ below (va_Qi (fun (r : Int32) (u : Int32 × Int32 × Int32 × Int64 × Int64 × Int64 × Int64 × Int64) => True) (fun (u : Int32 × Int32 × Int32 × Int64 × Int64 × Int64 × Int64 × Int64) (t : State) => cB dC dI A [] [(h0, .inr (6, [.int u.1, .int pi, .int sh, .int lo, .int u.2.1, .int u.2.2.1, .long u.2.2.2.1, .long u.2.2.2.2.1, .long u.2.2.2.2.2.1, .long u.2.2.2.2.2.2.1, .long u.2.2.2.2.2.2.2, .int sp, .ref b1, .ref b2, .ref b3, .ref b4, .long lk, .int cs, .ref b5]))] t) A) (List.toArray [.ref h0, .int p0, .long p1, .long p2]) s 0 0 A) (F0 m 82 ls [.int nx])) ∧ (∀ (nx : Int32) (dix : Int32) (lmx : Int64) (enx : Int64) (cux : Int64) (H : Heap) (locs : List Loc) (ls : Array Slot), 5 < n → va_P (dC, dI) classes [(h0, .inr (6, [.int 0, .int pi, .int sh, .int lo, .int ph, .int dix, .long lmx, .long enx, .long la, .long cux, .long p2, .int sp, .ref b1, .ref b2, .ref b3, .ref b4, .long lk, .int cs, .ref b5]))] H → va_D A [(h0, .inr (6, [.int 0, .int pi, .int sh, .int lo, .int ph, .int dix, .long lmx, .long enx, .long la, .long cux, .long p2, .int sp, .ref b1, .ref b2, .ref b3, .ref b4, .long lk, .int cs, .ref b5]))] → va_S A s.heap H locs → lv_has ls 7 [(0, .ref h0), (1, .int p0), (2, .long p1), (4, .long p2), (6, .int nx)] → W p l e (headSpec w_Mo_message ({ frames := 2, cells := 0, slots := 0, locals := 45 })).room s m (List.toArray [.ref h0, .int p0, .long p1, .long p2]) below meth c H locs 0 0 (MQ below (va_Qi (fun (r : Int32) (u : Int32 × Int32 × Int32 × Int64 × Int64 × Int64 × Int64 × Int64) => True) (fun (u : Int32 × Int32 × Int32 × Int64 × Int64 × Int64 × Int64 × Int64) (t : State) => cB dC dI A [] [(h0, .inr (6, [.int u.1, .int pi, .int sh, .int lo, .int u.2.1, .int u.2.2.1, .long u.2.2.2.1, .long u.2.2.2.2.1, .long u.2.2.2.2.2.1, .long u.2.2.2.2.2.2.1, .long u.2.2.2.2.2.2.2, .int sp, .ref b1, .ref b2, .ref b3, .ref b4, .long lk, .int cs, .ref b5]))] t) A) (List.toArray [.ref h0, .int p0, .long p1, .long p2]) s 0 0 A) (F0 m 106 ls [])) ∧ (∀ (nx : Int32) (dix : Int32) (lmx : Int64) (enx : Int64) (cux : Int64) (H : Heap) (locs : List Loc) (ls : Array Slot), 4 < n → va_P (dC, dI) classes [(h0, .inr (6, [.int 0, .int pi, .int sh, .int lo, .int ph, .int dix, .long lmx, .long enx, .long la, .long cux, .long p2, .int sp, .ref b1, .ref b2, .ref b3, .ref b4, .long lk, .int cs, .ref b5]))] H → va_D A [(h0, .inr (6, [.int 0, .int pi, .int sh, .int lo, .int ph, .int dix, .long lmx, .long enx, .long la, .long cux, .long p2, .int sp, .ref b1, .ref b2, .ref b3, .ref b4, .long lk, .int cs, .ref b5]))] → va_S A s.heap H locs → lv_has ls 7 [(0, .ref h0), (1, .int p0), (2, .long p1), (4, .long p2), (6, .int nx)] → W p l e (headSpec w_Mo_message ({ frames := 2, cells := 0, slots := 0, locals := 45 })).room s m (List.toArray [.ref h0, .int p0, .long p1, .long p2]) below meth c H locs 0 0 (MQ below (va_Qi (fun (r : Int32) (u : Int32 × Int32 × Int32 × Int64 × Int64 × Int64 × Int64 × Int64) => True) (fun (u : Int32 × Int32 × Int32 × Int64 × Int64 × Int64 × Int64 × Int64) (t : State) => cB dC dI A [] [(h0, .inr (6, [.int u.1, .int pi, .int sh, .int lo, .int u.2.1, .int u.2.2.1, .long u.2.2.2.1, .long u.2.2.2.2.1, .long u.2.2.2.2.2.1, .long u.2.2.2.2.2.2.1, .long u.2.2.2.2.2.2.2, .int sp, .ref b1, .ref b2, .ref b3, .ref b4, .long lk, .int cs, .ref b5]))] t) A) (List.toArray [.ref h0, .int p0, .long p1, .long p2]) s 0 0 A) (F0 m 126 ls [])) ∧ (∀ (nx : Int32) (dix : Int32) (lmx : Int64) (enx : Int64) (cux : Int64) (H : Heap) (locs : List Loc) (ls : Array Slot), 3 < n → va_P (dC, dI) classes [(h0, .inr (6, [.int 0, .int pi, .int sh, .int lo, .int ph, .int dix, .long lmx, .long enx, .long la, .long cux, .long p2, .int sp, .ref b1, .ref b2, .ref b3, .ref b4, .long lk, .int cs, .ref b5]))] H → va_D A [(h0, .inr (6, [.int 0, .int pi, .int sh, .int lo, .int ph, .int dix, .long lmx, .long enx, .long la, .long cux, .long p2, .int sp, .ref b1, .ref b2, .ref b3, .ref b4, .long lk, .int cs, .ref b5]))] → va_S A s.heap H locs → lv_has ls 7 [(0, .ref h0), (1, .int p0), (2, .long p1), (4, .long p2), (6, .int nx)] → W p l e (headSpec w_Mo_message ({ frames := 2, cells := 0, slots := 0, locals := 45 })).room s m (List.toArray [.ref h0, .int p0, .long p1, .long p2]) below meth c H locs 0 0 (MQ below (va_Qi (fun (r : Int32) (u : Int32 × Int32 × Int32 × Int64 × Int64 × Int64 × Int64 × Int64) => True) (fun (u : Int32 × Int32 × Int32 × Int64 × Int64 × Int64 × Int64 × Int64) (t : State) => cB dC dI A [] [(h0, .inr (6, [.int u.1, .int pi, .int sh, .int lo, .int u.2.1, .int u.2.2.1, .long u.2.2.2.1, .long u.2.2.2.2.1, .long u.2.2.2.2.2.1, .long u.2.2.2.2.2.2.1, .long u.2.2.2.2.2.2.2, .int sp, .ref b1, .ref b2, .ref b3, .ref b4, .long lk, .int cs, .ref b5]))] t) A) (List.toArray [.ref h0, .int p0, .long p1, .long p2]) s 0 0 A) (F0 m 142 ls [])) ∧ (∀ (nx : Int32) (dix : Int32) (lmx : Int64) (enx : Int64) (cux : Int64) (H : Heap) (locs : List Loc) (ls : Array Slot), 2 < n → va_P (dC, dI) classes [(h0, .inr (6, [.int 0, .int pi, .int sh, .int lo, .int ph, .int dix, .long lmx, .long enx, .long la, .long cux, .long p2, .int sp, .ref b1, .ref b2, .ref b3, .ref b4, .long lk, .int cs, .ref b5]))] H → va_D A [(h0, .inr (6, [.int 0, .int pi, .int sh, .int lo, .int ph, .int dix, .long lmx, .long enx, .long la, .long cux, .long p2, .int sp, .ref b1, .ref b2, .ref b3, .ref b4, .long lk, .int cs, .ref b5]))] → va_S A s.heap H locs → lv_has ls 7 [(0, .ref h0), (1, .int p0), (2, .long p1), (4, .long p2), (6, .int nx)] → W p l e (headSpec w_Mo_message ({ frames := 2, cells := 0, slots := 0, locals := 45 })).room s m (List.toArray [.ref h0, .int p0, .long p1, .long p2]) below meth c H locs 0 0 (MQ below (va_Qi (fun (r : Int32) (u : Int32 × Int32 × Int32 × Int64 × Int64 × Int64 × Int64 × Int64) => True) (fun (u : Int32 × Int32 × Int32 × Int64 × Int64 × Int64 × Int64 × Int64) (t : State) => cB dC dI A [] [(h0, .inr (6, [.int u.1, .int pi, .int sh, .int lo, .int u.2.1, .int u.2.2.1, .long u.2.2.2.1, .long u.2.2.2.2.1, .long u.2.2.2.2.2.1, .long u.2.2.2.2.2.2.1, .long u.2.2.2.2.2.2.2, .int sp, .ref b1, .ref b2, .ref b3, .ref b4, .long lk, .int cs, .ref b5]))] t) A) (List.toArray [.ref h0, .int p0, .long p1, .long p2]) s 0 0 A) (F0 m 171 ls [])) := by
    intro n
    induction n with
    | zero => exact ⟨by intros; first | exact (Nat.not_lt_zero _ (by assumption)).elim | omega, by intros; first | exact (Nat.not_lt_zero _ (by assumption)).elim | omega, by intros; first | exact (Nat.not_lt_zero _ (by assumption)).elim | omega, by intros; first | exact (Nat.not_lt_zero _ (by assumption)).elim | omega, by intros; first | exact (Nat.not_lt_zero _ (by assumption)).elim | omega⟩
    | succ n ih =>
      refine ⟨?_, ?_, ?_, ?_, ?_⟩
      · intro nx H locs ls  hmu hP hD hS hl
        refine lv_istore (lv' := [(6, .int nx), (0, .ref h0), (1, .int p0), (2, .long p1), (4, .long p2)]) hx hb d_Mo_message_82 hl (by decide) rfl (fun ls hl => ?_)
        refine lv_iload hx hb d_Mo_message_84 (lv_at hl 0 rfl) ?_
        refine lv_if_ge (tgt := 97) hx hb d_Mo_message_86 (by decide) (fun c_86 => ?_) (fun c_86 => ?_)
        · skip
          refine lv_iload_n hx hb d_Mo_message_97 rfl (lv_at hl 2 rfl) ?_
          refine lv_if_ne (tgt := 106) hx hb d_Mo_message_98 (by decide) (fun c_98 => ?_) (fun c_98 => ?_)
          · skip
            exact ih.2.1 nx di lm en cu _ _ _  (by omega) (hP.sub [0] rfl) (hD.sub [0] (by decide) rfl) hS (lv_sub hl [1, 2, 3, 4, 0] rfl)
          · skip
            refine lv_aload_n hx hb d_Mo_message_101 rfl (lv_at hl 1 rfl) ?_
            refine lv_lconst (v := 0) hx hb d_Mo_message_102 (by decide) ?_
            refine va_put (D := (dC, dI)) (ci := 6) (v := .long 0) (ty := .long) (C := R_Mo) (T := F_Mo) (N := 19) hx hb hB inC_Mo t_Mo t_Mo_ok n_Mo hown hK hP hD hS 0 rfl rfl 9 (by decide) (hB _ kb_272) (fun _ h9 => h9) rfl (by decide +kernel) rfl rfl (Nat.le_of_ble_eq_true rfl) d_Mo_message_103 (fun H locs hP hD hS => ?_)
            have hP : va_P (dC, dI) classes [(h0, .inr (6, [.int 0, .int pi, .int sh, .int lo, .int ph, .int di, .long lm, .long en, .long la, .long 0, .long p2, .int sp, .ref b1, .ref b2, .ref b3, .ref b4, .long lk, .int cs, .ref b5]))] H := hP
            have hD : va_D A [(h0, .inr (6, [.int 0, .int pi, .int sh, .int lo, .int ph, .int di, .long lm, .long en, .long la, .long 0, .long p2, .int sp, .ref b1, .ref b2, .ref b3, .ref b4, .long lk, .int cs, .ref b5]))] := hD
            exact ih.2.1 nx di lm en 0 _ _ _  (by omega) (hP.sub [0] rfl) (hD.sub [0] (by decide) rfl) hS (lv_sub hl [1, 2, 3, 4, 0] rfl)
        · skip
          refine lv_aload_n hx hb d_Mo_message_89 rfl (lv_at hl 1 rfl) ?_
          refine lv_iconst (v := 0) hx hb d_Mo_message_90 (by decide) ?_
          refine va_put (D := (dC, dI)) (ci := 6) (v := .int 0) (ty := .int) (C := R_Mo) (T := F_Mo) (N := 19) hx hb hB inC_Mo t_Mo t_Mo_ok n_Mo hown hK hP hD hS 0 rfl rfl 4 (by decide) (hB _ kb_252) (fun _ h9 => h9) rfl (by decide +kernel) rfl rfl (Nat.le_of_ble_eq_true rfl) d_Mo_message_91 (fun H locs hP hD hS => ?_)
          have hP : va_P (dC, dI) classes [(h0, .inr (6, [.int 0, .int pi, .int sh, .int lo, .int 0, .int di, .long lm, .long en, .long la, .long cu, .long p2, .int sp, .ref b1, .ref b2, .ref b3, .ref b4, .long lk, .int cs, .ref b5]))] H := hP
          have hD : va_D A [(h0, .inr (6, [.int 0, .int pi, .int sh, .int lo, .int 0, .int di, .long lm, .long en, .long la, .long cu, .long p2, .int sp, .ref b1, .ref b2, .ref b3, .ref b4, .long lk, .int cs, .ref b5]))] := hD
          refine lv_bipush (v := (-3)) hx hb d_Mo_message_94 (by decide) ?_
          have hP9 := hP.sub (ws' := [(h0, .inr (6, [.int 0, .int pi, .int sh, .int lo, .int 0, .int di, .long lm, .long en, .long la, .long cu, .long p2, .int sp, .ref b1, .ref b2, .ref b3, .ref b4, .long lk, .int cs, .ref b5]))]) [0] rfl
          have hD9 := hD.sub (ws' := [(h0, .inr (6, [.int 0, .int pi, .int sh, .int lo, .int 0, .int di, .long lm, .long en, .long la, .long cu, .long p2, .int sp, .ref b1, .ref b2, .ref b3, .ref b4, .long lk, .int cs, .ref b5]))]) [0] (by decide) rfl
          have hK9 := hK.sub (tys' := []) [] rfl
          exact W.iret (v := (-3)) hx hb hr (fun t ht hW => ⟨⟨(-3), (0, 0, di, lm, en, la, cu, p2), rfl, trivial, by rw [ht]; exact hP9, va_K.moved hW.alike hK9, hD9⟩, hS.F ht⟩) hS.2.2 d_Mo_message_96
      · intro nx dix lmx enx cux H locs ls  hmu hP hD hS hl
        refine lv_iload_n hx hb d_Mo_message_106 rfl (lv_at hl 1 rfl) ?_
        refine lv_iconst (v := 1) hx hb d_Mo_message_107 (by decide) ?_
        refine lv_icmp_ne (tgt := 126) hx hb d_Mo_message_108 (by decide) (fun c_108 => ?_) (fun c_108 => ?_)
        · skip
          exact ih.2.2.1 nx dix lmx enx cux _ _ _  (by omega) (hP.sub [0] rfl) (hD.sub [0] (by decide) rfl) hS (lv_sub hl [0, 1, 2, 3, 4] rfl)
        · skip
          refine lv_aload_n hx hb d_Mo_message_111 rfl (lv_at hl 0 rfl) ?_
          refine lv_lload_n hx hb d_Mo_message_112 rfl (lv_at hl 2 rfl) ?_
          refine lv_lconst (v := 1) hx hb d_Mo_message_113 (by decide) ?_
          refine W.lcmp hx hb d_Mo_message_114 ?_
          refine lv_if_ne (tgt := 122) hx hb d_Mo_message_115 (by decide) (fun c_115 => ?_) (fun c_115 => ?_)
          · have c_115 := mt (lg_cmp_eq _ _).mpr c_115
            refine lv_iconst (v := 0) hx hb d_Mo_message_122 (by decide) ?_
            refine va_put (D := (dC, dI)) (ci := 6) (v := .int 0) (ty := .boolean) (C := R_Mo) (T := F_Mo) (N := 19) hx hb hB inC_Mo t_Mo t_Mo_ok n_Mo hown hK hP hD hS 0 rfl rfl 5 (by decide) (hB _ kb_267) (fun _ h9 => h9) rfl (by decide +kernel) rfl rfl (Nat.le_of_ble_eq_true rfl) d_Mo_message_123 (fun H locs hP hD hS => ?_)
            have hP : va_P (dC, dI) classes [(h0, .inr (6, [.int 0, .int pi, .int sh, .int lo, .int ph, .int 0, .long lmx, .long enx, .long la, .long cux, .long p2, .int sp, .ref b1, .ref b2, .ref b3, .ref b4, .long lk, .int cs, .ref b5]))] H := hP
            have hD : va_D A [(h0, .inr (6, [.int 0, .int pi, .int sh, .int lo, .int ph, .int 0, .long lmx, .long enx, .long la, .long cux, .long p2, .int sp, .ref b1, .ref b2, .ref b3, .ref b4, .long lk, .int cs, .ref b5]))] := hD
            exact ih.2.2.1 nx 0 lmx enx cux _ _ _  (by omega) (hP.sub [0] rfl) (hD.sub [0] (by decide) rfl) hS (lv_sub hl [0, 1, 2, 3, 4] rfl)
          · have c_115 := (lg_cmp_eq _ _).mp c_115
            refine lv_iconst (v := 1) hx hb d_Mo_message_118 (by decide) ?_
            refine lv_goto (tgt := 123) hx hb d_Mo_message_119 (by decide) ?_
            refine va_put (D := (dC, dI)) (ci := 6) (v := .int 1) (ty := .boolean) (C := R_Mo) (T := F_Mo) (N := 19) hx hb hB inC_Mo t_Mo t_Mo_ok n_Mo hown hK hP hD hS 0 rfl rfl 5 (by decide) (hB _ kb_267) (fun _ h9 => h9) rfl (by decide +kernel) rfl rfl (Nat.le_of_ble_eq_true rfl) d_Mo_message_123 (fun H locs hP hD hS => ?_)
            have hP : va_P (dC, dI) classes [(h0, .inr (6, [.int 0, .int pi, .int sh, .int lo, .int ph, .int 1, .long lmx, .long enx, .long la, .long cux, .long p2, .int sp, .ref b1, .ref b2, .ref b3, .ref b4, .long lk, .int cs, .ref b5]))] H := hP
            have hD : va_D A [(h0, .inr (6, [.int 0, .int pi, .int sh, .int lo, .int ph, .int 1, .long lmx, .long enx, .long la, .long cux, .long p2, .int sp, .ref b1, .ref b2, .ref b3, .ref b4, .long lk, .int cs, .ref b5]))] := hD
            exact ih.2.2.1 nx 1 lmx enx cux _ _ _  (by omega) (hP.sub [0] rfl) (hD.sub [0] (by decide) rfl) hS (lv_sub hl [0, 1, 2, 3, 4] rfl)
      · intro nx dix lmx enx cux H locs ls  hmu hP hD hS hl
        refine lv_iload_n hx hb d_Mo_message_126 rfl (lv_at hl 1 rfl) ?_
        refine lv_iconst (v := 3) hx hb d_Mo_message_127 (by decide) ?_
        refine lv_icmp_eq (tgt := 137) hx hb d_Mo_message_128 (by decide) (fun c_128 => ?_) (fun c_128 => ?_)
        · skip
          refine lv_aload_n hx hb d_Mo_message_137 rfl (lv_at hl 0 rfl) ?_
          refine lv_lload_n hx hb d_Mo_message_138 rfl (lv_at hl 2 rfl) ?_
          refine va_put (D := (dC, dI)) (ci := 6) (v := .long p1) (ty := .long) (C := R_Mo) (T := F_Mo) (N := 19) hx hb hB inC_Mo t_Mo t_Mo_ok n_Mo hown hK hP hD hS 0 rfl rfl 6 (by decide) (hB _ kb_271) (fun _ h9 => h9) rfl (by decide +kernel) rfl rfl (Nat.le_of_ble_eq_true rfl) d_Mo_message_139 (fun H locs hP hD hS => ?_)
          have hP : va_P (dC, dI) classes [(h0, .inr (6, [.int 0, .int pi, .int sh, .int lo, .int ph, .int dix, .long p1, .long enx, .long la, .long cux, .long p2, .int sp, .ref b1, .ref b2, .ref b3, .ref b4, .long lk, .int cs, .ref b5]))] H := hP
          have hD : va_D A [(h0, .inr (6, [.int 0, .int pi, .int sh, .int lo, .int ph, .int dix, .long p1, .long enx, .long la, .long cux, .long p2, .int sp, .ref b1, .ref b2, .ref b3, .ref b4, .long lk, .int cs, .ref b5]))] := hD
          exact ih.2.2.2.1 nx dix p1 enx cux _ _ _  (by omega) (hP.sub [0] rfl) (hD.sub [0] (by decide) rfl) hS (lv_sub hl [0, 1, 2, 3, 4] rfl)
        · skip
          refine lv_iload_n hx hb d_Mo_message_131 rfl (lv_at hl 1 rfl) ?_
          refine lv_bipush (v := 8) hx hb d_Mo_message_132 (by decide) ?_
          refine lv_icmp_ne (tgt := 142) hx hb d_Mo_message_134 (by decide) (fun c_134 => ?_) (fun c_134 => ?_)
          · skip
            exact ih.2.2.2.1 nx dix lmx enx cux _ _ _  (by omega) (hP.sub [0] rfl) (hD.sub [0] (by decide) rfl) hS (lv_sub hl [0, 1, 2, 3, 4] rfl)
          · skip
            refine lv_aload_n hx hb d_Mo_message_137 rfl (lv_at hl 0 rfl) ?_
            refine lv_lload_n hx hb d_Mo_message_138 rfl (lv_at hl 2 rfl) ?_
            refine va_put (D := (dC, dI)) (ci := 6) (v := .long p1) (ty := .long) (C := R_Mo) (T := F_Mo) (N := 19) hx hb hB inC_Mo t_Mo t_Mo_ok n_Mo hown hK hP hD hS 0 rfl rfl 6 (by decide) (hB _ kb_271) (fun _ h9 => h9) rfl (by decide +kernel) rfl rfl (Nat.le_of_ble_eq_true rfl) d_Mo_message_139 (fun H locs hP hD hS => ?_)
            have hP : va_P (dC, dI) classes [(h0, .inr (6, [.int 0, .int pi, .int sh, .int lo, .int ph, .int dix, .long p1, .long enx, .long la, .long cux, .long p2, .int sp, .ref b1, .ref b2, .ref b3, .ref b4, .long lk, .int cs, .ref b5]))] H := hP
            have hD : va_D A [(h0, .inr (6, [.int 0, .int pi, .int sh, .int lo, .int ph, .int dix, .long p1, .long enx, .long la, .long cux, .long p2, .int sp, .ref b1, .ref b2, .ref b3, .ref b4, .long lk, .int cs, .ref b5]))] := hD
            exact ih.2.2.2.1 nx dix p1 enx cux _ _ _  (by omega) (hP.sub [0] rfl) (hD.sub [0] (by decide) rfl) hS (lv_sub hl [0, 1, 2, 3, 4] rfl)
      · intro nx dix lmx enx cux H locs ls  hmu hP hD hS hl
        refine lv_iload_n hx hb d_Mo_message_142 rfl (lv_at hl 1 rfl) ?_
        refine lv_bipush (v := 7) hx hb d_Mo_message_143 (by decide) ?_
        refine lv_icmp_ne (tgt := 171) hx hb d_Mo_message_145 (by decide) (fun c_145 => ?_) (fun c_145 => ?_)
        · skip
          exact ih.2.2.2.2 nx dix lmx enx cux _ _ _  (by omega) (hP.sub [0] rfl) (hD.sub [0] (by decide) rfl) hS (lv_sub hl [0, 1, 2, 3, 4] rfl)
        · skip
          refine lv_aload_n hx hb d_Mo_message_148 rfl (lv_at hl 0 rfl) ?_
          refine lv_dup hx hb d_Mo_message_149 rfl ?_
          refine va_get (D := (dC, dI)) (ci := 6) (v := .long enx) (C := R_Mo) (T := F_Mo) (N := 19) hx hb hB inC_Mo hown hK hP 0 rfl rfl 7 (by decide) (hB _ kb_273) (fun _ h9 => h9) rfl d_Mo_message_150 ?_
          refine lv_lload_n hx hb d_Mo_message_153 rfl (lv_at hl 2 rfl) ?_
          refine lv_lload hx hb d_Mo_message_154 (lv_at hl 3 rfl) ?_
          refine lv_aload_n hx hb d_Mo_message_156 rfl (lv_at hl 0 rfl) ?_
          refine va_get (D := (dC, dI)) (ci := 6) (v := .long la) (C := R_Mo) (T := F_Mo) (N := 19) hx hb hB inC_Mo hown hK hP 0 rfl rfl 8 (by decide) (hB _ kb_274) (fun _ h9 => h9) rfl d_Mo_message_157 ?_
          refine lv_lsub hx hb d_Mo_message_160 ?_
          refine lv_topl (fun x_160 ex_160 => ?_)
          refine lv_lmul hx hb d_Mo_message_161 ?_
          refine lv_topl (fun x_161 ex_161 => ?_)
          refine lv_ladd hx hb d_Mo_message_162 ?_
          refine lv_topl (fun x_162 ex_162 => ?_)
          refine va_put (D := (dC, dI)) (ci := 6) (v := .long x_162) (ty := .long) (C := R_Mo) (T := F_Mo) (N := 19) hx hb hB inC_Mo t_Mo t_Mo_ok n_Mo hown hK hP hD hS 0 rfl rfl 7 (by decide) (hB _ kb_273) (fun _ h9 => h9) rfl (by decide +kernel) rfl rfl (Nat.le_of_ble_eq_true rfl) d_Mo_message_163 (fun H locs hP hD hS => ?_)
          have hP : va_P (dC, dI) classes [(h0, .inr (6, [.int 0, .int pi, .int sh, .int lo, .int ph, .int dix, .long lmx, .long x_162, .long la, .long cux, .long p2, .int sp, .ref b1, .ref b2, .ref b3, .ref b4, .long lk, .int cs, .ref b5]))] H := hP
          have hD : va_D A [(h0, .inr (6, [.int 0, .int pi, .int sh, .int lo, .int ph, .int dix, .long lmx, .long x_162, .long la, .long cux, .long p2, .int sp, .ref b1, .ref b2, .ref b3, .ref b4, .long lk, .int cs, .ref b5]))] := hD
          refine lv_aload_n hx hb d_Mo_message_166 rfl (lv_at hl 0 rfl) ?_
          refine lv_lload_n hx hb d_Mo_message_167 rfl (lv_at hl 2 rfl) ?_
          refine va_put (D := (dC, dI)) (ci := 6) (v := .long p1) (ty := .long) (C := R_Mo) (T := F_Mo) (N := 19) hx hb hB inC_Mo t_Mo t_Mo_ok n_Mo hown hK hP hD hS 0 rfl rfl 9 (by decide) (hB _ kb_272) (fun _ h9 => h9) rfl (by decide +kernel) rfl rfl (Nat.le_of_ble_eq_true rfl) d_Mo_message_168 (fun H locs hP hD hS => ?_)
          have hP : va_P (dC, dI) classes [(h0, .inr (6, [.int 0, .int pi, .int sh, .int lo, .int ph, .int dix, .long lmx, .long x_162, .long la, .long p1, .long p2, .int sp, .ref b1, .ref b2, .ref b3, .ref b4, .long lk, .int cs, .ref b5]))] H := hP
          have hD : va_D A [(h0, .inr (6, [.int 0, .int pi, .int sh, .int lo, .int ph, .int dix, .long lmx, .long x_162, .long la, .long p1, .long p2, .int sp, .ref b1, .ref b2, .ref b3, .ref b4, .long lk, .int cs, .ref b5]))] := hD
          exact ih.2.2.2.2 nx dix lmx x_162 p1 _ _ _  (by omega) (hP.sub [0] rfl) (hD.sub [0] (by decide) rfl) hS (lv_sub hl [0, 1, 2, 3, 4] rfl)
      · intro nx dix lmx enx cux H locs ls  hmu hP hD hS hl
        refine lv_aload_n hx hb d_Mo_message_171 rfl (lv_at hl 0 rfl) ?_
        refine lv_lload hx hb d_Mo_message_172 (lv_at hl 3 rfl) ?_
        refine va_put (D := (dC, dI)) (ci := 6) (v := .long p2) (ty := .long) (C := R_Mo) (T := F_Mo) (N := 19) hx hb hB inC_Mo t_Mo t_Mo_ok n_Mo hown hK hP hD hS 0 rfl rfl 8 (by decide) (hB _ kb_274) (fun _ h9 => h9) rfl (by decide +kernel) rfl rfl (Nat.le_of_ble_eq_true rfl) d_Mo_message_174 (fun H locs hP hD hS => ?_)
        have hP : va_P (dC, dI) classes [(h0, .inr (6, [.int 0, .int pi, .int sh, .int lo, .int ph, .int dix, .long lmx, .long enx, .long p2, .long cux, .long p2, .int sp, .ref b1, .ref b2, .ref b3, .ref b4, .long lk, .int cs, .ref b5]))] H := hP
        have hD : va_D A [(h0, .inr (6, [.int 0, .int pi, .int sh, .int lo, .int ph, .int dix, .long lmx, .long enx, .long p2, .long cux, .long p2, .int sp, .ref b1, .ref b2, .ref b3, .ref b4, .long lk, .int cs, .ref b5]))] := hD
        refine lv_aload_n hx hb d_Mo_message_177 rfl (lv_at hl 0 rfl) ?_
        refine lv_iload hx hb d_Mo_message_178 (lv_at hl 4 rfl) ?_
        refine va_put (D := (dC, dI)) (ci := 6) (v := .int nx) (ty := .int) (C := R_Mo) (T := F_Mo) (N := 19) hx hb hB inC_Mo t_Mo t_Mo_ok n_Mo hown hK hP hD hS 0 rfl rfl 4 (by decide) (hB _ kb_252) (fun _ h9 => h9) rfl (by decide +kernel) rfl rfl (Nat.le_of_ble_eq_true rfl) d_Mo_message_180 (fun H locs hP hD hS => ?_)
        have hP : va_P (dC, dI) classes [(h0, .inr (6, [.int 0, .int pi, .int sh, .int lo, .int nx, .int dix, .long lmx, .long enx, .long p2, .long cux, .long p2, .int sp, .ref b1, .ref b2, .ref b3, .ref b4, .long lk, .int cs, .ref b5]))] H := hP
        have hD : va_D A [(h0, .inr (6, [.int 0, .int pi, .int sh, .int lo, .int nx, .int dix, .long lmx, .long enx, .long p2, .long cux, .long p2, .int sp, .ref b1, .ref b2, .ref b3, .ref b4, .long lk, .int cs, .ref b5]))] := hD
        refine lv_aload_n hx hb d_Mo_message_183 rfl (lv_at hl 0 rfl) ?_
        refine va_get (D := (dC, dI)) (ci := 6) (v := .int nx) (C := R_Mo) (T := F_Mo) (N := 19) hx hb hB inC_Mo hown hK hP 0 rfl rfl 4 (by decide) (hB _ kb_252) (fun _ h9 => h9) rfl d_Mo_message_184 ?_
        have hP9 := hP.sub (ws' := [(h0, .inr (6, [.int 0, .int pi, .int sh, .int lo, .int nx, .int dix, .long lmx, .long enx, .long p2, .long cux, .long p2, .int sp, .ref b1, .ref b2, .ref b3, .ref b4, .long lk, .int cs, .ref b5]))]) [0] rfl
        have hD9 := hD.sub (ws' := [(h0, .inr (6, [.int 0, .int pi, .int sh, .int lo, .int nx, .int dix, .long lmx, .long enx, .long p2, .long cux, .long p2, .int sp, .ref b1, .ref b2, .ref b3, .ref b4, .long lk, .int cs, .ref b5]))]) [0] (by decide) rfl
        have hK9 := hK.sub (tys' := []) [] rfl
        exact W.iret (v := nx) hx hb hr (fun t ht hW => ⟨⟨nx, (0, nx, dix, lmx, enx, p2, cux, p2), rfl, trivial, by rw [ht]; exact hP9, va_K.moved hW.alike hK9, hD9⟩, hS.F ht⟩) hS.2.2 d_Mo_message_187
  refine lv_aload_n hx hb d_Mo_message_0 rfl (lv_at hl 0 rfl) ?_
  refine lv_iconst (v := 0) hx hb d_Mo_message_1 (by decide) ?_
  refine va_put (D := (dC, dI)) (ci := 6) (v := .int 0) (ty := .int) (C := R_Mo) (T := F_Mo) (N := 19) hx hb hB inC_Mo t_Mo t_Mo_ok n_Mo hown hK hP hD hS 0 rfl rfl 0 (by decide) (hB _ kb_245) (fun _ h9 => h9) rfl (by decide +kernel) rfl rfl (Nat.le_of_ble_eq_true rfl) d_Mo_message_2 (fun H locs hP hD hS => ?_)
  have hP : va_P (dC, dI) classes [(h0, .inr (6, [.int 0, .int pi, .int sh, .int lo, .int ph, .int di, .long lm, .long en, .long la, .long cu, .long nw, .int sp, .ref b1, .ref b2, .ref b3, .ref b4, .long lk, .int cs, .ref b5]))] H := hP
  have hD : va_D A [(h0, .inr (6, [.int 0, .int pi, .int sh, .int lo, .int ph, .int di, .long lm, .long en, .long la, .long cu, .long nw, .int sp, .ref b1, .ref b2, .ref b3, .ref b4, .long lk, .int cs, .ref b5]))] := hD
  refine lv_iload_n hx hb d_Mo_message_5 rfl (lv_at hl 1 rfl) ?_
  refine lv_if_lt (tgt := 40) hx hb d_Mo_message_6 (by decide) (fun c_6 => ?_) (fun c_6 => ?_)
  · skip
    refine lv_bipush (v := (-2)) hx hb d_Mo_message_40 (by decide) ?_
    have hP9 := hP.sub (ws' := [(h0, .inr (6, [.int 0, .int pi, .int sh, .int lo, .int ph, .int di, .long lm, .long en, .long la, .long cu, .long nw, .int sp, .ref b1, .ref b2, .ref b3, .ref b4, .long lk, .int cs, .ref b5]))]) [0] rfl
    have hD9 := hD.sub (ws' := [(h0, .inr (6, [.int 0, .int pi, .int sh, .int lo, .int ph, .int di, .long lm, .long en, .long la, .long cu, .long nw, .int sp, .ref b1, .ref b2, .ref b3, .ref b4, .long lk, .int cs, .ref b5]))]) [0] (by decide) rfl
    have hK9 := hK.sub (tys' := []) [] rfl
    exact W.iret (v := (-2)) hx hb hr (fun t ht hW => ⟨⟨(-2), (0, ph, di, lm, en, la, cu, nw), rfl, trivial, by rw [ht]; exact hP9, va_K.moved hW.alike hK9, hD9⟩, hS.F ht⟩) hS.2.2 d_Mo_message_42
  · skip
    refine lv_iload_n hx hb d_Mo_message_9 rfl (lv_at hl 1 rfl) ?_
    refine lv_bipush (v := 10) hx hb d_Mo_message_10 (by decide) ?_
    refine lv_icmp_gt (tgt := 40) hx hb d_Mo_message_12 (by decide) (fun c_12 => ?_) (fun c_12 => ?_)
    · skip
      refine lv_bipush (v := (-2)) hx hb d_Mo_message_40 (by decide) ?_
      have hP9 := hP.sub (ws' := [(h0, .inr (6, [.int 0, .int pi, .int sh, .int lo, .int ph, .int di, .long lm, .long en, .long la, .long cu, .long nw, .int sp, .ref b1, .ref b2, .ref b3, .ref b4, .long lk, .int cs, .ref b5]))]) [0] rfl
      have hD9 := hD.sub (ws' := [(h0, .inr (6, [.int 0, .int pi, .int sh, .int lo, .int ph, .int di, .long lm, .long en, .long la, .long cu, .long nw, .int sp, .ref b1, .ref b2, .ref b3, .ref b4, .long lk, .int cs, .ref b5]))]) [0] (by decide) rfl
      have hK9 := hK.sub (tys' := []) [] rfl
      exact W.iret (v := (-2)) hx hb hr (fun t ht hW => ⟨⟨(-2), (0, ph, di, lm, en, la, cu, nw), rfl, trivial, by rw [ht]; exact hP9, va_K.moved hW.alike hK9, hD9⟩, hS.F ht⟩) hS.2.2 d_Mo_message_42
    · skip
      refine lv_lload_n hx hb d_Mo_message_15 rfl (lv_at hl 2 rfl) ?_
      refine lv_ldc2 (v := (-1000000)) hx hb hown (hB _ kb_275) d_Mo_message_16 ?_
      refine W.lcmp hx hb d_Mo_message_19 ?_
      refine lv_if_lt (tgt := 40) hx hb d_Mo_message_20 (by decide) (fun c_20 => ?_) (fun c_20 => ?_)
      · have c_20 := (lg_cmp_lt _ _).mp c_20
        refine lv_bipush (v := (-2)) hx hb d_Mo_message_40 (by decide) ?_
        have hP9 := hP.sub (ws' := [(h0, .inr (6, [.int 0, .int pi, .int sh, .int lo, .int ph, .int di, .long lm, .long en, .long la, .long cu, .long nw, .int sp, .ref b1, .ref b2, .ref b3, .ref b4, .long lk, .int cs, .ref b5]))]) [0] rfl
        have hD9 := hD.sub (ws' := [(h0, .inr (6, [.int 0, .int pi, .int sh, .int lo, .int ph, .int di, .long lm, .long en, .long la, .long cu, .long nw, .int sp, .ref b1, .ref b2, .ref b3, .ref b4, .long lk, .int cs, .ref b5]))]) [0] (by decide) rfl
        have hK9 := hK.sub (tys' := []) [] rfl
        exact W.iret (v := (-2)) hx hb hr (fun t ht hW => ⟨⟨(-2), (0, ph, di, lm, en, la, cu, nw), rfl, trivial, by rw [ht]; exact hP9, va_K.moved hW.alike hK9, hD9⟩, hS.F ht⟩) hS.2.2 d_Mo_message_42
      · have c_20 := mt (lg_cmp_lt _ _).mpr c_20
        refine lv_lload_n hx hb d_Mo_message_23 rfl (lv_at hl 2 rfl) ?_
        refine lv_ldc2 (v := 1000000) hx hb hown (hB _ kb_276) d_Mo_message_24 ?_
        refine W.lcmp hx hb d_Mo_message_27 ?_
        refine lv_if_gt (tgt := 40) hx hb d_Mo_message_28 (by decide) (fun c_28 => ?_) (fun c_28 => ?_)
        · have c_28 := (lg_cmp_gt _ _).mp c_28
          refine lv_bipush (v := (-2)) hx hb d_Mo_message_40 (by decide) ?_
          have hP9 := hP.sub (ws' := [(h0, .inr (6, [.int 0, .int pi, .int sh, .int lo, .int ph, .int di, .long lm, .long en, .long la, .long cu, .long nw, .int sp, .ref b1, .ref b2, .ref b3, .ref b4, .long lk, .int cs, .ref b5]))]) [0] rfl
          have hD9 := hD.sub (ws' := [(h0, .inr (6, [.int 0, .int pi, .int sh, .int lo, .int ph, .int di, .long lm, .long en, .long la, .long cu, .long nw, .int sp, .ref b1, .ref b2, .ref b3, .ref b4, .long lk, .int cs, .ref b5]))]) [0] (by decide) rfl
          have hK9 := hK.sub (tys' := []) [] rfl
          exact W.iret (v := (-2)) hx hb hr (fun t ht hW => ⟨⟨(-2), (0, ph, di, lm, en, la, cu, nw), rfl, trivial, by rw [ht]; exact hP9, va_K.moved hW.alike hK9, hD9⟩, hS.F ht⟩) hS.2.2 d_Mo_message_42
        · have c_28 := mt (lg_cmp_gt _ _).mpr c_28
          refine lv_aload_n hx hb d_Mo_message_31 rfl (lv_at hl 0 rfl) ?_
          refine lv_lload hx hb d_Mo_message_32 (lv_at hl 3 rfl) ?_
          refine kc_i (va_runV (As := [.long p2]) (rest := []) ⟨hx, hb, hml, hown, hts⟩ (c_Mo_isTime l dC dI h0 b1 b2 b3 b4 b5 H.size 0 pi sh lo ph di lm en la cu nw sp lk cs p2 ) (cwV 1 hts (ginV kb_278 kb_279 kb_280 kb_251 kb_277) rfl rfl rfl (by decide +kernel) ⟨Nat.le_of_ble_eq_true rfl, Nat.le_of_ble_eq_true rfl⟩) (preV (ci := 6) (wc := [(h0, .inr (6, [.int 0, .int pi, .int sh, .int lo, .int ph, .int di, .long lm, .long en, .long la, .long cu, .long nw, .int sp, .ref b1, .ref b2, .ref b3, .ref b4, .long lk, .int cs, .ref b5]))]) hK hN hP hD [0] rfl rfl (by decide) [] rfl rfl rfl) rfl rfl hl.1 rfl (lv_room (Nat.le_of_ble_eq_true rfl)) d_Mo_message_34 ⟨Nat.le_of_ble_eq_true rfl, Nat.le_of_ble_eq_true rfl⟩) hP hD hS hA [0] [] (wr := []) rfl rfl (by decide) (by decide) (fun r_34 u_34 H locs hw_34 hP hD hK1 hS => ?_)
          have hw_34 : True := hw_34
          have hP : va_P (dC, dI) classes [(h0, .inr (6, [.int 0, .int pi, .int sh, .int lo, .int ph, .int di, .long lm, .long en, .long la, .long cu, .long nw, .int sp, .ref b1, .ref b2, .ref b3, .ref b4, .long lk, .int cs, .ref b5]))] H := hP
          have hD : va_D A [(h0, .inr (6, [.int 0, .int pi, .int sh, .int lo, .int ph, .int di, .long lm, .long en, .long la, .long cu, .long nw, .int sp, .ref b1, .ref b2, .ref b3, .ref b4, .long lk, .int cs, .ref b5]))] := hD
          refine lv_if_ne (tgt := 43) hx hb d_Mo_message_37 (by decide) (fun c_37 => ?_) (fun c_37 => ?_)
          · skip
            refine lv_aload_n hx hb d_Mo_message_43 rfl (lv_at hl 0 rfl) ?_
            refine lv_lload hx hb d_Mo_message_44 (lv_at hl 3 rfl) ?_
            refine va_put (D := (dC, dI)) (ci := 6) (v := .long p2) (ty := .long) (C := R_Mo) (T := F_Mo) (N := 19) hx hb hB inC_Mo t_Mo t_Mo_ok n_Mo hown hK hP hD hS 0 rfl rfl 10 (by decide) (hB _ kb_263) (fun _ h9 => h9) rfl (by decide +kernel) rfl rfl (Nat.le_of_ble_eq_true rfl) d_Mo_message_46 (fun H locs hP hD hS => ?_)
            have hP : va_P (dC, dI) classes [(h0, .inr (6, [.int 0, .int pi, .int sh, .int lo, .int ph, .int di, .long lm, .long en, .long la, .long cu, .long p2, .int sp, .ref b1, .ref b2, .ref b3, .ref b4, .long lk, .int cs, .ref b5]))] H := hP
            have hD : va_D A [(h0, .inr (6, [.int 0, .int pi, .int sh, .int lo, .int ph, .int di, .long lm, .long en, .long la, .long cu, .long p2, .int sp, .ref b1, .ref b2, .ref b3, .ref b4, .long lk, .int cs, .ref b5]))] := hD
            refine lv_aload_n hx hb d_Mo_message_49 rfl (lv_at hl 0 rfl) ?_
            refine va_get (D := (dC, dI)) (ci := 6) (v := .int ph) (C := R_Mo) (T := F_Mo) (N := 19) hx hb hB inC_Mo hown hK hP 0 rfl rfl 4 (by decide) (hB _ kb_252) (fun _ h9 => h9) rfl d_Mo_message_50 ?_
            refine lv_if_le (tgt := 74) hx hb d_Mo_message_53 (by decide) (fun c_53 => ?_) (fun c_53 => ?_)
            · skip
              refine lv_aload_n hx hb d_Mo_message_74 rfl (lv_at hl 0 rfl) ?_
              refine lv_iload_n hx hb d_Mo_message_75 rfl (lv_at hl 1 rfl) ?_
              refine lv_lload_n hx hb d_Mo_message_76 rfl (lv_at hl 2 rfl) ?_
              refine lv_lload hx hb d_Mo_message_77 (lv_at hl 3 rfl) ?_
              refine kc_i (va_runV (As := [.int p0, .long p1, .long p2]) (rest := []) ⟨hx, hb, hml, hown, hts⟩ (c_Mo_behind l dC dI h0 b1 b2 b3 b4 b5 H.size 0 pi sh lo ph di lm en la cu p2 sp lk cs p0 p1 p2 ) (cwV 3 hts (ginV kb_282 kb_283 kb_284 kb_251 kb_281) rfl rfl rfl (by decide +kernel) ⟨Nat.le_of_ble_eq_true rfl, Nat.le_of_ble_eq_true rfl⟩) (preV (ci := 6) (wc := [(h0, .inr (6, [.int 0, .int pi, .int sh, .int lo, .int ph, .int di, .long lm, .long en, .long la, .long cu, .long p2, .int sp, .ref b1, .ref b2, .ref b3, .ref b4, .long lk, .int cs, .ref b5]))]) hK hN hP hD [0] rfl rfl (by decide) [] rfl rfl rfl) rfl rfl hl.1 rfl (lv_room (Nat.le_of_ble_eq_true rfl)) d_Mo_message_79 ⟨Nat.le_of_ble_eq_true rfl, Nat.le_of_ble_eq_true rfl⟩) hP hD hS hA [0] [] (wr := []) rfl rfl (by decide) (by decide) (fun r_79 u_79 H locs hw_79 hP hD hK1 hS => ?_)
              have hw_79 : True := hw_79
              have hP : va_P (dC, dI) classes [(h0, .inr (6, [.int 0, .int pi, .int sh, .int lo, .int ph, .int di, .long lm, .long en, .long la, .long cu, .long p2, .int sp, .ref b1, .ref b2, .ref b3, .ref b4, .long lk, .int cs, .ref b5]))] H := hP
              have hD : va_D A [(h0, .inr (6, [.int 0, .int pi, .int sh, .int lo, .int ph, .int di, .long lm, .long en, .long la, .long cu, .long p2, .int sp, .ref b1, .ref b2, .ref b3, .ref b4, .long lk, .int cs, .ref b5]))] := hD
              exact (cut 9).1 r_79 _ _ _  (by omega) (hP.sub [0] rfl) (hD.sub [0] (by decide) rfl) hS (lv_sub hl [0, 1, 2, 3] rfl)
            · skip
              refine lv_lload hx hb d_Mo_message_56 (lv_at hl 3 rfl) ?_
              refine lv_aload_n hx hb d_Mo_message_58 rfl (lv_at hl 0 rfl) ?_
              refine va_get (D := (dC, dI)) (ci := 6) (v := .long la) (C := R_Mo) (T := F_Mo) (N := 19) hx hb hB inC_Mo hown hK hP 0 rfl rfl 8 (by decide) (hB _ kb_274) (fun _ h9 => h9) rfl d_Mo_message_59 ?_
              refine lv_lsub hx hb d_Mo_message_62 ?_
              refine lv_topl (fun x_62 ex_62 => ?_)
              refine lv_ldc2 (v := 5000) hx hb hown (hB _ kb_266) d_Mo_message_63 ?_
              refine W.lcmp hx hb d_Mo_message_66 ?_
              refine lv_if_le (tgt := 74) hx hb d_Mo_message_67 (by decide) (fun c_67 => ?_) (fun c_67 => ?_)
              · have c_67 := (lg_cmp_le _ _).mp c_67
                refine lv_aload_n hx hb d_Mo_message_74 rfl (lv_at hl 0 rfl) ?_
                refine lv_iload_n hx hb d_Mo_message_75 rfl (lv_at hl 1 rfl) ?_
                refine lv_lload_n hx hb d_Mo_message_76 rfl (lv_at hl 2 rfl) ?_
                refine lv_lload hx hb d_Mo_message_77 (lv_at hl 3 rfl) ?_
                refine kc_i (va_runV (As := [.int p0, .long p1, .long p2]) (rest := []) ⟨hx, hb, hml, hown, hts⟩ (c_Mo_behind l dC dI h0 b1 b2 b3 b4 b5 H.size 0 pi sh lo ph di lm en la cu p2 sp lk cs p0 p1 p2 ) (cwV 3 hts (ginV kb_282 kb_283 kb_284 kb_251 kb_281) rfl rfl rfl (by decide +kernel) ⟨Nat.le_of_ble_eq_true rfl, Nat.le_of_ble_eq_true rfl⟩) (preV (ci := 6) (wc := [(h0, .inr (6, [.int 0, .int pi, .int sh, .int lo, .int ph, .int di, .long lm, .long en, .long la, .long cu, .long p2, .int sp, .ref b1, .ref b2, .ref b3, .ref b4, .long lk, .int cs, .ref b5]))]) hK hN hP hD [0] rfl rfl (by decide) [] rfl rfl rfl) rfl rfl hl.1 rfl (lv_room (Nat.le_of_ble_eq_true rfl)) d_Mo_message_79 ⟨Nat.le_of_ble_eq_true rfl, Nat.le_of_ble_eq_true rfl⟩) hP hD hS hA [0] [] (wr := []) rfl rfl (by decide) (by decide) (fun r_79 u_79 H locs hw_79 hP hD hK1 hS => ?_)
                have hw_79 : True := hw_79
                have hP : va_P (dC, dI) classes [(h0, .inr (6, [.int 0, .int pi, .int sh, .int lo, .int ph, .int di, .long lm, .long en, .long la, .long cu, .long p2, .int sp, .ref b1, .ref b2, .ref b3, .ref b4, .long lk, .int cs, .ref b5]))] H := hP
                have hD : va_D A [(h0, .inr (6, [.int 0, .int pi, .int sh, .int lo, .int ph, .int di, .long lm, .long en, .long la, .long cu, .long p2, .int sp, .ref b1, .ref b2, .ref b3, .ref b4, .long lk, .int cs, .ref b5]))] := hD
                exact (cut 9).1 r_79 _ _ _  (by omega) (hP.sub [0] rfl) (hD.sub [0] (by decide) rfl) hS (lv_sub hl [0, 1, 2, 3] rfl)
              · have c_67 := mt (lg_cmp_le _ _).mpr c_67
                refine lv_iconst (v := (-1)) hx hb d_Mo_message_70 (by decide) ?_
                refine lv_goto (tgt := 82) hx hb d_Mo_message_71 (by decide) ?_
                exact (cut 9).1 ((-1)) _ _ _  (by omega) (hP.sub [0] rfl) (hD.sub [0] (by decide) rfl) hS (lv_sub hl [0, 1, 2, 3] rfl)
          · skip
            refine lv_bipush (v := (-2)) hx hb d_Mo_message_40 (by decide) ?_
            have hP9 := hP.sub (ws' := [(h0, .inr (6, [.int 0, .int pi, .int sh, .int lo, .int ph, .int di, .long lm, .long en, .long la, .long cu, .long nw, .int sp, .ref b1, .ref b2, .ref b3, .ref b4, .long lk, .int cs, .ref b5]))]) [0] rfl
            have hD9 := hD.sub (ws' := [(h0, .inr (6, [.int 0, .int pi, .int sh, .int lo, .int ph, .int di, .long lm, .long en, .long la, .long cu, .long nw, .int sp, .ref b1, .ref b2, .ref b3, .ref b4, .long lk, .int cs, .ref b5]))]) [0] (by decide) rfl
            have hK9 := hK.sub (tys' := []) [] rfl
            exact W.iret (v := (-2)) hx hb hr (fun t ht hW => ⟨⟨(-2), (0, ph, di, lm, en, la, cu, nw), rfl, trivial, by rw [ht]; exact hP9, va_K.moved hW.alike hK9, hD9⟩, hS.F ht⟩) hS.2.2 d_Mo_message_42
set_option maxHeartbeats 4000000 in
set_option maxRecDepth 100000 in
theorem c_Mo_price (l : Launch) (dC : Nat → ClassId) (dI : Nat → Nat → Nat) (h0 : Nat) (b1 : Nat) (b2 : Nat) (b3 : Nat) (b4 : Nat) (b5 : Nat) (i1 : ClassId) (i2 : ClassId) (i3 : ClassId) (sz : Nat) (co : Int32) (pi : Int32) (sh : Int32) (lo : Int32) (ph : Int32) (di : Int32) (lm : Int64) (en : Int64) (la : Int64) (cu : Int64) (nw : Int64) (sp : Int32) (lk : Int64) (cs : Int32) (g1 : Nat → Int32) (g2 : Nat → Int32) (g3 : Nat → Int32) (p0 : Int64) (p1 : Int64) (p2 : Int64) (hs0 : 0 ≤ sp.toInt) (hs1 : sp.toInt ≤ 20) : Met l y_Mo_price w_Mo_price ({ frames := 0, cells := 0, slots := 0, locals := 0 }) (cPre dC dI [.ref h0, .long p0, .long p1, .long p2] sz [(i1, .int), (i2, .int), (i3, .int)] [(h0, .inr (6, [.int co, .int pi, .int sh, .int lo, .int ph, .int di, .long lm, .long en, .long la, .long cu, .long nw, .int sp, .ref b1, .ref b2, .ref b3, .ref b4, .long lk, .int cs, .ref b5])), (b1, .inl (i1, 20, .inl g1)), (b2, .inl (i2, 20, .inl g2)), (b3, .inl (i3, 20, .inl g3))]) (va_Qi (fun (r : Int32) (u : Int32 × Int32 × (Nat → Int32) × (Nat → Int32) × (Nat → Int32)) => (¬ mrOk p0 p1 p2 → r = -2 ∧ u.2.1 = sp ∧ u.2.2.1 = g1 ∧ u.2.2.2.1 = g2 ∧ u.2.2.2.2 = g3) ∧ (mrOk p0 p1 p2 → sp = 20 → r = -4 ∧ u.2.1 = sp ∧ u.2.2.1 = g1 ∧ u.2.2.2.1 = g2 ∧ u.2.2.2.2 = g3) ∧ (mrOk p0 p1 p2 → ¬ sp = 20 → r = sp + 1 ∧ u.2.1 = sp + 1 ∧ u.2.2.1 = upd g1 sp.toNatClampNeg p0.toInt32 ∧ u.2.2.2.1 = upd g2 sp.toNatClampNeg p1.toInt32 ∧ u.2.2.2.2 = upd g3 sp.toNatClampNeg p2.toInt32)) (fun (u : Int32 × Int32 × (Nat → Int32) × (Nat → Int32) × (Nat → Int32)) (t : State) => cB dC dI (va_A [(h0, .inr (6, [.int co, .int pi, .int sh, .int lo, .int ph, .int di, .long lm, .long en, .long la, .long cu, .long nw, .int sp, .ref b1, .ref b2, .ref b3, .ref b4, .long lk, .int cs, .ref b5])), (b1, .inl (i1, 20, .inl g1)), (b2, .inl (i2, 20, .inl g2)), (b3, .inl (i3, 20, .inl g3))] sz) [(i1, .int), (i2, .int), (i3, .int)] [(h0, .inr (6, [.int u.1, .int pi, .int sh, .int lo, .int ph, .int di, .long lm, .long en, .long la, .long cu, .long nw, .int u.2.1, .ref b1, .ref b2, .ref b3, .ref b4, .long lk, .int cs, .ref b5])), (b1, .inl (i1, 20, .inl (u.2.2.1))), (b2, .inl (i2, 20, .inl (u.2.2.2.1))), (b3, .inl (i3, 20, .inl (u.2.2.2.2)))] t) (va_A [(h0, .inr (6, [.int co, .int pi, .int sh, .int lo, .int ph, .int di, .long lm, .long en, .long la, .long cu, .long nw, .int sp, .ref b1, .ref b2, .ref b3, .ref b4, .long lk, .int cs, .ref b5])), (b1, .inl (i1, 20, .inl g1)), (b2, .inl (i2, 20, .inl g2)), (b3, .inl (i3, 20, .inl g3))] sz)) 0 0 (va_A [(h0, .inr (6, [.int co, .int pi, .int sh, .int lo, .int ph, .int di, .long lm, .long en, .long la, .long cu, .long nw, .int sp, .ref b1, .ref b2, .ref b3, .ref b4, .long lk, .int cs, .ref b5])), (b1, .inl (i1, 20, .inl g1)), (b2, .inl (i2, 20, .inl g2)), (b3, .inl (i3, 20, .inl g3))] sz) := by
  refine Met.ofW (cc := b_Mo_price) (maxL := 7) (ret := (some .int)) (by decide) rfl ?_
  intro p e s m args below meth c s₁ B hml hv
  obtain ⟨rfl, hsz, hN, hP, hK, hD0⟩ := hv
  have hx := B.exec
  have hb := B.bytes
  have hr := B.returns
  have hts := atoms_spec (ws := w_Mo_price) B.pre
  have hB := big_of hts
  have hown : s.vm.findClass R_Mo = some m.cls := findClass_of_methodNamed B.named
  have hlocks := B.notSynchronized
  subst hsz
  have hD := hD0.self (sz := s.heap.size)
  generalize hAe : va_A [(h0, .inr (6, [.int co, .int pi, .int sh, .int lo, .int ph, .int di, .long lm, .long en, .long la, .long cu, .long nw, .int sp, .ref b1, .ref b2, .ref b3, .ref b4, .long lk, .int cs, .ref b5])), (b1, .inl (i1, 20, .inl g1)), (b2, .inl (i2, 20, .inl g2)), (b3, .inl (i3, 20, .inl g3))] s.heap.size = A at hD ⊢
  have hA : ∀ q : Nat, s.heap.size ≤ q → A q := fun q h => by rw [← hAe]; exact Or.inr h
  have hS : va_S A s.heap s.heap [] := va_S.rf
  have hP : va_P (dC, dI) classes [(h0, .inr (6, [.int co, .int pi, .int sh, .int lo, .int ph, .int di, .long lm, .long en, .long la, .long cu, .long nw, .int sp, .ref b1, .ref b2, .ref b3, .ref b4, .long lk, .int cs, .ref b5])), (b1, .inl (i1, 20, .inl g1)), (b2, .inl (i2, 20, .inl g2)), (b3, .inl (i3, 20, .inl g3))] s.heap := hP
  have hl := lv_entry ([.ref h0, .long p0, .long p1, .long p2]) (n := 7) (Nat.le_of_ble_eq_true rfl)
  rw [lg_entry_eq]
  generalize (lg_sl ([.ref h0, .long p0, .long p1, .long p2]) ++ List.replicate (7 - (lg_sl ([.ref h0, .long p0, .long p1, .long p2])).length) Slot.unset).toArray = ls at hl ⊢
  have hl : lv_has ls 7 [(0, .ref h0), (1, .long p0), (3, .long p1), (5, .long p2)] := hl
  refine lv_aload_n hx hb d_Mo_price_0 rfl (lv_at hl 0 rfl) ?_
  refine lv_iconst (v := 0) hx hb d_Mo_price_1 (by decide) ?_
  refine va_put (D := (dC, dI)) (ci := 6) (v := .int 0) (ty := .int) (C := R_Mo) (T := F_Mo) (N := 19) hx hb hB inC_Mo t_Mo t_Mo_ok n_Mo hown hK hP hD hS 0 rfl rfl 0 (by decide) (hB _ kb_245) (fun _ h9 => h9) rfl (by decide +kernel) rfl rfl (Nat.le_of_ble_eq_true rfl) d_Mo_price_2 (fun H locs hP hD hS => ?_)
  have hP : va_P (dC, dI) classes [(h0, .inr (6, [.int 0, .int pi, .int sh, .int lo, .int ph, .int di, .long lm, .long en, .long la, .long cu, .long nw, .int sp, .ref b1, .ref b2, .ref b3, .ref b4, .long lk, .int cs, .ref b5])), (b1, .inl (i1, 20, .inl g1)), (b2, .inl (i2, 20, .inl g2)), (b3, .inl (i3, 20, .inl g3))] H := hP
  have hD : va_D A [(h0, .inr (6, [.int 0, .int pi, .int sh, .int lo, .int ph, .int di, .long lm, .long en, .long la, .long cu, .long nw, .int sp, .ref b1, .ref b2, .ref b3, .ref b4, .long lk, .int cs, .ref b5])), (b1, .inl (i1, 20, .inl g1)), (b2, .inl (i2, 20, .inl g2)), (b3, .inl (i3, 20, .inl g3))] := hD
  refine lv_lload_n hx hb d_Mo_price_5 rfl (lv_at hl 1 rfl) ?_
  refine lv_lconst (v := 0) hx hb d_Mo_price_6 (by decide) ?_
  refine W.lcmp hx hb d_Mo_price_7 ?_
  refine lv_if_lt (tgt := 49) hx hb d_Mo_price_8 (by decide) (fun c_8 => ?_) (fun c_8 => ?_)
  · have c_8 := (lg_cmp_lt _ _).mp c_8
    refine lv_bipush (v := (-2)) hx hb d_Mo_price_49 (by decide) ?_
    have hP9 := hP.sub (ws' := [(h0, .inr (6, [.int 0, .int pi, .int sh, .int lo, .int ph, .int di, .long lm, .long en, .long la, .long cu, .long nw, .int sp, .ref b1, .ref b2, .ref b3, .ref b4, .long lk, .int cs, .ref b5])), (b1, .inl (i1, 20, .inl g1)), (b2, .inl (i2, 20, .inl g2)), (b3, .inl (i3, 20, .inl g3))]) [0, 1, 2, 3] rfl
    have hD9 := hD.sub (ws' := [(h0, .inr (6, [.int 0, .int pi, .int sh, .int lo, .int ph, .int di, .long lm, .long en, .long la, .long cu, .long nw, .int sp, .ref b1, .ref b2, .ref b3, .ref b4, .long lk, .int cs, .ref b5])), (b1, .inl (i1, 20, .inl g1)), (b2, .inl (i2, 20, .inl g2)), (b3, .inl (i3, 20, .inl g3))]) [0, 1, 2, 3] (by decide) rfl
    have hK9 := hK.sub (tys' := [(i1, .int), (i2, .int), (i3, .int)]) [0, 1, 2] rfl
    exact W.iret (v := (-2)) hx hb hr (fun t ht hW => ⟨⟨(-2), (0, sp, g1, g2, g3), rfl, ⟨fun _ => ⟨rfl, rfl, rfl, rfl, rfl⟩, fun h => absurd c_8 h.1.1, fun h => absurd c_8 h.1.1⟩, by rw [ht]; exact hP9, va_K.moved hW.alike hK9, hD9⟩, hS.F ht⟩) hS.2.2 d_Mo_price_51
  · have c_8 := mt (lg_cmp_lt _ _).mpr c_8
    refine lv_lload_n hx hb d_Mo_price_11 rfl (lv_at hl 1 rfl) ?_
    refine lv_ldc2 (v := 1439) hx hb hown (hB _ kb_294) d_Mo_price_12 ?_
    refine W.lcmp hx hb d_Mo_price_15 ?_
    refine lv_if_gt (tgt := 49) hx hb d_Mo_price_16 (by decide) (fun c_16 => ?_) (fun c_16 => ?_)
    · have c_16 := (lg_cmp_gt _ _).mp c_16
      refine lv_bipush (v := (-2)) hx hb d_Mo_price_49 (by decide) ?_
      have hP9 := hP.sub (ws' := [(h0, .inr (6, [.int 0, .int pi, .int sh, .int lo, .int ph, .int di, .long lm, .long en, .long la, .long cu, .long nw, .int sp, .ref b1, .ref b2, .ref b3, .ref b4, .long lk, .int cs, .ref b5])), (b1, .inl (i1, 20, .inl g1)), (b2, .inl (i2, 20, .inl g2)), (b3, .inl (i3, 20, .inl g3))]) [0, 1, 2, 3] rfl
      have hD9 := hD.sub (ws' := [(h0, .inr (6, [.int 0, .int pi, .int sh, .int lo, .int ph, .int di, .long lm, .long en, .long la, .long cu, .long nw, .int sp, .ref b1, .ref b2, .ref b3, .ref b4, .long lk, .int cs, .ref b5])), (b1, .inl (i1, 20, .inl g1)), (b2, .inl (i2, 20, .inl g2)), (b3, .inl (i3, 20, .inl g3))]) [0, 1, 2, 3] (by decide) rfl
      have hK9 := hK.sub (tys' := [(i1, .int), (i2, .int), (i3, .int)]) [0, 1, 2] rfl
      exact W.iret (v := (-2)) hx hb hr (fun t ht hW => ⟨⟨(-2), (0, sp, g1, g2, g3), rfl, ⟨fun _ => ⟨rfl, rfl, rfl, rfl, rfl⟩, fun h => absurd c_16 h.1.2, fun h => absurd c_16 h.1.2⟩, by rw [ht]; exact hP9, va_K.moved hW.alike hK9, hD9⟩, hS.F ht⟩) hS.2.2 d_Mo_price_51
    · have c_16 := mt (lg_cmp_gt _ _).mpr c_16
      refine lv_lload_n hx hb d_Mo_price_19 rfl (lv_at hl 2 rfl) ?_
      refine lv_lload_n hx hb d_Mo_price_20 rfl (lv_at hl 1 rfl) ?_
      refine W.lcmp hx hb d_Mo_price_21 ?_
      refine lv_if_le (tgt := 49) hx hb d_Mo_price_22 (by decide) (fun c_22 => ?_) (fun c_22 => ?_)
      · have c_22 := (lg_cmp_le _ _).mp c_22
        refine lv_bipush (v := (-2)) hx hb d_Mo_price_49 (by decide) ?_
        have hP9 := hP.sub (ws' := [(h0, .inr (6, [.int 0, .int pi, .int sh, .int lo, .int ph, .int di, .long lm, .long en, .long la, .long cu, .long nw, .int sp, .ref b1, .ref b2, .ref b3, .ref b4, .long lk, .int cs, .ref b5])), (b1, .inl (i1, 20, .inl g1)), (b2, .inl (i2, 20, .inl g2)), (b3, .inl (i3, 20, .inl g3))]) [0, 1, 2, 3] rfl
        have hD9 := hD.sub (ws' := [(h0, .inr (6, [.int 0, .int pi, .int sh, .int lo, .int ph, .int di, .long lm, .long en, .long la, .long cu, .long nw, .int sp, .ref b1, .ref b2, .ref b3, .ref b4, .long lk, .int cs, .ref b5])), (b1, .inl (i1, 20, .inl g1)), (b2, .inl (i2, 20, .inl g2)), (b3, .inl (i3, 20, .inl g3))]) [0, 1, 2, 3] (by decide) rfl
        have hK9 := hK.sub (tys' := [(i1, .int), (i2, .int), (i3, .int)]) [0, 1, 2] rfl
        exact W.iret (v := (-2)) hx hb hr (fun t ht hW => ⟨⟨(-2), (0, sp, g1, g2, g3), rfl, ⟨fun _ => ⟨rfl, rfl, rfl, rfl, rfl⟩, fun h => absurd c_22 h.2.1.1, fun h => absurd c_22 h.2.1.1⟩, by rw [ht]; exact hP9, va_K.moved hW.alike hK9, hD9⟩, hS.F ht⟩) hS.2.2 d_Mo_price_51
      · have c_22 := mt (lg_cmp_le _ _).mpr c_22
        refine lv_lload_n hx hb d_Mo_price_25 rfl (lv_at hl 2 rfl) ?_
        refine lv_ldc2 (v := 1440) hx hb hown (hB _ kb_293) d_Mo_price_26 ?_
        refine W.lcmp hx hb d_Mo_price_29 ?_
        refine lv_if_gt (tgt := 49) hx hb d_Mo_price_30 (by decide) (fun c_30 => ?_) (fun c_30 => ?_)
        · have c_30 := (lg_cmp_gt _ _).mp c_30
          refine lv_bipush (v := (-2)) hx hb d_Mo_price_49 (by decide) ?_
          have hP9 := hP.sub (ws' := [(h0, .inr (6, [.int 0, .int pi, .int sh, .int lo, .int ph, .int di, .long lm, .long en, .long la, .long cu, .long nw, .int sp, .ref b1, .ref b2, .ref b3, .ref b4, .long lk, .int cs, .ref b5])), (b1, .inl (i1, 20, .inl g1)), (b2, .inl (i2, 20, .inl g2)), (b3, .inl (i3, 20, .inl g3))]) [0, 1, 2, 3] rfl
          have hD9 := hD.sub (ws' := [(h0, .inr (6, [.int 0, .int pi, .int sh, .int lo, .int ph, .int di, .long lm, .long en, .long la, .long cu, .long nw, .int sp, .ref b1, .ref b2, .ref b3, .ref b4, .long lk, .int cs, .ref b5])), (b1, .inl (i1, 20, .inl g1)), (b2, .inl (i2, 20, .inl g2)), (b3, .inl (i3, 20, .inl g3))]) [0, 1, 2, 3] (by decide) rfl
          have hK9 := hK.sub (tys' := [(i1, .int), (i2, .int), (i3, .int)]) [0, 1, 2] rfl
          exact W.iret (v := (-2)) hx hb hr (fun t ht hW => ⟨⟨(-2), (0, sp, g1, g2, g3), rfl, ⟨fun _ => ⟨rfl, rfl, rfl, rfl, rfl⟩, fun h => absurd c_30 h.2.1.2, fun h => absurd c_30 h.2.1.2⟩, by rw [ht]; exact hP9, va_K.moved hW.alike hK9, hD9⟩, hS.F ht⟩) hS.2.2 d_Mo_price_51
        · have c_30 := mt (lg_cmp_gt _ _).mpr c_30
          refine lv_lload hx hb d_Mo_price_33 (lv_at hl 3 rfl) ?_
          refine lv_lconst (v := 0) hx hb d_Mo_price_35 (by decide) ?_
          refine W.lcmp hx hb d_Mo_price_36 ?_
          refine lv_if_lt (tgt := 49) hx hb d_Mo_price_37 (by decide) (fun c_37 => ?_) (fun c_37 => ?_)
          · have c_37 := (lg_cmp_lt _ _).mp c_37
            refine lv_bipush (v := (-2)) hx hb d_Mo_price_49 (by decide) ?_
            have hP9 := hP.sub (ws' := [(h0, .inr (6, [.int 0, .int pi, .int sh, .int lo, .int ph, .int di, .long lm, .long en, .long la, .long cu, .long nw, .int sp, .ref b1, .ref b2, .ref b3, .ref b4, .long lk, .int cs, .ref b5])), (b1, .inl (i1, 20, .inl g1)), (b2, .inl (i2, 20, .inl g2)), (b3, .inl (i3, 20, .inl g3))]) [0, 1, 2, 3] rfl
            have hD9 := hD.sub (ws' := [(h0, .inr (6, [.int 0, .int pi, .int sh, .int lo, .int ph, .int di, .long lm, .long en, .long la, .long cu, .long nw, .int sp, .ref b1, .ref b2, .ref b3, .ref b4, .long lk, .int cs, .ref b5])), (b1, .inl (i1, 20, .inl g1)), (b2, .inl (i2, 20, .inl g2)), (b3, .inl (i3, 20, .inl g3))]) [0, 1, 2, 3] (by decide) rfl
            have hK9 := hK.sub (tys' := [(i1, .int), (i2, .int), (i3, .int)]) [0, 1, 2] rfl
            exact W.iret (v := (-2)) hx hb hr (fun t ht hW => ⟨⟨(-2), (0, sp, g1, g2, g3), rfl, ⟨fun _ => ⟨rfl, rfl, rfl, rfl, rfl⟩, fun h => absurd c_37 h.2.2.1, fun h => absurd c_37 h.2.2.1⟩, by rw [ht]; exact hP9, va_K.moved hW.alike hK9, hD9⟩, hS.F ht⟩) hS.2.2 d_Mo_price_51
          · have c_37 := mt (lg_cmp_lt _ _).mpr c_37
            refine lv_lload hx hb d_Mo_price_40 (lv_at hl 3 rfl) ?_
            refine lv_ldc2 (v := 1000) hx hb hown (hB _ kb_253) d_Mo_price_42 ?_
            refine W.lcmp hx hb d_Mo_price_45 ?_
            refine lv_if_le (tgt := 52) hx hb d_Mo_price_46 (by decide) (fun c_46 => ?_) (fun c_46 => ?_)
            · have c_46 := (lg_cmp_le _ _).mp c_46
              refine lv_aload_n hx hb d_Mo_price_52 rfl (lv_at hl 0 rfl) ?_
              refine va_get (D := (dC, dI)) (ci := 6) (v := .int sp) (C := R_Mo) (T := F_Mo) (N := 19) hx hb hB inC_Mo hown hK hP 0 rfl rfl 11 (by decide) (hB _ kb_287) (fun _ h9 => h9) rfl d_Mo_price_53 ?_
              refine lv_bipush (v := 20) hx hb d_Mo_price_56 (by decide) ?_
              refine lv_icmp_ne (tgt := 64) hx hb d_Mo_price_58 (by decide) (fun c_58 => ?_) (fun c_58 => ?_)
              · skip
                refine lv_aload_n hx hb d_Mo_price_64 rfl (lv_at hl 0 rfl) ?_
                refine va_get (D := (dC, dI)) (ci := 6) (v := .ref b1) (C := R_Mo) (T := F_Mo) (N := 19) hx hb hB inC_Mo hown hK hP 0 rfl rfl 12 (by decide) (hB _ kb_239) (fun _ h9 => h9) rfl d_Mo_price_65 ?_
                refine lv_aload_n hx hb d_Mo_price_68 rfl (lv_at hl 0 rfl) ?_
                refine va_get (D := (dC, dI)) (ci := 6) (v := .int sp) (C := R_Mo) (T := F_Mo) (N := 19) hx hb hB inC_Mo hown hK hP 0 rfl rfl 11 (by decide) (hB _ kb_287) (fun _ h9 => h9) rfl d_Mo_price_69 ?_
                refine lv_lload_n hx hb d_Mo_price_72 rfl (lv_at hl 1 rfl) ?_
                refine lv_l2i hx hb d_Mo_price_73 rfl ?_
                refine lv_topi (fun x_73 ex_73 => ?_)
                have h_74 : vp_in sp 20 := vinN hs0 hs1 c_58
                refine va_iast hx hb hK hP hD hS 1 0 rfl rfl h_74 d_Mo_price_74 (fun H locs hP hD hS => ?_)
                obtain ⟨f_74, ef_74⟩ : ∃ y, y = upd g1 sp.toNatClampNeg x_73 := ⟨_, rfl⟩
                rw [← ef_74] at hP hD
                have hP : va_P (dC, dI) classes [(h0, .inr (6, [.int 0, .int pi, .int sh, .int lo, .int ph, .int di, .long lm, .long en, .long la, .long cu, .long nw, .int sp, .ref b1, .ref b2, .ref b3, .ref b4, .long lk, .int cs, .ref b5])), (b1, .inl (i1, 20, .inl f_74)), (b2, .inl (i2, 20, .inl g2)), (b3, .inl (i3, 20, .inl g3))] H := hP
                have hD : va_D A [(h0, .inr (6, [.int 0, .int pi, .int sh, .int lo, .int ph, .int di, .long lm, .long en, .long la, .long cu, .long nw, .int sp, .ref b1, .ref b2, .ref b3, .ref b4, .long lk, .int cs, .ref b5])), (b1, .inl (i1, 20, .inl f_74)), (b2, .inl (i2, 20, .inl g2)), (b3, .inl (i3, 20, .inl g3))] := hD
                refine lv_aload_n hx hb d_Mo_price_75 rfl (lv_at hl 0 rfl) ?_
                refine va_get (D := (dC, dI)) (ci := 6) (v := .ref b2) (C := R_Mo) (T := F_Mo) (N := 19) hx hb hB inC_Mo hown hK hP 0 rfl rfl 13 (by decide) (hB _ kb_240) (fun _ h9 => h9) rfl d_Mo_price_76 ?_
                refine lv_aload_n hx hb d_Mo_price_79 rfl (lv_at hl 0 rfl) ?_
                refine va_get (D := (dC, dI)) (ci := 6) (v := .int sp) (C := R_Mo) (T := F_Mo) (N := 19) hx hb hB inC_Mo hown hK hP 0 rfl rfl 11 (by decide) (hB _ kb_287) (fun _ h9 => h9) rfl d_Mo_price_80 ?_
                refine lv_lload_n hx hb d_Mo_price_83 rfl (lv_at hl 2 rfl) ?_
                refine lv_l2i hx hb d_Mo_price_84 rfl ?_
                refine lv_topi (fun x_84 ex_84 => ?_)
                have h_85 : vp_in sp 20 := vinN hs0 hs1 c_58
                refine va_iast hx hb hK hP hD hS 2 1 rfl rfl h_85 d_Mo_price_85 (fun H locs hP hD hS => ?_)
                obtain ⟨f_85, ef_85⟩ : ∃ y, y = upd g2 sp.toNatClampNeg x_84 := ⟨_, rfl⟩
                rw [← ef_85] at hP hD
                have hP : va_P (dC, dI) classes [(h0, .inr (6, [.int 0, .int pi, .int sh, .int lo, .int ph, .int di, .long lm, .long en, .long la, .long cu, .long nw, .int sp, .ref b1, .ref b2, .ref b3, .ref b4, .long lk, .int cs, .ref b5])), (b1, .inl (i1, 20, .inl f_74)), (b2, .inl (i2, 20, .inl f_85)), (b3, .inl (i3, 20, .inl g3))] H := hP
                have hD : va_D A [(h0, .inr (6, [.int 0, .int pi, .int sh, .int lo, .int ph, .int di, .long lm, .long en, .long la, .long cu, .long nw, .int sp, .ref b1, .ref b2, .ref b3, .ref b4, .long lk, .int cs, .ref b5])), (b1, .inl (i1, 20, .inl f_74)), (b2, .inl (i2, 20, .inl f_85)), (b3, .inl (i3, 20, .inl g3))] := hD
                refine lv_aload_n hx hb d_Mo_price_86 rfl (lv_at hl 0 rfl) ?_
                refine va_get (D := (dC, dI)) (ci := 6) (v := .ref b3) (C := R_Mo) (T := F_Mo) (N := 19) hx hb hB inC_Mo hown hK hP 0 rfl rfl 14 (by decide) (hB _ kb_241) (fun _ h9 => h9) rfl d_Mo_price_87 ?_
                refine lv_aload_n hx hb d_Mo_price_90 rfl (lv_at hl 0 rfl) ?_
                refine va_get (D := (dC, dI)) (ci := 6) (v := .int sp) (C := R_Mo) (T := F_Mo) (N := 19) hx hb hB inC_Mo hown hK hP 0 rfl rfl 11 (by decide) (hB _ kb_287) (fun _ h9 => h9) rfl d_Mo_price_91 ?_
                refine lv_lload hx hb d_Mo_price_94 (lv_at hl 3 rfl) ?_
                refine lv_l2i hx hb d_Mo_price_96 rfl ?_
                refine lv_topi (fun x_96 ex_96 => ?_)
                have h_97 : vp_in sp 20 := vinN hs0 hs1 c_58
                refine va_iast hx hb hK hP hD hS 3 2 rfl rfl h_97 d_Mo_price_97 (fun H locs hP hD hS => ?_)
                obtain ⟨f_97, ef_97⟩ : ∃ y, y = upd g3 sp.toNatClampNeg x_96 := ⟨_, rfl⟩
                rw [← ef_97] at hP hD
                have hP : va_P (dC, dI) classes [(h0, .inr (6, [.int 0, .int pi, .int sh, .int lo, .int ph, .int di, .long lm, .long en, .long la, .long cu, .long nw, .int sp, .ref b1, .ref b2, .ref b3, .ref b4, .long lk, .int cs, .ref b5])), (b1, .inl (i1, 20, .inl f_74)), (b2, .inl (i2, 20, .inl f_85)), (b3, .inl (i3, 20, .inl f_97))] H := hP
                have hD : va_D A [(h0, .inr (6, [.int 0, .int pi, .int sh, .int lo, .int ph, .int di, .long lm, .long en, .long la, .long cu, .long nw, .int sp, .ref b1, .ref b2, .ref b3, .ref b4, .long lk, .int cs, .ref b5])), (b1, .inl (i1, 20, .inl f_74)), (b2, .inl (i2, 20, .inl f_85)), (b3, .inl (i3, 20, .inl f_97))] := hD
                refine lv_aload_n hx hb d_Mo_price_98 rfl (lv_at hl 0 rfl) ?_
                refine lv_dup hx hb d_Mo_price_99 rfl ?_
                refine va_get (D := (dC, dI)) (ci := 6) (v := .int sp) (C := R_Mo) (T := F_Mo) (N := 19) hx hb hB inC_Mo hown hK hP 0 rfl rfl 11 (by decide) (hB _ kb_287) (fun _ h9 => h9) rfl d_Mo_price_100 ?_
                refine lv_iconst (v := 1) hx hb d_Mo_price_103 (by decide) ?_
                refine lv_iadd hx hb d_Mo_price_104 ?_
                refine lv_topi (fun x_104 ex_104 => ?_)
                refine va_put (D := (dC, dI)) (ci := 6) (v := .int x_104) (ty := .int) (C := R_Mo) (T := F_Mo) (N := 19) hx hb hB inC_Mo t_Mo t_Mo_ok n_Mo hown hK hP hD hS 0 rfl rfl 11 (by decide) (hB _ kb_287) (fun _ h9 => h9) rfl (by decide +kernel) rfl rfl (Nat.le_of_ble_eq_true rfl) d_Mo_price_105 (fun H locs hP hD hS => ?_)
                have hP : va_P (dC, dI) classes [(h0, .inr (6, [.int 0, .int pi, .int sh, .int lo, .int ph, .int di, .long lm, .long en, .long la, .long cu, .long nw, .int x_104, .ref b1, .ref b2, .ref b3, .ref b4, .long lk, .int cs, .ref b5])), (b1, .inl (i1, 20, .inl f_74)), (b2, .inl (i2, 20, .inl f_85)), (b3, .inl (i3, 20, .inl f_97))] H := hP
                have hD : va_D A [(h0, .inr (6, [.int 0, .int pi, .int sh, .int lo, .int ph, .int di, .long lm, .long en, .long la, .long cu, .long nw, .int x_104, .ref b1, .ref b2, .ref b3, .ref b4, .long lk, .int cs, .ref b5])), (b1, .inl (i1, 20, .inl f_74)), (b2, .inl (i2, 20, .inl f_85)), (b3, .inl (i3, 20, .inl f_97))] := hD
                refine lv_aload_n hx hb d_Mo_price_108 rfl (lv_at hl 0 rfl) ?_
                refine va_get (D := (dC, dI)) (ci := 6) (v := .int x_104) (C := R_Mo) (T := F_Mo) (N := 19) hx hb hB inC_Mo hown hK hP 0 rfl rfl 11 (by decide) (hB _ kb_287) (fun _ h9 => h9) rfl d_Mo_price_109 ?_
                have hP9 := hP.sub (ws' := [(h0, .inr (6, [.int 0, .int pi, .int sh, .int lo, .int ph, .int di, .long lm, .long en, .long la, .long cu, .long nw, .int x_104, .ref b1, .ref b2, .ref b3, .ref b4, .long lk, .int cs, .ref b5])), (b1, .inl (i1, 20, .inl f_74)), (b2, .inl (i2, 20, .inl f_85)), (b3, .inl (i3, 20, .inl f_97))]) [0, 1, 2, 3] rfl
                have hD9 := hD.sub (ws' := [(h0, .inr (6, [.int 0, .int pi, .int sh, .int lo, .int ph, .int di, .long lm, .long en, .long la, .long cu, .long nw, .int x_104, .ref b1, .ref b2, .ref b3, .ref b4, .long lk, .int cs, .ref b5])), (b1, .inl (i1, 20, .inl f_74)), (b2, .inl (i2, 20, .inl f_85)), (b3, .inl (i3, 20, .inl f_97))]) [0, 1, 2, 3] (by decide) rfl
                have hK9 := hK.sub (tys' := [(i1, .int), (i2, .int), (i3, .int)]) [0, 1, 2] rfl
                exact W.iret (v := x_104) hx hb hr (fun t ht hW => ⟨⟨x_104, (0, x_104, f_74, f_85, f_97), rfl, ⟨fun h => absurd (show mrOk p0 p1 p2 from ⟨⟨c_8, c_16⟩, ⟨c_22, c_30⟩, ⟨c_37, c_46⟩⟩) h, fun _ h => absurd h c_58, fun _ _ => ⟨ex_104, ex_104, by rw [ef_74, ex_73], by rw [ef_85, ex_84], by rw [ef_97, ex_96]⟩⟩, by rw [ht]; exact hP9, va_K.moved hW.alike hK9, hD9⟩, hS.F ht⟩) hS.2.2 d_Mo_price_112
              · skip
                refine lv_bipush (v := (-4)) hx hb d_Mo_price_61 (by decide) ?_
                have hP9 := hP.sub (ws' := [(h0, .inr (6, [.int 0, .int pi, .int sh, .int lo, .int ph, .int di, .long lm, .long en, .long la, .long cu, .long nw, .int sp, .ref b1, .ref b2, .ref b3, .ref b4, .long lk, .int cs, .ref b5])), (b1, .inl (i1, 20, .inl g1)), (b2, .inl (i2, 20, .inl g2)), (b3, .inl (i3, 20, .inl g3))]) [0, 1, 2, 3] rfl
                have hD9 := hD.sub (ws' := [(h0, .inr (6, [.int 0, .int pi, .int sh, .int lo, .int ph, .int di, .long lm, .long en, .long la, .long cu, .long nw, .int sp, .ref b1, .ref b2, .ref b3, .ref b4, .long lk, .int cs, .ref b5])), (b1, .inl (i1, 20, .inl g1)), (b2, .inl (i2, 20, .inl g2)), (b3, .inl (i3, 20, .inl g3))]) [0, 1, 2, 3] (by decide) rfl
                have hK9 := hK.sub (tys' := [(i1, .int), (i2, .int), (i3, .int)]) [0, 1, 2] rfl
                exact W.iret (v := (-4)) hx hb hr (fun t ht hW => ⟨⟨(-4), (0, sp, g1, g2, g3), rfl, ⟨fun h => absurd (show mrOk p0 p1 p2 from ⟨⟨c_8, c_16⟩, ⟨c_22, c_30⟩, ⟨c_37, c_46⟩⟩) h, fun _ _ => ⟨rfl, rfl, rfl, rfl, rfl⟩, fun _ h => absurd c_58 h⟩, by rw [ht]; exact hP9, va_K.moved hW.alike hK9, hD9⟩, hS.F ht⟩) hS.2.2 d_Mo_price_63
            · have c_46 := mt (lg_cmp_le _ _).mpr c_46
              refine lv_bipush (v := (-2)) hx hb d_Mo_price_49 (by decide) ?_
              have hP9 := hP.sub (ws' := [(h0, .inr (6, [.int 0, .int pi, .int sh, .int lo, .int ph, .int di, .long lm, .long en, .long la, .long cu, .long nw, .int sp, .ref b1, .ref b2, .ref b3, .ref b4, .long lk, .int cs, .ref b5])), (b1, .inl (i1, 20, .inl g1)), (b2, .inl (i2, 20, .inl g2)), (b3, .inl (i3, 20, .inl g3))]) [0, 1, 2, 3] rfl
              have hD9 := hD.sub (ws' := [(h0, .inr (6, [.int 0, .int pi, .int sh, .int lo, .int ph, .int di, .long lm, .long en, .long la, .long cu, .long nw, .int sp, .ref b1, .ref b2, .ref b3, .ref b4, .long lk, .int cs, .ref b5])), (b1, .inl (i1, 20, .inl g1)), (b2, .inl (i2, 20, .inl g2)), (b3, .inl (i3, 20, .inl g3))]) [0, 1, 2, 3] (by decide) rfl
              have hK9 := hK.sub (tys' := [(i1, .int), (i2, .int), (i3, .int)]) [0, 1, 2] rfl
              exact W.iret (v := (-2)) hx hb hr (fun t ht hW => ⟨⟨(-2), (0, sp, g1, g2, g3), rfl, ⟨fun _ => ⟨rfl, rfl, rfl, rfl, rfl⟩, fun h => absurd h.2.2.2 c_46, fun h => absurd h.2.2.2 c_46⟩, by rw [ht]; exact hP9, va_K.moved hW.alike hK9, hD9⟩, hS.F ht⟩) hS.2.2 d_Mo_price_51
set_option maxHeartbeats 4000000 in
set_option maxRecDepth 100000 in
theorem c_Mo_stop (l : Launch) (dC : Nat → ClassId) (dI : Nat → Nat → Nat) (h0 : Nat) (b1 : Nat) (b2 : Nat) (b3 : Nat) (b4 : Nat) (b5 : Nat) (sz : Nat) (co : Int32) (pi : Int32) (sh : Int32) (lo : Int32) (ph : Int32) (di : Int32) (lm : Int64) (en : Int64) (la : Int64) (cu : Int64) (nw : Int64) (sp : Int32) (lk : Int64) (cs : Int32) (p0 : Int32) (p1 : Int64) : Met l y_Mo_stop w_Mo_stop ({ frames := 1, cells := 0, slots := 0, locals := 22 }) (cPre dC dI [.ref h0, .int p0, .long p1] sz [] [(h0, .inr (6, [.int co, .int pi, .int sh, .int lo, .int ph, .int di, .long lm, .long en, .long la, .long cu, .long nw, .int sp, .ref b1, .ref b2, .ref b3, .ref b4, .long lk, .int cs, .ref b5]))]) (va_Qi (fun (r : Int32) (u : Int32 × Int64 × Int32) => True) (fun (u : Int32 × Int64 × Int32) (t : State) => cB dC dI (va_A [(h0, .inr (6, [.int co, .int pi, .int sh, .int lo, .int ph, .int di, .long lm, .long en, .long la, .long cu, .long nw, .int sp, .ref b1, .ref b2, .ref b3, .ref b4, .long lk, .int cs, .ref b5]))] sz) [] [(h0, .inr (6, [.int u.1, .int pi, .int sh, .int lo, .int u.2.2, .int di, .long lm, .long en, .long la, .long cu, .long u.2.1, .int sp, .ref b1, .ref b2, .ref b3, .ref b4, .long lk, .int cs, .ref b5]))] t) (va_A [(h0, .inr (6, [.int co, .int pi, .int sh, .int lo, .int ph, .int di, .long lm, .long en, .long la, .long cu, .long nw, .int sp, .ref b1, .ref b2, .ref b3, .ref b4, .long lk, .int cs, .ref b5]))] sz)) 0 0 (va_A [(h0, .inr (6, [.int co, .int pi, .int sh, .int lo, .int ph, .int di, .long lm, .long en, .long la, .long cu, .long nw, .int sp, .ref b1, .ref b2, .ref b3, .ref b4, .long lk, .int cs, .ref b5]))] sz) := by
  refine Met.ofW (cc := b_Mo_stop) (maxL := 6) (ret := (some .int)) (by decide) rfl ?_
  intro p e s m args below meth c s₁ B hml hv
  obtain ⟨rfl, hsz, hN, hP, hK, hD0⟩ := hv
  have hx := B.exec
  have hb := B.bytes
  have hr := B.returns
  have hts := atoms_spec (ws := w_Mo_stop) B.pre
  have hB := big_of hts
  have hown : s.vm.findClass R_Mo = some m.cls := findClass_of_methodNamed B.named
  have hlocks := B.notSynchronized
  subst hsz
  have hD := hD0.self (sz := s.heap.size)
  generalize hAe : va_A [(h0, .inr (6, [.int co, .int pi, .int sh, .int lo, .int ph, .int di, .long lm, .long en, .long la, .long cu, .long nw, .int sp, .ref b1, .ref b2, .ref b3, .ref b4, .long lk, .int cs, .ref b5]))] s.heap.size = A at hD ⊢
  have hA : ∀ q : Nat, s.heap.size ≤ q → A q := fun q h => by rw [← hAe]; exact Or.inr h
  have hS : va_S A s.heap s.heap [] := va_S.rf
  have hP : va_P (dC, dI) classes [(h0, .inr (6, [.int co, .int pi, .int sh, .int lo, .int ph, .int di, .long lm, .long en, .long la, .long cu, .long nw, .int sp, .ref b1, .ref b2, .ref b3, .ref b4, .long lk, .int cs, .ref b5]))] s.heap := hP
  have hl := lv_entry ([.ref h0, .int p0, .long p1]) (n := 6) (Nat.le_of_ble_eq_true rfl)
  rw [lg_entry_eq]
  generalize (lg_sl ([.ref h0, .int p0, .long p1]) ++ List.replicate (6 - (lg_sl ([.ref h0, .int p0, .long p1])).length) Slot.unset).toArray = ls at hl ⊢
  have hl : lv_has ls 6 [(0, .ref h0), (1, .int p0), (2, .long p1)] := hl
  refine lv_aload_n hx hb d_Mo_stop_0 rfl (lv_at hl 0 rfl) ?_
  refine lv_iconst (v := 0) hx hb d_Mo_stop_1 (by decide) ?_
  refine va_put (D := (dC, dI)) (ci := 6) (v := .int 0) (ty := .int) (C := R_Mo) (T := F_Mo) (N := 19) hx hb hB inC_Mo t_Mo t_Mo_ok n_Mo hown hK hP hD hS 0 rfl rfl 0 (by decide) (hB _ kb_245) (fun _ h9 => h9) rfl (by decide +kernel) rfl rfl (Nat.le_of_ble_eq_true rfl) d_Mo_stop_2 (fun H locs hP hD hS => ?_)
  have hP : va_P (dC, dI) classes [(h0, .inr (6, [.int 0, .int pi, .int sh, .int lo, .int ph, .int di, .long lm, .long en, .long la, .long cu, .long nw, .int sp, .ref b1, .ref b2, .ref b3, .ref b4, .long lk, .int cs, .ref b5]))] H := hP
  have hD : va_D A [(h0, .inr (6, [.int 0, .int pi, .int sh, .int lo, .int ph, .int di, .long lm, .long en, .long la, .long cu, .long nw, .int sp, .ref b1, .ref b2, .ref b3, .ref b4, .long lk, .int cs, .ref b5]))] := hD
  refine lv_iload_n hx hb d_Mo_stop_5 rfl (lv_at hl 1 rfl) ?_
  refine lv_if_lt (tgt := 14) hx hb d_Mo_stop_6 (by decide) (fun c_6 => ?_) (fun c_6 => ?_)
  · skip
    refine lv_iconst (v := (-1)) hx hb d_Mo_stop_14 (by decide) ?_
    have hP9 := hP.sub (ws' := [(h0, .inr (6, [.int 0, .int pi, .int sh, .int lo, .int ph, .int di, .long lm, .long en, .long la, .long cu, .long nw, .int sp, .ref b1, .ref b2, .ref b3, .ref b4, .long lk, .int cs, .ref b5]))]) [0] rfl
    have hD9 := hD.sub (ws' := [(h0, .inr (6, [.int 0, .int pi, .int sh, .int lo, .int ph, .int di, .long lm, .long en, .long la, .long cu, .long nw, .int sp, .ref b1, .ref b2, .ref b3, .ref b4, .long lk, .int cs, .ref b5]))]) [0] (by decide) rfl
    have hK9 := hK.sub (tys' := []) [] rfl
    exact W.iret (v := (-1)) hx hb hr (fun t ht hW => ⟨⟨(-1), (0, nw, ph), rfl, trivial, by rw [ht]; exact hP9, va_K.moved hW.alike hK9, hD9⟩, hS.F ht⟩) hS.2.2 d_Mo_stop_15
  · skip
    refine lv_iload_n hx hb d_Mo_stop_9 rfl (lv_at hl 1 rfl) ?_
    refine lv_iconst (v := 1) hx hb d_Mo_stop_10 (by decide) ?_
    refine lv_icmp_le (tgt := 16) hx hb d_Mo_stop_11 (by decide) (fun c_11 => ?_) (fun c_11 => ?_)
    · skip
      refine lv_aload_n hx hb d_Mo_stop_16 rfl (lv_at hl 0 rfl) ?_
      refine lv_lload_n hx hb d_Mo_stop_17 rfl (lv_at hl 2 rfl) ?_
      refine kc_i (va_runV (As := [.long p1]) (rest := []) ⟨hx, hb, hml, hown, hts⟩ (c_Mo_isTime l dC dI h0 b1 b2 b3 b4 b5 H.size 0 pi sh lo ph di lm en la cu nw sp lk cs p1 ) (cwV 1 hts (ginV kb_278 kb_279 kb_280 kb_251 kb_277) rfl rfl rfl (by decide +kernel) ⟨Nat.le_of_ble_eq_true rfl, Nat.le_of_ble_eq_true rfl⟩) (preV (ci := 6) (wc := [(h0, .inr (6, [.int 0, .int pi, .int sh, .int lo, .int ph, .int di, .long lm, .long en, .long la, .long cu, .long nw, .int sp, .ref b1, .ref b2, .ref b3, .ref b4, .long lk, .int cs, .ref b5]))]) hK hN hP hD [0] rfl rfl (by decide) [] rfl rfl rfl) rfl rfl hl.1 rfl (lv_room (Nat.le_of_ble_eq_true rfl)) d_Mo_stop_18 ⟨Nat.le_of_ble_eq_true rfl, Nat.le_of_ble_eq_true rfl⟩) hP hD hS hA [0] [] (wr := []) rfl rfl (by decide) (by decide) (fun r_18 u_18 H locs hw_18 hP hD hK1 hS => ?_)
      have hw_18 : True := hw_18
      have hP : va_P (dC, dI) classes [(h0, .inr (6, [.int 0, .int pi, .int sh, .int lo, .int ph, .int di, .long lm, .long en, .long la, .long cu, .long nw, .int sp, .ref b1, .ref b2, .ref b3, .ref b4, .long lk, .int cs, .ref b5]))] H := hP
      have hD : va_D A [(h0, .inr (6, [.int 0, .int pi, .int sh, .int lo, .int ph, .int di, .long lm, .long en, .long la, .long cu, .long nw, .int sp, .ref b1, .ref b2, .ref b3, .ref b4, .long lk, .int cs, .ref b5]))] := hD
      refine lv_if_ne (tgt := 27) hx hb d_Mo_stop_21 (by decide) (fun c_21 => ?_) (fun c_21 => ?_)
      · skip
        refine lv_aload_n hx hb d_Mo_stop_27 rfl (lv_at hl 0 rfl) ?_
        refine va_get (D := (dC, dI)) (ci := 6) (v := .int ph) (C := R_Mo) (T := F_Mo) (N := 19) hx hb hB inC_Mo hown hK hP 0 rfl rfl 4 (by decide) (hB _ kb_252) (fun _ h9 => h9) rfl d_Mo_stop_28 ?_
        refine lv_bipush (v := 7) hx hb d_Mo_stop_31 (by decide) ?_
        refine lv_icmp_eq (tgt := 39) hx hb d_Mo_stop_33 (by decide) (fun c_33 => ?_) (fun c_33 => ?_)
        · skip
          refine lv_aload_n hx hb d_Mo_stop_39 rfl (lv_at hl 0 rfl) ?_
          refine lv_lload_n hx hb d_Mo_stop_40 rfl (lv_at hl 2 rfl) ?_
          refine va_put (D := (dC, dI)) (ci := 6) (v := .long p1) (ty := .long) (C := R_Mo) (T := F_Mo) (N := 19) hx hb hB inC_Mo t_Mo t_Mo_ok n_Mo hown hK hP hD hS 0 rfl rfl 10 (by decide) (hB _ kb_263) (fun _ h9 => h9) rfl (by decide +kernel) rfl rfl (Nat.le_of_ble_eq_true rfl) d_Mo_stop_41 (fun H locs hP hD hS => ?_)
          have hP : va_P (dC, dI) classes [(h0, .inr (6, [.int 0, .int pi, .int sh, .int lo, .int ph, .int di, .long lm, .long en, .long la, .long cu, .long p1, .int sp, .ref b1, .ref b2, .ref b3, .ref b4, .long lk, .int cs, .ref b5]))] H := hP
          have hD : va_D A [(h0, .inr (6, [.int 0, .int pi, .int sh, .int lo, .int ph, .int di, .long lm, .long en, .long la, .long cu, .long p1, .int sp, .ref b1, .ref b2, .ref b3, .ref b4, .long lk, .int cs, .ref b5]))] := hD
          refine lv_aload_n hx hb d_Mo_stop_44 rfl (lv_at hl 0 rfl) ?_
          refine lv_iload_n hx hb d_Mo_stop_45 rfl (lv_at hl 1 rfl) ?_
          refine lv_if_ne (tgt := 54) hx hb d_Mo_stop_46 (by decide) (fun c_46 => ?_) (fun c_46 => ?_)
          · skip
            refine lv_iconst (v := 0) hx hb d_Mo_stop_54 (by decide) ?_
            refine va_put (D := (dC, dI)) (ci := 6) (v := .int 0) (ty := .int) (C := R_Mo) (T := F_Mo) (N := 19) hx hb hB inC_Mo t_Mo t_Mo_ok n_Mo hown hK hP hD hS 0 rfl rfl 4 (by decide) (hB _ kb_252) (fun _ h9 => h9) rfl (by decide +kernel) rfl rfl (Nat.le_of_ble_eq_true rfl) d_Mo_stop_55 (fun H locs hP hD hS => ?_)
            have hP : va_P (dC, dI) classes [(h0, .inr (6, [.int 0, .int pi, .int sh, .int lo, .int 0, .int di, .long lm, .long en, .long la, .long cu, .long p1, .int sp, .ref b1, .ref b2, .ref b3, .ref b4, .long lk, .int cs, .ref b5]))] H := hP
            have hD : va_D A [(h0, .inr (6, [.int 0, .int pi, .int sh, .int lo, .int 0, .int di, .long lm, .long en, .long la, .long cu, .long p1, .int sp, .ref b1, .ref b2, .ref b3, .ref b4, .long lk, .int cs, .ref b5]))] := hD
            refine lv_ldc2 (v := 1000) hx hb hown (hB _ kb_253) d_Mo_stop_58 ?_
            refine lv_aload_n hx hb d_Mo_stop_61 rfl (lv_at hl 0 rfl) ?_
            refine va_get (D := (dC, dI)) (ci := 6) (v := .long cu) (C := R_Mo) (T := F_Mo) (N := 19) hx hb hB inC_Mo hown hK hP 0 rfl rfl 9 (by decide) (hB _ kb_272) (fun _ h9 => h9) rfl d_Mo_stop_62 ?_
            refine lv_ldc2 (v := 10) hx hb hown (hB _ kb_295) d_Mo_stop_65 ?_
            refine lv_ldiv hx hb d_Mo_stop_68 (by decide) ?_
            refine lv_topl (fun x_68 ex_68 => ?_)
            refine lv_lmul hx hb d_Mo_stop_69 ?_
            refine lv_topl (fun x_69 ex_69 => ?_)
            refine lv_lstore (lv' := [(4, .long x_69), (0, .ref h0), (1, .int p0), (2, .long p1)]) hx hb d_Mo_stop_70 hl (by decide) rfl (fun ls hl => ?_)
            refine lv_iload_n hx hb d_Mo_stop_72 rfl (lv_at hl 2 rfl) ?_
            refine lv_iconst (v := 1) hx hb d_Mo_stop_73 (by decide) ?_
            refine lv_icmp_eq (tgt := 86) hx hb d_Mo_stop_74 (by decide) (fun c_74 => ?_) (fun c_74 => ?_)
            · skip
              refine lv_sipush (v := 5000) hx hb d_Mo_stop_86 (by decide) ?_
              refine lv_goto (tgt := 95) hx hb d_Mo_stop_89 (by decide) ?_
              have hP9 := hP.sub (ws' := [(h0, .inr (6, [.int 0, .int pi, .int sh, .int lo, .int 0, .int di, .long lm, .long en, .long la, .long cu, .long p1, .int sp, .ref b1, .ref b2, .ref b3, .ref b4, .long lk, .int cs, .ref b5]))]) [0] rfl
              have hD9 := hD.sub (ws' := [(h0, .inr (6, [.int 0, .int pi, .int sh, .int lo, .int 0, .int di, .long lm, .long en, .long la, .long cu, .long p1, .int sp, .ref b1, .ref b2, .ref b3, .ref b4, .long lk, .int cs, .ref b5]))]) [0] (by decide) rfl
              have hK9 := hK.sub (tys' := []) [] rfl
              exact W.iret (v := 5000) hx hb hr (fun t ht hW => ⟨⟨5000, (0, p1, 0), rfl, trivial, by rw [ht]; exact hP9, va_K.moved hW.alike hK9, hD9⟩, hS.F ht⟩) hS.2.2 d_Mo_stop_95
            · skip
              refine lv_lload hx hb d_Mo_stop_77 (lv_at hl 0 rfl) ?_
              refine lv_ldc2 (v := 5000) hx hb hown (hB _ kb_266) d_Mo_stop_79 ?_
              refine W.lcmp hx hb d_Mo_stop_82 ?_
              refine lv_if_ge (tgt := 92) hx hb d_Mo_stop_83 (by decide) (fun c_83 => ?_) (fun c_83 => ?_)
              · have c_83 := (lg_cmp_ge _ _).mp c_83
                refine lv_lload hx hb d_Mo_stop_92 (lv_at hl 0 rfl) ?_
                refine lv_l2i hx hb d_Mo_stop_94 rfl ?_
                refine lv_topi (fun x_94 ex_94 => ?_)
                have hP9 := hP.sub (ws' := [(h0, .inr (6, [.int 0, .int pi, .int sh, .int lo, .int 0, .int di, .long lm, .long en, .long la, .long cu, .long p1, .int sp, .ref b1, .ref b2, .ref b3, .ref b4, .long lk, .int cs, .ref b5]))]) [0] rfl
                have hD9 := hD.sub (ws' := [(h0, .inr (6, [.int 0, .int pi, .int sh, .int lo, .int 0, .int di, .long lm, .long en, .long la, .long cu, .long p1, .int sp, .ref b1, .ref b2, .ref b3, .ref b4, .long lk, .int cs, .ref b5]))]) [0] (by decide) rfl
                have hK9 := hK.sub (tys' := []) [] rfl
                exact W.iret (v := x_94) hx hb hr (fun t ht hW => ⟨⟨x_94, (0, p1, 0), rfl, trivial, by rw [ht]; exact hP9, va_K.moved hW.alike hK9, hD9⟩, hS.F ht⟩) hS.2.2 d_Mo_stop_95
              · have c_83 := mt (lg_cmp_ge _ _).mpr c_83
                refine lv_sipush (v := 5000) hx hb d_Mo_stop_86 (by decide) ?_
                refine lv_goto (tgt := 95) hx hb d_Mo_stop_89 (by decide) ?_
                have hP9 := hP.sub (ws' := [(h0, .inr (6, [.int 0, .int pi, .int sh, .int lo, .int 0, .int di, .long lm, .long en, .long la, .long cu, .long p1, .int sp, .ref b1, .ref b2, .ref b3, .ref b4, .long lk, .int cs, .ref b5]))]) [0] rfl
                have hD9 := hD.sub (ws' := [(h0, .inr (6, [.int 0, .int pi, .int sh, .int lo, .int 0, .int di, .long lm, .long en, .long la, .long cu, .long p1, .int sp, .ref b1, .ref b2, .ref b3, .ref b4, .long lk, .int cs, .ref b5]))]) [0] (by decide) rfl
                have hK9 := hK.sub (tys' := []) [] rfl
                exact W.iret (v := 5000) hx hb hr (fun t ht hW => ⟨⟨5000, (0, p1, 0), rfl, trivial, by rw [ht]; exact hP9, va_K.moved hW.alike hK9, hD9⟩, hS.F ht⟩) hS.2.2 d_Mo_stop_95
          · skip
            refine lv_bipush (v := 8) hx hb d_Mo_stop_49 (by decide) ?_
            refine lv_goto (tgt := 55) hx hb d_Mo_stop_51 (by decide) ?_
            refine va_put (D := (dC, dI)) (ci := 6) (v := .int 8) (ty := .int) (C := R_Mo) (T := F_Mo) (N := 19) hx hb hB inC_Mo t_Mo t_Mo_ok n_Mo hown hK hP hD hS 0 rfl rfl 4 (by decide) (hB _ kb_252) (fun _ h9 => h9) rfl (by decide +kernel) rfl rfl (Nat.le_of_ble_eq_true rfl) d_Mo_stop_55 (fun H locs hP hD hS => ?_)
            have hP : va_P (dC, dI) classes [(h0, .inr (6, [.int 0, .int pi, .int sh, .int lo, .int 8, .int di, .long lm, .long en, .long la, .long cu, .long p1, .int sp, .ref b1, .ref b2, .ref b3, .ref b4, .long lk, .int cs, .ref b5]))] H := hP
            have hD : va_D A [(h0, .inr (6, [.int 0, .int pi, .int sh, .int lo, .int 8, .int di, .long lm, .long en, .long la, .long cu, .long p1, .int sp, .ref b1, .ref b2, .ref b3, .ref b4, .long lk, .int cs, .ref b5]))] := hD
            refine lv_ldc2 (v := 1000) hx hb hown (hB _ kb_253) d_Mo_stop_58 ?_
            refine lv_aload_n hx hb d_Mo_stop_61 rfl (lv_at hl 0 rfl) ?_
            refine va_get (D := (dC, dI)) (ci := 6) (v := .long cu) (C := R_Mo) (T := F_Mo) (N := 19) hx hb hB inC_Mo hown hK hP 0 rfl rfl 9 (by decide) (hB _ kb_272) (fun _ h9 => h9) rfl d_Mo_stop_62 ?_
            refine lv_ldc2 (v := 10) hx hb hown (hB _ kb_295) d_Mo_stop_65 ?_
            refine lv_ldiv hx hb d_Mo_stop_68 (by decide) ?_
            refine lv_topl (fun x_68 ex_68 => ?_)
            refine lv_lmul hx hb d_Mo_stop_69 ?_
            refine lv_topl (fun x_69 ex_69 => ?_)
            refine lv_lstore (lv' := [(4, .long x_69), (0, .ref h0), (1, .int p0), (2, .long p1)]) hx hb d_Mo_stop_70 hl (by decide) rfl (fun ls hl => ?_)
            refine lv_iload_n hx hb d_Mo_stop_72 rfl (lv_at hl 2 rfl) ?_
            refine lv_iconst (v := 1) hx hb d_Mo_stop_73 (by decide) ?_
            refine lv_icmp_eq (tgt := 86) hx hb d_Mo_stop_74 (by decide) (fun c_74 => ?_) (fun c_74 => ?_)
            · skip
              refine lv_sipush (v := 5000) hx hb d_Mo_stop_86 (by decide) ?_
              refine lv_goto (tgt := 95) hx hb d_Mo_stop_89 (by decide) ?_
              have hP9 := hP.sub (ws' := [(h0, .inr (6, [.int 0, .int pi, .int sh, .int lo, .int 8, .int di, .long lm, .long en, .long la, .long cu, .long p1, .int sp, .ref b1, .ref b2, .ref b3, .ref b4, .long lk, .int cs, .ref b5]))]) [0] rfl
              have hD9 := hD.sub (ws' := [(h0, .inr (6, [.int 0, .int pi, .int sh, .int lo, .int 8, .int di, .long lm, .long en, .long la, .long cu, .long p1, .int sp, .ref b1, .ref b2, .ref b3, .ref b4, .long lk, .int cs, .ref b5]))]) [0] (by decide) rfl
              have hK9 := hK.sub (tys' := []) [] rfl
              exact W.iret (v := 5000) hx hb hr (fun t ht hW => ⟨⟨5000, (0, p1, 8), rfl, trivial, by rw [ht]; exact hP9, va_K.moved hW.alike hK9, hD9⟩, hS.F ht⟩) hS.2.2 d_Mo_stop_95
            · skip
              refine lv_lload hx hb d_Mo_stop_77 (lv_at hl 0 rfl) ?_
              refine lv_ldc2 (v := 5000) hx hb hown (hB _ kb_266) d_Mo_stop_79 ?_
              refine W.lcmp hx hb d_Mo_stop_82 ?_
              refine lv_if_ge (tgt := 92) hx hb d_Mo_stop_83 (by decide) (fun c_83 => ?_) (fun c_83 => ?_)
              · have c_83 := (lg_cmp_ge _ _).mp c_83
                refine lv_lload hx hb d_Mo_stop_92 (lv_at hl 0 rfl) ?_
                refine lv_l2i hx hb d_Mo_stop_94 rfl ?_
                refine lv_topi (fun x_94 ex_94 => ?_)
                have hP9 := hP.sub (ws' := [(h0, .inr (6, [.int 0, .int pi, .int sh, .int lo, .int 8, .int di, .long lm, .long en, .long la, .long cu, .long p1, .int sp, .ref b1, .ref b2, .ref b3, .ref b4, .long lk, .int cs, .ref b5]))]) [0] rfl
                have hD9 := hD.sub (ws' := [(h0, .inr (6, [.int 0, .int pi, .int sh, .int lo, .int 8, .int di, .long lm, .long en, .long la, .long cu, .long p1, .int sp, .ref b1, .ref b2, .ref b3, .ref b4, .long lk, .int cs, .ref b5]))]) [0] (by decide) rfl
                have hK9 := hK.sub (tys' := []) [] rfl
                exact W.iret (v := x_94) hx hb hr (fun t ht hW => ⟨⟨x_94, (0, p1, 8), rfl, trivial, by rw [ht]; exact hP9, va_K.moved hW.alike hK9, hD9⟩, hS.F ht⟩) hS.2.2 d_Mo_stop_95
              · have c_83 := mt (lg_cmp_ge _ _).mpr c_83
                refine lv_sipush (v := 5000) hx hb d_Mo_stop_86 (by decide) ?_
                refine lv_goto (tgt := 95) hx hb d_Mo_stop_89 (by decide) ?_
                have hP9 := hP.sub (ws' := [(h0, .inr (6, [.int 0, .int pi, .int sh, .int lo, .int 8, .int di, .long lm, .long en, .long la, .long cu, .long p1, .int sp, .ref b1, .ref b2, .ref b3, .ref b4, .long lk, .int cs, .ref b5]))]) [0] rfl
                have hD9 := hD.sub (ws' := [(h0, .inr (6, [.int 0, .int pi, .int sh, .int lo, .int 8, .int di, .long lm, .long en, .long la, .long cu, .long p1, .int sp, .ref b1, .ref b2, .ref b3, .ref b4, .long lk, .int cs, .ref b5]))]) [0] (by decide) rfl
                have hK9 := hK.sub (tys' := []) [] rfl
                exact W.iret (v := 5000) hx hb hr (fun t ht hW => ⟨⟨5000, (0, p1, 8), rfl, trivial, by rw [ht]; exact hP9, va_K.moved hW.alike hK9, hD9⟩, hS.F ht⟩) hS.2.2 d_Mo_stop_95
        · skip
          refine lv_bipush (v := (-3)) hx hb d_Mo_stop_36 (by decide) ?_
          have hP9 := hP.sub (ws' := [(h0, .inr (6, [.int 0, .int pi, .int sh, .int lo, .int ph, .int di, .long lm, .long en, .long la, .long cu, .long nw, .int sp, .ref b1, .ref b2, .ref b3, .ref b4, .long lk, .int cs, .ref b5]))]) [0] rfl
          have hD9 := hD.sub (ws' := [(h0, .inr (6, [.int 0, .int pi, .int sh, .int lo, .int ph, .int di, .long lm, .long en, .long la, .long cu, .long nw, .int sp, .ref b1, .ref b2, .ref b3, .ref b4, .long lk, .int cs, .ref b5]))]) [0] (by decide) rfl
          have hK9 := hK.sub (tys' := []) [] rfl
          exact W.iret (v := (-3)) hx hb hr (fun t ht hW => ⟨⟨(-3), (0, nw, ph), rfl, trivial, by rw [ht]; exact hP9, va_K.moved hW.alike hK9, hD9⟩, hS.F ht⟩) hS.2.2 d_Mo_stop_38
      · skip
        refine lv_bipush (v := (-2)) hx hb d_Mo_stop_24 (by decide) ?_
        have hP9 := hP.sub (ws' := [(h0, .inr (6, [.int 0, .int pi, .int sh, .int lo, .int ph, .int di, .long lm, .long en, .long la, .long cu, .long nw, .int sp, .ref b1, .ref b2, .ref b3, .ref b4, .long lk, .int cs, .ref b5]))]) [0] rfl
        have hD9 := hD.sub (ws' := [(h0, .inr (6, [.int 0, .int pi, .int sh, .int lo, .int ph, .int di, .long lm, .long en, .long la, .long cu, .long nw, .int sp, .ref b1, .ref b2, .ref b3, .ref b4, .long lk, .int cs, .ref b5]))]) [0] (by decide) rfl
        have hK9 := hK.sub (tys' := []) [] rfl
        exact W.iret (v := (-2)) hx hb hr (fun t ht hW => ⟨⟨(-2), (0, nw, ph), rfl, trivial, by rw [ht]; exact hP9, va_K.moved hW.alike hK9, hD9⟩, hS.F ht⟩) hS.2.2 d_Mo_stop_26
    · skip
      refine lv_iconst (v := (-1)) hx hb d_Mo_stop_14 (by decide) ?_
      have hP9 := hP.sub (ws' := [(h0, .inr (6, [.int 0, .int pi, .int sh, .int lo, .int ph, .int di, .long lm, .long en, .long la, .long cu, .long nw, .int sp, .ref b1, .ref b2, .ref b3, .ref b4, .long lk, .int cs, .ref b5]))]) [0] rfl
      have hD9 := hD.sub (ws' := [(h0, .inr (6, [.int 0, .int pi, .int sh, .int lo, .int ph, .int di, .long lm, .long en, .long la, .long cu, .long nw, .int sp, .ref b1, .ref b2, .ref b3, .ref b4, .long lk, .int cs, .ref b5]))]) [0] (by decide) rfl
      have hK9 := hK.sub (tys' := []) [] rfl
      exact W.iret (v := (-1)) hx hb hr (fun t ht hW => ⟨⟨(-1), (0, nw, ph), rfl, trivial, by rw [ht]; exact hP9, va_K.moved hW.alike hK9, hD9⟩, hS.F ht⟩) hS.2.2 d_Mo_stop_15
set_option maxHeartbeats 4000000 in
set_option maxRecDepth 100000 in
theorem c_Mo_share (l : Launch) (dC : Nat → ClassId) (dI : Nat → Nat → Nat) (h0 : Nat) (b1 : Nat) (b2 : Nat) (b3 : Nat) (b4 : Nat) (b5 : Nat) (i5 : ClassId) (sz : Nat) (co : Int32) (pi : Int32) (sh : Int32) (lo : Int32) (ph : Int32) (di : Int32) (lm : Int64) (en : Int64) (la : Int64) (cu : Int64) (nw : Int64) (sp : Int32) (lk : Int64) (cs : Int32) (g5 : Nat → Int32) (p0 : Int32) (p1 : Int64) (p2 : Int32) (hc0 : 0 ≤ cs.toInt) (hc1 : cs.toInt ≤ 10) (hg : ∀ k : Nat, (k : Int) < cs.toInt → 0 ≤ (g5 (k + 1)).toInt ∧ (g5 (k + 1)).toInt ≤ 1000) : Met l y_Mo_share w_Mo_share ({ frames := 0, cells := 0, slots := 0, locals := 0 }) (cPre dC dI [.ref h0, .int p0, .long p1, .int p2] sz [(i5, .int)] [(h0, .inr (6, [.int co, .int pi, .int sh, .int lo, .int ph, .int di, .long lm, .long en, .long la, .long cu, .long nw, .int sp, .ref b1, .ref b2, .ref b3, .ref b4, .long lk, .int cs, .ref b5])), (b5, .inl (i5, 11, .inl g5))]) (va_Ql (fun (r : Int64) (u : Int32) => (shT p0 p1 cs (mS g5 cs) → u = 1) ∧ (¬ shT p0 p1 cs (mS g5 cs) → u = 0 ∧ shP p0 p1 p2 cs (mS g5 cs) (g5 p0.toNatClampNeg).toInt64 r)) (fun (u : Int32) (t : State) => cB dC dI (va_A [(h0, .inr (6, [.int co, .int pi, .int sh, .int lo, .int ph, .int di, .long lm, .long en, .long la, .long cu, .long nw, .int sp, .ref b1, .ref b2, .ref b3, .ref b4, .long lk, .int cs, .ref b5])), (b5, .inl (i5, 11, .inl g5))] sz) [(i5, .int)] [(h0, .inr (6, [.int u, .int pi, .int sh, .int lo, .int ph, .int di, .long lm, .long en, .long la, .long cu, .long nw, .int sp, .ref b1, .ref b2, .ref b3, .ref b4, .long lk, .int cs, .ref b5])), (b5, .inl (i5, 11, .inl g5))] t) (va_A [(h0, .inr (6, [.int co, .int pi, .int sh, .int lo, .int ph, .int di, .long lm, .long en, .long la, .long cu, .long nw, .int sp, .ref b1, .ref b2, .ref b3, .ref b4, .long lk, .int cs, .ref b5])), (b5, .inl (i5, 11, .inl g5))] sz)) 0 0 (va_A [(h0, .inr (6, [.int co, .int pi, .int sh, .int lo, .int ph, .int di, .long lm, .long en, .long la, .long cu, .long nw, .int sp, .ref b1, .ref b2, .ref b3, .ref b4, .long lk, .int cs, .ref b5])), (b5, .inl (i5, 11, .inl g5))] sz) := by
  refine Met.ofW (cc := b_Mo_share) (maxL := 15) (ret := (some .long)) (by decide) rfl ?_
  intro p e s m args below meth c s₁ B hml hv
  obtain ⟨rfl, hsz, hN, hP, hK, hD0⟩ := hv
  have hx := B.exec
  have hb := B.bytes
  have hr := B.returns
  have hts := atoms_spec (ws := w_Mo_share) B.pre
  have hB := big_of hts
  have hown : s.vm.findClass R_Mo = some m.cls := findClass_of_methodNamed B.named
  have hlocks := B.notSynchronized
  subst hsz
  have hD := hD0.self (sz := s.heap.size)
  generalize hAe : va_A [(h0, .inr (6, [.int co, .int pi, .int sh, .int lo, .int ph, .int di, .long lm, .long en, .long la, .long cu, .long nw, .int sp, .ref b1, .ref b2, .ref b3, .ref b4, .long lk, .int cs, .ref b5])), (b5, .inl (i5, 11, .inl g5))] s.heap.size = A at hD ⊢
  have hA : ∀ q : Nat, s.heap.size ≤ q → A q := fun q h => by rw [← hAe]; exact Or.inr h
  have hS : va_S A s.heap s.heap [] := va_S.rf
  have hP : va_P (dC, dI) classes [(h0, .inr (6, [.int co, .int pi, .int sh, .int lo, .int ph, .int di, .long lm, .long en, .long la, .long cu, .long nw, .int sp, .ref b1, .ref b2, .ref b3, .ref b4, .long lk, .int cs, .ref b5])), (b5, .inl (i5, 11, .inl g5))] s.heap := hP
  have hl := lv_entry ([.ref h0, .int p0, .long p1, .int p2]) (n := 15) (Nat.le_of_ble_eq_true rfl)
  rw [lg_entry_eq]
  generalize (lg_sl ([.ref h0, .int p0, .long p1, .int p2]) ++ List.replicate (15 - (lg_sl ([.ref h0, .int p0, .long p1, .int p2])).length) Slot.unset).toArray = ls at hl ⊢
  have hl : lv_has ls 15 [(0, .ref h0), (1, .int p0), (2, .long p1), (4, .int p2)] := hl
  have cut : ∀ n : Nat, (∀ (su : Int64) (kk : Int32) (H : Heap) (locs : List Loc) (ls : Array Slot), (1 ≤ kk.toInt ∧ kk.toInt ≤ cs.toInt + 1) → (su.toInt = wsum (fun k => g5 (k + 1)) (kk.toInt.toNat - 1)) → (1 ≤ p0 ∧ p0 ≤ cs) → (0 ≤ p1 ∧ p1 ≤ 1000000000000) → (12 - kk.toInt).toNat + 9223372036854775808 < n → va_P (dC, dI) classes [(h0, .inr (6, [.int 0, .int pi, .int sh, .int lo, .int ph, .int di, .long lm, .long en, .long la, .long cu, .long nw, .int sp, .ref b1, .ref b2, .ref b3, .ref b4, .long lk, .int cs, .ref b5])), (b5, .inl (i5, 11, .inl g5))] H → va_D A [(h0, .inr (6, [.int 0, .int pi, .int sh, .int lo, .int ph, .int di, .long lm, .long en, .long la, .long cu, .long nw, .int sp, .ref b1, .ref b2, .ref b3, .ref b4, .long lk, .int cs, .ref b5])), (b5, .inl (i5, 11, .inl g5))] → va_S A s.heap H locs → lv_has ls 15 [(0, .ref h0), (1, .int p0), (2, .long p1), (4, .int p2), (5, .long su), (7, .int kk)] → W p l e (headSpec w_Mo_share ({ frames := 0, cells := 0, slots := 0, locals := 0 })).room s m (List.toArray [.ref h0, .int p0, .long p1, .int p2]) below meth c H locs 0 0 (MQ below (va_Ql (fun (r : Int64) (u : Int32) => (shT p0 p1 cs (mS g5 cs) → u = 1) ∧ (¬ shT p0 p1 cs (mS g5 cs) → u = 0 ∧ shP p0 p1 p2 cs (mS g5 cs) (g5 p0.toNatClampNeg).toInt64 r)) (fun (u : Int32) (t : State) => cB dC dI A [(i5, .int)] [(h0, .inr (6, [.int u, .int pi, .int sh, .int lo, .int ph, .int di, .long lm, .long en, .long la, .long cu, .long nw, .int sp, .ref b1, .ref b2, .ref b3, .ref b4, .long lk, .int cs, .ref b5])), (b5, .inl (i5, 11, .inl g5))] t) A) (List.toArray [.ref h0, .int p0, .long p1, .int p2]) s 0 0 A) (F0 m 46 ls [])) ∧ (∀ (su : Int64) (up : Int64) (xx : Int64) (yy : Int64) (H : Heap) (locs : List Loc) (ls : Array Slot), (1 ≤ p0 ∧ p0 ≤ cs) → (0 ≤ p1 ∧ p1 ≤ 1000000000000) → (su.toInt = mS g5 cs) → (¬ su = 0) → (up = p1 * (g5 p0.toNatClampNeg).toInt64) → (mgI su up xx yy) → yy.toInt.toNat < n → va_P (dC, dI) classes [(h0, .inr (6, [.int 0, .int pi, .int sh, .int lo, .int ph, .int di, .long lm, .long en, .long la, .long cu, .long nw, .int sp, .ref b1, .ref b2, .ref b3, .ref b4, .long lk, .int cs, .ref b5])), (b5, .inl (i5, 11, .inl g5))] H → va_D A [(h0, .inr (6, [.int 0, .int pi, .int sh, .int lo, .int ph, .int di, .long lm, .long en, .long la, .long cu, .long nw, .int sp, .ref b1, .ref b2, .ref b3, .ref b4, .long lk, .int cs, .ref b5])), (b5, .inl (i5, 11, .inl g5))] → va_S A s.heap H locs → lv_has ls 15 [(0, .ref h0), (1, .int p0), (2, .long p1), (4, .int p2), (5, .long su), (7, .long up), (9, .long xx), (11, .long yy)] → W p l e (headSpec w_Mo_share ({ frames := 0, cells := 0, slots := 0, locals := 0 })).room s m (List.toArray [.ref h0, .int p0, .long p1, .int p2]) below meth c H locs 0 0 (MQ below (va_Ql (fun (r : Int64) (u : Int32) => (shT p0 p1 cs (mS g5 cs) → u = 1) ∧ (¬ shT p0 p1 cs (mS g5 cs) → u = 0 ∧ shP p0 p1 p2 cs (mS g5 cs) (g5 p0.toNatClampNeg).toInt64 r)) (fun (u : Int32) (t : State) => cB dC dI A [(i5, .int)] [(h0, .inr (6, [.int u, .int pi, .int sh, .int lo, .int ph, .int di, .long lm, .long en, .long la, .long cu, .long nw, .int sp, .ref b1, .ref b2, .ref b3, .ref b4, .long lk, .int cs, .ref b5])), (b5, .inl (i5, 11, .inl g5))] t) A) (List.toArray [.ref h0, .int p0, .long p1, .int p2]) s 0 0 A) (F0 m 118 ls [])) := by
    intro n
    induction n with
    | zero => exact ⟨by intros; first | exact (Nat.not_lt_zero _ (by assumption)).elim | omega, by intros; first | exact (Nat.not_lt_zero _ (by assumption)).elim | omega⟩
    | succ n ih =>
      refine ⟨?_, ?_⟩
      · intro su kk H locs ls h_k h_s h_pc h_pa hmu hP hD hS hl
        have h_pq := pcs9 h_pc
        refine lv_iload hx hb d_Mo_share_46 (lv_at hl 5 rfl) ?_
        refine lv_aload_n hx hb d_Mo_share_48 rfl (lv_at hl 0 rfl) ?_
        refine va_get (D := (dC, dI)) (ci := 6) (v := .int cs) (C := R_Mo) (T := F_Mo) (N := 19) hx hb hB inC_Mo hown hK hP 0 rfl rfl 17 (by decide) (hB _ kb_296) (fun _ h9 => h9) rfl d_Mo_share_49 ?_
        refine lv_icmp_gt (tgt := 74) hx hb d_Mo_share_52 (by decide) (fun c_52 => ?_) (fun c_52 => ?_)
        · skip
          refine lv_aload_n hx hb d_Mo_share_74 rfl (lv_at hl 0 rfl) ?_
          refine lv_lload hx hb d_Mo_share_75 (lv_at hl 4 rfl) ?_
          refine lv_lconst (v := 0) hx hb d_Mo_share_77 (by decide) ?_
          refine W.lcmp hx hb d_Mo_share_78 ?_
          have s_1 : su.toInt = mS g5 cs := by
            have h9 : cs.toInt < kk.toInt := by rw [← Int32.lt_iff_toInt_lt]; exact c_52
            have h8 : kk.toInt.toNat - 1 = cs.toInt.toNat := by omega
            rw [mS, ← h8]; exact h_s
          refine lv_if_ne (tgt := 86) hx hb d_Mo_share_79 (by decide) (fun c_79 => ?_) (fun c_79 => ?_)
          · have c_79 := mt (lg_cmp_eq _ _).mpr c_79
            refine lv_iconst (v := 0) hx hb d_Mo_share_86 (by decide) ?_
            refine va_put (D := (dC, dI)) (ci := 6) (v := .int 0) (ty := .int) (C := R_Mo) (T := F_Mo) (N := 19) hx hb hB inC_Mo t_Mo t_Mo_ok n_Mo hown hK hP hD hS 0 rfl rfl 0 (by decide) (hB _ kb_245) (fun _ h9 => h9) rfl (by decide +kernel) rfl rfl (Nat.le_of_ble_eq_true rfl) d_Mo_share_87 (fun H locs hP hD hS => ?_)
            have hP : va_P (dC, dI) classes [(h0, .inr (6, [.int 0, .int pi, .int sh, .int lo, .int ph, .int di, .long lm, .long en, .long la, .long cu, .long nw, .int sp, .ref b1, .ref b2, .ref b3, .ref b4, .long lk, .int cs, .ref b5])), (b5, .inl (i5, 11, .inl g5))] H := hP
            have hD : va_D A [(h0, .inr (6, [.int 0, .int pi, .int sh, .int lo, .int ph, .int di, .long lm, .long en, .long la, .long cu, .long nw, .int sp, .ref b1, .ref b2, .ref b3, .ref b4, .long lk, .int cs, .ref b5])), (b5, .inl (i5, 11, .inl g5))] := hD
            refine lv_aload_n hx hb d_Mo_share_90 rfl (lv_at hl 0 rfl) ?_
            refine va_get (D := (dC, dI)) (ci := 6) (v := .int 0) (C := R_Mo) (T := F_Mo) (N := 19) hx hb hB inC_Mo hown hK hP 0 rfl rfl 0 (by decide) (hB _ kb_245) (fun _ h9 => h9) rfl d_Mo_share_91 ?_
            refine lv_if_le (tgt := 99) hx hb d_Mo_share_94 (by decide) (fun _ => ?_) (fun c_94 => absurd (by decide) c_94)
            refine lv_lload_n hx hb d_Mo_share_99 rfl (lv_at hl 2 rfl) ?_
            refine lv_aload_n hx hb d_Mo_share_100 rfl (lv_at hl 0 rfl) ?_
            refine va_get (D := (dC, dI)) (ci := 6) (v := .ref b5) (C := R_Mo) (T := F_Mo) (N := 19) hx hb hB inC_Mo hown hK hP 0 rfl rfl 18 (by decide) (hB _ kb_243) (fun _ h9 => h9) rfl d_Mo_share_101 ?_
            refine lv_iload_n hx hb d_Mo_share_104 rfl (lv_at hl 1 rfl) ?_
            have h_105 : vp_in p0 11 := vinP hc1 h_pq
            refine va_iald hx hb hK hP 1 0 rfl rfl h_105 d_Mo_share_105 ?_
            refine lv_topi (fun x_105 ex_105 => ?_)
            refine lv_i2l hx hb d_Mo_share_106 rfl ?_
            refine lv_topl (fun x_106 ex_106 => ?_)
            refine lv_lmul hx hb d_Mo_share_107 ?_
            refine lv_topl (fun x_107 ex_107 => ?_)
            refine lv_lstore (lv' := [(7, .long x_107), (0, .ref h0), (1, .int p0), (2, .long p1), (4, .int p2), (5, .long su)]) hx hb d_Mo_share_108 hl (by decide) rfl (fun ls hl => ?_)
            refine lv_lload hx hb d_Mo_share_110 (lv_at hl 5 rfl) ?_
            refine lv_lstore (lv' := [(9, .long su), (7, .long x_107), (0, .ref h0), (1, .int p0), (2, .long p1), (4, .int p2), (5, .long su)]) hx hb d_Mo_share_112 hl (by decide) rfl (fun ls hl => ?_)
            refine lv_lload hx hb d_Mo_share_114 (lv_at hl 1 rfl) ?_
            refine lv_lstore (lv' := [(11, .long x_107), (9, .long su), (7, .long x_107), (0, .ref h0), (1, .int p0), (2, .long p1), (4, .int p2), (5, .long su)]) hx hb d_Mo_share_116 hl (by decide) rfl (fun ls hl => ?_)
            exact ih.2 su x_107 su x_107 _ _ _ (h_pc) (h_pa) (s_1) (c_79) (by rw [ex_107, ex_106, ex_105]) (⟨by have h8 := mS_le (g5 := g5) (n := cs.toInt.toNat) (fun k hk => hg k (by omega)); have h7 : su.toInt ≠ 0 := (fun h => c_79 (i6z.mpr h)); rw [mS] at s_1; omega, upB h_pa (msb hc0 hg h_pq ex_105) ex_106 ex_107, rfl⟩) (by have h9 := Int64.toInt_lt x_107; omega) (hP.sub [0, 1] rfl) (hD.sub [0, 1] (by decide) rfl) hS (lv_sub hl [3, 4, 5, 6, 7, 2, 1, 0] rfl)
          · have c_79 := (lg_cmp_eq _ _).mp c_79
            refine lv_iconst (v := 1) hx hb d_Mo_share_82 (by decide) ?_
            refine lv_goto (tgt := 87) hx hb d_Mo_share_83 (by decide) ?_
            refine va_put (D := (dC, dI)) (ci := 6) (v := .int 1) (ty := .int) (C := R_Mo) (T := F_Mo) (N := 19) hx hb hB inC_Mo t_Mo t_Mo_ok n_Mo hown hK hP hD hS 0 rfl rfl 0 (by decide) (hB _ kb_245) (fun _ h9 => h9) rfl (by decide +kernel) rfl rfl (Nat.le_of_ble_eq_true rfl) d_Mo_share_87 (fun H locs hP hD hS => ?_)
            have hP : va_P (dC, dI) classes [(h0, .inr (6, [.int 1, .int pi, .int sh, .int lo, .int ph, .int di, .long lm, .long en, .long la, .long cu, .long nw, .int sp, .ref b1, .ref b2, .ref b3, .ref b4, .long lk, .int cs, .ref b5])), (b5, .inl (i5, 11, .inl g5))] H := hP
            have hD : va_D A [(h0, .inr (6, [.int 1, .int pi, .int sh, .int lo, .int ph, .int di, .long lm, .long en, .long la, .long cu, .long nw, .int sp, .ref b1, .ref b2, .ref b3, .ref b4, .long lk, .int cs, .ref b5])), (b5, .inl (i5, 11, .inl g5))] := hD
            refine lv_aload_n hx hb d_Mo_share_90 rfl (lv_at hl 0 rfl) ?_
            refine va_get (D := (dC, dI)) (ci := 6) (v := .int 1) (C := R_Mo) (T := F_Mo) (N := 19) hx hb hB inC_Mo hown hK hP 0 rfl rfl 0 (by decide) (hB _ kb_245) (fun _ h9 => h9) rfl d_Mo_share_91 ?_
            refine lv_if_le (tgt := 99) hx hb d_Mo_share_94 (by decide) (fun c_94 => absurd c_94 (by decide)) (fun _ => ?_)
            refine lv_lconst (v := 0) hx hb d_Mo_share_97 (by decide) ?_
            have hP9 := hP.sub (ws' := [(h0, .inr (6, [.int 1, .int pi, .int sh, .int lo, .int ph, .int di, .long lm, .long en, .long la, .long cu, .long nw, .int sp, .ref b1, .ref b2, .ref b3, .ref b4, .long lk, .int cs, .ref b5])), (b5, .inl (i5, 11, .inl g5))]) [0, 1] rfl
            have hD9 := hD.sub (ws' := [(h0, .inr (6, [.int 1, .int pi, .int sh, .int lo, .int ph, .int di, .long lm, .long en, .long la, .long cu, .long nw, .int sp, .ref b1, .ref b2, .ref b3, .ref b4, .long lk, .int cs, .ref b5])), (b5, .inl (i5, 11, .inl g5))]) [0, 1] (by decide) rfl
            have hK9 := hK.sub (tys' := [(i5, .int)]) [0] rfl
            exact W.lret (v := 0) hx hb hr (fun t ht hW => ⟨⟨0, (1), rfl, ⟨fun _ => rfl, fun h => absurd ⟨h_pc, h_pa, s_1.symm.trans (i6z.mp c_79)⟩ h⟩, by rw [ht]; exact hP9, va_K.moved hW.alike hK9, hD9⟩, hS.F ht⟩) hS.2.2 d_Mo_share_98
        · skip
          refine lv_lload hx hb d_Mo_share_55 (lv_at hl 4 rfl) ?_
          refine lv_aload_n hx hb d_Mo_share_57 rfl (lv_at hl 0 rfl) ?_
          refine va_get (D := (dC, dI)) (ci := 6) (v := .ref b5) (C := R_Mo) (T := F_Mo) (N := 19) hx hb hB inC_Mo hown hK hP 0 rfl rfl 18 (by decide) (hB _ kb_243) (fun _ h9 => h9) rfl d_Mo_share_58 ?_
          refine lv_iload hx hb d_Mo_share_61 (lv_at hl 5 rfl) ?_
          have h_63 : vp_in kk 11 := vinKs hc1 (ge32 (by omega)) c_52
          refine va_iald hx hb hK hP 1 0 rfl rfl h_63 d_Mo_share_63 ?_
          refine lv_topi (fun x_63 ex_63 => ?_)
          refine lv_i2l hx hb d_Mo_share_64 rfl ?_
          refine lv_topl (fun x_64 ex_64 => ?_)
          refine lv_ladd hx hb d_Mo_share_65 ?_
          refine lv_topl (fun x_65 ex_65 => ?_)
          refine lv_lstore (lv' := [(5, .long x_65), (0, .ref h0), (1, .int p0), (2, .long p1), (4, .int p2), (7, .int kk)]) hx hb d_Mo_share_66 hl (by decide) rfl (fun ls hl => ?_)
          obtain ⟨x_68, ex_68⟩ : ∃ y : Int32, y = kk + 1 := ⟨_, rfl⟩
          refine lv_iinc (v := x_68) (lv' := [(7, .int x_68), (5, .long x_65), (0, .ref h0), (1, .int p0), (2, .long p1), (4, .int p2)]) hx hb d_Mo_share_68 hl (k := 5) rfl (by rw [ex_68]; rfl) (by decide) rfl (fun ls hl => ?_)
          refine lv_goto (tgt := 46) hx hb d_Mo_share_71 (by decide) ?_
          exact ih.1 x_65 x_68 _ _ _ (by have h9 := sum_s hc1 hg h_k.1 c_52 h_s ex_63 ex_64 ex_65 ex_68; omega) (by have h9 := sum_s hc1 hg h_k.1 c_52 h_s ex_63 ex_64 ex_65 ex_68; exact h9.1) (h_pc) (h_pa) (by have h9 := sum_s hc1 hg h_k.1 c_52 h_s ex_63 ex_64 ex_65 ex_68; omega) (hP.sub [0, 1] rfl) (hD.sub [0, 1] (by decide) rfl) hS (lv_sub hl [2, 3, 4, 5, 1, 0] rfl)
      · intro su up xx yy H locs ls h_pc h_pa h_su h_s0 h_up h_m hmu hP hD hS hl
        refine lv_lload hx hb d_Mo_share_118 (lv_at hl 7 rfl) ?_
        refine lv_lconst (v := 0) hx hb d_Mo_share_120 (by decide) ?_
        refine W.lcmp hx hb d_Mo_share_121 ?_
        refine lv_if_le (tgt := 143) hx hb d_Mo_share_122 (by decide) (fun c_122 => ?_) (fun c_122 => ?_)
        · have c_122 := (lg_cmp_le _ _).mp c_122
          refine lv_iload hx hb d_Mo_share_143 (lv_at hl 3 rfl) ?_
          refine lv_if_ne (tgt := 156) hx hb d_Mo_share_145 (by decide) (fun c_145 => ?_) (fun c_145 => ?_)
          · skip
            refine lv_lload hx hb d_Mo_share_156 (lv_at hl 4 rfl) ?_
            refine lv_lload hx hb d_Mo_share_158 (lv_at hl 6 rfl) ?_
            refine lv_ldiv hx hb d_Mo_share_160 (fun h => absurd h_m.1 (by rw [h, Int64.toInt_zero]; decide)) ?_
            refine lv_topl (fun x_160 ex_160 => ?_)
            have hP9 := hP.sub (ws' := [(h0, .inr (6, [.int 0, .int pi, .int sh, .int lo, .int ph, .int di, .long lm, .long en, .long la, .long cu, .long nw, .int sp, .ref b1, .ref b2, .ref b3, .ref b4, .long lk, .int cs, .ref b5])), (b5, .inl (i5, 11, .inl g5))]) [0, 1] rfl
            have hD9 := hD.sub (ws' := [(h0, .inr (6, [.int 0, .int pi, .int sh, .int lo, .int ph, .int di, .long lm, .long en, .long la, .long cu, .long nw, .int sp, .ref b1, .ref b2, .ref b3, .ref b4, .long lk, .int cs, .ref b5])), (b5, .inl (i5, 11, .inl g5))]) [0, 1] (by decide) rfl
            have hK9 := hK.sub (tys' := [(i5, .int)]) [0] rfl
            exact W.lret (v := x_160) hx hb hr (fun t ht hW => ⟨⟨x_160, (0), rfl, ⟨fun h => absurd (i6z.mpr (h_su.trans h.2.2)) h_s0, fun _ => ⟨rfl, fun h => absurd h_pc h, fun _ h => absurd h_pa h, fun _ _ => ⟨xx, su, h_su, by rw [mg_e h_m c_122, h_up, h_su], by rw [if_neg c_145, ex_160]⟩⟩⟩, by rw [ht]; exact hP9, va_K.moved hW.alike hK9, hD9⟩, hS.F ht⟩) hS.2.2 d_Mo_share_161
          · skip
            refine lv_lload hx hb d_Mo_share_148 (lv_at hl 5 rfl) ?_
            refine lv_lload hx hb d_Mo_share_150 (lv_at hl 6 rfl) ?_
            refine lv_ldiv hx hb d_Mo_share_152 (fun h => absurd h_m.1 (by rw [h, Int64.toInt_zero]; decide)) ?_
            refine lv_topl (fun x_152 ex_152 => ?_)
            refine lv_goto (tgt := 161) hx hb d_Mo_share_153 (by decide) ?_
            have hP9 := hP.sub (ws' := [(h0, .inr (6, [.int 0, .int pi, .int sh, .int lo, .int ph, .int di, .long lm, .long en, .long la, .long cu, .long nw, .int sp, .ref b1, .ref b2, .ref b3, .ref b4, .long lk, .int cs, .ref b5])), (b5, .inl (i5, 11, .inl g5))]) [0, 1] rfl
            have hD9 := hD.sub (ws' := [(h0, .inr (6, [.int 0, .int pi, .int sh, .int lo, .int ph, .int di, .long lm, .long en, .long la, .long cu, .long nw, .int sp, .ref b1, .ref b2, .ref b3, .ref b4, .long lk, .int cs, .ref b5])), (b5, .inl (i5, 11, .inl g5))]) [0, 1] (by decide) rfl
            have hK9 := hK.sub (tys' := [(i5, .int)]) [0] rfl
            exact W.lret (v := x_152) hx hb hr (fun t ht hW => ⟨⟨x_152, (0), rfl, ⟨fun h => absurd (i6z.mpr (h_su.trans h.2.2)) h_s0, fun _ => ⟨rfl, fun h => absurd h_pc h, fun _ h => absurd h_pa h, fun _ _ => ⟨xx, su, h_su, by rw [mg_e h_m c_122, h_up, h_su], by rw [if_pos c_145, ex_152, h_up]⟩⟩⟩, by rw [ht]; exact hP9, va_K.moved hW.alike hK9, hD9⟩, hS.F ht⟩) hS.2.2 d_Mo_share_161
        · have c_122 := mt (lg_cmp_le _ _).mpr c_122
          refine lv_lload hx hb d_Mo_share_125 (lv_at hl 6 rfl) ?_
          refine lv_lload hx hb d_Mo_share_127 (lv_at hl 7 rfl) ?_
          refine lv_lrem hx hb d_Mo_share_129 (i6nz c_122) ?_
          refine lv_topl (fun x_129 ex_129 => ?_)
          refine lv_lstore (lv' := [(13, .long x_129), (0, .ref h0), (1, .int p0), (2, .long p1), (4, .int p2), (5, .long su), (7, .long up), (9, .long xx), (11, .long yy)]) hx hb d_Mo_share_130 hl (by decide) rfl (fun ls hl => ?_)
          refine lv_lload hx hb d_Mo_share_132 (lv_at hl 8 rfl) ?_
          refine lv_lstore (lv' := [(9, .long yy), (13, .long x_129), (0, .ref h0), (1, .int p0), (2, .long p1), (4, .int p2), (5, .long su), (7, .long up), (11, .long yy)]) hx hb d_Mo_share_134 hl (by decide) rfl (fun ls hl => ?_)
          refine lv_lload hx hb d_Mo_share_136 (lv_at hl 1 rfl) ?_
          refine lv_lstore (lv' := [(11, .long x_129), (9, .long yy), (13, .long x_129), (0, .ref h0), (1, .int p0), (2, .long p1), (4, .int p2), (5, .long su), (7, .long up)]) hx hb d_Mo_share_138 hl (by decide) rfl (fun ls hl => ?_)
          refine lv_goto (tgt := 118) hx hb d_Mo_share_140 (by decide) ?_
          exact ih.2 su up yy x_129 _ _ _ (h_pc) (h_pa) (h_su) (h_s0) (h_up) (mg_s h_m c_122 ex_129) (by have h9 := remlt (i6p c_122) ex_129; have h8 := i6p c_122; omega) (hP.sub [0, 1] rfl) (hD.sub [0, 1] (by decide) rfl) hS (lv_sub hl [3, 4, 5, 6, 7, 8, 1, 0] rfl)
  refine lv_aload_n hx hb d_Mo_share_0 rfl (lv_at hl 0 rfl) ?_
  refine lv_iconst (v := 0) hx hb d_Mo_share_1 (by decide) ?_
  refine va_put (D := (dC, dI)) (ci := 6) (v := .int 0) (ty := .int) (C := R_Mo) (T := F_Mo) (N := 19) hx hb hB inC_Mo t_Mo t_Mo_ok n_Mo hown hK hP hD hS 0 rfl rfl 0 (by decide) (hB _ kb_245) (fun _ h9 => h9) rfl (by decide +kernel) rfl rfl (Nat.le_of_ble_eq_true rfl) d_Mo_share_2 (fun H locs hP hD hS => ?_)
  have hP : va_P (dC, dI) classes [(h0, .inr (6, [.int 0, .int pi, .int sh, .int lo, .int ph, .int di, .long lm, .long en, .long la, .long cu, .long nw, .int sp, .ref b1, .ref b2, .ref b3, .ref b4, .long lk, .int cs, .ref b5])), (b5, .inl (i5, 11, .inl g5))] H := hP
  have hD : va_D A [(h0, .inr (6, [.int 0, .int pi, .int sh, .int lo, .int ph, .int di, .long lm, .long en, .long la, .long cu, .long nw, .int sp, .ref b1, .ref b2, .ref b3, .ref b4, .long lk, .int cs, .ref b5])), (b5, .inl (i5, 11, .inl g5))] := hD
  refine lv_iload_n hx hb d_Mo_share_5 rfl (lv_at hl 1 rfl) ?_
  refine lv_iconst (v := 1) hx hb d_Mo_share_6 (by decide) ?_
  refine lv_icmp_lt (tgt := 18) hx hb d_Mo_share_7 (by decide) (fun c_7 => ?_) (fun c_7 => ?_)
  · skip
    refine lv_ldc2 (v := (-1)) hx hb hown (hB _ kb_297) d_Mo_share_18 ?_
    have hP9 := hP.sub (ws' := [(h0, .inr (6, [.int 0, .int pi, .int sh, .int lo, .int ph, .int di, .long lm, .long en, .long la, .long cu, .long nw, .int sp, .ref b1, .ref b2, .ref b3, .ref b4, .long lk, .int cs, .ref b5])), (b5, .inl (i5, 11, .inl g5))]) [0, 1] rfl
    have hD9 := hD.sub (ws' := [(h0, .inr (6, [.int 0, .int pi, .int sh, .int lo, .int ph, .int di, .long lm, .long en, .long la, .long cu, .long nw, .int sp, .ref b1, .ref b2, .ref b3, .ref b4, .long lk, .int cs, .ref b5])), (b5, .inl (i5, 11, .inl g5))]) [0, 1] (by decide) rfl
    have hK9 := hK.sub (tys' := [(i5, .int)]) [0] rfl
    exact W.lret (v := (-1)) hx hb hr (fun t ht hW => ⟨⟨(-1), (0), rfl, ⟨fun h => absurd h.1 (fun h => absurd h.1 (Int32.not_le.mpr c_7)), fun _ => ⟨rfl, fun _ => rfl, fun h => absurd h (fun h => absurd h.1 (Int32.not_le.mpr c_7)), fun h => absurd h (fun h => absurd h.1 (Int32.not_le.mpr c_7))⟩⟩, by rw [ht]; exact hP9, va_K.moved hW.alike hK9, hD9⟩, hS.F ht⟩) hS.2.2 d_Mo_share_21
  · skip
    refine lv_iload_n hx hb d_Mo_share_10 rfl (lv_at hl 1 rfl) ?_
    refine lv_aload_n hx hb d_Mo_share_11 rfl (lv_at hl 0 rfl) ?_
    refine va_get (D := (dC, dI)) (ci := 6) (v := .int cs) (C := R_Mo) (T := F_Mo) (N := 19) hx hb hB inC_Mo hown hK hP 0 rfl rfl 17 (by decide) (hB _ kb_296) (fun _ h9 => h9) rfl d_Mo_share_12 ?_
    refine lv_icmp_le (tgt := 22) hx hb d_Mo_share_15 (by decide) (fun c_15 => ?_) (fun c_15 => ?_)
    · skip
      refine lv_lload_n hx hb d_Mo_share_22 rfl (lv_at hl 2 rfl) ?_
      refine lv_lconst (v := 0) hx hb d_Mo_share_23 (by decide) ?_
      refine W.lcmp hx hb d_Mo_share_24 ?_
      refine lv_if_lt (tgt := 36) hx hb d_Mo_share_25 (by decide) (fun c_25 => ?_) (fun c_25 => ?_)
      · have c_25 := (lg_cmp_lt _ _).mp c_25
        refine lv_ldc2 (v := (-2)) hx hb hown (hB _ kb_298) d_Mo_share_36 ?_
        have hP9 := hP.sub (ws' := [(h0, .inr (6, [.int 0, .int pi, .int sh, .int lo, .int ph, .int di, .long lm, .long en, .long la, .long cu, .long nw, .int sp, .ref b1, .ref b2, .ref b3, .ref b4, .long lk, .int cs, .ref b5])), (b5, .inl (i5, 11, .inl g5))]) [0, 1] rfl
        have hD9 := hD.sub (ws' := [(h0, .inr (6, [.int 0, .int pi, .int sh, .int lo, .int ph, .int di, .long lm, .long en, .long la, .long cu, .long nw, .int sp, .ref b1, .ref b2, .ref b3, .ref b4, .long lk, .int cs, .ref b5])), (b5, .inl (i5, 11, .inl g5))]) [0, 1] (by decide) rfl
        have hK9 := hK.sub (tys' := [(i5, .int)]) [0] rfl
        exact W.lret (v := (-2)) hx hb hr (fun t ht hW => ⟨⟨(-2), (0), rfl, ⟨fun h => absurd h.2.1 (fun h => absurd h.1 (Int64.not_le.mpr c_25)), fun _ => ⟨rfl, fun h => absurd ⟨Int32.not_lt.mp c_7, c_15⟩ h, fun _ _ => rfl, fun _ h => absurd h (fun h => absurd h.1 (Int64.not_le.mpr c_25))⟩⟩, by rw [ht]; exact hP9, va_K.moved hW.alike hK9, hD9⟩, hS.F ht⟩) hS.2.2 d_Mo_share_39
      · have c_25 := mt (lg_cmp_lt _ _).mpr c_25
        refine lv_lload_n hx hb d_Mo_share_28 rfl (lv_at hl 2 rfl) ?_
        refine lv_ldc2 (v := 1000000000000) hx hb hown (hB _ kb_299) d_Mo_share_29 ?_
        refine W.lcmp hx hb d_Mo_share_32 ?_
        refine lv_if_le (tgt := 40) hx hb d_Mo_share_33 (by decide) (fun c_33 => ?_) (fun c_33 => ?_)
        · have c_33 := (lg_cmp_le _ _).mp c_33
          refine lv_lconst (v := 0) hx hb d_Mo_share_40 (by decide) ?_
          refine lv_lstore (lv' := [(5, .long 0), (0, .ref h0), (1, .int p0), (2, .long p1), (4, .int p2)]) hx hb d_Mo_share_41 hl (by decide) rfl (fun ls hl => ?_)
          refine lv_iconst (v := 1) hx hb d_Mo_share_43 (by decide) ?_
          refine lv_istore (lv' := [(7, .int 1), (5, .long 0), (0, .ref h0), (1, .int p0), (2, .long p1), (4, .int p2)]) hx hb d_Mo_share_44 hl (by decide) rfl (fun ls hl => ?_)
          exact (cut 9223372036854775820).1 0 1 _ _ _ (by have a9 : (1 : Int32).toInt = 1 := (by decide); omega) (by rfl) (⟨Int32.not_lt.mp c_7, c_15⟩) (⟨Int64.not_lt.mp c_25, c_33⟩) (by decide) (hP.sub [0, 1] rfl) (hD.sub [0, 1] (by decide) rfl) hS (lv_sub hl [2, 3, 4, 5, 1, 0] rfl)
        · have c_33 := mt (lg_cmp_le _ _).mpr c_33
          refine lv_ldc2 (v := (-2)) hx hb hown (hB _ kb_298) d_Mo_share_36 ?_
          have hP9 := hP.sub (ws' := [(h0, .inr (6, [.int 0, .int pi, .int sh, .int lo, .int ph, .int di, .long lm, .long en, .long la, .long cu, .long nw, .int sp, .ref b1, .ref b2, .ref b3, .ref b4, .long lk, .int cs, .ref b5])), (b5, .inl (i5, 11, .inl g5))]) [0, 1] rfl
          have hD9 := hD.sub (ws' := [(h0, .inr (6, [.int 0, .int pi, .int sh, .int lo, .int ph, .int di, .long lm, .long en, .long la, .long cu, .long nw, .int sp, .ref b1, .ref b2, .ref b3, .ref b4, .long lk, .int cs, .ref b5])), (b5, .inl (i5, 11, .inl g5))]) [0, 1] (by decide) rfl
          have hK9 := hK.sub (tys' := [(i5, .int)]) [0] rfl
          exact W.lret (v := (-2)) hx hb hr (fun t ht hW => ⟨⟨(-2), (0), rfl, ⟨fun h => absurd h.2.1 (fun h => absurd h.2 c_33), fun _ => ⟨rfl, fun h => absurd ⟨Int32.not_lt.mp c_7, c_15⟩ h, fun _ _ => rfl, fun _ h => absurd h (fun h => absurd h.2 c_33)⟩⟩, by rw [ht]; exact hP9, va_K.moved hW.alike hK9, hD9⟩, hS.F ht⟩) hS.2.2 d_Mo_share_39
    · skip
      refine lv_ldc2 (v := (-1)) hx hb hown (hB _ kb_297) d_Mo_share_18 ?_
      have hP9 := hP.sub (ws' := [(h0, .inr (6, [.int 0, .int pi, .int sh, .int lo, .int ph, .int di, .long lm, .long en, .long la, .long cu, .long nw, .int sp, .ref b1, .ref b2, .ref b3, .ref b4, .long lk, .int cs, .ref b5])), (b5, .inl (i5, 11, .inl g5))]) [0, 1] rfl
      have hD9 := hD.sub (ws' := [(h0, .inr (6, [.int 0, .int pi, .int sh, .int lo, .int ph, .int di, .long lm, .long en, .long la, .long cu, .long nw, .int sp, .ref b1, .ref b2, .ref b3, .ref b4, .long lk, .int cs, .ref b5])), (b5, .inl (i5, 11, .inl g5))]) [0, 1] (by decide) rfl
      have hK9 := hK.sub (tys' := [(i5, .int)]) [0] rfl
      exact W.lret (v := (-1)) hx hb hr (fun t ht hW => ⟨⟨(-1), (0), rfl, ⟨fun h => absurd h.1 (fun h => absurd h.2 c_15), fun _ => ⟨rfl, fun _ => rfl, fun h => absurd h (fun h => absurd h.2 c_15), fun h => absurd h (fun h => absurd h.2 c_15)⟩⟩, by rw [ht]; exact hP9, va_K.moved hW.alike hK9, hD9⟩, hS.F ht⟩) hS.2.2 d_Mo_share_21
