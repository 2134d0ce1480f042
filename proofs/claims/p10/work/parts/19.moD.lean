set_option maxHeartbeats 4000000 in
set_option maxRecDepth 100000 in
theorem c_Mo_plan (l : Launch) (dC : Nat → ClassId) (dI : Nat → Nat → Nat) (h0 : Nat) (b1 : Nat) (b2 : Nat) (b3 : Nat) (b4 : Nat) (b5 : Nat) (i1 : ClassId) (i2 : ClassId) (i3 : ClassId) (i4 : ClassId) (sz : Nat) (co : Int32) (pi : Int32) (sh : Int32) (lo : Int32) (ph : Int32) (di : Int32) (lm : Int64) (en : Int64) (la : Int64) (cu : Int64) (nw : Int64) (sp : Int32) (lk : Int64) (cs : Int32) (g1 : Nat → Int32) (g2 : Nat → Int32) (g3 : Nat → Int32) (g4 : Nat → Int64) (p0 : Int64) (p1 : Int64) (hs0 : 0 ≤ sp.toInt) (hs1 : sp.toInt ≤ 20) : Met l y_Mo_plan w_Mo_plan ({ frames := 2, cells := 0, slots := 0, locals := 40 }) (cPre dC dI [.ref h0, .long p0, .long p1] sz [(i1, .int), (i2, .int), (i3, .int), (i4, .long)] [(h0, .inr (6, [.int co, .int pi, .int sh, .int lo, .int ph, .int di, .long lm, .long en, .long la, .long cu, .long nw, .int sp, .ref b1, .ref b2, .ref b3, .ref b4, .long lk, .int cs, .ref b5])), (b1, .inl (i1, 20, .inl g1)), (b2, .inl (i2, 20, .inl g2)), (b3, .inl (i3, 20, .inl g3)), (b4, .inl (i4, 1440, .inr (.inl g4)))]) (va_Qi (fun (r : Int32) (u : Int32 × Int64 × (Nat → Int64)) => (¬ plOk p0 p1 → r = -2 ∧ u.2.1 = lk ∧ u.2.2 = g4) ∧ (plOk p0 p1 → plP (fun k => pof g1 g2 g3 (nI k) sp.toInt.toNat) (tem pi sh).toInt.toNat p1.toInt.toNat p0.toInt.toNat r u.2.1 ∧ ∀ k : Nat, k < 1440 → u.2.2 k = lN (Un (fun k => pof g1 g2 g3 (nI k) sp.toInt.toNat) (tem pi sh).toInt.toNat p1.toInt.toNat p0.toInt.toNat k))) (fun (u : Int32 × Int64 × (Nat → Int64)) (t : State) => cB dC dI (va_A [(h0, .inr (6, [.int co, .int pi, .int sh, .int lo, .int ph, .int di, .long lm, .long en, .long la, .long cu, .long nw, .int sp, .ref b1, .ref b2, .ref b3, .ref b4, .long lk, .int cs, .ref b5])), (b1, .inl (i1, 20, .inl g1)), (b2, .inl (i2, 20, .inl g2)), (b3, .inl (i3, 20, .inl g3)), (b4, .inl (i4, 1440, .inr (.inl g4)))] sz) [(i1, .int), (i2, .int), (i3, .int), (i4, .long)] [(h0, .inr (6, [.int u.1, .int pi, .int sh, .int lo, .int ph, .int di, .long lm, .long en, .long la, .long cu, .long nw, .int sp, .ref b1, .ref b2, .ref b3, .ref b4, .long u.2.1, .int cs, .ref b5])), (b1, .inl (i1, 20, .inl g1)), (b2, .inl (i2, 20, .inl g2)), (b3, .inl (i3, 20, .inl g3)), (b4, .inl (i4, 1440, .inr (.inl (u.2.2))))] t) (va_A [(h0, .inr (6, [.int co, .int pi, .int sh, .int lo, .int ph, .int di, .long lm, .long en, .long la, .long cu, .long nw, .int sp, .ref b1, .ref b2, .ref b3, .ref b4, .long lk, .int cs, .ref b5])), (b1, .inl (i1, 20, .inl g1)), (b2, .inl (i2, 20, .inl g2)), (b3, .inl (i3, 20, .inl g3)), (b4, .inl (i4, 1440, .inr (.inl g4)))] sz)) 0 0 (va_A [(h0, .inr (6, [.int co, .int pi, .int sh, .int lo, .int ph, .int di, .long lm, .long en, .long la, .long cu, .long nw, .int sp, .ref b1, .ref b2, .ref b3, .ref b4, .long lk, .int cs, .ref b5])), (b1, .inl (i1, 20, .inl g1)), (b2, .inl (i2, 20, .inl g2)), (b3, .inl (i3, 20, .inl g3)), (b4, .inl (i4, 1440, .inr (.inl g4)))] sz) := by
  refine Met.ofW (cc := b_Mo_plan) (maxL := 13) (ret := (some .int)) (by decide) rfl ?_
  intro p e s m args below meth c s₁ B hml hv
  obtain ⟨rfl, hsz, hN, hP, hK, hD0⟩ := hv
  have hx := B.exec
  have hb := B.bytes
  have hr := B.returns
  have hts := atoms_spec (ws := w_Mo_plan) B.pre
  have hB := big_of hts
  have hown : s.vm.findClass R_Mo = some m.cls := findClass_of_methodNamed B.named
  have hlocks := B.notSynchronized
  subst hsz
  have hD := hD0.self (sz := s.heap.size)
  generalize hAe : va_A [(h0, .inr (6, [.int co, .int pi, .int sh, .int lo, .int ph, .int di, .long lm, .long en, .long la, .long cu, .long nw, .int sp, .ref b1, .ref b2, .ref b3, .ref b4, .long lk, .int cs, .ref b5])), (b1, .inl (i1, 20, .inl g1)), (b2, .inl (i2, 20, .inl g2)), (b3, .inl (i3, 20, .inl g3)), (b4, .inl (i4, 1440, .inr (.inl g4)))] s.heap.size = A at hD ⊢
  have hA : ∀ q : Nat, s.heap.size ≤ q → A q := fun q h => by rw [← hAe]; exact Or.inr h
  have hS : va_S A s.heap s.heap [] := va_S.rf
  have hP : va_P (dC, dI) classes [(h0, .inr (6, [.int co, .int pi, .int sh, .int lo, .int ph, .int di, .long lm, .long en, .long la, .long cu, .long nw, .int sp, .ref b1, .ref b2, .ref b3, .ref b4, .long lk, .int cs, .ref b5])), (b1, .inl (i1, 20, .inl g1)), (b2, .inl (i2, 20, .inl g2)), (b3, .inl (i3, 20, .inl g3)), (b4, .inl (i4, 1440, .inr (.inl g4)))] s.heap := hP
  have hl := lv_entry ([.ref h0, .long p0, .long p1]) (n := 13) (Nat.le_of_ble_eq_true rfl)
  rw [lg_entry_eq]
  generalize (lg_sl ([.ref h0, .long p0, .long p1]) ++ List.replicate (13 - (lg_sl ([.ref h0, .long p0, .long p1])).length) Slot.unset).toArray = ls at hl ⊢
  have hl : lv_has ls 13 [(0, .ref h0), (1, .long p0), (3, .long p1)] := hl
  have cut : ∀ n : Nat, (∀ (ii : Int32) (gx : Nat → Int64) (H : Heap) (locs : List Loc) (ls : Array Slot), (0 ≤ ii) → (plOk p0 p1) → (∀ k : Nat, (k : Int) < ii.toInt → gx k = 0) → (1440 - ii.toInt).toNat + 100000000 < n → va_P (dC, dI) classes [(h0, .inr (6, [.int 0, .int pi, .int sh, .int lo, .int ph, .int di, .long lm, .long en, .long la, .long cu, .long nw, .int sp, .ref b1, .ref b2, .ref b3, .ref b4, .long lk, .int cs, .ref b5])), (b1, .inl (i1, 20, .inl g1)), (b2, .inl (i2, 20, .inl g2)), (b3, .inl (i3, 20, .inl g3)), (b4, .inl (i4, 1440, .inr (.inl gx)))] H → va_D A [(h0, .inr (6, [.int 0, .int pi, .int sh, .int lo, .int ph, .int di, .long lm, .long en, .long la, .long cu, .long nw, .int sp, .ref b1, .ref b2, .ref b3, .ref b4, .long lk, .int cs, .ref b5])), (b1, .inl (i1, 20, .inl g1)), (b2, .inl (i2, 20, .inl g2)), (b3, .inl (i3, 20, .inl g3)), (b4, .inl (i4, 1440, .inr (.inl gx)))] → va_S A s.heap H locs → lv_has ls 13 [(0, .ref h0), (1, .long p0), (3, .long p1), (5, .int ii)] → W p l e (headSpec w_Mo_plan ({ frames := 2, cells := 0, slots := 0, locals := 40 })).room s m (List.toArray [.ref h0, .long p0, .long p1]) below meth c H locs 0 0 (MQ below (va_Qi (fun (r : Int32) (u : Int32 × Int64 × (Nat → Int64)) => (¬ plOk p0 p1 → r = -2 ∧ u.2.1 = lk ∧ u.2.2 = g4) ∧ (plOk p0 p1 → plP (fun k => pof g1 g2 g3 (nI k) sp.toInt.toNat) (tem pi sh).toInt.toNat p1.toInt.toNat p0.toInt.toNat r u.2.1 ∧ ∀ k : Nat, k < 1440 → u.2.2 k = lN (Un (fun k => pof g1 g2 g3 (nI k) sp.toInt.toNat) (tem pi sh).toInt.toNat p1.toInt.toNat p0.toInt.toNat k))) (fun (u : Int32 × Int64 × (Nat → Int64)) (t : State) => cB dC dI A [(i1, .int), (i2, .int), (i3, .int), (i4, .long)] [(h0, .inr (6, [.int u.1, .int pi, .int sh, .int lo, .int ph, .int di, .long lm, .long en, .long la, .long cu, .long nw, .int sp, .ref b1, .ref b2, .ref b3, .ref b4, .long u.2.1, .int cs, .ref b5])), (b1, .inl (i1, 20, .inl g1)), (b2, .inl (i2, 20, .inl g2)), (b3, .inl (i3, 20, .inl g3)), (b4, .inl (i4, 1440, .inr (.inl (u.2.2))))] t) A) (List.toArray [.ref h0, .long p0, .long p1]) s 0 0 A) (F0 m 39 ls [])) ∧ (∀ (lft : Int64) (ct : Int64) (mo : Int32) (pr : Int32) (gx : Nat → Int64) (H : Heap) (locs : List Loc) (ls : Array Slot), (0 ≤ pr) → (pr.toInt ≤ 1001) → (plOk p0 p1) → (mo = tem pi sh) → (lft = lN (lf (Rm (fun k => pof g1 g2 g3 (nI k) sp.toInt.toNat) mo.toInt.toNat p1.toInt.toNat) p0.toInt.toNat pr.toInt.toNat)) → (ct = lN (kost (Rm (fun k => pof g1 g2 g3 (nI k) sp.toInt.toNat) mo.toInt.toNat p1.toInt.toNat) p0.toInt.toNat pr.toInt.toNat)) → (∀ k : Nat, k < 1440 → gx k = lN (Vn (fun k => pof g1 g2 g3 (nI k) sp.toInt.toNat) mo.toInt.toNat p1.toInt.toNat p0.toInt.toNat pr.toInt k)) → (1001 - pr.toInt).toNat * 10000 + 9000 < n → va_P (dC, dI) classes [(h0, .inr (6, [.int 0, .int pi, .int sh, .int lo, .int ph, .int di, .long lm, .long en, .long la, .long cu, .long nw, .int sp, .ref b1, .ref b2, .ref b3, .ref b4, .long lk, .int cs, .ref b5])), (b1, .inl (i1, 20, .inl g1)), (b2, .inl (i2, 20, .inl g2)), (b3, .inl (i3, 20, .inl g3)), (b4, .inl (i4, 1440, .inr (.inl gx)))] H → va_D A [(h0, .inr (6, [.int 0, .int pi, .int sh, .int lo, .int ph, .int di, .long lm, .long en, .long la, .long cu, .long nw, .int sp, .ref b1, .ref b2, .ref b3, .ref b4, .long lk, .int cs, .ref b5])), (b1, .inl (i1, 20, .inl g1)), (b2, .inl (i2, 20, .inl g2)), (b3, .inl (i3, 20, .inl g3)), (b4, .inl (i4, 1440, .inr (.inl gx)))] → va_S A s.heap H locs → lv_has ls 13 [(0, .ref h0), (1, .long p0), (3, .long p1), (5, .long lft), (7, .long ct), (9, .int mo), (10, .int pr)] → W p l e (headSpec w_Mo_plan ({ frames := 2, cells := 0, slots := 0, locals := 40 })).room s m (List.toArray [.ref h0, .long p0, .long p1]) below meth c H locs 0 0 (MQ below (va_Qi (fun (r : Int32) (u : Int32 × Int64 × (Nat → Int64)) => (¬ plOk p0 p1 → r = -2 ∧ u.2.1 = lk ∧ u.2.2 = g4) ∧ (plOk p0 p1 → plP (fun k => pof g1 g2 g3 (nI k) sp.toInt.toNat) (tem pi sh).toInt.toNat p1.toInt.toNat p0.toInt.toNat r u.2.1 ∧ ∀ k : Nat, k < 1440 → u.2.2 k = lN (Un (fun k => pof g1 g2 g3 (nI k) sp.toInt.toNat) (tem pi sh).toInt.toNat p1.toInt.toNat p0.toInt.toNat k))) (fun (u : Int32 × Int64 × (Nat → Int64)) (t : State) => cB dC dI A [(i1, .int), (i2, .int), (i3, .int), (i4, .long)] [(h0, .inr (6, [.int u.1, .int pi, .int sh, .int lo, .int ph, .int di, .long lm, .long en, .long la, .long cu, .long nw, .int sp, .ref b1, .ref b2, .ref b3, .ref b4, .long u.2.1, .int cs, .ref b5])), (b1, .inl (i1, 20, .inl g1)), (b2, .inl (i2, 20, .inl g2)), (b3, .inl (i3, 20, .inl g3)), (b4, .inl (i4, 1440, .inr (.inl (u.2.2))))] t) A) (List.toArray [.ref h0, .long p0, .long p1]) s 0 0 A) (F0 m 76 ls [])) ∧ (∀ (lft : Int64) (ct : Int64) (mo : Int32) (pr : Int32) (gx : Nat → Int64) (fi : Int32) (kk : Int32) (H : Heap) (locs : List Loc) (ls : Array Slot), (0 ≤ pr) → (pr.toInt ≤ 1001) → (plOk p0 p1) → (mo = tem pi sh) → (lft = lN (lf (Rm (fun k => pof g1 g2 g3 (nI k) sp.toInt.toNat) mo.toInt.toNat p1.toInt.toNat) p0.toInt.toNat pr.toInt.toNat)) → (ct = lN (kost (Rm (fun k => pof g1 g2 g3 (nI k) sp.toInt.toNat) mo.toInt.toNat p1.toInt.toNat) p0.toInt.toNat pr.toInt.toNat)) → (∀ k : Nat, k < 1440 → gx k = lN (Vn (fun k => pof g1 g2 g3 (nI k) sp.toInt.toNat) mo.toInt.toNat p1.toInt.toNat p0.toInt.toNat pr.toInt k)) → (¬ 1000 < pr) → (0 ≤ kk) → (fi = 0 → ∀ j : Nat, (j : Int) < kk.toInt → ¬ g3 j = pr) → (1001 - pr.toInt).toNat * 10000 + 5000 + (20 - kk.toInt).toNat < n → va_P (dC, dI) classes [(h0, .inr (6, [.int 0, .int pi, .int sh, .int lo, .int ph, .int di, .long lm, .long en, .long la, .long cu, .long nw, .int sp, .ref b1, .ref b2, .ref b3, .ref b4, .long lk, .int cs, .ref b5])), (b1, .inl (i1, 20, .inl g1)), (b2, .inl (i2, 20, .inl g2)), (b3, .inl (i3, 20, .inl g3)), (b4, .inl (i4, 1440, .inr (.inl gx)))] H → va_D A [(h0, .inr (6, [.int 0, .int pi, .int sh, .int lo, .int ph, .int di, .long lm, .long en, .long la, .long cu, .long nw, .int sp, .ref b1, .ref b2, .ref b3, .ref b4, .long lk, .int cs, .ref b5])), (b1, .inl (i1, 20, .inl g1)), (b2, .inl (i2, 20, .inl g2)), (b3, .inl (i3, 20, .inl g3)), (b4, .inl (i4, 1440, .inr (.inl gx)))] → va_S A s.heap H locs → lv_has ls 13 [(0, .ref h0), (1, .long p0), (3, .long p1), (5, .long lft), (7, .long ct), (9, .int mo), (10, .int pr), (11, .int fi), (12, .int kk)] → W p l e (headSpec w_Mo_plan ({ frames := 2, cells := 0, slots := 0, locals := 40 })).room s m (List.toArray [.ref h0, .long p0, .long p1]) below meth c H locs 0 0 (MQ below (va_Qi (fun (r : Int32) (u : Int32 × Int64 × (Nat → Int64)) => (¬ plOk p0 p1 → r = -2 ∧ u.2.1 = lk ∧ u.2.2 = g4) ∧ (plOk p0 p1 → plP (fun k => pof g1 g2 g3 (nI k) sp.toInt.toNat) (tem pi sh).toInt.toNat p1.toInt.toNat p0.toInt.toNat r u.2.1 ∧ ∀ k : Nat, k < 1440 → u.2.2 k = lN (Un (fun k => pof g1 g2 g3 (nI k) sp.toInt.toNat) (tem pi sh).toInt.toNat p1.toInt.toNat p0.toInt.toNat k))) (fun (u : Int32 × Int64 × (Nat → Int64)) (t : State) => cB dC dI A [(i1, .int), (i2, .int), (i3, .int), (i4, .long)] [(h0, .inr (6, [.int u.1, .int pi, .int sh, .int lo, .int ph, .int di, .long lm, .long en, .long la, .long cu, .long nw, .int sp, .ref b1, .ref b2, .ref b3, .ref b4, .long u.2.1, .int cs, .ref b5])), (b1, .inl (i1, 20, .inl g1)), (b2, .inl (i2, 20, .inl g2)), (b3, .inl (i3, 20, .inl g3)), (b4, .inl (i4, 1440, .inr (.inl (u.2.2))))] t) A) (List.toArray [.ref h0, .long p0, .long p1]) s 0 0 A) (F0 m 97 ls [])) ∧ (∀ (lft : Int64) (ct : Int64) (mo : Int32) (pr : Int32) (gx : Nat → Int64) (fi : Int32) (kk : Int32) (H : Heap) (locs : List Loc) (ls : Array Slot), (0 ≤ pr) → (pr.toInt ≤ 1001) → (plOk p0 p1) → (mo = tem pi sh) → (lft = lN (lf (Rm (fun k => pof g1 g2 g3 (nI k) sp.toInt.toNat) mo.toInt.toNat p1.toInt.toNat) p0.toInt.toNat pr.toInt.toNat - mo.toInt.toNat * cnt (fun k => pof g1 g2 g3 (nI k) sp.toInt.toNat) pr kk.toInt.toNat)) → (ct = lN (kost (Rm (fun k => pof g1 g2 g3 (nI k) sp.toInt.toNat) mo.toInt.toNat p1.toInt.toNat) p0.toInt.toNat pr.toInt.toNat + min (lf (Rm (fun k => pof g1 g2 g3 (nI k) sp.toInt.toNat) mo.toInt.toNat p1.toInt.toNat) p0.toInt.toNat pr.toInt.toNat) (mo.toInt.toNat * cnt (fun k => pof g1 g2 g3 (nI k) sp.toInt.toNat) pr kk.toInt.toNat) * pr.toInt.toNat)) → (∀ k : Nat, k < 1440 → gx k = lN (if k < kk.toInt.toNat then Vn (fun k => pof g1 g2 g3 (nI k) sp.toInt.toNat) mo.toInt.toNat p1.toInt.toNat p0.toInt.toNat (pr.toInt + 1) k else Vn (fun k => pof g1 g2 g3 (nI k) sp.toInt.toNat) mo.toInt.toNat p1.toInt.toNat p0.toInt.toNat pr.toInt k)) → (¬ 1000 < pr) → (0 ≤ kk) → (kk.toInt ≤ p1.toInt) → (fi = 0 → ∀ j : Nat, (j : Int) < sp.toInt → ¬ g3 j = pr) → (1001 - pr.toInt).toNat * 10000 + (1440 - kk.toInt).toNat < n → va_P (dC, dI) classes [(h0, .inr (6, [.int 0, .int pi, .int sh, .int lo, .int ph, .int di, .long lm, .long en, .long la, .long cu, .long nw, .int sp, .ref b1, .ref b2, .ref b3, .ref b4, .long lk, .int cs, .ref b5])), (b1, .inl (i1, 20, .inl g1)), (b2, .inl (i2, 20, .inl g2)), (b3, .inl (i3, 20, .inl g3)), (b4, .inl (i4, 1440, .inr (.inl gx)))] H → va_D A [(h0, .inr (6, [.int 0, .int pi, .int sh, .int lo, .int ph, .int di, .long lm, .long en, .long la, .long cu, .long nw, .int sp, .ref b1, .ref b2, .ref b3, .ref b4, .long lk, .int cs, .ref b5])), (b1, .inl (i1, 20, .inl g1)), (b2, .inl (i2, 20, .inl g2)), (b3, .inl (i3, 20, .inl g3)), (b4, .inl (i4, 1440, .inr (.inl gx)))] → va_S A s.heap H locs → lv_has ls 13 [(0, .ref h0), (1, .long p0), (3, .long p1), (5, .long lft), (7, .long ct), (9, .int mo), (10, .int pr), (11, .int fi), (12, .int kk)] → W p l e (headSpec w_Mo_plan ({ frames := 2, cells := 0, slots := 0, locals := 40 })).room s m (List.toArray [.ref h0, .long p0, .long p1]) below meth c H locs 0 0 (MQ below (va_Qi (fun (r : Int32) (u : Int32 × Int64 × (Nat → Int64)) => (¬ plOk p0 p1 → r = -2 ∧ u.2.1 = lk ∧ u.2.2 = g4) ∧ (plOk p0 p1 → plP (fun k => pof g1 g2 g3 (nI k) sp.toInt.toNat) (tem pi sh).toInt.toNat p1.toInt.toNat p0.toInt.toNat r u.2.1 ∧ ∀ k : Nat, k < 1440 → u.2.2 k = lN (Un (fun k => pof g1 g2 g3 (nI k) sp.toInt.toNat) (tem pi sh).toInt.toNat p1.toInt.toNat p0.toInt.toNat k))) (fun (u : Int32 × Int64 × (Nat → Int64)) (t : State) => cB dC dI A [(i1, .int), (i2, .int), (i3, .int), (i4, .long)] [(h0, .inr (6, [.int u.1, .int pi, .int sh, .int lo, .int ph, .int di, .long lm, .long en, .long la, .long cu, .long nw, .int sp, .ref b1, .ref b2, .ref b3, .ref b4, .long u.2.1, .int cs, .ref b5])), (b1, .inl (i1, 20, .inl g1)), (b2, .inl (i2, 20, .inl g2)), (b3, .inl (i3, 20, .inl g3)), (b4, .inl (i4, 1440, .inr (.inl (u.2.2))))] t) A) (List.toArray [.ref h0, .long p0, .long p1]) s 0 0 A) (F0 m 139 ls [])) := by
    intro n
    induction n with
    | zero => exact ⟨by intros; first | exact (Nat.not_lt_zero _ (by assumption)).elim | omega, by intros; first | exact (Nat.not_lt_zero _ (by assumption)).elim | omega, by intros; first | exact (Nat.not_lt_zero _ (by assumption)).elim | omega, by intros; first | exact (Nat.not_lt_zero _ (by assumption)).elim | omega⟩
    | succ n ih =>
      refine ⟨?_, ?_, ?_, ?_⟩
      · intro ii gx H locs ls h_i h_ok h_z hmu hP hD hS hl
        have h_w := (plb h_ok).1
        refine lv_iload hx hb d_Mo_plan_39 (lv_at hl 3 rfl) ?_
        refine lv_sipush (v := 1440) hx hb d_Mo_plan_41 (by decide) ?_
        refine lv_icmp_ge (tgt := 61) hx hb d_Mo_plan_44 (by decide) (fun c_44 => ?_) (fun c_44 => ?_)
        · skip
          refine lv_lload_n hx hb d_Mo_plan_61 rfl (lv_at hl 1 rfl) ?_
          refine lv_lstore (lv' := [(5, .long p0), (0, .ref h0), (1, .long p0), (3, .long p1)]) hx hb d_Mo_plan_62 hl (by decide) rfl (fun ls hl => ?_)
          refine lv_lconst (v := 0) hx hb d_Mo_plan_64 (by decide) ?_
          refine lv_lstore (lv' := [(7, .long 0), (5, .long p0), (0, .ref h0), (1, .long p0), (3, .long p1)]) hx hb d_Mo_plan_65 hl (by decide) rfl (fun ls hl => ?_)
          refine lv_aload_n hx hb d_Mo_plan_67 rfl (lv_at hl 2 rfl) ?_
          refine kc_i (va_runV (As := []) (rest := []) ⟨hx, hb, hml, hown, hts⟩ (c_Mo_allows l dC dI h0 b1 b2 b3 b4 b5 H.size 0 pi sh lo ph di lm en la cu nw sp lk cs  ) (cwV 0 hts (ginV kb_260 kb_261 kb_262 kb_251 kb_259) rfl rfl rfl (by decide +kernel) ⟨Nat.le_of_ble_eq_true rfl, Nat.le_of_ble_eq_true rfl⟩) (preV (ci := 6) (wc := [(h0, .inr (6, [.int 0, .int pi, .int sh, .int lo, .int ph, .int di, .long lm, .long en, .long la, .long cu, .long nw, .int sp, .ref b1, .ref b2, .ref b3, .ref b4, .long lk, .int cs, .ref b5]))]) hK hN hP hD [0] rfl rfl (by decide) [] rfl rfl rfl) rfl rfl hl.1 rfl (lv_room (Nat.le_of_ble_eq_true rfl)) d_Mo_plan_68 ⟨Nat.le_of_ble_eq_true rfl, Nat.le_of_ble_eq_true rfl⟩) hP hD hS hA [0] [1, 2, 3, 4] (wr := [(b1, .inl (i1, 20, .inl g1)), (b2, .inl (i2, 20, .inl g2)), (b3, .inl (i3, 20, .inl g3)), (b4, .inl (i4, 1440, .inr (.inl gx)))]) rfl rfl (by decide) (by decide) (fun r_68 u_68 H locs hw_68 hP hD hK1 hS => ?_)
          have hw_68 : r_68 = tem pi sh := hw_68
          have hP : va_P (dC, dI) classes [(b1, .inl (i1, 20, .inl g1)), (b2, .inl (i2, 20, .inl g2)), (b3, .inl (i3, 20, .inl g3)), (b4, .inl (i4, 1440, .inr (.inl gx))), (h0, .inr (6, [.int 0, .int pi, .int sh, .int lo, .int ph, .int di, .long lm, .long en, .long la, .long cu, .long nw, .int sp, .ref b1, .ref b2, .ref b3, .ref b4, .long lk, .int cs, .ref b5]))] H := hP
          have hD : va_D A [(b1, .inl (i1, 20, .inl g1)), (b2, .inl (i2, 20, .inl g2)), (b3, .inl (i3, 20, .inl g3)), (b4, .inl (i4, 1440, .inr (.inl gx))), (h0, .inr (6, [.int 0, .int pi, .int sh, .int lo, .int ph, .int di, .long lm, .long en, .long la, .long cu, .long nw, .int sp, .ref b1, .ref b2, .ref b3, .ref b4, .long lk, .int cs, .ref b5]))] := hD
          refine lv_istore (lv' := [(9, .int r_68), (7, .long 0), (5, .long p0), (0, .ref h0), (1, .long p0), (3, .long p1)]) hx hb d_Mo_plan_71 hl (by decide) rfl (fun ls hl => ?_)
          refine lv_iconst (v := 0) hx hb d_Mo_plan_73 (by decide) ?_
          refine lv_istore (lv' := [(10, .int 0), (9, .int r_68), (7, .long 0), (5, .long p0), (0, .ref h0), (1, .long p0), (3, .long p1)]) hx hb d_Mo_plan_74 hl (by decide) rfl (fun ls hl => ?_)
          exact ih.2.1 p0 0 r_68 0 gx _ _ _ (le0) (by decide) (h_ok) (hw_68) (lNc h_w.1) (lN0.symm) (pl_0 h_z c_44) (by have h8 : (0 : Int32).toInt = 0 := (by decide); omega) (hP.sub [4, 0, 1, 2, 3] rfl) (hD.sub [4, 0, 1, 2, 3] (by decide) rfl) hS (lv_sub hl [4, 5, 6, 3, 2, 1, 0] rfl)
        · skip
          refine lv_aload_n hx hb d_Mo_plan_47 rfl (lv_at hl 0 rfl) ?_
          refine va_get (D := (dC, dI)) (ci := 6) (v := .ref b4) (C := R_Mo) (T := F_Mo) (N := 19) hx hb hB inC_Mo hown hK hP 0 rfl rfl 15 (by decide) (hB _ kb_242) (fun _ h9 => h9) rfl d_Mo_plan_48 ?_
          refine lv_iload hx hb d_Mo_plan_51 (lv_at hl 3 rfl) ?_
          refine lv_lconst (v := 0) hx hb d_Mo_plan_53 (by decide) ?_
          have h_54 : vp_in ii 1440 := vinB 1440 h_i c_44 (by decide)
          refine va_last hx hb hK hP hD hS 4 3 rfl rfl h_54 d_Mo_plan_54 (fun H locs hP hD hS => ?_)
          obtain ⟨f_54, ef_54⟩ : ∃ y, y = vp_updL gx ii.toNatClampNeg 0 := ⟨_, rfl⟩
          rw [← ef_54] at hP hD
          have hP : va_P (dC, dI) classes [(h0, .inr (6, [.int 0, .int pi, .int sh, .int lo, .int ph, .int di, .long lm, .long en, .long la, .long cu, .long nw, .int sp, .ref b1, .ref b2, .ref b3, .ref b4, .long lk, .int cs, .ref b5])), (b1, .inl (i1, 20, .inl g1)), (b2, .inl (i2, 20, .inl g2)), (b3, .inl (i3, 20, .inl g3)), (b4, .inl (i4, 1440, .inr (.inl f_54)))] H := hP
          have hD : va_D A [(h0, .inr (6, [.int 0, .int pi, .int sh, .int lo, .int ph, .int di, .long lm, .long en, .long la, .long cu, .long nw, .int sp, .ref b1, .ref b2, .ref b3, .ref b4, .long lk, .int cs, .ref b5])), (b1, .inl (i1, 20, .inl g1)), (b2, .inl (i2, 20, .inl g2)), (b3, .inl (i3, 20, .inl g3)), (b4, .inl (i4, 1440, .inr (.inl f_54)))] := hD
          obtain ⟨x_55, ex_55⟩ : ∃ y : Int32, y = ii + 1 := ⟨_, rfl⟩
          refine lv_iinc (v := x_55) (lv' := [(5, .int x_55), (0, .ref h0), (1, .long p0), (3, .long p1)]) hx hb d_Mo_plan_55 hl (k := 3) rfl (by rw [ex_55]; rfl) (by decide) rfl (fun ls hl => ?_)
          refine lv_goto (tgt := 39) hx hb d_Mo_plan_58 (by decide) ?_
          exact ih.1 x_55 f_54 _ _ _ ((ii0 1440 h_i c_44 ex_55).1) (h_ok) (zr_s h_z h_i c_44 ef_54 ex_55) (by have h9 := (ii0 1440 h_i c_44 ex_55).2; have h8 : (1440 : Int32).toInt = 1440 := (by decide); omega) (hP.sub [0, 1, 2, 3, 4] rfl) (hD.sub [0, 1, 2, 3, 4] (by decide) rfl) hS (lv_sub hl [1, 2, 3, 0] rfl)
      · intro lft ct mo pr gx H locs ls h_p h_pr h_ok h_mo h_l h_c h_g hmu hP hD hS hl
        have h_u := (plb h_ok).2
        have h_w := (plb h_ok).1
        have h_m := tem_b pi sh
        rw [← h_mo] at h_m
        refine lv_iload hx hb d_Mo_plan_76 (lv_at hl 6 rfl) ?_
        refine lv_sipush (v := 1000) hx hb d_Mo_plan_78 (by decide) ?_
        refine lv_icmp_gt (tgt := 237) hx hb d_Mo_plan_81 (by decide) (fun c_81 => ?_) (fun c_81 => ?_)
        · skip
          refine lv_aload_n hx hb d_Mo_plan_237 rfl (lv_at hl 0 rfl) ?_
          refine lv_lload hx hb d_Mo_plan_238 (lv_at hl 3 rfl) ?_
          refine va_put (D := (dC, dI)) (ci := 6) (v := .long lft) (ty := .long) (C := R_Mo) (T := F_Mo) (N := 19) hx hb hB inC_Mo t_Mo t_Mo_ok n_Mo hown hK hP hD hS 0 rfl rfl 16 (by decide) (hB _ kb_288) (fun _ h9 => h9) rfl (by decide +kernel) rfl rfl (Nat.le_of_ble_eq_true rfl) d_Mo_plan_240 (fun H locs hP hD hS => ?_)
          have hP : va_P (dC, dI) classes [(h0, .inr (6, [.int 0, .int pi, .int sh, .int lo, .int ph, .int di, .long lm, .long en, .long la, .long cu, .long nw, .int sp, .ref b1, .ref b2, .ref b3, .ref b4, .long lft, .int cs, .ref b5])), (b1, .inl (i1, 20, .inl g1)), (b2, .inl (i2, 20, .inl g2)), (b3, .inl (i3, 20, .inl g3)), (b4, .inl (i4, 1440, .inr (.inl gx)))] H := hP
          have hD : va_D A [(h0, .inr (6, [.int 0, .int pi, .int sh, .int lo, .int ph, .int di, .long lm, .long en, .long la, .long cu, .long nw, .int sp, .ref b1, .ref b2, .ref b3, .ref b4, .long lft, .int cs, .ref b5])), (b1, .inl (i1, 20, .inl g1)), (b2, .inl (i2, 20, .inl g2)), (b3, .inl (i3, 20, .inl g3)), (b4, .inl (i4, 1440, .inr (.inl gx)))] := hD
          refine lv_lload hx hb d_Mo_plan_243 (lv_at hl 3 rfl) ?_
          refine lv_lconst (v := 0) hx hb d_Mo_plan_245 (by decide) ?_
          refine W.lcmp hx hb d_Mo_plan_246 ?_
          refine lv_if_le (tgt := 254) hx hb d_Mo_plan_247 (by decide) (fun c_247 => ?_) (fun c_247 => ?_)
          · have c_247 := (lg_cmp_le _ _).mp c_247
            refine lv_lload hx hb d_Mo_plan_254 (lv_at hl 4 rfl) ?_
            refine lv_l2i hx hb d_Mo_plan_256 rfl ?_
            refine lv_topi (fun x_256 ex_256 => ?_)
            have hP9 := hP.sub (ws' := [(h0, .inr (6, [.int 0, .int pi, .int sh, .int lo, .int ph, .int di, .long lm, .long en, .long la, .long cu, .long nw, .int sp, .ref b1, .ref b2, .ref b3, .ref b4, .long lft, .int cs, .ref b5])), (b1, .inl (i1, 20, .inl g1)), (b2, .inl (i2, 20, .inl g2)), (b3, .inl (i3, 20, .inl g3)), (b4, .inl (i4, 1440, .inr (.inl gx)))]) [0, 1, 2, 3, 4] rfl
            have hD9 := hD.sub (ws' := [(h0, .inr (6, [.int 0, .int pi, .int sh, .int lo, .int ph, .int di, .long lm, .long en, .long la, .long cu, .long nw, .int sp, .ref b1, .ref b2, .ref b3, .ref b4, .long lft, .int cs, .ref b5])), (b1, .inl (i1, 20, .inl g1)), (b2, .inl (i2, 20, .inl g2)), (b3, .inl (i3, 20, .inl g3)), (b4, .inl (i4, 1440, .inr (.inl gx)))]) [0, 1, 2, 3, 4] (by decide) rfl
            have hK9 := hK.sub (tys' := [(i1, .int), (i2, .int), (i3, .int), (i4, .long)]) [0, 1, 2, 3] rfl
            exact W.iret (v := x_256) hx hb hr (fun t ht hW => ⟨⟨x_256, (0, lft, gx), rfl, ⟨fun h => absurd h_ok h, fun _ => by rw [← h_mo]; exact ⟨⟨(pl_e1 h_pr c_81 h_l h_c h_g).1, by rw [if_pos c_247, ex_256, (pl_e1 h_pr c_81 h_l h_c h_g).2.1]⟩, (pl_e1 h_pr c_81 h_l h_c h_g).2.2⟩⟩, by rw [ht]; exact hP9, va_K.moved hW.alike hK9, hD9⟩, hS.F ht⟩) hS.2.2 d_Mo_plan_257
          · have c_247 := mt (lg_cmp_le _ _).mpr c_247
            refine lv_iconst (v := (-1)) hx hb d_Mo_plan_250 (by decide) ?_
            refine lv_goto (tgt := 257) hx hb d_Mo_plan_251 (by decide) ?_
            have hP9 := hP.sub (ws' := [(h0, .inr (6, [.int 0, .int pi, .int sh, .int lo, .int ph, .int di, .long lm, .long en, .long la, .long cu, .long nw, .int sp, .ref b1, .ref b2, .ref b3, .ref b4, .long lft, .int cs, .ref b5])), (b1, .inl (i1, 20, .inl g1)), (b2, .inl (i2, 20, .inl g2)), (b3, .inl (i3, 20, .inl g3)), (b4, .inl (i4, 1440, .inr (.inl gx)))]) [0, 1, 2, 3, 4] rfl
            have hD9 := hD.sub (ws' := [(h0, .inr (6, [.int 0, .int pi, .int sh, .int lo, .int ph, .int di, .long lm, .long en, .long la, .long cu, .long nw, .int sp, .ref b1, .ref b2, .ref b3, .ref b4, .long lft, .int cs, .ref b5])), (b1, .inl (i1, 20, .inl g1)), (b2, .inl (i2, 20, .inl g2)), (b3, .inl (i3, 20, .inl g3)), (b4, .inl (i4, 1440, .inr (.inl gx)))]) [0, 1, 2, 3, 4] (by decide) rfl
            have hK9 := hK.sub (tys' := [(i1, .int), (i2, .int), (i3, .int), (i4, .long)]) [0, 1, 2, 3] rfl
            exact W.iret (v := (-1)) hx hb hr (fun t ht hW => ⟨⟨(-1), (0, lft, gx), rfl, ⟨fun h => absurd h_ok h, fun _ => by rw [← h_mo]; exact ⟨⟨(pl_e1 h_pr c_81 h_l h_c h_g).1, by rw [if_neg c_247]⟩, (pl_e1 h_pr c_81 h_l h_c h_g).2.2⟩⟩, by rw [ht]; exact hP9, va_K.moved hW.alike hK9, hD9⟩, hS.F ht⟩) hS.2.2 d_Mo_plan_257
        · skip
          refine lv_lload hx hb d_Mo_plan_84 (lv_at hl 3 rfl) ?_
          refine lv_lconst (v := 0) hx hb d_Mo_plan_86 (by decide) ?_
          refine W.lcmp hx hb d_Mo_plan_87 ?_
          refine lv_if_le (tgt := 237) hx hb d_Mo_plan_88 (by decide) (fun c_88 => ?_) (fun c_88 => ?_)
          · have c_88 := (lg_cmp_le _ _).mp c_88
            refine lv_aload_n hx hb d_Mo_plan_237 rfl (lv_at hl 0 rfl) ?_
            refine lv_lload hx hb d_Mo_plan_238 (lv_at hl 3 rfl) ?_
            refine va_put (D := (dC, dI)) (ci := 6) (v := .long lft) (ty := .long) (C := R_Mo) (T := F_Mo) (N := 19) hx hb hB inC_Mo t_Mo t_Mo_ok n_Mo hown hK hP hD hS 0 rfl rfl 16 (by decide) (hB _ kb_288) (fun _ h9 => h9) rfl (by decide +kernel) rfl rfl (Nat.le_of_ble_eq_true rfl) d_Mo_plan_240 (fun H locs hP hD hS => ?_)
            have hP : va_P (dC, dI) classes [(h0, .inr (6, [.int 0, .int pi, .int sh, .int lo, .int ph, .int di, .long lm, .long en, .long la, .long cu, .long nw, .int sp, .ref b1, .ref b2, .ref b3, .ref b4, .long lft, .int cs, .ref b5])), (b1, .inl (i1, 20, .inl g1)), (b2, .inl (i2, 20, .inl g2)), (b3, .inl (i3, 20, .inl g3)), (b4, .inl (i4, 1440, .inr (.inl gx)))] H := hP
            have hD : va_D A [(h0, .inr (6, [.int 0, .int pi, .int sh, .int lo, .int ph, .int di, .long lm, .long en, .long la, .long cu, .long nw, .int sp, .ref b1, .ref b2, .ref b3, .ref b4, .long lft, .int cs, .ref b5])), (b1, .inl (i1, 20, .inl g1)), (b2, .inl (i2, 20, .inl g2)), (b3, .inl (i3, 20, .inl g3)), (b4, .inl (i4, 1440, .inr (.inl gx)))] := hD
            refine lv_lload hx hb d_Mo_plan_243 (lv_at hl 3 rfl) ?_
            refine lv_lconst (v := 0) hx hb d_Mo_plan_245 (by decide) ?_
            refine W.lcmp hx hb d_Mo_plan_246 ?_
            refine lv_if_le (tgt := 254) hx hb d_Mo_plan_247 (by decide) (fun c_247 => ?_) (fun c_247 => ?_)
            · have c_247 := (lg_cmp_le _ _).mp c_247
              refine lv_lload hx hb d_Mo_plan_254 (lv_at hl 4 rfl) ?_
              refine lv_l2i hx hb d_Mo_plan_256 rfl ?_
              refine lv_topi (fun x_256 ex_256 => ?_)
              have hP9 := hP.sub (ws' := [(h0, .inr (6, [.int 0, .int pi, .int sh, .int lo, .int ph, .int di, .long lm, .long en, .long la, .long cu, .long nw, .int sp, .ref b1, .ref b2, .ref b3, .ref b4, .long lft, .int cs, .ref b5])), (b1, .inl (i1, 20, .inl g1)), (b2, .inl (i2, 20, .inl g2)), (b3, .inl (i3, 20, .inl g3)), (b4, .inl (i4, 1440, .inr (.inl gx)))]) [0, 1, 2, 3, 4] rfl
              have hD9 := hD.sub (ws' := [(h0, .inr (6, [.int 0, .int pi, .int sh, .int lo, .int ph, .int di, .long lm, .long en, .long la, .long cu, .long nw, .int sp, .ref b1, .ref b2, .ref b3, .ref b4, .long lft, .int cs, .ref b5])), (b1, .inl (i1, 20, .inl g1)), (b2, .inl (i2, 20, .inl g2)), (b3, .inl (i3, 20, .inl g3)), (b4, .inl (i4, 1440, .inr (.inl gx)))]) [0, 1, 2, 3, 4] (by decide) rfl
              have hK9 := hK.sub (tys' := [(i1, .int), (i2, .int), (i3, .int), (i4, .long)]) [0, 1, 2, 3] rfl
              exact W.iret (v := x_256) hx hb hr (fun t ht hW => ⟨⟨x_256, (0, lft, gx), rfl, ⟨fun h => absurd h_ok h, fun _ => by rw [← h_mo]; exact ⟨⟨(pl_e2 h_p h_pr (by omega) h_l h_c h_g c_88).1, by rw [if_pos c_247, ex_256, (pl_e2 h_p h_pr (by omega) h_l h_c h_g c_88).2.1]⟩, (pl_e2 h_p h_pr (by omega) h_l h_c h_g c_88).2.2⟩⟩, by rw [ht]; exact hP9, va_K.moved hW.alike hK9, hD9⟩, hS.F ht⟩) hS.2.2 d_Mo_plan_257
            · have c_247 := mt (lg_cmp_le _ _).mpr c_247
              refine lv_iconst (v := (-1)) hx hb d_Mo_plan_250 (by decide) ?_
              refine lv_goto (tgt := 257) hx hb d_Mo_plan_251 (by decide) ?_
              have hP9 := hP.sub (ws' := [(h0, .inr (6, [.int 0, .int pi, .int sh, .int lo, .int ph, .int di, .long lm, .long en, .long la, .long cu, .long nw, .int sp, .ref b1, .ref b2, .ref b3, .ref b4, .long lft, .int cs, .ref b5])), (b1, .inl (i1, 20, .inl g1)), (b2, .inl (i2, 20, .inl g2)), (b3, .inl (i3, 20, .inl g3)), (b4, .inl (i4, 1440, .inr (.inl gx)))]) [0, 1, 2, 3, 4] rfl
              have hD9 := hD.sub (ws' := [(h0, .inr (6, [.int 0, .int pi, .int sh, .int lo, .int ph, .int di, .long lm, .long en, .long la, .long cu, .long nw, .int sp, .ref b1, .ref b2, .ref b3, .ref b4, .long lft, .int cs, .ref b5])), (b1, .inl (i1, 20, .inl g1)), (b2, .inl (i2, 20, .inl g2)), (b3, .inl (i3, 20, .inl g3)), (b4, .inl (i4, 1440, .inr (.inl gx)))]) [0, 1, 2, 3, 4] (by decide) rfl
              have hK9 := hK.sub (tys' := [(i1, .int), (i2, .int), (i3, .int), (i4, .long)]) [0, 1, 2, 3] rfl
              exact W.iret (v := (-1)) hx hb hr (fun t ht hW => ⟨⟨(-1), (0, lft, gx), rfl, ⟨fun h => absurd h_ok h, fun _ => by rw [← h_mo]; exact ⟨⟨(pl_e2 h_p h_pr (by omega) h_l h_c h_g c_88).1, by rw [if_neg c_247]⟩, (pl_e2 h_p h_pr (by omega) h_l h_c h_g c_88).2.2⟩⟩, by rw [ht]; exact hP9, va_K.moved hW.alike hK9, hD9⟩, hS.F ht⟩) hS.2.2 d_Mo_plan_257
          · have c_88 := mt (lg_cmp_le _ _).mpr c_88
            refine lv_iconst (v := 0) hx hb d_Mo_plan_91 (by decide) ?_
            refine lv_istore (lv' := [(11, .int 0), (0, .ref h0), (1, .long p0), (3, .long p1), (5, .long lft), (7, .long ct), (9, .int mo), (10, .int pr)]) hx hb d_Mo_plan_92 hl (by decide) rfl (fun ls hl => ?_)
            refine lv_iconst (v := 0) hx hb d_Mo_plan_94 (by decide) ?_
            refine lv_istore (lv' := [(12, .int 0), (11, .int 0), (0, .ref h0), (1, .long p0), (3, .long p1), (5, .long lft), (7, .long ct), (9, .int mo), (10, .int pr)]) hx hb d_Mo_plan_95 hl (by decide) rfl (fun ls hl => ?_)
            exact ih.2.2.1 lft ct mo pr gx 0 0 _ _ _ (h_p) (h_pr) (h_ok) (h_mo) (h_l) (h_c) (h_g) (c_81) (le0) (by intro _ j hj; have h8 : (0 : Int32).toInt = 0 := (by decide); omega) (by have h8 : (0 : Int32).toInt = 0 := (by decide); omega) (hP.sub [0, 1, 2, 3, 4] rfl) (hD.sub [0, 1, 2, 3, 4] (by decide) rfl) hS (lv_sub hl [2, 3, 4, 5, 6, 7, 8, 1, 0] rfl)
      · intro lft ct mo pr gx fi kk H locs ls h_p h_pr h_ok h_mo h_l h_c h_g h_q h_k h_f hmu hP hD hS hl
        have h_u := (plb h_ok).2
        have h_w := (plb h_ok).1
        have h_m := tem_b pi sh
        rw [← h_mo] at h_m
        refine lv_iload hx hb d_Mo_plan_97 (lv_at hl 8 rfl) ?_
        refine lv_aload_n hx hb d_Mo_plan_99 rfl (lv_at hl 0 rfl) ?_
        refine va_get (D := (dC, dI)) (ci := 6) (v := .int sp) (C := R_Mo) (T := F_Mo) (N := 19) hx hb hB inC_Mo hown hK hP 0 rfl rfl 11 (by decide) (hB _ kb_287) (fun _ h9 => h9) rfl d_Mo_plan_100 ?_
        refine lv_icmp_ge (tgt := 136) hx hb d_Mo_plan_103 (by decide) (fun c_103 => ?_) (fun c_103 => ?_)
        · skip
          refine lv_iconst (v := 0) hx hb d_Mo_plan_136 (by decide) ?_
          refine lv_istore (lv' := [(12, .int 0), (0, .ref h0), (1, .long p0), (3, .long p1), (5, .long lft), (7, .long ct), (9, .int mo), (10, .int pr), (11, .int fi)]) hx hb d_Mo_plan_137 hl (by decide) rfl (fun ls hl => ?_)
          exact ih.2.2.2 lft ct mo pr gx fi 0 _ _ _ (h_p) (h_pr) (h_ok) (h_mo) (by rw [h_l, show (0 : Int32).toInt.toNat = 0 from (by decide), cnt, Nat.mul_zero, Nat.sub_zero]) (by rw [h_c, show (0 : Int32).toInt.toNat = 0 from (by decide), cnt, Nat.mul_zero, Nat.min_zero, Nat.zero_mul, Nat.add_zero]) (fun k hk => by rw [h_g k hk, if_neg (by have h8 : (0 : Int32).toInt.toNat = 0 := (by decide); omega)]) (h_q) (le0) (by have h8 : (0 : Int32).toInt = 0 := (by decide); omega) (fun h j hj => h_f h j (by have h9 := c_103; rw [Int32.le_iff_toInt_le] at h9; omega)) (by have h8 : (0 : Int32).toInt = 0 := (by decide); omega) (hP.sub [0, 1, 2, 3, 4] rfl) (hD.sub [0, 1, 2, 3, 4] (by decide) rfl) hS (lv_sub hl [1, 2, 3, 4, 5, 6, 7, 8, 0] rfl)
        · skip
          refine lv_iload hx hb d_Mo_plan_106 (lv_at hl 7 rfl) ?_
          refine lv_if_ne (tgt := 123) hx hb d_Mo_plan_108 (by decide) (fun c_108 => ?_) (fun c_108 => ?_)
          · skip
            refine lv_iconst (v := 1) hx hb d_Mo_plan_123 (by decide) ?_
            refine lv_goto (tgt := 128) hx hb d_Mo_plan_124 (by decide) ?_
            refine lv_istore (lv' := [(11, .int 1), (0, .ref h0), (1, .long p0), (3, .long p1), (5, .long lft), (7, .long ct), (9, .int mo), (10, .int pr), (12, .int kk)]) hx hb d_Mo_plan_128 hl (by decide) rfl (fun ls hl => ?_)
            obtain ⟨x_130, ex_130⟩ : ∃ y : Int32, y = kk + 1 := ⟨_, rfl⟩
            refine lv_iinc (v := x_130) (lv' := [(12, .int x_130), (11, .int 1), (0, .ref h0), (1, .long p0), (3, .long p1), (5, .long lft), (7, .long ct), (9, .int mo), (10, .int pr)]) hx hb d_Mo_plan_130 hl (k := 8) rfl (by rw [ex_130]; rfl) (by decide) rfl (fun ls hl => ?_)
            refine lv_goto (tgt := 97) hx hb d_Mo_plan_133 (by decide) ?_
            exact ih.2.2.1 lft ct mo pr gx 1 x_130 _ _ _ (h_p) (h_pr) (h_ok) (h_mo) (h_l) (h_c) (h_g) (h_q) ((kkup hs1 h_k c_103 ex_130).1) (fun h => absurd h (by decide)) (by have h9 := (kkup hs1 h_k c_103 ex_130).2; omega) (hP.sub [0, 1, 2, 3, 4] rfl) (hD.sub [0, 1, 2, 3, 4] (by decide) rfl) hS (lv_sub hl [2, 3, 4, 5, 6, 7, 8, 1, 0] rfl)
          · skip
            refine lv_aload_n hx hb d_Mo_plan_111 rfl (lv_at hl 0 rfl) ?_
            refine va_get (D := (dC, dI)) (ci := 6) (v := .ref b3) (C := R_Mo) (T := F_Mo) (N := 19) hx hb hB inC_Mo hown hK hP 0 rfl rfl 14 (by decide) (hB _ kb_241) (fun _ h9 => h9) rfl d_Mo_plan_112 ?_
            refine lv_iload hx hb d_Mo_plan_115 (lv_at hl 8 rfl) ?_
            have h_117 : vp_in kk 20 := vinSp hs1 h_k c_103
            refine va_iald hx hb hK hP 3 2 rfl rfl h_117 d_Mo_plan_117 ?_
            refine lv_topi (fun x_117 ex_117 => ?_)
            refine lv_iload hx hb d_Mo_plan_118 (lv_at hl 6 rfl) ?_
            refine lv_icmp_ne (tgt := 127) hx hb d_Mo_plan_120 (by decide) (fun c_120 => ?_) (fun c_120 => ?_)
            · skip
              refine lv_iconst (v := 0) hx hb d_Mo_plan_127 (by decide) ?_
              refine lv_istore (lv' := [(11, .int 0), (0, .ref h0), (1, .long p0), (3, .long p1), (5, .long lft), (7, .long ct), (9, .int mo), (10, .int pr), (12, .int kk)]) hx hb d_Mo_plan_128 hl (by decide) rfl (fun ls hl => ?_)
              obtain ⟨x_130, ex_130⟩ : ∃ y : Int32, y = kk + 1 := ⟨_, rfl⟩
              refine lv_iinc (v := x_130) (lv' := [(12, .int x_130), (11, .int 0), (0, .ref h0), (1, .long p0), (3, .long p1), (5, .long lft), (7, .long ct), (9, .int mo), (10, .int pr)]) hx hb d_Mo_plan_130 hl (k := 8) rfl (by rw [ex_130]; rfl) (by decide) rfl (fun ls hl => ?_)
              refine lv_goto (tgt := 97) hx hb d_Mo_plan_133 (by decide) ?_
              exact ih.2.2.1 lft ct mo pr gx 0 x_130 _ _ _ (h_p) (h_pr) (h_ok) (h_mo) (h_l) (h_c) (h_g) (h_q) ((kkup hs1 h_k c_103 ex_130).1) (fun _ => pf_s (h_f c_108) h_k (kkup hs1 h_k c_103 ex_130).2 ex_117 c_120) (by have h9 := (kkup hs1 h_k c_103 ex_130).2; omega) (hP.sub [0, 1, 2, 3, 4] rfl) (hD.sub [0, 1, 2, 3, 4] (by decide) rfl) hS (lv_sub hl [2, 3, 4, 5, 6, 7, 8, 1, 0] rfl)
            · skip
              refine lv_iconst (v := 1) hx hb d_Mo_plan_123 (by decide) ?_
              refine lv_goto (tgt := 128) hx hb d_Mo_plan_124 (by decide) ?_
              refine lv_istore (lv' := [(11, .int 1), (0, .ref h0), (1, .long p0), (3, .long p1), (5, .long lft), (7, .long ct), (9, .int mo), (10, .int pr), (12, .int kk)]) hx hb d_Mo_plan_128 hl (by decide) rfl (fun ls hl => ?_)
              obtain ⟨x_130, ex_130⟩ : ∃ y : Int32, y = kk + 1 := ⟨_, rfl⟩
              refine lv_iinc (v := x_130) (lv' := [(12, .int x_130), (11, .int 1), (0, .ref h0), (1, .long p0), (3, .long p1), (5, .long lft), (7, .long ct), (9, .int mo), (10, .int pr)]) hx hb d_Mo_plan_130 hl (k := 8) rfl (by rw [ex_130]; rfl) (by decide) rfl (fun ls hl => ?_)
              refine lv_goto (tgt := 97) hx hb d_Mo_plan_133 (by decide) ?_
              exact ih.2.2.1 lft ct mo pr gx 1 x_130 _ _ _ (h_p) (h_pr) (h_ok) (h_mo) (h_l) (h_c) (h_g) (h_q) ((kkup hs1 h_k c_103 ex_130).1) (fun h => absurd h (by decide)) (by have h9 := (kkup hs1 h_k c_103 ex_130).2; omega) (hP.sub [0, 1, 2, 3, 4] rfl) (hD.sub [0, 1, 2, 3, 4] (by decide) rfl) hS (lv_sub hl [2, 3, 4, 5, 6, 7, 8, 1, 0] rfl)
      · intro lft ct mo pr gx fi kk H locs ls h_p h_pr h_ok h_mo h_l h_c h_g h_q h_k h_ku h_f hmu hP hD hS hl
        have h_u := (plb h_ok).2
        have h_w := (plb h_ok).1
        have h_m := tem_b pi sh
        rw [← h_mo] at h_m
        refine lv_iload hx hb d_Mo_plan_139 (lv_at hl 8 rfl) ?_
        refine lv_i2l hx hb d_Mo_plan_141 rfl ?_
        refine lv_topl (fun x_141 ex_141 => ?_)
        refine lv_lload_n hx hb d_Mo_plan_142 rfl (lv_at hl 2 rfl) ?_
        refine W.lcmp hx hb d_Mo_plan_143 ?_
        refine lv_if_ge (tgt := 231) hx hb d_Mo_plan_144 (by decide) (fun c_144 => ?_) (fun c_144 => ?_)
        · have c_144 := (lg_cmp_ge _ _).mp c_144
          obtain ⟨x_231, ex_231⟩ : ∃ y : Int32, y = pr + 1 := ⟨_, rfl⟩
          refine lv_iinc (v := x_231) (lv' := [(10, .int x_231), (0, .ref h0), (1, .long p0), (3, .long p1), (5, .long lft), (7, .long ct), (9, .int mo), (11, .int fi), (12, .int kk)]) hx hb d_Mo_plan_231 hl (k := 6) rfl (by rw [ex_231]; rfl) (by decide) rfl (fun ls hl => ?_)
          refine lv_goto (tgt := 76) hx hb d_Mo_plan_234 (by decide) ?_
          exact ih.2.1 lft ct mo x_231 gx _ _ _ ((ij0 1000 h_p h_q (by decide) ex_231).1) (by have h9 := (ij0 1000 h_p h_q (by decide) ex_231).2; have h8 : (1000 : Int32).toInt = 1000 := (by decide); have h7 := i32ge h_p; have h6 := i32nlt h_q h8; omega) (h_ok) (h_mo) ((pl_x1 h_p h_q ex_231 h_l h_c h_g (by have h9 := c_144; rw [ex_141, Int64.le_iff_toInt_le, Jvm.Kit.i64_of_i32] at h9; omega)).1) ((pl_x1 h_p h_q ex_231 h_l h_c h_g (by have h9 := c_144; rw [ex_141, Int64.le_iff_toInt_le, Jvm.Kit.i64_of_i32] at h9; omega)).2.1) ((pl_x1 h_p h_q ex_231 h_l h_c h_g (by have h9 := c_144; rw [ex_141, Int64.le_iff_toInt_le, Jvm.Kit.i64_of_i32] at h9; omega)).2.2) (by have h9 := (ij0 1000 h_p h_q (by decide) ex_231).2; have h8 : (1000 : Int32).toInt = 1000 := (by decide); have h7 := i32ge h_p; have h6 := i32nlt h_q h8; omega) (hP.sub [0, 1, 2, 3, 4] rfl) (hD.sub [0, 1, 2, 3, 4] (by decide) rfl) hS (lv_sub hl [1, 2, 3, 4, 5, 6, 0] rfl)
        · have c_144 := mt (lg_cmp_ge _ _).mpr c_144
          refine lv_lload hx hb d_Mo_plan_147 (lv_at hl 3 rfl) ?_
          refine lv_lconst (v := 0) hx hb d_Mo_plan_149 (by decide) ?_
          refine W.lcmp hx hb d_Mo_plan_150 ?_
          refine lv_if_le (tgt := 231) hx hb d_Mo_plan_151 (by decide) (fun c_151 => ?_) (fun c_151 => ?_)
          · have c_151 := (lg_cmp_le _ _).mp c_151
            obtain ⟨x_231, ex_231⟩ : ∃ y : Int32, y = pr + 1 := ⟨_, rfl⟩
            refine lv_iinc (v := x_231) (lv' := [(10, .int x_231), (0, .ref h0), (1, .long p0), (3, .long p1), (5, .long lft), (7, .long ct), (9, .int mo), (11, .int fi), (12, .int kk)]) hx hb d_Mo_plan_231 hl (k := 6) rfl (by rw [ex_231]; rfl) (by decide) rfl (fun ls hl => ?_)
            refine lv_goto (tgt := 76) hx hb d_Mo_plan_234 (by decide) ?_
            exact ih.2.1 lft ct mo x_231 gx _ _ _ ((ij0 1000 h_p h_q (by decide) ex_231).1) (by have h9 := (ij0 1000 h_p h_q (by decide) ex_231).2; have h8 : (1000 : Int32).toInt = 1000 := (by decide); have h7 := i32ge h_p; have h6 := i32nlt h_q h8; omega) (h_ok) (h_mo) ((pl_x2 h_p h_q ex_231 h_l h_c h_g (by omega) (by omega) c_151).1) ((pl_x2 h_p h_q ex_231 h_l h_c h_g (by omega) (by omega) c_151).2.1) ((pl_x2 h_p h_q ex_231 h_l h_c h_g (by omega) (by omega) c_151).2.2) (by have h9 := (ij0 1000 h_p h_q (by decide) ex_231).2; have h8 : (1000 : Int32).toInt = 1000 := (by decide); have h7 := i32ge h_p; have h6 := i32nlt h_q h8; omega) (hP.sub [0, 1, 2, 3, 4] rfl) (hD.sub [0, 1, 2, 3, 4] (by decide) rfl) hS (lv_sub hl [1, 2, 3, 4, 5, 6, 0] rfl)
          · have c_151 := mt (lg_cmp_le _ _).mpr c_151
            refine lv_iload hx hb d_Mo_plan_154 (lv_at hl 7 rfl) ?_
            refine lv_if_eq (tgt := 231) hx hb d_Mo_plan_156 (by decide) (fun c_156 => ?_) (fun c_156 => ?_)
            · skip
              obtain ⟨x_231, ex_231⟩ : ∃ y : Int32, y = pr + 1 := ⟨_, rfl⟩
              refine lv_iinc (v := x_231) (lv' := [(10, .int x_231), (0, .ref h0), (1, .long p0), (3, .long p1), (5, .long lft), (7, .long ct), (9, .int mo), (11, .int fi), (12, .int kk)]) hx hb d_Mo_plan_231 hl (k := 6) rfl (by rw [ex_231]; rfl) (by decide) rfl (fun ls hl => ?_)
              refine lv_goto (tgt := 76) hx hb d_Mo_plan_234 (by decide) ?_
              exact ih.2.1 lft ct mo x_231 gx _ _ _ ((ij0 1000 h_p h_q (by decide) ex_231).1) (by have h9 := (ij0 1000 h_p h_q (by decide) ex_231).2; have h8 : (1000 : Int32).toInt = 1000 := (by decide); have h7 := i32ge h_p; have h6 := i32nlt h_q h8; omega) (h_ok) (h_mo) ((pl_x3 h_p h_q ex_231 h_l h_c h_g (fun q => pof_none (i32ge h_p) _ (fun j hj => h_f c_156 j (by omega)))).1) ((pl_x3 h_p h_q ex_231 h_l h_c h_g (fun q => pof_none (i32ge h_p) _ (fun j hj => h_f c_156 j (by omega)))).2.1) ((pl_x3 h_p h_q ex_231 h_l h_c h_g (fun q => pof_none (i32ge h_p) _ (fun j hj => h_f c_156 j (by omega)))).2.2) (by have h9 := (ij0 1000 h_p h_q (by decide) ex_231).2; have h8 : (1000 : Int32).toInt = 1000 := (by decide); have h7 := i32ge h_p; have h6 := i32nlt h_q h8; omega) (hP.sub [0, 1, 2, 3, 4] rfl) (hD.sub [0, 1, 2, 3, 4] (by decide) rfl) hS (lv_sub hl [1, 2, 3, 4, 5, 6, 0] rfl)
            · skip
              refine lv_aload_n hx hb d_Mo_plan_159 rfl (lv_at hl 0 rfl) ?_
              refine lv_iload hx hb d_Mo_plan_160 (lv_at hl 8 rfl) ?_
              refine kc_i (va_runV (As := [.int kk]) (rest := []) ⟨hx, hb, hml, hown, hts⟩ (c_Mo_priceOf l dC dI h0 b1 b2 b3 b4 b5 i1 i2 i3 H.size 0 pi sh lo ph di lm en la cu nw sp lk cs g1 g2 g3 kk (hs0) (hs1)) (cwV 1 hts (ginV kb_290 kb_291 kb_292 kb_251 kb_289) rfl rfl rfl (by decide +kernel) ⟨Nat.le_of_ble_eq_true rfl, Nat.le_of_ble_eq_true rfl⟩) (preV (ci := 6) (wc := [(h0, .inr (6, [.int 0, .int pi, .int sh, .int lo, .int ph, .int di, .long lm, .long en, .long la, .long cu, .long nw, .int sp, .ref b1, .ref b2, .ref b3, .ref b4, .long lk, .int cs, .ref b5])), (b1, .inl (i1, 20, .inl g1)), (b2, .inl (i2, 20, .inl g2)), (b3, .inl (i3, 20, .inl g3))]) hK hN hP hD [0, 1, 2, 3] rfl rfl (by decide) [0, 1, 2] rfl rfl rfl) rfl rfl hl.1 rfl (lv_room (Nat.le_of_ble_eq_true rfl)) d_Mo_plan_162 ⟨Nat.le_of_ble_eq_true rfl, Nat.le_of_ble_eq_true rfl⟩) hP hD hS hA [0, 1, 2, 3] [4] (wr := [(b4, .inl (i4, 1440, .inr (.inl gx)))]) rfl rfl (by decide) (by decide) (fun r_162 u_162 H locs hw_162 hP hD hK1 hS => ?_)
              have hw_162 : r_162 = pof g1 g2 g3 kk sp.toInt.toNat := hw_162
              have hP : va_P (dC, dI) classes [(b4, .inl (i4, 1440, .inr (.inl gx))), (h0, .inr (6, [.int 0, .int pi, .int sh, .int lo, .int ph, .int di, .long lm, .long en, .long la, .long cu, .long nw, .int sp, .ref b1, .ref b2, .ref b3, .ref b4, .long lk, .int cs, .ref b5])), (b1, .inl (i1, 20, .inl g1)), (b2, .inl (i2, 20, .inl g2)), (b3, .inl (i3, 20, .inl g3))] H := hP
              have hD : va_D A [(b4, .inl (i4, 1440, .inr (.inl gx))), (h0, .inr (6, [.int 0, .int pi, .int sh, .int lo, .int ph, .int di, .long lm, .long en, .long la, .long cu, .long nw, .int sp, .ref b1, .ref b2, .ref b3, .ref b4, .long lk, .int cs, .ref b5])), (b1, .inl (i1, 20, .inl g1)), (b2, .inl (i2, 20, .inl g2)), (b3, .inl (i3, 20, .inl g3))] := hD
              refine lv_iload hx hb d_Mo_plan_165 (lv_at hl 6 rfl) ?_
              refine lv_icmp_eq (tgt := 173) hx hb d_Mo_plan_167 (by decide) (fun c_167 => ?_) (fun c_167 => ?_)
              · skip
                refine lv_aload_n hx hb d_Mo_plan_173 rfl (lv_at hl 0 rfl) ?_
                refine va_get (D := (dC, dI)) (ci := 6) (v := .ref b4) (C := R_Mo) (T := F_Mo) (N := 19) hx hb hB inC_Mo hown hK hP 1 rfl rfl 15 (by decide) (hB _ kb_242) (fun _ h9 => h9) rfl d_Mo_plan_174 ?_
                refine lv_iload hx hb d_Mo_plan_177 (lv_at hl 8 rfl) ?_
                refine lv_lload hx hb d_Mo_plan_179 (lv_at hl 3 rfl) ?_
                refine lv_iload hx hb d_Mo_plan_181 (lv_at hl 5 rfl) ?_
                refine lv_i2l hx hb d_Mo_plan_183 rfl ?_
                refine lv_topl (fun x_183 ex_183 => ?_)
                refine W.lcmp hx hb d_Mo_plan_184 ?_
                refine lv_if_ge (tgt := 193) hx hb d_Mo_plan_185 (by decide) (fun c_185 => ?_) (fun c_185 => ?_)
                · have c_185 := (lg_cmp_ge _ _).mp c_185
                  refine lv_iload hx hb d_Mo_plan_193 (lv_at hl 5 rfl) ?_
                  refine lv_i2l hx hb d_Mo_plan_195 rfl ?_
                  refine lv_topl (fun x_195 ex_195 => ?_)
                  have h_196 : vp_in kk 1440 := vinU h_u.2 h_k c_144 ex_141
                  refine va_last hx hb hK hP hD hS 0 3 rfl rfl h_196 d_Mo_plan_196 (fun H locs hP hD hS => ?_)
                  obtain ⟨f_196, ef_196⟩ : ∃ y, y = vp_updL gx kk.toNatClampNeg x_195 := ⟨_, rfl⟩
                  rw [← ef_196] at hP hD
                  have hP : va_P (dC, dI) classes [(b4, .inl (i4, 1440, .inr (.inl f_196))), (h0, .inr (6, [.int 0, .int pi, .int sh, .int lo, .int ph, .int di, .long lm, .long en, .long la, .long cu, .long nw, .int sp, .ref b1, .ref b2, .ref b3, .ref b4, .long lk, .int cs, .ref b5])), (b1, .inl (i1, 20, .inl g1)), (b2, .inl (i2, 20, .inl g2)), (b3, .inl (i3, 20, .inl g3))] H := hP
                  have hD : va_D A [(b4, .inl (i4, 1440, .inr (.inl f_196))), (h0, .inr (6, [.int 0, .int pi, .int sh, .int lo, .int ph, .int di, .long lm, .long en, .long la, .long cu, .long nw, .int sp, .ref b1, .ref b2, .ref b3, .ref b4, .long lk, .int cs, .ref b5])), (b1, .inl (i1, 20, .inl g1)), (b2, .inl (i2, 20, .inl g2)), (b3, .inl (i3, 20, .inl g3))] := hD
                  refine lv_lload hx hb d_Mo_plan_197 (lv_at hl 3 rfl) ?_
                  refine lv_aload_n hx hb d_Mo_plan_199 rfl (lv_at hl 0 rfl) ?_
                  refine va_get (D := (dC, dI)) (ci := 6) (v := .ref b4) (C := R_Mo) (T := F_Mo) (N := 19) hx hb hB inC_Mo hown hK hP 1 rfl rfl 15 (by decide) (hB _ kb_242) (fun _ h9 => h9) rfl d_Mo_plan_200 ?_
                  refine lv_iload hx hb d_Mo_plan_203 (lv_at hl 8 rfl) ?_
                  have h_205 : vp_in kk 1440 := vinU h_u.2 h_k c_144 ex_141
                  refine va_lald hx hb hK hP 0 3 rfl rfl h_205 d_Mo_plan_205 ?_
                  refine lv_topl (fun x_205 ex_205 => ?_)
                  refine lv_lsub hx hb d_Mo_plan_206 ?_
                  refine lv_topl (fun x_206 ex_206 => ?_)
                  refine lv_lstore (lv' := [(5, .long x_206), (0, .ref h0), (1, .long p0), (3, .long p1), (7, .long ct), (9, .int mo), (10, .int pr), (11, .int fi), (12, .int kk)]) hx hb d_Mo_plan_207 hl (by decide) rfl (fun ls hl => ?_)
                  refine lv_lload hx hb d_Mo_plan_209 (lv_at hl 4 rfl) ?_
                  refine lv_aload_n hx hb d_Mo_plan_211 rfl (lv_at hl 1 rfl) ?_
                  refine va_get (D := (dC, dI)) (ci := 6) (v := .ref b4) (C := R_Mo) (T := F_Mo) (N := 19) hx hb hB inC_Mo hown hK hP 1 rfl rfl 15 (by decide) (hB _ kb_242) (fun _ h9 => h9) rfl d_Mo_plan_212 ?_
                  refine lv_iload hx hb d_Mo_plan_215 (lv_at hl 8 rfl) ?_
                  have h_217 : vp_in kk 1440 := vinU h_u.2 h_k c_144 ex_141
                  refine va_lald hx hb hK hP 0 3 rfl rfl h_217 d_Mo_plan_217 ?_
                  refine lv_topl (fun x_217 ex_217 => ?_)
                  refine lv_iload hx hb d_Mo_plan_218 (lv_at hl 6 rfl) ?_
                  refine lv_i2l hx hb d_Mo_plan_220 rfl ?_
                  refine lv_topl (fun x_220 ex_220 => ?_)
                  refine lv_lmul hx hb d_Mo_plan_221 ?_
                  refine lv_topl (fun x_221 ex_221 => ?_)
                  refine lv_ladd hx hb d_Mo_plan_222 ?_
                  refine lv_topl (fun x_222 ex_222 => ?_)
                  refine lv_lstore (lv' := [(7, .long x_222), (5, .long x_206), (0, .ref h0), (1, .long p0), (3, .long p1), (9, .int mo), (10, .int pr), (11, .int fi), (12, .int kk)]) hx hb d_Mo_plan_223 hl (by decide) rfl (fun ls hl => ?_)
                  obtain ⟨x_225, ex_225⟩ : ∃ y : Int32, y = kk + 1 := ⟨_, rfl⟩
                  refine lv_iinc (v := x_225) (lv' := [(12, .int x_225), (7, .long x_222), (5, .long x_206), (0, .ref h0), (1, .long p0), (3, .long p1), (9, .int mo), (10, .int pr), (11, .int fi)]) hx hb d_Mo_plan_225 hl (k := 8) rfl (by rw [ex_225]; rfl) (by decide) rfl (fun ls hl => ?_)
                  refine lv_goto (tgt := 139) hx hb d_Mo_plan_228 (by decide) ?_
                  exact ih.2.2.2 x_206 x_222 mo pr f_196 fi x_225 _ _ _ (h_p) (h_pr) (h_ok) (h_mo) ((pl_s (P := (fun k => pof g1 g2 g3 (nI k) sp.toInt.toNat)) h_p h_q h_k (by omega) (by omega) (by have h8 := c_144; have h7 := i32ge h_k; rw [ex_141, Int64.le_iff_toInt_le, Jvm.Kit.i64_of_i32] at h8; omega) (by have h9 := hw_162; rw [nIc (i32ge h_k)] at h9; exact h9.symm.trans c_167) h_l h_c h_g (ge_v h_m.1 h_l (xb (by omega)) (by rw [← ex_183]; exact c_185) ex_195) ef_196 ex_205 ex_206 ex_217 ex_220 ex_221 ex_222 (kkU h_u.2 h_k c_144 ex_141 ex_225).2.1).1) ((pl_s (P := (fun k => pof g1 g2 g3 (nI k) sp.toInt.toNat)) h_p h_q h_k (by omega) (by omega) (by have h8 := c_144; have h7 := i32ge h_k; rw [ex_141, Int64.le_iff_toInt_le, Jvm.Kit.i64_of_i32] at h8; omega) (by have h9 := hw_162; rw [nIc (i32ge h_k)] at h9; exact h9.symm.trans c_167) h_l h_c h_g (ge_v h_m.1 h_l (xb (by omega)) (by rw [← ex_183]; exact c_185) ex_195) ef_196 ex_205 ex_206 ex_217 ex_220 ex_221 ex_222 (kkU h_u.2 h_k c_144 ex_141 ex_225).2.1).2.1) ((pl_s (P := (fun k => pof g1 g2 g3 (nI k) sp.toInt.toNat)) h_p h_q h_k (by omega) (by omega) (by have h8 := c_144; have h7 := i32ge h_k; rw [ex_141, Int64.le_iff_toInt_le, Jvm.Kit.i64_of_i32] at h8; omega) (by have h9 := hw_162; rw [nIc (i32ge h_k)] at h9; exact h9.symm.trans c_167) h_l h_c h_g (ge_v h_m.1 h_l (xb (by omega)) (by rw [← ex_183]; exact c_185) ex_195) ef_196 ex_205 ex_206 ex_217 ex_220 ex_221 ex_222 (kkU h_u.2 h_k c_144 ex_141 ex_225).2.1).2.2) (h_q) ((kkU h_u.2 h_k c_144 ex_141 ex_225).1) (by have h9 := (kkU h_u.2 h_k c_144 ex_141 ex_225).2; have h8 := c_144; rw [ex_141, Int64.le_iff_toInt_le, Jvm.Kit.i64_of_i32] at h8; omega) (h_f) (by have h9 := (kkU h_u.2 h_k c_144 ex_141 ex_225).2; omega) (hP.sub [1, 2, 3, 4, 0] rfl) (hD.sub [1, 2, 3, 4, 0] (by decide) rfl) hS (lv_sub hl [3, 4, 5, 2, 1, 6, 7, 8, 0] rfl)
                · have c_185 := mt (lg_cmp_ge _ _).mpr c_185
                  refine lv_lload hx hb d_Mo_plan_188 (lv_at hl 3 rfl) ?_
                  refine lv_goto (tgt := 196) hx hb d_Mo_plan_190 (by decide) ?_
                  have h_196 : vp_in kk 1440 := vinU h_u.2 h_k c_144 ex_141
                  refine va_last hx hb hK hP hD hS 0 3 rfl rfl h_196 d_Mo_plan_196 (fun H locs hP hD hS => ?_)
                  obtain ⟨f_196, ef_196⟩ : ∃ y, y = vp_updL gx kk.toNatClampNeg lft := ⟨_, rfl⟩
                  rw [← ef_196] at hP hD
                  have hP : va_P (dC, dI) classes [(b4, .inl (i4, 1440, .inr (.inl f_196))), (h0, .inr (6, [.int 0, .int pi, .int sh, .int lo, .int ph, .int di, .long lm, .long en, .long la, .long cu, .long nw, .int sp, .ref b1, .ref b2, .ref b3, .ref b4, .long lk, .int cs, .ref b5])), (b1, .inl (i1, 20, .inl g1)), (b2, .inl (i2, 20, .inl g2)), (b3, .inl (i3, 20, .inl g3))] H := hP
                  have hD : va_D A [(b4, .inl (i4, 1440, .inr (.inl f_196))), (h0, .inr (6, [.int 0, .int pi, .int sh, .int lo, .int ph, .int di, .long lm, .long en, .long la, .long cu, .long nw, .int sp, .ref b1, .ref b2, .ref b3, .ref b4, .long lk, .int cs, .ref b5])), (b1, .inl (i1, 20, .inl g1)), (b2, .inl (i2, 20, .inl g2)), (b3, .inl (i3, 20, .inl g3))] := hD
                  refine lv_lload hx hb d_Mo_plan_197 (lv_at hl 3 rfl) ?_
                  refine lv_aload_n hx hb d_Mo_plan_199 rfl (lv_at hl 0 rfl) ?_
                  refine va_get (D := (dC, dI)) (ci := 6) (v := .ref b4) (C := R_Mo) (T := F_Mo) (N := 19) hx hb hB inC_Mo hown hK hP 1 rfl rfl 15 (by decide) (hB _ kb_242) (fun _ h9 => h9) rfl d_Mo_plan_200 ?_
                  refine lv_iload hx hb d_Mo_plan_203 (lv_at hl 8 rfl) ?_
                  have h_205 : vp_in kk 1440 := vinU h_u.2 h_k c_144 ex_141
                  refine va_lald hx hb hK hP 0 3 rfl rfl h_205 d_Mo_plan_205 ?_
                  refine lv_topl (fun x_205 ex_205 => ?_)
                  refine lv_lsub hx hb d_Mo_plan_206 ?_
                  refine lv_topl (fun x_206 ex_206 => ?_)
                  refine lv_lstore (lv' := [(5, .long x_206), (0, .ref h0), (1, .long p0), (3, .long p1), (7, .long ct), (9, .int mo), (10, .int pr), (11, .int fi), (12, .int kk)]) hx hb d_Mo_plan_207 hl (by decide) rfl (fun ls hl => ?_)
                  refine lv_lload hx hb d_Mo_plan_209 (lv_at hl 4 rfl) ?_
                  refine lv_aload_n hx hb d_Mo_plan_211 rfl (lv_at hl 1 rfl) ?_
                  refine va_get (D := (dC, dI)) (ci := 6) (v := .ref b4) (C := R_Mo) (T := F_Mo) (N := 19) hx hb hB inC_Mo hown hK hP 1 rfl rfl 15 (by decide) (hB _ kb_242) (fun _ h9 => h9) rfl d_Mo_plan_212 ?_
                  refine lv_iload hx hb d_Mo_plan_215 (lv_at hl 8 rfl) ?_
                  have h_217 : vp_in kk 1440 := vinU h_u.2 h_k c_144 ex_141
                  refine va_lald hx hb hK hP 0 3 rfl rfl h_217 d_Mo_plan_217 ?_
                  refine lv_topl (fun x_217 ex_217 => ?_)
                  refine lv_iload hx hb d_Mo_plan_218 (lv_at hl 6 rfl) ?_
                  refine lv_i2l hx hb d_Mo_plan_220 rfl ?_
                  refine lv_topl (fun x_220 ex_220 => ?_)
                  refine lv_lmul hx hb d_Mo_plan_221 ?_
                  refine lv_topl (fun x_221 ex_221 => ?_)
                  refine lv_ladd hx hb d_Mo_plan_222 ?_
                  refine lv_topl (fun x_222 ex_222 => ?_)
                  refine lv_lstore (lv' := [(7, .long x_222), (5, .long x_206), (0, .ref h0), (1, .long p0), (3, .long p1), (9, .int mo), (10, .int pr), (11, .int fi), (12, .int kk)]) hx hb d_Mo_plan_223 hl (by decide) rfl (fun ls hl => ?_)
                  obtain ⟨x_225, ex_225⟩ : ∃ y : Int32, y = kk + 1 := ⟨_, rfl⟩
                  refine lv_iinc (v := x_225) (lv' := [(12, .int x_225), (7, .long x_222), (5, .long x_206), (0, .ref h0), (1, .long p0), (3, .long p1), (9, .int mo), (10, .int pr), (11, .int fi)]) hx hb d_Mo_plan_225 hl (k := 8) rfl (by rw [ex_225]; rfl) (by decide) rfl (fun ls hl => ?_)
                  refine lv_goto (tgt := 139) hx hb d_Mo_plan_228 (by decide) ?_
                  exact ih.2.2.2 x_206 x_222 mo pr f_196 fi x_225 _ _ _ (h_p) (h_pr) (h_ok) (h_mo) ((pl_s (P := (fun k => pof g1 g2 g3 (nI k) sp.toInt.toNat)) h_p h_q h_k (by omega) (by omega) (by have h8 := c_144; have h7 := i32ge h_k; rw [ex_141, Int64.le_iff_toInt_le, Jvm.Kit.i64_of_i32] at h8; omega) (by have h9 := hw_162; rw [nIc (i32ge h_k)] at h9; exact h9.symm.trans c_167) h_l h_c h_g (lt_v h_m.1 h_l (xb (by omega)) (by rw [← ex_183]; exact c_185)) ef_196 ex_205 ex_206 ex_217 ex_220 ex_221 ex_222 (kkU h_u.2 h_k c_144 ex_141 ex_225).2.1).1) ((pl_s (P := (fun k => pof g1 g2 g3 (nI k) sp.toInt.toNat)) h_p h_q h_k (by omega) (by omega) (by have h8 := c_144; have h7 := i32ge h_k; rw [ex_141, Int64.le_iff_toInt_le, Jvm.Kit.i64_of_i32] at h8; omega) (by have h9 := hw_162; rw [nIc (i32ge h_k)] at h9; exact h9.symm.trans c_167) h_l h_c h_g (lt_v h_m.1 h_l (xb (by omega)) (by rw [← ex_183]; exact c_185)) ef_196 ex_205 ex_206 ex_217 ex_220 ex_221 ex_222 (kkU h_u.2 h_k c_144 ex_141 ex_225).2.1).2.1) ((pl_s (P := (fun k => pof g1 g2 g3 (nI k) sp.toInt.toNat)) h_p h_q h_k (by omega) (by omega) (by have h8 := c_144; have h7 := i32ge h_k; rw [ex_141, Int64.le_iff_toInt_le, Jvm.Kit.i64_of_i32] at h8; omega) (by have h9 := hw_162; rw [nIc (i32ge h_k)] at h9; exact h9.symm.trans c_167) h_l h_c h_g (lt_v h_m.1 h_l (xb (by omega)) (by rw [← ex_183]; exact c_185)) ef_196 ex_205 ex_206 ex_217 ex_220 ex_221 ex_222 (kkU h_u.2 h_k c_144 ex_141 ex_225).2.1).2.2) (h_q) ((kkU h_u.2 h_k c_144 ex_141 ex_225).1) (by have h9 := (kkU h_u.2 h_k c_144 ex_141 ex_225).2; have h8 := c_144; rw [ex_141, Int64.le_iff_toInt_le, Jvm.Kit.i64_of_i32] at h8; omega) (h_f) (by have h9 := (kkU h_u.2 h_k c_144 ex_141 ex_225).2; omega) (hP.sub [1, 2, 3, 4, 0] rfl) (hD.sub [1, 2, 3, 4, 0] (by decide) rfl) hS (lv_sub hl [3, 4, 5, 2, 1, 6, 7, 8, 0] rfl)
              · skip
                refine lv_goto (tgt := 225) hx hb d_Mo_plan_170 (by decide) ?_
                obtain ⟨x_225, ex_225⟩ : ∃ y : Int32, y = kk + 1 := ⟨_, rfl⟩
                refine lv_iinc (v := x_225) (lv' := [(12, .int x_225), (0, .ref h0), (1, .long p0), (3, .long p1), (5, .long lft), (7, .long ct), (9, .int mo), (10, .int pr), (11, .int fi)]) hx hb d_Mo_plan_225 hl (k := 8) rfl (by rw [ex_225]; rfl) (by decide) rfl (fun ls hl => ?_)
                refine lv_goto (tgt := 139) hx hb d_Mo_plan_228 (by decide) ?_
                exact ih.2.2.2 lft ct mo pr gx fi x_225 _ _ _ (h_p) (h_pr) (h_ok) (h_mo) ((pl_n h_k h_l h_c h_g (show ¬ (fun k => pof g1 g2 g3 (nI k) sp.toInt.toNat) kk.toInt.toNat = pr from fun h => c_167 (hw_162.trans (by rw [nIc (i32ge h_k)]; exact h))) (kkU h_u.2 h_k c_144 ex_141 ex_225).2.1).1) ((pl_n h_k h_l h_c h_g (show ¬ (fun k => pof g1 g2 g3 (nI k) sp.toInt.toNat) kk.toInt.toNat = pr from fun h => c_167 (hw_162.trans (by rw [nIc (i32ge h_k)]; exact h))) (kkU h_u.2 h_k c_144 ex_141 ex_225).2.1).2.1) ((pl_n h_k h_l h_c h_g (show ¬ (fun k => pof g1 g2 g3 (nI k) sp.toInt.toNat) kk.toInt.toNat = pr from fun h => c_167 (hw_162.trans (by rw [nIc (i32ge h_k)]; exact h))) (kkU h_u.2 h_k c_144 ex_141 ex_225).2.1).2.2) (h_q) ((kkU h_u.2 h_k c_144 ex_141 ex_225).1) (by have h9 := (kkU h_u.2 h_k c_144 ex_141 ex_225).2; have h8 := c_144; rw [ex_141, Int64.le_iff_toInt_le, Jvm.Kit.i64_of_i32] at h8; omega) (h_f) (by have h9 := (kkU h_u.2 h_k c_144 ex_141 ex_225).2; omega) (hP.sub [1, 2, 3, 4, 0] rfl) (hD.sub [1, 2, 3, 4, 0] (by decide) rfl) hS (lv_sub hl [1, 2, 3, 4, 5, 6, 7, 8, 0] rfl)
  refine lv_aload_n hx hb d_Mo_plan_0 rfl (lv_at hl 0 rfl) ?_
  refine lv_iconst (v := 0) hx hb d_Mo_plan_1 (by decide) ?_
  refine va_put (D := (dC, dI)) (ci := 6) (v := .int 0) (ty := .int) (C := R_Mo) (T := F_Mo) (N := 19) hx hb hB inC_Mo t_Mo t_Mo_ok n_Mo hown hK hP hD hS 0 rfl rfl 0 (by decide) (hB _ kb_245) (fun _ h9 => h9) rfl (by decide +kernel) rfl rfl (Nat.le_of_ble_eq_true rfl) d_Mo_plan_2 (fun H locs hP hD hS => ?_)
  have hP : va_P (dC, dI) classes [(h0, .inr (6, [.int 0, .int pi, .int sh, .int lo, .int ph, .int di, .long lm, .long en, .long la, .long cu, .long nw, .int sp, .ref b1, .ref b2, .ref b3, .ref b4, .long lk, .int cs, .ref b5])), (b1, .inl (i1, 20, .inl g1)), (b2, .inl (i2, 20, .inl g2)), (b3, .inl (i3, 20, .inl g3)), (b4, .inl (i4, 1440, .inr (.inl g4)))] H := hP
  have hD : va_D A [(h0, .inr (6, [.int 0, .int pi, .int sh, .int lo, .int ph, .int di, .long lm, .long en, .long la, .long cu, .long nw, .int sp, .ref b1, .ref b2, .ref b3, .ref b4, .long lk, .int cs, .ref b5])), (b1, .inl (i1, 20, .inl g1)), (b2, .inl (i2, 20, .inl g2)), (b3, .inl (i3, 20, .inl g3)), (b4, .inl (i4, 1440, .inr (.inl g4)))] := hD
  refine lv_lload_n hx hb d_Mo_plan_5 rfl (lv_at hl 1 rfl) ?_
  refine lv_lconst (v := 0) hx hb d_Mo_plan_6 (by decide) ?_
  refine W.lcmp hx hb d_Mo_plan_7 ?_
  refine lv_if_lt (tgt := 33) hx hb d_Mo_plan_8 (by decide) (fun c_8 => ?_) (fun c_8 => ?_)
  · have c_8 := (lg_cmp_lt _ _).mp c_8
    refine lv_bipush (v := (-2)) hx hb d_Mo_plan_33 (by decide) ?_
    have hP9 := hP.sub (ws' := [(h0, .inr (6, [.int 0, .int pi, .int sh, .int lo, .int ph, .int di, .long lm, .long en, .long la, .long cu, .long nw, .int sp, .ref b1, .ref b2, .ref b3, .ref b4, .long lk, .int cs, .ref b5])), (b1, .inl (i1, 20, .inl g1)), (b2, .inl (i2, 20, .inl g2)), (b3, .inl (i3, 20, .inl g3)), (b4, .inl (i4, 1440, .inr (.inl g4)))]) [0, 1, 2, 3, 4] rfl
    have hD9 := hD.sub (ws' := [(h0, .inr (6, [.int 0, .int pi, .int sh, .int lo, .int ph, .int di, .long lm, .long en, .long la, .long cu, .long nw, .int sp, .ref b1, .ref b2, .ref b3, .ref b4, .long lk, .int cs, .ref b5])), (b1, .inl (i1, 20, .inl g1)), (b2, .inl (i2, 20, .inl g2)), (b3, .inl (i3, 20, .inl g3)), (b4, .inl (i4, 1440, .inr (.inl g4)))]) [0, 1, 2, 3, 4] (by decide) rfl
    have hK9 := hK.sub (tys' := [(i1, .int), (i2, .int), (i3, .int), (i4, .long)]) [0, 1, 2, 3] rfl
    exact W.iret (v := (-2)) hx hb hr (fun t ht hW => ⟨⟨(-2), (0, lk, g4), rfl, ⟨fun _ => ⟨rfl, rfl, rfl⟩, fun h => absurd h.1.1 (Int64.not_le.mpr c_8)⟩, by rw [ht]; exact hP9, va_K.moved hW.alike hK9, hD9⟩, hS.F ht⟩) hS.2.2 d_Mo_plan_35
  · have c_8 := mt (lg_cmp_lt _ _).mpr c_8
    refine lv_lload_n hx hb d_Mo_plan_11 rfl (lv_at hl 1 rfl) ?_
    refine lv_ldc2 (v := 1000000) hx hb hown (hB _ kb_276) d_Mo_plan_12 ?_
    refine W.lcmp hx hb d_Mo_plan_15 ?_
    refine lv_if_gt (tgt := 33) hx hb d_Mo_plan_16 (by decide) (fun c_16 => ?_) (fun c_16 => ?_)
    · have c_16 := (lg_cmp_gt _ _).mp c_16
      refine lv_bipush (v := (-2)) hx hb d_Mo_plan_33 (by decide) ?_
      have hP9 := hP.sub (ws' := [(h0, .inr (6, [.int 0, .int pi, .int sh, .int lo, .int ph, .int di, .long lm, .long en, .long la, .long cu, .long nw, .int sp, .ref b1, .ref b2, .ref b3, .ref b4, .long lk, .int cs, .ref b5])), (b1, .inl (i1, 20, .inl g1)), (b2, .inl (i2, 20, .inl g2)), (b3, .inl (i3, 20, .inl g3)), (b4, .inl (i4, 1440, .inr (.inl g4)))]) [0, 1, 2, 3, 4] rfl
      have hD9 := hD.sub (ws' := [(h0, .inr (6, [.int 0, .int pi, .int sh, .int lo, .int ph, .int di, .long lm, .long en, .long la, .long cu, .long nw, .int sp, .ref b1, .ref b2, .ref b3, .ref b4, .long lk, .int cs, .ref b5])), (b1, .inl (i1, 20, .inl g1)), (b2, .inl (i2, 20, .inl g2)), (b3, .inl (i3, 20, .inl g3)), (b4, .inl (i4, 1440, .inr (.inl g4)))]) [0, 1, 2, 3, 4] (by decide) rfl
      have hK9 := hK.sub (tys' := [(i1, .int), (i2, .int), (i3, .int), (i4, .long)]) [0, 1, 2, 3] rfl
      exact W.iret (v := (-2)) hx hb hr (fun t ht hW => ⟨⟨(-2), (0, lk, g4), rfl, ⟨fun _ => ⟨rfl, rfl, rfl⟩, fun h => absurd h.1.2 (Int64.not_le.mpr c_16)⟩, by rw [ht]; exact hP9, va_K.moved hW.alike hK9, hD9⟩, hS.F ht⟩) hS.2.2 d_Mo_plan_35
    · have c_16 := mt (lg_cmp_gt _ _).mpr c_16
      refine lv_lload_n hx hb d_Mo_plan_19 rfl (lv_at hl 2 rfl) ?_
      refine lv_lconst (v := 0) hx hb d_Mo_plan_20 (by decide) ?_
      refine W.lcmp hx hb d_Mo_plan_21 ?_
      refine lv_if_lt (tgt := 33) hx hb d_Mo_plan_22 (by decide) (fun c_22 => ?_) (fun c_22 => ?_)
      · have c_22 := (lg_cmp_lt _ _).mp c_22
        refine lv_bipush (v := (-2)) hx hb d_Mo_plan_33 (by decide) ?_
        have hP9 := hP.sub (ws' := [(h0, .inr (6, [.int 0, .int pi, .int sh, .int lo, .int ph, .int di, .long lm, .long en, .long la, .long cu, .long nw, .int sp, .ref b1, .ref b2, .ref b3, .ref b4, .long lk, .int cs, .ref b5])), (b1, .inl (i1, 20, .inl g1)), (b2, .inl (i2, 20, .inl g2)), (b3, .inl (i3, 20, .inl g3)), (b4, .inl (i4, 1440, .inr (.inl g4)))]) [0, 1, 2, 3, 4] rfl
        have hD9 := hD.sub (ws' := [(h0, .inr (6, [.int 0, .int pi, .int sh, .int lo, .int ph, .int di, .long lm, .long en, .long la, .long cu, .long nw, .int sp, .ref b1, .ref b2, .ref b3, .ref b4, .long lk, .int cs, .ref b5])), (b1, .inl (i1, 20, .inl g1)), (b2, .inl (i2, 20, .inl g2)), (b3, .inl (i3, 20, .inl g3)), (b4, .inl (i4, 1440, .inr (.inl g4)))]) [0, 1, 2, 3, 4] (by decide) rfl
        have hK9 := hK.sub (tys' := [(i1, .int), (i2, .int), (i3, .int), (i4, .long)]) [0, 1, 2, 3] rfl
        exact W.iret (v := (-2)) hx hb hr (fun t ht hW => ⟨⟨(-2), (0, lk, g4), rfl, ⟨fun _ => ⟨rfl, rfl, rfl⟩, fun h => absurd h.2.1 (Int64.not_le.mpr c_22)⟩, by rw [ht]; exact hP9, va_K.moved hW.alike hK9, hD9⟩, hS.F ht⟩) hS.2.2 d_Mo_plan_35
      · have c_22 := mt (lg_cmp_lt _ _).mpr c_22
        refine lv_lload_n hx hb d_Mo_plan_25 rfl (lv_at hl 2 rfl) ?_
        refine lv_ldc2 (v := 1440) hx hb hown (hB _ kb_293) d_Mo_plan_26 ?_
        refine W.lcmp hx hb d_Mo_plan_29 ?_
        refine lv_if_le (tgt := 36) hx hb d_Mo_plan_30 (by decide) (fun c_30 => ?_) (fun c_30 => ?_)
        · have c_30 := (lg_cmp_le _ _).mp c_30
          refine lv_iconst (v := 0) hx hb d_Mo_plan_36 (by decide) ?_
          refine lv_istore (lv' := [(5, .int 0), (0, .ref h0), (1, .long p0), (3, .long p1)]) hx hb d_Mo_plan_37 hl (by decide) rfl (fun ls hl => ?_)
          exact (cut 100001441).1 0 g4 _ _ _ (le0) (⟨⟨Int64.not_lt.mp c_8, Int64.not_lt.mp c_16⟩, Int64.not_lt.mp c_22, c_30⟩) (by intro c hc; have h8 : (0 : Int32).toInt = 0 := (by decide); omega) (by decide) (hP.sub [0, 1, 2, 3, 4] rfl) (hD.sub [0, 1, 2, 3, 4] (by decide) rfl) hS (lv_sub hl [1, 2, 3, 0] rfl)
        · have c_30 := mt (lg_cmp_le _ _).mpr c_30
          refine lv_bipush (v := (-2)) hx hb d_Mo_plan_33 (by decide) ?_
          have hP9 := hP.sub (ws' := [(h0, .inr (6, [.int 0, .int pi, .int sh, .int lo, .int ph, .int di, .long lm, .long en, .long la, .long cu, .long nw, .int sp, .ref b1, .ref b2, .ref b3, .ref b4, .long lk, .int cs, .ref b5])), (b1, .inl (i1, 20, .inl g1)), (b2, .inl (i2, 20, .inl g2)), (b3, .inl (i3, 20, .inl g3)), (b4, .inl (i4, 1440, .inr (.inl g4)))]) [0, 1, 2, 3, 4] rfl
          have hD9 := hD.sub (ws' := [(h0, .inr (6, [.int 0, .int pi, .int sh, .int lo, .int ph, .int di, .long lm, .long en, .long la, .long cu, .long nw, .int sp, .ref b1, .ref b2, .ref b3, .ref b4, .long lk, .int cs, .ref b5])), (b1, .inl (i1, 20, .inl g1)), (b2, .inl (i2, 20, .inl g2)), (b3, .inl (i3, 20, .inl g3)), (b4, .inl (i4, 1440, .inr (.inl g4)))]) [0, 1, 2, 3, 4] (by decide) rfl
          have hK9 := hK.sub (tys' := [(i1, .int), (i2, .int), (i3, .int), (i4, .long)]) [0, 1, 2, 3] rfl
          exact W.iret (v := (-2)) hx hb hr (fun t ht hW => ⟨⟨(-2), (0, lk, g4), rfl, ⟨fun _ => ⟨rfl, rfl, rfl⟩, fun h => absurd h.2.2 c_30⟩, by rw [ht]; exact hP9, va_K.moved hW.alike hK9, hD9⟩, hS.F ht⟩) hS.2.2 d_Mo_plan_35
