-- what every contract's start and end say, and the rows of a call
def nst (U : State) : Prop := ∀ w ∈ NEST, va_Nw w U
def nestOk : Cond → Bool
  | .fieldLinkNest .. => true
  | .methodLinkNest .. => true
  | _ => false
theorem NEST_ok : ∀ w ∈ NEST, nestOk w = true := by decide +kernel
theorem NEST_on : ∀ w ∈ NEST, w.onTables = true := by decide +kernel
theorem nst.warm {s U : State} (hW : s.WarmedH U.vm) (h : nst s) : nst U := by
  intro w hw
  have h1 := NEST_ok w hw
  have h2 := h w hw
  cases w <;> first | exact va_Nw.warmF hW h2 | exact va_Nw.warmM hW h2 | exact absurd h1 Bool.false_ne_true
theorem nst.same {s U : State} (e : s.vm = U.vm) (h : nst s) : nst U := fun w hw => va_Nw.same (NEST_on w hw) e (h w hw)
theorem bigGood : ∀ w ∈ BIG, goodWord w = true := by decide +kernel
theorem gin {x y : Cond} (hy : y ∈ BIG) : GoodIn (x :: BIG) (y :: BIG) := by
  intro w hw
  rcases List.mem_cons.mp hw with h | h
  · subst h; exact ⟨List.mem_cons_of_mem _ hy, good_of_word (bigGood _ hy)⟩
  · exact ⟨List.mem_cons_of_mem _ h, good_of_word (bigGood _ h)⟩
theorem ginC {x a : Cond} {l : List Cond} (ha : a ∈ BIG) (h : GoodIn (x :: BIG) l) : GoodIn (x :: BIG) (a :: l) := by
  intro w hw
  rcases List.mem_cons.mp hw with h1 | h1
  · subst h1; exact ⟨List.mem_cons_of_mem _ ha, good_of_word (bigGood _ ha)⟩
  · exact h w h1
theorem ginS {x cd : Cond} {own : String} {idx : Nat} {y : MethodName} (h1 : Cond.methodLink own idx y ∈ BIG) (h2 : Cond.static y ∈ BIG) (h3 : Cond.initialized own ∈ BIG) (hc : cd ∈ BIG) : GoodIn (x :: BIG) (wsS own idx y (cd :: BIG)) := ginC h1 (ginC h2 (ginC h3 (gin hc)))
theorem ginV {x cd : Cond} {own C : String} {idx : Nat} {y : MethodName} (h1 : Cond.methodLink own idx y ∈ BIG) (h2 : Cond.instanceMethod y ∈ BIG) (h3 : Cond.selects C y y ∈ BIG) (h4 : Cond.initialized C ∈ BIG) (hc : cd ∈ BIG) : GoodIn (x :: BIG) (wsV own idx C y (cd :: BIG)) := ginC h1 (ginC h2 (ginC h3 (ginC h4 (gin hc))))
theorem big_of {x : Cond} {args : Array Value} {s : State} (hts : ∀ w ∈ x :: BIG, w.before args s = true) : ∀ w ∈ BIG, w.before args s = true := fun w h => hts w (List.mem_cons_of_mem _ h)
def cPre (dC : Nat → ClassId) (dI : Nat → Nat → Nat) (av : List Value) (sz : Nat) (tys : List (ClassId × FieldType)) (ws : va_W) : Array Value → State → Prop := va_Pc av (fun U => U.heap.size = sz ∧ nst U ∧ va_P (dC, dI) classes ws U.heap ∧ va_K (dC, dI) classes tys U ∧ va_D (fun _ => True) ws)
abbrev cB (dC : Nat → ClassId) (dI : Nat → Nat → Nat) (A : Nat → Prop) (tys : List (ClassId × FieldType)) (ws : va_W) (t : State) : Prop := va_P (dC, dI) classes ws t.heap ∧ va_K (dC, dI) classes tys t ∧ va_D A ws
theorem cPre_fb {dC : Nat → ClassId} {dI : Nat → Nat → Nat} {av : List Value} {sz : Nat} {tys : List (ClassId × FieldType)} {ws : va_W} : FrameBlind (cPre dC dI av sz tys ws) := fun a U g mk q => by
  obtain ⟨q0, q1, qN, qP, qK, qD⟩ := q
  exact ⟨q0, q1, nst.same (s := U) (U := U.calling g mk a) rfl qN, qP, va_K.moved (u := U) (U := U.calling g mk a) (Vm.Alike.refl U.vm) qK, qD⟩
section
variable {s : State} {H : Heap} {dC : Nat → ClassId} {dI : Nat → Nat → Nat} {A0 : Nat → Prop} {tys tysC : List (ClassId × FieldType)} {ws wc : va_W} {av As : List Value}
theorem preS (hK : va_K (dC, dI) classes tys s) (hN : nst s) (hP : va_P (dC, dI) classes ws H) (hD : va_D A0 ws) (isC : List Nat) (h1 : isC.filterMap (fun i => ws[i]?) = wc) (h2 : isC.map (fun i => ws[i]?) = wc.map some) (h3 : va_nd isC = true) (tj : List Nat) (h4 : tj.filterMap (fun i => tys[i]?) = tysC) : PreS s H (cPre dC dI av H.size tysC wc) av :=
  ⟨cPre_fb, fun U hU hW => ⟨rfl, by rw [hU], hN.warm hW, by rw [hU]; exact hP.sub isC h1, va_K.moved hW.alike (hK.sub tj h4), (hD.sub isC h3 h2).weaken (fun _ _ _ _ => trivial)⟩⟩
theorem preV {ci b : Nat} {C : String} {T : u_T} {N : Nat} {fs : List Value} (hK : va_K (dC, dI) classes tys s) (hN : nst s) (hP : va_P (dC, dI) classes ws H) (hD : va_D A0 ws) (isC : List Nat) (h1 : isC.filterMap (fun i => ws[i]?) = wc) (h2 : isC.map (fun i => ws[i]?) = wc.map some) (h3 : va_nd isC = true) (tj : List Nat) (h4 : tj.filterMap (fun i => tys[i]?) = tysC) (hc : classes[ci]? = some (C, T, N)) (he : wc[0]? = some (b, .inr (ci, fs))) : PreV s H C b (cPre dC dI (.ref b :: As) H.size tysC wc) As :=
  ⟨cPre_fb, va_recv (q := (C, T, N)) hK (hP.sub isC h1) hc he, (preS (av := .ref b :: As) hK hN hP hD isC h1 h2 h3 tj h4).2⟩
end
section
variable {p : Program} {l : Launch} {e : Env} {R : Room} {s : State} {m : MethodId} {args : Array Value} {below : List Frame} {meth : Method} {c : Code} {H : Heap} {locs : List Loc} {cells slots : Nat} {Q : State → Prop}
variable {pc : Nat} {ls : Array Slot} {rest st0 : List Value} {a : Array Value} {A0 : Nat → Prop} {H0 : Heap} {mc ms : Nat} {dC : Nat → ClassId} {dI : Nat → Nat → Nat} {ws wc wr : va_W}
theorem kc_i {S : Type} {post : Int32 → S → Prop} {w1 : S → va_W} {ty1 : S → List (ClassId × FieldType)} (hr : va_Run p l e R s m args below meth c H locs cells slots mc ms (F0 m pc ls st0) rest (va_Qi post (fun u t => cB dC dI (va_A wc H.size) (ty1 u) (w1 u) t) (va_A wc H.size) a) (va_A wc H.size))
    (hP : va_P (dC, dI) classes ws H) (hD : va_D A0 ws) (hS : va_S A0 H0 H locs) (hA : ∀ q, H0.size ≤ q → A0 q) (isC isR : List Nat) (hC : isC.map (fun i => ws[i]?) = wc.map some) (hR : isR.map (fun i => ws[i]?) = wr.map some) (hn : va_nd isR = true) (hdis : ∀ i ∈ isR, i ∉ isC)
    (kk : ∀ (r : Int32) (u : S) (H1 : Heap) (locs1 : List Loc), post r u → va_P (dC, dI) classes (wr ++ w1 u) H1 → va_D A0 (wr ++ w1 u) → va_K (dC, dI) classes (ty1 u) s → va_S A0 H0 H1 locs1 → W p l e R s m args below meth c H1 locs1 (cells + mc) (slots + ms) Q (F0 m (pc + 3) ls (.int r :: rest))) : W p l e R s m args below meth c H locs cells slots Q (F0 m pc ls st0) := by
  have hF := va_free hD hS hA isC hC
  refine va_calli hr hS (fun q _ h => hF q h) hF (fun r u t H1 locs1 ht hvm hw hB hz hk hS1 => ?_)
  obtain ⟨hP1, hK1, hD1⟩ := hB
  rw [ht] at hP1
  obtain ⟨hP2, hD2⟩ := va_join hP hD isC isR hC hR hn hdis hk hF hP1 hD1
  exact kk r u H1 locs1 hw hP2 hD2 (va_K.moved hvm.symm hK1) hS1
theorem kc_l {S : Type} {post : Int64 → S → Prop} {w1 : S → va_W} {ty1 : S → List (ClassId × FieldType)} (hr : va_Run p l e R s m args below meth c H locs cells slots mc ms (F0 m pc ls st0) rest (va_Ql post (fun u t => cB dC dI (va_A wc H.size) (ty1 u) (w1 u) t) (va_A wc H.size) a) (va_A wc H.size))
    (hP : va_P (dC, dI) classes ws H) (hD : va_D A0 ws) (hS : va_S A0 H0 H locs) (hA : ∀ q, H0.size ≤ q → A0 q) (isC isR : List Nat) (hC : isC.map (fun i => ws[i]?) = wc.map some) (hR : isR.map (fun i => ws[i]?) = wr.map some) (hn : va_nd isR = true) (hdis : ∀ i ∈ isR, i ∉ isC)
    (kk : ∀ (r : Int64) (u : S) (H1 : Heap) (locs1 : List Loc), post r u → va_P (dC, dI) classes (wr ++ w1 u) H1 → va_D A0 (wr ++ w1 u) → va_K (dC, dI) classes (ty1 u) s → va_S A0 H0 H1 locs1 → W p l e R s m args below meth c H1 locs1 (cells + mc) (slots + ms) Q (F0 m (pc + 3) ls (.long r :: rest))) : W p l e R s m args below meth c H locs cells slots Q (F0 m pc ls st0) := by
  have hF := va_free hD hS hA isC hC
  refine va_calll hr hS (fun q _ h => hF q h) hF (fun r u t H1 locs1 ht hvm hw hB hz hk hS1 => ?_)
  obtain ⟨hP1, hK1, hD1⟩ := hB
  rw [ht] at hP1
  obtain ⟨hP2, hD2⟩ := va_join hP hD isC isR hC hR hn hdis hk hF hP1 hD1
  exact kk r u H1 locs1 hw hP2 hD2 (va_K.moved hvm.symm hK1) hS1
theorem kc_v {S : Type} {post : S → Prop} {w1 : S → va_W} {ty1 : S → List (ClassId × FieldType)} (hr : va_Run p l e R s m args below meth c H locs cells slots mc ms (F0 m pc ls st0) rest (va_Qv post (fun u t => cB dC dI (va_A wc H.size) (ty1 u) (w1 u) t) (va_A wc H.size) a) (va_A wc H.size))
    (hP : va_P (dC, dI) classes ws H) (hD : va_D A0 ws) (hS : va_S A0 H0 H locs) (hA : ∀ q, H0.size ≤ q → A0 q) (isC isR : List Nat) (hC : isC.map (fun i => ws[i]?) = wc.map some) (hR : isR.map (fun i => ws[i]?) = wr.map some) (hn : va_nd isR = true) (hdis : ∀ i ∈ isR, i ∉ isC)
    (kk : ∀ (u : S) (H1 : Heap) (locs1 : List Loc), post u → va_P (dC, dI) classes (wr ++ w1 u) H1 → va_D A0 (wr ++ w1 u) → va_K (dC, dI) classes (ty1 u) s → va_S A0 H0 H1 locs1 → W p l e R s m args below meth c H1 locs1 (cells + mc) (slots + ms) Q (F0 m (pc + 3) ls rest)) : W p l e R s m args below meth c H locs cells slots Q (F0 m pc ls st0) := by
  have hF := va_free hD hS hA isC hC
  refine va_callv hr hS (fun q _ h => hF q h) hF (fun u t H1 locs1 ht hvm hw hB hz hk hS1 => ?_)
  obtain ⟨hP1, hK1, hD1⟩ := hB
  rw [ht] at hP1
  obtain ⟨hP2, hD2⟩ := va_join hP hD isC isR hC hR hn hdis hk hF hP1 hD1
  exact kk u H1 locs1 hw hP2 hD2 (va_K.moved hvm.symm hK1) hS1
end
def bi (P : Prop) [Decidable P] : Int32 := if P then 1 else 0
theorem bi_t {P : Prop} [Decidable P] (h : P) : bi P = 1 := if_pos h
theorem bi_f {P : Prop} [Decidable P] (h : ¬ P) : bi P = 0 := if_neg h
theorem bi_n {P : Prop} [Decidable P] (h : bi P = 0) : ¬ P := fun q => by rw [bi_t q] at h; exact absurd h (by decide)
theorem bi_y {P : Prop} [Decidable P] {r : Int32} (h : r = bi P) (c : ¬ r = 0) : P := Decidable.byContradiction fun q => c (h.trans (bi_f q))
theorem nar_bi {P : Prop} [Decidable P] {r : Int32} (h : r = bi P) : narrow .boolean (.int r) = .int r := by
  rw [h]; unfold bi; split <;> rfl
theorem nar_b {x : Int32} (h : x = 0 ∨ x = 1) : narrow .boolean (.int x) = .int x := by rcases h with rfl | rfl <;> rfl
theorem fit_b {x : Int32} (h : x = 0 ∨ x = 1) : fits .boolean (.int x) = true := by rcases h with rfl | rfl <;> rfl
theorem swx (lo hi : Int) (x : Int32) : (x.toInt < lo ∨ hi < x.toInt) ∨ (lo ≤ x.toInt ∧ x.toInt ≤ hi) := by omega

