-- a throw that leaves X.share, and its catch in the law's own share
def OWN : List Cond := Bundle.ownAtoms "ChargeTalk" 158 "java/lang/ArithmeticException" ["java/lang/RuntimeException", "java/lang/Exception"]
def OWN4 : List Cond := [.laysStatic Bundle.tN "UNASSIGNED_STACK" Bundle.steD, .laysStatic Bundle.tN "SUPPRESSED_SENTINEL" Bundle.listD, .isRef (.static Bundle.tN "UNASSIGNED_STACK" Bundle.steD), .isRef (.static Bundle.tN "SUPPRESSED_SENTINEL" Bundle.listD)]
theorem OWN_face : ∀ w ∈ OWN, w.keepsFace = true := by decide +kernel
theorem OWN_split : ∀ w ∈ OWN, w.onTables = true ∨ w ∈ OWN4 := by decide +kernel
theorem xw_lays {a0 args : Array Value} {s0 U : State} (hk : ∀ (q : Nat) (cell : Cell), s0.heap[q]? = some cell → cell.vm.isStatics = true → U.heap[q]? = some cell) {C n d : String} (h : (Cond.laysStatic C n d).before a0 (s0.setVm U.vm) = true) : (Cond.laysStatic C n d).before args U = true := by
  obtain ⟨c, k, i, f, a, cell, h1, h2, h3, h4, h5, h6, h7, h8, h9⟩ := Cond.laysStatic_spec h
  have h1' : U.vm.findClass C = some c := h1
  have h2' : U.fieldFound? C n d = some (c, k, i, f) := h2
  have h5' : U.heap[a]? = some cell := hk a cell h5 h6
  simp [Cond.before, Cond.holds, Cond.value, h1', h2', h4, h5', h3, h6, h7, h8, h9]
theorem xw_ref {a0 args : Array Value} {s0 U : State} (hk : ∀ (q : Nat) (cell : Cell), s0.heap[q]? = some cell → cell.vm.isStatics = true → U.heap[q]? = some cell) {C n d : String} (h : (Cond.isRef (.static C n d)).before a0 (s0.setVm U.vm) = true) : (Cond.isRef (.static C n d)).before args U = true := by
  have e0 : (s0.setVm U.vm).fieldNamed? C n d true = U.fieldNamed? C n d true := rfl
  have e1 : (s0.setVm U.vm).heap = s0.heap := rfl
  simp only [Cond.before, Cond.holds, Cond.value, Term.eval, e0, e1] at h ⊢
  cases hf : U.fieldNamed? C n d true with
  | none => simp [hf] at h
  | some x =>
    obtain ⟨c, k, sl⟩ := x
    cases hs : k.statics with
    | none => simp [hf, hs] at h
    | some a =>
      cases hc : s0.heap[a]? with
      | none => simp [hf, hs, hc] at h
      | some cell =>
        cases hi : cell.vm.isStatics with
        | false => simp [hf, hs, hc, hi] at h
        | true =>
          have h5 := hk a cell hc hi
          simp [hf, hs, hc, hi, h5] at h ⊢
          exact h
/-- what the throw needs of the machine: words that held at a state s0, whose statics are still there -/
def thr (sa : Nat) (U : State) : Prop := ∃ (s0 : State) (a0 : Array Value), (∀ w ∈ OWN, w.before a0 s0 = true) ∧ vk_R "ChargeTalk" 156 "all weights are 0" sa s0 ∧ s0.WarmedH U.vm ∧ ∀ (q : Nat) (cell : Cell), s0.heap[q]? = some cell → cell.vm.isStatics = true → U.heap[q]? = some cell
theorem thr.own {sa : Nat} {U : State} (h : thr sa U) (args : Array Value) : ∀ w ∈ OWN, w.before args U = true := by
  obtain ⟨s0, a0, hw, -, hW, hk⟩ := h
  intro w hm
  have h1 : w.before a0 (s0.setVm U.vm) = true := Cond.before_shiftedFace (State.Shifted.of_warmed hW) w (OWN_face w hm) (hw w hm)
  rcases OWN_split w hm with ht | h4
  · exact va_tabs (u := s0.setVm U.vm) ht rfl h1
  · simp only [OWN4, List.mem_cons, List.not_mem_nil, or_false] at h4
    rcases h4 with rfl | rfl | rfl | rfl
    · exact xw_lays hk h1
    · exact xw_lays hk h1
    · exact xw_ref hk h1
    · exact xw_ref hk h1
theorem thr.str {sa : Nat} {U : State} (h : thr sa U) : vk_R "ChargeTalk" 156 "all weights are 0" sa U := by
  obtain ⟨s0, a0, -, hs, hW, -⟩ := h
  exact vk_R.warm hW hs
theorem thr.call {sa : Nat} {s U : State} {H : Heap} {A : Nat → Prop} {locs : List Loc} (h : thr sa s) (hU : U.heap = H) (hW : s.WarmedH U.vm) (hS : va_S A s.heap H locs) (hns : ∀ (q : Nat) (cell : Cell), s.heap[q]? = some cell → A q → cell.vm.isStatics = false) : thr sa U := by
  obtain ⟨s0, a0, hw, hs, hW0, hk⟩ := h
  refine ⟨s0, a0, hw, hs, State.WarmedH.trans hW0 hW, fun q cell h1 h2 => ?_⟩
  have h3 := hk q cell h1 h2
  rw [hU, hS.2.1 q (Array.getElem?_eq_some_iff.mp h3).1 (fun hA => by rw [hns q cell h3 hA] at h2; cases h2)]
  exact h3
theorem ns_of {D : va_G} {cl : List vw_C} {ws : va_W} {H0 : Heap} (hP : va_P D cl ws H0) : ∀ (q : Nat) (cell : Cell), H0[q]? = some cell → va_A ws H0.size q → cell.vm.isStatics = false := by
  intro q cell hc hA
  rcases hA with ⟨k, e, hk⟩ | hge
  · have h1 := hP k _ hk
    cases e with
    | inl a =>
      have h2 : H0[q]? = some (vp_cell a.1 a.2) := h1
      cases hc.symm.trans h2
      obtain ⟨cA, n, f⟩ := a
      rcases f with f | f | f | f | f <;> rfl
    | inr o =>
      obtain ⟨r, -, cell', g1, -, g2, -⟩ := h1
      have g1' : H0[q]? = some cell' := g1
      cases hc.symm.trans g1'
      rw [g2]; rfl
  · exact absurd (Array.getElem?_eq_some_iff.mp hc).1 (Nat.not_lt.mpr hge)
/-- a call that throws: nothing old is written -/
def xT (mc ms : Nat) : Array Value → State → Outcome → State → Prop := fun _ st o t => ∃ (q : Addr) (ce : Cell), o = .threw q ∧ t.heap[q]? = some ce ∧ ce.vm = .none ∧ st.vm.findClass "java/lang/ArithmeticException" = some ce.cls ∧ st.WarmedH t.vm ∧ st.sameButNew ({ t with vm := st.vm } : State) [] mc ms
def xTQ (below : List Frame) (args : Array Value) (s : State) (mc ms : Nat) : State → Prop := fun t => ∃ o, t.status = .running ∧ Ended t below o ∧ xT mc ms args s o t
theorem xT_ofW {l : Launch} {y : MethodName} {ws ws' : List Cond} {rm : Room} {Pc : Array Value → State → Prop} {mc ms : Nat} {cc : ByteArray} {maxL : Nat} {ret : Option FieldType}
    (hy : plainName y.cls = true) (hw : ws = Cond.code y cc maxL ret :: ws')
    (body : ∀ p e s m args below meth c s₁, BodyLoose p l y (headSpec ws rm) cc maxL ret e s m args below meth c s₁ → c.maxLocals = maxL → c.exceptionTable.isEmpty = true → Pc args s →
      W p l e (headSpec ws rm).room s m args below meth c s.heap [] 0 0 (xTQ below args s mc ms) (entryFrame m args maxL)) : MetFree l y (headSpec ws rm) Pc (fun _ _ _ _ _ => True) (xT mc ms) := by
  refine MetFree.of_bodyS (code := cc) (maxLocals := maxL) (ret := ret) hy ?_ ?_
  · intro args s m h hn
    obtain ⟨meth, c, h1, h2, h3, h4, h5, h6, -, -⟩ := Cond.code_spec hn (atoms_spec (ws := ws) h _ (by rw [hw]; exact List.mem_cons_self))
    exact ⟨meth, c, h1, h2, h3, h4, h5, h6⟩
  · intro p e s m args below meth c s₁ B hml hP _
    have hh0 : s₁.heap = s.heap := by rw [B.state]; rfl
    have hne : c.exceptionTable.isEmpty = true := B.noHandlers (atoms_spec (ws := ws) B.pre _ (by rw [hw]; exact List.mem_cons_self))
    obtain ⟨t, a1, o, b1, b2, b3⟩ := body p e s m args below meth c s₁ B hml hne hP s₁ hh0 (Stand.of_body B)
    exact ⟨t, o, a1, b1, b2, b3⟩
section
variable {p : Program} {l : Launch} {e : Env} {R : Room} {s : State} {m : MethodId} {args : Array Value} {below : List Frame} {meth : Method} {c : Code} {H : Heap} {locs : List Loc} {cells slots : Nat} {Q : State → Prop}
variable {pc : Nat} {ls : Array Slot} {rest st0 : List Value} {a : Array Value} {A0 : Nat → Prop} {H0 : Heap} {mc ms : Nat} {dC : Nat → ClassId} {dI : Nat → Nat → Nat} {ws wc wr : va_W}
/-- a callee that writes nothing old: the list of written places stays -/
theorem kc0_i {S : Type} {post : Int32 → S → Prop} {w1 : S → va_W} {ty1 : S → List (ClassId × FieldType)} (hr : va_Run p l e R s m args below meth c H locs cells slots mc ms (F0 m pc ls st0) rest (va_Qi post (fun u t => cB dC dI (va_A wc H.size) (ty1 u) (w1 u) t) (va_A wc H.size) a) (fun _ => False))
    (hP : va_P (dC, dI) classes ws H) (hD : va_D A0 ws) (hS : va_S A0 H0 H locs) (hA : ∀ q, H0.size ≤ q → A0 q) (isC isR : List Nat) (hC : isC.map (fun i => ws[i]?) = wc.map some) (hR : isR.map (fun i => ws[i]?) = wr.map some) (hn : va_nd isR = true) (hdis : ∀ i ∈ isR, i ∉ isC)
    (kk : ∀ (r : Int32) (u : S) (H1 : Heap), post r u → va_P (dC, dI) classes (wr ++ w1 u) H1 → va_D A0 (wr ++ w1 u) → va_K (dC, dI) classes (ty1 u) s → va_S A0 H0 H1 locs → W p l e R s m args below meth c H1 locs (cells + mc) (slots + ms) Q (F0 m (pc + 3) ls (.int r :: rest))) : W p l e R s m args below meth c H locs cells slots Q (F0 m pc ls st0) := by
  have hF := va_free hD hS hA isC hC
  intro T hT X
  obtain ⟨v, st₀, t, T', L, h0, X', hL, e1, e2, ⟨⟨r, u, hv, hp, hB⟩, hz, hk⟩, st⟩ := hr T hT X
  have hL0 : L = [] := by
    cases L with
    | nil => rfl
    | cons q L => exact absurd (hL q List.mem_cons_self) id
  subst hL0
  rw [List.append_nil] at X'
  cases hv
  rw [h0] at hz hk
  obtain ⟨hP1, hK1, hD1⟩ := hB
  rw [← e1] at hP1 hz hk
  obtain ⟨hP2, hD2⟩ := va_join hP hD isC isR hC hR hn hdis hk hF hP1 hD1
  have hvm : s.vm.Alike t.vm := by rw [← e2]; exact X'.warmed.alike
  obtain ⟨t2, a1, b1⟩ := kk r u T'.heap hp hP2 hD2 (va_K.moved hvm.symm hK1) ⟨Nat.le_trans hS.1 hz, fun q h1 h2 => by rw [hk q (Nat.lt_of_lt_of_le h1 hS.1) (fun z => h2 (hF q z))]; exact hS.2.1 q h1 h2, hS.2.2⟩ T' rfl X'
  exact ⟨t2, st t2 a1, b1⟩
/-- 'throw new ArithmeticException("..")' at pc 42 of X.share -/
theorem x_throw {cc : ByteArray} {sa : Nat} (hx : p.tables.exec = Jvm.exec) (hb : c.code = cc) (hst : l.stackTraces = false) (hown : s.vm.findClass "ChargeTalk" = some m.cls) (hcl : (Cond.classLink "ChargeTalk" 154 "java/lang/ArithmeticException").before args s = true) (hin : (Cond.instantiable "java/lang/ArithmeticException" 6).before args s = true) (hini : (Cond.initialized "java/lang/ArithmeticException").before args s = true)
    (hth : thr sa s) (hEx : c.exceptionTable.isEmpty = true) (hlocks : meth.locks = false) (hml : ls.size = c.maxLocals) (hsz : s.heap.size ≤ H.size) (hRf : 6 ≤ R.frames) (hRl : 90 ≤ R.locals) (hRc : 1 ≤ R.cells) (hRs : 6 ≤ R.slots)
    (d42 : decode cc 42 = .ok (.new 154, 3)) (d45 : decode cc 45 = .ok (.dup, 1)) (d46 : decode cc 46 = .ok (.ldc 156, 2)) (d48 : decode cc 48 = .ok (.invokespecial 158, 3)) (d51 : decode cc 51 = .ok (.athrow, 1)) :
    W p l e R s m args below meth c H [] 0 0 (xTQ below args s 1 6) (F0 m 42 ls []) := by
  obtain ⟨cX, kX, hfc, hk, -⟩ := Cond.instantiable_spec hin
  have hnil : c.exceptionTable.toList = [] := by
    have h1 : c.exceptionTable = #[] := by simpa using hEx
    rw [h1]
  refine W.newcK hx hb hown hcl hin hini rfl d42 (by omega) (by omega) hfc rfl (fun H1 kC hkC e1 z1 o1 => ?_)
  refine W.eq (g2 := F0 m 45 ls [.ref H.size]) rfl ?_
  refine lv_dup hx hb d45 rfl ?_
  refine va_ldcS hx hb hown hth.str d46 ?_
  intro T hT X
  have htr : e.platform.stackTraces = false := (show e.platform.stackTraces = l.stackTraces by rw [X.admits.platform]).trans hst
  obtain ⟨U, st, hrun, hend, hW, hsame, ce, hce, hO⟩ := X.ctorThrowS hx htr (own := "ChargeTalk") (cls := "java/lang/ArithmeticException") (names := ["java/lang/RuntimeException", "java/lang/Exception"]) (ic := 158) hown (by decide +kernel) (by decide +kernel) (hth.own args) (fun x hx => absurd hx List.not_mem_nil) hfc hkC (a := H.size) (by rw [hT]; exact e1) hsz
    (msg := .ref sa) rfl (g := F0 m 48 ls [.ref sa, .ref H.size, .ref H.size]) rfl hml rfl rfl (rest := []) rfl (by rw [hb]; exact d48) (by rw [hb]; exact d51) (fun x hx => by rw [hnil] at hx; exact absurd hx List.not_mem_nil) (by show 2 + 3 < _; omega) (by show 2 * 0 + 1 + (13 * (2 + 1) + 42) ≤ _; omega) hlocks
  exact ⟨U, st, .threw H.size, hrun, hend, H.size, ce, rfl, hce, hO.vm, hO.cls, hW, hsame⟩
/-- the call of a method that throws, caught by this method's one row -/
theorem x_catch {y : MethodName} {bytes cc : ByteArray} {maxL nL n index : Nat} {ret : Option FieldType} {wsC : List Cond} {rm : Room} {Pc : Array Value → State → Prop} {Ts : List Cond} {own C : String} {b : Addr} {As : List Value}
    (S : CallFix p m c cc nL s args Ts own) (hM : MetFree l y (headSpec wsC rm) Pc (fun _ _ _ _ _ => True) (xT mc ms)) (cw : CallW R s args own C index y bytes maxL ret wsC rm mc ms n) (hp : PreV s H C b Pc As)
    (hn : As.length = n) (hsize : ls.size = nL) (hstack : st0 = As.reverse ++ .ref b :: rest) (hW : (rest.map fun v => v.category).sum ≤ 8) (hdg : decode cc pc = .ok (.invokevirtual index, 3)) (hf : cells + mc ≤ R.cells ∧ slots + ms ≤ R.slots)
    (x : ExceptionTableEntry) (htab : c.exceptionTable.toList = [x]) (hcov : covers x pc = true) (hx0 : x.catchType ≠ 0) (hlink : (Cond.classLink own x.catchType "java/lang/ArithmeticException").before args s = true) (hcast : (Cond.castable "java/lang/ArithmeticException" "java/lang/ArithmeticException").before args s = true)
    (kk : ∀ (q : Addr) (H1 : Heap), H.size ≤ H1.size → (∀ z, z < H.size → H1[z]? = H[z]?) → W p l e R s m args below meth c H1 locs (cells + mc) (slots + ms) Q (F0 m x.handlerPc ls [.ref q])) : W p l e R s m args below meth c H locs cells slots Q (F0 m pc ls st0) := by
  obtain ⟨hx, hb, hml, ho, -⟩ := S
  obtain ⟨⟨hrc, hrs, hfr, hlo, hws, hcw, hcode, hini, hy, hlen, hl⟩, hin, hse⟩ := cw
  obtain ⟨hbl, ⟨cellB, hcB, hoB, hclB⟩, hPc⟩ := hp
  intro T hT X
  obtain ⟨mk, methM, hnamed, hmethM, hstM, habM⟩ := Cond.instanceMethod_spec hin
  obtain ⟨methM', cM, hmethM', hcM, -, hlM, -, -, -, hsigM⟩ := Cond.code_spec hnamed hcode
  cases hmethM.symm.trans hmethM'
  obtain ⟨c2, r2, m2, q1, q2, q3, q4, kP, hkP, hkPi⟩ := Cond.selects_spec hse
  cases hclB.symm.trans q1
  cases (State.methodFound?_of_named hnamed hy).symm.trans q2
  cases hnamed.symm.trans q3
  have hselP : selectMethod e.platform s.vm cellB.cls mk = .method mk := by rw [Launch.admits_selectMethod X.admits]; exact q4
  have hdg' : decode c.code pc = .ok (.invokevirtual index, 3) := by rw [hb]; exact hdg
  obtain ⟨vm₁, X₁, hstep₁⟩ := X.invokevirtual hx ho hl hnamed hmethM hstM hkP hkPi hy (a := b) (cell := cellB) (by rw [hT]; exact hcB)
    (fun z h => by rw [h] at hoB; cases hoB) hselP hmethM habM hkP hkPi (g := F0 m pc ls st0) rfl (argsL := As) (rest := rest) (hn.trans (hlen _ hsigM)) hstack hdg'
  have hnU : (T.setVm vm₁).methodNamed? y = some mk := X₁.named hnamed
  have hPU : Pc (Value.ref b :: As).toArray (T.setVm vm₁) := hPc (T.setVm vm₁) hT X₁.warmed
  generalize hUe : T.setVm vm₁ = U at X₁ hnU hPU
  have hUh : U.heap = H := by rw [← hUe]; exact hT
  have h2 : (Cond.code y bytes maxL ret).before (Value.ref b :: As).toArray U = true := hws _ hcw _ _ X₁.warmed
  obtain ⟨methY, cY, hmY, hcY, -, hlY, -, -, -, -⟩ := Cond.code_spec hnU h2
  obtain ⟨kY, hkY, -⟩ := className_of_methodNamed hnU
  have h3 : (Cond.initialized y.cls).before (Value.ref b :: As).toArray U = true := word_at X₁.warmed (Or.inl rfl) hini
  have hinitY : kY.init = .initialized := Cond.initialized_spec (findClass_of_methodNamed hnU) hkY h3
  have h : At U m c below := X₁.here
  have happ : (headSpec wsC rm).appliesLoose y e.platform (U.calling (F0 m pc ls rest) mk (Value.ref b :: As).toArray) = true :=
    Spec.appliesLoose_calling (g := F0 m pc ls rest) h hdg' hnU hkY hinitY
      (X₁.room_calling (g := F0 m pc ls rest) (R' := (headSpec wsC rm).room) (hsize.trans hml.symm) hmY hcY hfr (by rw [hlY]; show 2 * 0 + (rest.map fun v => v.category).sum + (maxL + 11) + rm.locals ≤ _; omega) (by rw [show (headSpec wsC rm).room.cells = mc from hrc]; exact hf.1) (by rw [show (headSpec wsC rm).room.slots = ms from hrs]; exact hf.2))
      (atoms_intro fun w hw => hws w hw _ _ X₁.warmed)
  obtain ⟨mid, hmid⟩ := h.above
  have hfrs : (U.setTop (F0 m pc ls rest)).frames = (.java (F0 m pc ls rest) :: mid) ++ below := by rw [State.frames_setTop' (F0 m pc ls rest) h.top, hmid]; rfl
  obtain ⟨o, s₂, hsteps, -, hend, hq⟩ := Steps.callFree hM p X₁.admits X₁.cas X₁.clock (acts := []) hfrs happ (hbl _ _ _ _ hPU) trivial
  have hq' : xT mc ms (Value.ref b :: As).toArray (U.calling (F0 m pc ls rest) mk (Value.ref b :: As).toArray) o s₂ := hq
  obtain ⟨q, ce, rfl, hce, hcv, hcl, hW₂, hsm⟩ := hq'
  rw [State.frames_setTop' (F0 m pc ls rest) h.top] at hend
  have hW2 : U.WarmedH s₂.vm := hW₂
  obtain ⟨e2, z2, z3, z4, z5, z6⟩ := id hsm
  obtain ⟨g₀, hg0⟩ := Option.isSome_iff_exists.mp h.top
  obtain ⟨r, hr⟩ := State.topJava?_eq_some.mp hg0
  have hr' : (({ U with heap := s₂.heap, slotsUsed := s₂.slotsUsed } : State).setVm s₂.vm).frames = .java g₀ :: r := hr
  have e3 : s₂ = ({ (U.calling (F0 m pc ls rest) mk (Value.ref b :: As).toArray).setFrames s₂.frames with heap := s₂.heap, slotsUsed := s₂.slotsUsed } : State).setVm s₂.vm := by
    have e4 : s₂ = ({ s₂ with vm := (U.calling (F0 m pc ls rest) mk (Value.ref b :: As).toArray).vm } : State).setVm s₂.vm := rfl
    rw [e2] at e4
    exact e4
  have hf₂ : s₂.frames = .throwing q :: .java (F0 m pc ls rest) :: U.frames.tail := hend
  have hs₂ : s₂ = ((({ U with heap := s₂.heap, slotsUsed := s₂.slotsUsed } : State).setVm s₂.vm).setTop (F0 m pc ls rest)).pushFrame (.throwing q) := by
    refine e3.trans ?_
    rw [hf₂, State.calling_eq h.top, State.setFrames_setFrames, State.pushFrame, State.frames_setTop _ hr', State.setTop_of_frames _ hr', State.setFrames_setFrames, hr]
    rfl
  have hsame : U.sameButNew ({ U with heap := s₂.heap, slotsUsed := s₂.slotsUsed } : State) [] mc ms := by
    refine ⟨?_, z2, z3, z4, z5, z6⟩
    obtain ⟨t0, ht0, -⟩ := State.frames_cons hr
    show ({ U with heap := s₂.heap, slotsUsed := s₂.slotsUsed } : State) = { U.setFrames U.frames with heap := s₂.heap, slotsUsed := s₂.slotsUsed }
    rw [State.setFrames_self ht0]
  have X₂ : Stand p l e R s m args below meth c (({ U with heap := s₂.heap, slotsUsed := s₂.slotsUsed } : State).setVm s₂.vm) (locs ++ []) (cells + mc) (slots + ms) :=
    ⟨X₁.admits, X₁.cas, X₁.clock, X₁.frames, X₁.room, X₁.hears, X₁.method, X₁.code, (X₁.here.setHeapUsed s₂.heap s₂.slotsUsed).setVm hW2.alike, X₁.tail, State.WarmedH.trans X₁.warmed hW2, X₁.limits, X₁.bytes, X₁.same.trans (hsame.setVm s.vm)⟩
  rw [List.append_nil] at X₂
  have hclS : s.vm.findClass "java/lang/ArithmeticException" = some ce.cls := by
    have h9 : U.vm.findClass "java/lang/ArithmeticException" = some ce.cls := hcl
    rw [X₁.warmed.alike.findClass] at h9
    exact h9
  have hpl : e.platform.magicAccessors = ({} : Platform).magicAccessors := by rw [X.admits.platform]
  obtain ⟨c3, c4, hc3, hc4, hasg⟩ := Cond.castable_spec hcast
  cases Option.some.inj (hc3.symm.trans hclS)
  obtain ⟨c5, hc5, hcl5⟩ := Cond.classLink_spec ho hlink e.platform hpl
  cases Option.some.inj (hc4.symm.trans hc5)
  have hcome : Steps p.tables e below (T.setTop (F0 m pc ls st0)) (((({ U with heap := s₂.heap, slotsUsed := s₂.slotsUsed } : State).setVm s₂.vm).setTop (F0 m pc ls rest)).pushFrame (.throwing q)) := by
    rw [← hs₂]
    refine hstep₁ _ fun acts => ?_
    rw [hUe, doInvoke_state]
    exact hsteps
  obtain ⟨vm', X₃, st⟩ := X₂.thenCaughtThrough q (g := F0 m pc ls rest) rfl hcome (cell := ce) hce (by rw [hcv]; rfl) (by obtain ⟨k9, h9, -⟩ := Vm.findClass_spec hclS; exact ⟨k9, h9⟩) [] x [] htab
    (fun z hz => absurd hz List.not_mem_nil) hcov (Or.inr ⟨hx0, c4, hcl5, hasg⟩)
  have hold : ∀ z, z < H.size → s₂.heap[z]? = H[z]? := by
    intro z hz
    rw [← hUh] at hz ⊢
    obtain ⟨c9, f1, f2, f3, f4⟩ := z6 z _ (Array.getElem?_eq_getElem hz)
    have hsl : c9.slots = (U.heap[z]).slots := Array.ext_getElem? fun i => f4 i (fun hm => absurd hm List.not_mem_nil)
    have h9 : c9 = U.heap[z] := by
      rw [hsl] at f2
      exact f2
    have f5 : s₂.heap[z]? = some c9 := f1
    rw [f5, h9, Array.getElem?_eq_getElem hz]
  have hsize2 : H.size ≤ s₂.heap.size := by rw [← hUh]; exact z2
  obtain ⟨t, a1, b1⟩ := kk q s₂.heap hsize2 hold ((({ U with heap := s₂.heap, slotsUsed := s₂.slotsUsed } : State).setVm s₂.vm).setVm vm') rfl X₃
  exact ⟨t, st.trans a1, b1⟩
end
theorem preVT {s : State} {H : Heap} {dC : Nat → ClassId} {dI : Nat → Nat → Nat} {A : Nat → Prop} {tysC : List (ClassId × FieldType)} {wc : va_W} {As : List Value} {C : String} {b : Nat} {locs : List Loc} {sa : Nat} (P : PreV s H C b (cPre dC dI (.ref b :: As) H.size tysC wc) As) (hth : thr sa s) (hS : va_S A s.heap H locs) (hns : ∀ (q : Nat) (cell : Cell), s.heap[q]? = some cell → A q → cell.vm.isStatics = false) : PreV s H C b (fun v U => cPre dC dI (.ref b :: As) H.size tysC wc v U ∧ thr sa U) As :=
  ⟨fun a U g mk q => ⟨P.1 a U g mk q.1, q.2⟩, P.2.1, fun U hU hW => ⟨P.2.2 U hU hW, hth.call hU hW hS hns⟩⟩
theorem preST {s : State} {H : Heap} {dC : Nat → ClassId} {dI : Nat → Nat → Nat} {A : Nat → Prop} {tysC : List (ClassId × FieldType)} {wc : va_W} {av : List Value} {locs : List Loc} {sa : Nat} (P : PreS s H (cPre dC dI av H.size tysC wc) av) (hth : thr sa s) (hS : va_S A s.heap H locs) (hns : ∀ (q : Nat) (cell : Cell), s.heap[q]? = some cell → A q → cell.vm.isStatics = false) : PreS s H (fun v U => cPre dC dI av H.size tysC wc v U ∧ thr sa U) av :=
  ⟨fun a U g mk q => ⟨P.1 a U g mk q.1, q.2⟩, fun U hU hW => ⟨P.2 U hU hW, hth.call hU hW hS hns⟩⟩
theorem x_tab {p : Program} {l : Launch} {x : MethodName} {S : Spec} {code : ByteArray} {maxLocals : Nat} {ret : Option FieldType} {e : Env} {s : State} {m : MethodId} {args : Array Value} {below : List Frame} {meth : Method} {c : Code} {s₁ : State} {cc : ByteArray} {mx : Nat} {rt : Option FieldType} {hh : List (Nat × Nat × Nat × Nat)}
    (B : BodyLoose p l x S code maxLocals ret e s m args below meth c s₁) (h : (Cond.codeWith x cc mx rt hh).before args s = true) : c.exceptionTable.toList = tableOf hh := by
  obtain ⟨m9, meth', c', hn9, hm', hc', -, -, ht, -⟩ := Cond.codeWith_spec h
  cases B.named.symm.trans hn9
  cases B.method.symm.trans hm'
  cases (Stand.of_body B).code.symm.trans hc'
  rw [← ht, table_eq]
section
variable {p : Program} {l : Launch} {e : Env} {R : Room} {s : State} {m : MethodId} {args : Array Value} {below : List Frame} {meth : Method} {c : Code} {H : Heap} {locs : List Loc} {cells slots : Nat} {Q : State → Prop}
variable {y : MethodName} {bytes cc : ByteArray} {maxL nL mc ms n index : Nat} {ret : Option FieldType} {hh : List (Nat × Nat × Nat × Nat)} {ws ws' : List Cond} {rm : Room} {Pc : Array Value → State → Prop} {Qc : Array Value → State → Outcome → State → Prop} {free : Addr → Prop} {Ts : List Cond} {own : String} {As rest : List Value} {g : JFrame}
/-- a static method with a table of its own, called -/
theorem k_runSW (S : CallFix p m c cc nL s args Ts own) (hM : Met l y ws rm Pc Qc mc ms free) (hG : GoodIn Ts ws) (hw : ws = Cond.codeWith y bytes maxL ret hh :: ws') (hrc : rm.cells = mc) (hrs : rm.slots = ms) (hl : (Cond.methodLink own index y).before args s = true) (hstat : (Cond.static y).before args s = true) (hini : (Cond.initialized y.cls).before args s = true)
    (hy : y.cls ≠ "java/lang/invoke/MethodHandle" ∧ y.cls ≠ "java/lang/invoke/VarHandle") (hlen : (parseMethodDescriptor y.desc).map (fun d => d.parameters.length) = some n) (hR : rm.frames + 1 ≤ R.frames ∧ 8 + (maxL + 11) + rm.locals ≤ R.locals) (hp : PreS s H Pc As)
    (hg : g.method = m) (hn : As.length = n) (hsize : g.locals.size = nL) (hstack : g.stack = As.reverse ++ rest) (hW : 2 * g.monitorRoom + (rest.map fun v => v.category).sum ≤ 8) (hdg : decode cc g.pc = .ok (.invokestatic index, 3)) (hf : cells + mc ≤ R.cells ∧ slots + ms ≤ R.slots) :
    va_Run p l e R s m args below meth c H locs cells slots mc ms g rest (Qc As.toArray) free := by
  obtain ⟨hx, hb, hml, ho, hts⟩ := S
  have hcw : Cond.codeWith y bytes maxL ret hh ∈ ws := by rw [hw]; exact List.mem_cons_self
  have hws : ∀ w ∈ ws, ∀ (a' : Array Value) (U : State), s.WarmedH U.vm → w.before a' U = true := fun w h a' U hW1 => word_at hW1 (hG w h).2 (hts w (hG w h).1)
  have hK : Back l R p e below s args y 3 8 (PreOf R mc ms Pc) (PostOf Qc mc ms free) := va_backW (hh := hh) (bytes := bytes) (maxL := maxL) (ret := ret) hM hp.1 hrc hrs hR.1 hR.2 hws hcw (fun a' U hW1 => word_at hW1 (Or.inl rfl) hini)
  have hcode : (Cond.codeWith y bytes maxL ret hh).before args s = true := hts _ (hG _ hcw).1
  obtain ⟨mk, methM, cM, hnamed, hmethM, -, -, -, -, -, -, hsigM⟩ := Cond.codeWith_spec hcode
  have hstatic : methM.isStatic = true := Cond.static_spec hnamed hmethM hstat
  obtain ⟨kP, hkP, -⟩ := className_of_methodNamed hnamed
  have hinitP : kP.init = .initialized := Cond.initialized_spec (findClass_of_methodNamed hnamed) hkP hini
  have hln : As.length = methM.sig.parameters.length := by
    rw [hsigM] at hlen
    exact hn.trans (Option.some.inj hlen).symm
  intro T hT X
  have hdg' : decode c.code g.pc = .ok (.invokestatic index, 3) := by rw [hb]; exact hdg
  obtain ⟨vm₁, X₁, hstep₁⟩ := X.invokestatic hx ho hl hnamed hmethM hstatic hkP hinitP hy (g := g) hg (argsL := As) (rest := rest) hln hstack hdg'
  obtain ⟨v, B, X', hpost, hsteps⟩ := hK m meth c ⟨T.setVm vm₁, locs, cells, slots⟩ { g with stack := rest } (.invokestatic index) mk As.toArray X₁ hg (hsize.trans hml.symm) hdg' hW (X₁.named hnamed) ⟨hf.1, hf.2, hp.2 (T.setVm vm₁) hT X₁.warmed⟩
  obtain ⟨U', l2, c2, s2⟩ := B
  obtain ⟨g', mk', t, L, e1, e2, hq, h1, hL, h2, h3⟩ := hpost
  dsimp only [Pt.U, Pt.locs, Pt.cells, Pt.slots] at X' e1 e2 h1 h2 h3 hsteps
  subst h1; subst h2; subst h3
  exact ⟨v, (T.setVm vm₁).calling g' mk' As.toArray, t, U', L, hT, X', hL, e1, e2, hq, fun target h => hstep₁ _ fun acts => by rw [doInvoke_state]; exact hsteps.trans h⟩
end

