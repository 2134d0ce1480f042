-- ===== end of PART A; then your names; then what follows =====
/-! THE CLAIM OUT OF ONE WALK OF THE LAW'S BODY. Your part is whole_start (and what it stands on); all else here is the same for every law, but numbers. -/
def R_law : String := "ChargeTalkLaw"
def lw_P (b : Addr) (xs : List Int32) (args : Array Value) (s : State) : Prop := args = #[.ref b] ∧ s.IntsAt b xs ∧ xs.length ≤ 3584 ∧ (Jvm.Cond.and given_1 narrow_1).before args s = true
def lw_Q (_ : Array Value) (s : State) (o : Outcome) (t : State) : Prop := o = .returned (some (.int 1)) ∧ Framed s o t [] 1042 13643
def lw_Z (below : List Frame) (a : Array Value) (s : State) : State → Prop := fun t => ∃ o, t.status = .running ∧ Ended t below o ∧ lw_Q a s o t
/-- the law's own end, with 1 on the stack, nothing written that was there before, its room as the claim has it -/
theorem lw_ret {p : Program} {l : Launch} {e : Env} {s : State} {m : MethodId} {below : List Frame} {meth : Method} {c : Code} {b : Nat} (hx : p.tables.exec = Jvm.exec) (hb : c.code = code) (hr : meth.sig.returnType = ret) (hlocks : meth.locks = false) {pc : Nat} {H : Heap} {ls : Array Slot} (hdg : decode code pc = .ok (.ireturn, 1)) : W p l e room_1 s m #[Value.ref b] below meth c H [] 1042 13643 (lw_Z below #[Value.ref b] s) (F0 m pc ls [.int 1]) := by
  intro T hT X
  obtain ⟨fs, hret, hrun, hended, hW, hframe⟩ := X.leave (v := some (.int 1)) (hlocks := hlocks) (fun h => by rw [hr] at h; cases h)
  have hmeth' : T.vm.method? m = some meth := X.method'
  refine ⟨T.setFrames fs, ?_, .returned (some (.int 1)), hrun, hended, rfl, ⟨_, rfl⟩, hW, hframe⟩
  jvm_step X.here [X.here.top, hx, hb, hdg, hmeth', hr, ret, narrow_b1]
  (try refine ⟨rfl, ?_⟩); (try refine ⟨rfl, ?_⟩)
  first | (intro acts; rw [hret _ acts rfl rfl rfl]) | rw [hret _ _ rfl rfl rfl]
  exact Steps.refl _
/-- what holds at the law's entry: the machine, the code, the tables' words (any of lw_tbl by 'hts w (by decide +kernel)'), the script of L ints xs at the cell b, what the Statement gives of the start (any of its parts by flat_of_before) -/
def lw_At (p : Program) (s : State) (m : MethodId) (meth : Method) (c : Code) (b L : Nat) (xs : Nat → Int32) : Prop :=
  p.tables.exec = Jvm.exec ∧ c.code = code ∧ meth.sig.returnType = ret ∧ c.maxLocals = 8 ∧ s.vm.findClass R_law = some m.cls ∧ (∀ w ∈ lw_tbl, w.before #[Value.ref b] s = true) ∧ va_X b L xs s s.heap ∧ b < s.heap.size ∧ meth.locks = false ∧ (Jvm.Cond.and given_1 narrow_1).before #[Value.ref b] s = true
theorem mem_pl {big ws : List Cond} (ps : List Nat) (h : ws = ps.filterMap (fun i => big[i]?)) : ∀ w ∈ ws, w ∈ big := by
  intro w hw
  rw [h] at hw
  obtain ⟨i, -, hi⟩ := List.mem_filterMap.mp hw
  exact List.mem_of_getElem? hi
set_option maxRecDepth 200000 in
set_option maxHeartbeats 4000000 in
theorem bl_0 : ∀ w ∈ BL0, w ∈ lw_tbl := mem_pl [38, 31, 32, 39, 40, 184, 156, 13, 155, 49, 50, 52, 160, 161, 162, 163, 164, 153, 159, 157, 158, 15, 168, 194, 166, 167, 195, 196, 243, 241, 242, 63, 64, 66, 67, 68, 69, 70, 329, 330, 305, 20, 306, 172, 228] rfl
set_option maxRecDepth 200000 in
set_option maxHeartbeats 4000000 in
theorem bl_1 : ∀ w ∈ BL1, w ∈ lw_tbl := mem_pl [170, 171, 16, 258, 208, 205, 206, 207, 209, 222, 223, 216, 214, 215, 218, 221, 219, 220, 227, 224, 225, 226, 204, 201, 203, 0, 213, 210, 212, 1, 232, 229, 231, 2, 93, 90, 304, 315, 91, 92, 274, 272, 273, 17, 94] rfl
set_option maxRecDepth 200000 in
set_option maxHeartbeats 4000000 in
theorem bl_2 : ∀ w ∈ BL2, w ∈ lw_tbl := mem_pl [279, 280, 281, 271, 268, 270, 3, 278, 275, 277, 4, 285, 282, 284, 5, 89, 107, 108, 114, 115, 116, 117, 30, 33, 34, 14, 37, 36, 126, 44, 45, 48, 47, 127, 58, 59, 62, 61, 128, 84, 85, 88, 86, 87, 129] rfl
set_option maxRecDepth 200000 in
set_option maxHeartbeats 4000000 in
theorem bl_3 : ∀ w ∈ BL3, w ∈ lw_tbl := mem_pl [109, 110, 18, 113, 112, 130, 131, 152, 149, 150, 151, 165, 169, 177, 178, 179, 183, 180, 181, 182, 189, 186, 187, 188, 193, 190, 191, 192, 200, 197, 198, 199, 240, 237, 238, 239, 248, 253, 257, 254, 255, 256, 263, 267, 264] rfl
set_option maxRecDepth 200000 in
set_option maxHeartbeats 4000000 in
theorem bl_4 : ∀ w ∈ BL4, w ∈ lw_tbl := mem_pl [265, 266, 294, 295, 299, 296, 297, 298, 303, 300, 301, 302, 314, 311, 312, 313, 320, 328, 325, 326, 327, 324, 321, 322, 323, 338, 335, 336, 337, 342, 339, 340, 341, 362, 359, 360, 361, 364, 435, 432, 433, 434, 438, 436, 437] rfl
set_option maxRecDepth 200000 in
set_option maxHeartbeats 4000000 in
theorem bl_5 : ∀ w ∈ BL5, w ∈ lw_tbl := mem_pl [439, 440, 441, 365, 363, 366, 367, 24, 358, 355, 356, 357, 354, 447, 460, 461, 462, 463, 466, 449, 448, 450, 519, 516, 518, 7, 19, 452, 510, 511, 512, 513, 514, 515, 527, 524, 526, 8, 458, 538, 451, 539, 453, 544, 545] rfl
set_option maxRecDepth 200000 in
set_option maxHeartbeats 4000000 in
theorem bl_6 : ∀ w ∈ BL6, w ∈ lw_tbl := mem_pl [546, 454, 457, 455, 456, 532, 533, 537, 534, 536, 9, 543, 540, 542, 10, 555, 556, 459, 464, 565, 562, 564, 11, 561, 574, 583, 465, 592, 594, 593, 603, 148, 145, 146, 147, 509, 506, 507, 508, 176, 173, 174, 175, 531, 528] rfl
set_option maxRecDepth 200000 in
set_option maxHeartbeats 4000000 in
theorem bl_7 : ∀ w ∈ BL7, w ∈ lw_tbl := mem_pl [529, 530, 236, 233, 234, 235, 523, 520, 521, 522, 247, 244, 245, 246, 550, 547, 548, 549, 252, 249, 250, 251, 554, 551, 552, 553, 262, 259, 260, 261, 560, 557, 558, 559, 289, 286, 287, 288, 569, 566, 567, 568, 293, 290, 291] rfl
set_option maxRecDepth 200000 in
set_option maxHeartbeats 4000000 in
theorem bl_8 : ∀ w ∈ BL8, w ∈ lw_tbl := mem_pl [292, 573, 570, 571, 572, 310, 307, 308, 309, 578, 575, 576, 577, 319, 316, 317, 318, 582, 579, 580, 581, 334, 331, 332, 333, 587, 584, 585, 586, 353, 351, 352, 12, 591, 588, 589, 590, 346, 343, 344, 345, 598, 595, 596, 597] rfl
set_option maxRecDepth 200000 in
set_option maxHeartbeats 4000000 in
theorem bl_9 : ∀ w ∈ BL9, w ∈ lw_tbl := mem_pl [350, 347, 348, 349, 602, 599, 600, 601, 26, 443, 25, 29, 27, 28, 442, 446, 444, 445] rfl
theorem bc_Ck : ∀ w ∈ w0_Ck, w ∈ lw_tbl := by decide +kernel
theorem bc_Pi : ∀ w ∈ w0_Pi, w ∈ lw_tbl := by decide +kernel
theorem bc_Ta : ∀ w ∈ w0_Ta, w ∈ lw_tbl := by decide +kernel
theorem bc_Tf : ∀ w ∈ w0_Tf, w ∈ lw_tbl := by decide +kernel
theorem bc_Li : ∀ w ∈ w0_Li, w ∈ lw_tbl := by decide +kernel
theorem bc_X : ∀ w ∈ w0_X, w ∈ lw_tbl := by decide +kernel
theorem bc_Mo : ∀ w ∈ w0_Mo, w ∈ lw_tbl := by decide +kernel
theorem ap2 {a b c : List Cond} (h1 : ∀ w ∈ a, w ∈ c) (h2 : ∀ w ∈ b, w ∈ c) : ∀ w ∈ a ++ b, w ∈ c := fun w h => (List.mem_append.mp h).elim (h1 w) (h2 w)
theorem BIG_in : ∀ w ∈ BIG, w ∈ lw_tbl := ap2 (ap2 (ap2 (ap2 (ap2 (ap2 (ap2 bc_Ck bc_Pi) bc_Ta) bc_Tf) bc_Li) bc_X) bc_Mo) (ap2 bl_0 (ap2 bl_1 (ap2 bl_2 (ap2 bl_3 (ap2 bl_4 (ap2 bl_5 (ap2 bl_6 (ap2 bl_7 (ap2 bl_8 bl_9)))))))))
theorem NEST_in : ∀ w ∈ NEST, w ∈ lw_tbl := by decide +kernel
theorem OWN_in : ∀ w ∈ OWN, w ∈ lw_tbl ∨ w ∈ flatC (Jvm.Cond.and given_1 narrow_1) := by decide +kernel
theorem law_big {b : Nat} {s : State} (h : ∀ w ∈ lw_tbl, w.before #[Value.ref b] s = true) : ∀ w ∈ BIG, w.before #[Value.ref b] s = true := fun w hw => h w (BIG_in w hw)
theorem law_ts {b : Nat} {s : State} (h : ∀ w ∈ lw_tbl, w.before #[Value.ref b] s = true) : ∀ w ∈ (Cond.initialized "ChargeTalkLaw" :: BIG), w.before #[Value.ref b] s = true := fun w hw => (List.mem_cons.mp hw).elim (fun e => by rw [e]; exact h _ (by decide +kernel)) (fun h2 => law_big h w h2)
theorem law_nst {b : Nat} {s : State} (h : ∀ w ∈ lw_tbl, w.before #[Value.ref b] s = true) : nst s := fun w hw => va_Nw.of (NEST_on w hw) (h w (NEST_in w hw))
theorem law_thr {b : Nat} {s : State} (h : ∀ w ∈ lw_tbl, w.before #[Value.ref b] s = true) (hgv : (Jvm.Cond.and given_1 narrow_1).before #[Value.ref b] s = true) : ∃ sa, thr sa s := by
  have hstr := h (.stringRef "ChargeTalk" 156 "all weights are 0") (by decide +kernel)
  obtain ⟨cX, kX, hfc, -⟩ := Cond.instantiable_spec (h (.instantiable "ChargeTalk" 6) (by decide +kernel))
  obtain ⟨k, cf, i, a, -, -, -, -, -, hev⟩ := Cond.stringRef_spec hfc hstr
  refine ⟨a, s, #[Value.ref b], fun w hw => ?_, vk_R.of hstr hev, State.WarmedH.refl s, fun q cell h1 _ => h1⟩
  rcases OWN_in w hw with h1 | h1
  · exact h w h1
  · exact flat_of_before _ hgv w h1
theorem room_c {n : Nat} (h : n ≤ 1042) : n ≤ room_1.cells := h
theorem room_s {n : Nat} (h : n ≤ 13643) : n ≤ room_1.slots := h

