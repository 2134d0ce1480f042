section
-- ===== PART A: goes FIRST, ahead of the names: the tables' words, and 'selects' of the private methods out of them =====
/-- a private method of a class that the tables say can be made, by its rows of tables_1 -/
def lw_okq (q : MethodName × Nat) : Prop := (q.1.cls ≠ "java/lang/invoke/MethodHandle" ∧ q.1.cls ≠ "java/lang/invoke/VarHandle") ∧ Cond.instantiable q.1.cls q.2 ∈ tables_1 ∧ Cond.privateMethod q.1 ∈ tables_1 ∧ Cond.instanceMethod q.1 ∈ tables_1
theorem lw_p0 : lw_okq (⟨"ChargeTalk$Talk", "isLate", "(J)Z"⟩, 6) := ⟨⟨by decide +kernel, by decide +kernel⟩, List.mem_of_getElem? (i := 47) (by decide +kernel), List.mem_of_getElem? (i := 190) (by decide +kernel), List.mem_of_getElem? (i := 191) (by decide +kernel)⟩
theorem lw_p1 : lw_okq (⟨"ChargeTalk$Talk", "phaseAfter", "(IJZ)I"⟩, 6) := ⟨⟨by decide +kernel, by decide +kernel⟩, List.mem_of_getElem? (i := 47) (by decide +kernel), List.mem_of_getElem? (i := 199) (by decide +kernel), List.mem_of_getElem? (i := 200) (by decide +kernel)⟩
theorem lw_p2 : lw_okq (⟨"ChargeTalk$Talk", "keep", "(IJJ)V"⟩, 6) := ⟨⟨by decide +kernel, by decide +kernel⟩, List.mem_of_getElem? (i := 47) (by decide +kernel), List.mem_of_getElem? (i := 218) (by decide +kernel), List.mem_of_getElem? (i := 219) (by decide +kernel)⟩
theorem lw_p3 : lw_okq (⟨"ChargeTalk$Tariff", "measureRoom", "(II)V"⟩, 5) := ⟨⟨by decide +kernel, by decide +kernel⟩, List.mem_of_getElem? (i := 73) (by decide +kernel), List.mem_of_getElem? (i := 257) (by decide +kernel), List.mem_of_getElem? (i := 258) (by decide +kernel)⟩
theorem lw_p4 : lw_okq (⟨"ChargeTalk$Tariff", "buyCheapest", "(J)J"⟩, 5) := ⟨⟨by decide +kernel, by decide +kernel⟩, List.mem_of_getElem? (i := 73) (by decide +kernel), List.mem_of_getElem? (i := 264) (by decide +kernel), List.mem_of_getElem? (i := 265) (by decide +kernel)⟩
theorem lw_p5 : lw_okq (⟨"ChargeTalk$Tariff", "spread", "(II)V"⟩, 5) := ⟨⟨by decide +kernel, by decide +kernel⟩, List.mem_of_getElem? (i := 73) (by decide +kernel), List.mem_of_getElem? (i := 271) (by decide +kernel), List.mem_of_getElem? (i := 272) (by decide +kernel)⟩
theorem lw_p6 : lw_okq (⟨"java/lang/Throwable", "fillInStackTrace", "(I)Ljava/lang/Throwable;"⟩, 6) := ⟨⟨by decide +kernel, by decide +kernel⟩, List.mem_of_getElem? (i := 391) (by decide +kernel), List.mem_of_getElem? (i := 389) (by decide +kernel), List.mem_of_getElem? (i := 390) (by decide +kernel)⟩
theorem lw_p7 : lw_okq (⟨"ChargeTalkModel", "isOn", "()Z"⟩, 19) := ⟨⟨by decide +kernel, by decide +kernel⟩, List.mem_of_getElem? (i := 431) (by decide +kernel), List.mem_of_getElem? (i := 505) (by decide +kernel), List.mem_of_getElem? (i := 506) (by decide +kernel)⟩
theorem lw_p8 : lw_okq (⟨"ChargeTalkModel", "allows", "()I"⟩, 19) := ⟨⟨by decide +kernel, by decide +kernel⟩, List.mem_of_getElem? (i := 431) (by decide +kernel), List.mem_of_getElem? (i := 513) (by decide +kernel), List.mem_of_getElem? (i := 514) (by decide +kernel)⟩
theorem lw_p9 : lw_okq (⟨"ChargeTalkModel", "isTime", "(J)Z"⟩, 19) := ⟨⟨by decide +kernel, by decide +kernel⟩, List.mem_of_getElem? (i := 431) (by decide +kernel), List.mem_of_getElem? (i := 523) (by decide +kernel), List.mem_of_getElem? (i := 524) (by decide +kernel)⟩
theorem lw_p10 : lw_okq (⟨"ChargeTalkModel", "behind", "(IJJ)I"⟩, 19) := ⟨⟨by decide +kernel, by decide +kernel⟩, List.mem_of_getElem? (i := 431) (by decide +kernel), List.mem_of_getElem? (i := 529) (by decide +kernel), List.mem_of_getElem? (i := 530) (by decide +kernel)⟩
theorem lw_p11 : lw_okq (⟨"ChargeTalkModel", "priceOf", "(I)I"⟩, 19) := ⟨⟨by decide +kernel, by decide +kernel⟩, List.mem_of_getElem? (i := 431) (by decide +kernel), List.mem_of_getElem? (i := 551) (by decide +kernel), List.mem_of_getElem? (i := 552) (by decide +kernel)⟩
def lw_privs_1 : List (MethodName × Nat) := [(⟨"ChargeTalk$Talk", "isLate", "(J)Z"⟩, 6), (⟨"ChargeTalk$Talk", "phaseAfter", "(IJZ)I"⟩, 6), (⟨"ChargeTalk$Talk", "keep", "(IJJ)V"⟩, 6), (⟨"ChargeTalk$Tariff", "measureRoom", "(II)V"⟩, 5), (⟨"ChargeTalk$Tariff", "buyCheapest", "(J)J"⟩, 5), (⟨"ChargeTalk$Tariff", "spread", "(II)V"⟩, 5), (⟨"java/lang/Throwable", "fillInStackTrace", "(I)Ljava/lang/Throwable;"⟩, 6), (⟨"ChargeTalkModel", "isOn", "()Z"⟩, 19), (⟨"ChargeTalkModel", "allows", "()I"⟩, 19), (⟨"ChargeTalkModel", "isTime", "(J)Z"⟩, 19), (⟨"ChargeTalkModel", "behind", "(IJJ)I"⟩, 19), (⟨"ChargeTalkModel", "priceOf", "(I)I"⟩, 19)]
theorem lw_r1 : ∀ q ∈ lw_privs_1, lw_okq q := List.forall_mem_cons.mpr ⟨lw_p0, List.forall_mem_cons.mpr ⟨lw_p1, List.forall_mem_cons.mpr ⟨lw_p2, List.forall_mem_cons.mpr ⟨lw_p3, List.forall_mem_cons.mpr ⟨lw_p4, List.forall_mem_cons.mpr ⟨lw_p5, List.forall_mem_cons.mpr ⟨lw_p6, List.forall_mem_cons.mpr ⟨lw_p7, List.forall_mem_cons.mpr ⟨lw_p8, List.forall_mem_cons.mpr ⟨lw_p9, List.forall_mem_cons.mpr ⟨lw_p10, List.forall_mem_cons.mpr ⟨lw_p11, fun _ h => absurd h List.not_mem_nil⟩⟩⟩⟩⟩⟩⟩⟩⟩⟩⟩⟩
def lw_privs : List (MethodName × Nat) := lw_privs_1
def lw_tbl : List Cond := k2_sels lw_privs ++ tables_1
theorem lw_privs_ok : ∀ q ∈ lw_privs, lw_okq q := lw_r1
def R_Ck : String := "ChargeTalk$Clock"
def R_Pi : String := "ChargeTalk$Pilot"
def R_Ta : String := "ChargeTalk$Talk"
def R_Tf : String := "ChargeTalk$Tariff"
def R_Li : String := "ChargeTalk$Line"
def R_X : String := "ChargeTalk"
def R_Mo : String := "ChargeTalkModel"
def R_Law : String := "ChargeTalkLaw"
def F_Ck : u_T := fun k => match k with
  | _ => ("ChargeTalk$Clock", "told", "J", false)
def t_Ck : Nat → FieldType := fun k => match k with
  | _ => .long
abbrev w0_Ck : List Cond := u_ws R_Ck F_Ck 1
theorem n_Ck : ∀ a, a < 1 → ∀ b, b < 1 → a ≠ b → (F_Ck a).2.1 ≠ (F_Ck b).2.1 := by decide +kernel
theorem t_Ck_ok : ∀ k, k < 1 → parseFieldDescriptor (F_Ck k).2.2.1 = some (t_Ck k) := by decide +kernel
def F_Pi : u_T := fun k => match k with
  | 0 => ("ChargeTalk$Pilot", "level", "I", false)
  | _ => ("ChargeTalk$Pilot", "thousandths", "J", false)
def t_Pi : Nat → FieldType := fun k => match k with
  | 0 => .int
  | _ => .long
abbrev w0_Pi : List Cond := u_ws R_Pi F_Pi 2
theorem n_Pi : ∀ a, a < 2 → ∀ b, b < 2 → a ≠ b → (F_Pi a).2.1 ≠ (F_Pi b).2.1 := by decide +kernel
theorem t_Pi_ok : ∀ k, k < 2 → parseFieldDescriptor (F_Pi k).2.2.1 = some (t_Pi k) := by decide +kernel
def F_Ta : u_T := fun k => match k with
  | 0 => ("ChargeTalk$Talk", "phase", "I", false)
  | 1 => ("ChargeTalk$Talk", "direct", "Z", false)
  | 2 => ("ChargeTalk$Talk", "limit", "J", false)
  | 3 => ("ChargeTalk$Talk", "current", "J", false)
  | 4 => ("ChargeTalk$Talk", "lastMessage", "J", false)
  | _ => ("ChargeTalk$Talk", "energy", "J", false)
def t_Ta : Nat → FieldType := fun k => match k with
  | 0 => .int
  | 1 => .boolean
  | 2 => .long
  | 3 => .long
  | 4 => .long
  | _ => .long
abbrev w0_Ta : List Cond := u_ws R_Ta F_Ta 6
theorem n_Ta : ∀ a, a < 6 → ∀ b, b < 6 → a ≠ b → (F_Ta a).2.1 ≠ (F_Ta b).2.1 := by decide +kernel
theorem t_Ta_ok : ∀ k, k < 6 → parseFieldDescriptor (F_Ta k).2.2.1 = some (t_Ta k) := by decide +kernel
def F_Tf : u_T := fun k => match k with
  | 0 => ("ChargeTalk$Tariff", "centsIn", "[I", true)
  | 1 => ("ChargeTalk$Tariff", "units", "[I", true)
  | 2 => ("ChargeTalk$Tariff", "roomAt", "[J", true)
  | 3 => ("ChargeTalk$Tariff", "spans", "I", false)
  | _ => ("ChargeTalk$Tariff", "lacking", "J", false)
def t_Tf : Nat → FieldType := fun k => match k with
  | 0 => .array .int
  | 1 => .array .int
  | 2 => .array .long
  | 3 => .int
  | _ => .long
abbrev w0_Tf : List Cond := u_ws R_Tf F_Tf 5
theorem n_Tf : ∀ a, a < 5 → ∀ b, b < 5 → a ≠ b → (F_Tf a).2.1 ≠ (F_Tf b).2.1 := by decide +kernel
theorem t_Tf_ok : ∀ k, k < 5 → parseFieldDescriptor (F_Tf k).2.2.1 = some (t_Tf k) := by decide +kernel
def F_Li : u_T := fun k => match k with
  | 0 => ("ChargeTalk$Line", "weights", "[I", true)
  | 1 => ("ChargeTalk$Line", "count", "I", false)
  | _ => ("ChargeTalk$Line", "total", "J", false)
def t_Li : Nat → FieldType := fun k => match k with
  | 0 => .array .int
  | 1 => .int
  | _ => .long
abbrev w0_Li : List Cond := u_ws R_Li F_Li 3
theorem n_Li : ∀ a, a < 3 → ∀ b, b < 3 → a ≠ b → (F_Li a).2.1 ≠ (F_Li b).2.1 := by decide +kernel
theorem t_Li_ok : ∀ k, k < 3 → parseFieldDescriptor (F_Li k).2.2.1 = some (t_Li k) := by decide +kernel
def F_X : u_T := fun k => match k with
  | 0 => ("ChargeTalk", "clock", "LChargeTalk$Clock;", true)
  | 1 => ("ChargeTalk", "signal", "LChargeTalk$Pilot;", true)
  | 2 => ("ChargeTalk", "talk", "LChargeTalk$Talk;", true)
  | 3 => ("ChargeTalk", "tariff", "LChargeTalk$Tariff;", true)
  | 4 => ("ChargeTalk", "line", "LChargeTalk$Line;", true)
  | _ => ("ChargeTalk", "plugLocked", "Z", false)
def t_X : Nat → FieldType := fun k => match k with
  | 0 => .object "ChargeTalk$Clock"
  | 1 => .object "ChargeTalk$Pilot"
  | 2 => .object "ChargeTalk$Talk"
  | 3 => .object "ChargeTalk$Tariff"
  | 4 => .object "ChargeTalk$Line"
  | _ => .boolean
abbrev w0_X : List Cond := u_ws R_X F_X 6
theorem n_X : ∀ a, a < 6 → ∀ b, b < 6 → a ≠ b → (F_X a).2.1 ≠ (F_X b).2.1 := by decide +kernel
theorem t_X_ok : ∀ k, k < 6 → parseFieldDescriptor (F_X k).2.2.1 = some (t_X k) := by decide +kernel
def F_Mo : u_T := fun k => match k with
  | 0 => ("ChargeTalkModel", "code", "I", false)
  | 1 => ("ChargeTalkModel", "pilot", "I", false)
  | 2 => ("ChargeTalkModel", "share", "I", false)
  | 3 => ("ChargeTalkModel", "locked", "Z", false)
  | 4 => ("ChargeTalkModel", "phase", "I", false)
  | 5 => ("ChargeTalkModel", "direct", "Z", false)
  | 6 => ("ChargeTalkModel", "limit", "J", false)
  | 7 => ("ChargeTalkModel", "energy", "J", false)
  | 8 => ("ChargeTalkModel", "last", "J", false)
  | 9 => ("ChargeTalkModel", "current", "J", false)
  | 10 => ("ChargeTalkModel", "now", "J", false)
  | 11 => ("ChargeTalkModel", "spans", "I", false)
  | 12 => ("ChargeTalkModel", "from", "[I", true)
  | 13 => ("ChargeTalkModel", "to", "[I", true)
  | 14 => ("ChargeTalkModel", "cents", "[I", true)
  | 15 => ("ChargeTalkModel", "planned", "[J", true)
  | 16 => ("ChargeTalkModel", "lacks", "J", false)
  | 17 => ("ChargeTalkModel", "cars", "I", false)
  | _ => ("ChargeTalkModel", "weight", "[I", true)
def t_Mo : Nat → FieldType := fun k => match k with
  | 0 => .int
  | 1 => .int
  | 2 => .int
  | 3 => .boolean
  | 4 => .int
  | 5 => .boolean
  | 6 => .long
  | 7 => .long
  | 8 => .long
  | 9 => .long
  | 10 => .long
  | 11 => .int
  | 12 => .array .int
  | 13 => .array .int
  | 14 => .array .int
  | 15 => .array .long
  | 16 => .long
  | 17 => .int
  | _ => .array .int
abbrev w0_Mo : List Cond := u_ws R_Mo F_Mo 19
theorem n_Mo : ∀ a, a < 19 → ∀ b, b < 19 → a ≠ b → (F_Mo a).2.1 ≠ (F_Mo b).2.1 := by decide +kernel
theorem t_Mo_ok : ∀ k, k < 19 → parseFieldDescriptor (F_Mo k).2.2.1 = some (t_Mo k) := by decide +kernel
abbrev classes : List vw_C := [(R_Ck, F_Ck, 1), (R_Pi, F_Pi, 2), (R_Ta, F_Ta, 6), (R_Tf, F_Tf, 5), (R_Li, F_Li, 3), (R_X, F_X, 6), (R_Mo, F_Mo, 19)]
abbrev b_X_isWithin : ByteArray := prog_1_method_16_code
def y_X_isWithin : MethodName := ⟨R_X, "isWithin", "(JJJ)Z"⟩
abbrev b_Ck_init : ByteArray := prog_2_method_1_code
def y_Ck_init : MethodName := ⟨R_Ck, "<init>", "()V"⟩
abbrev b_Ck_canTell : ByteArray := prog_2_method_2_code
def y_Ck_canTell : MethodName := ⟨R_Ck, "canTell", "(J)Z"⟩
abbrev b_Ck_tell : ByteArray := prog_2_method_3_code
def y_Ck_tell : MethodName := ⟨R_Ck, "tell", "(J)V"⟩
abbrev b_Pi_init : ByteArray := prog_4_method_1_code
def y_Pi_init : MethodName := ⟨R_Pi, "<init>", "()V"⟩
abbrev b_Pi_levelOf : ByteArray := prog_4_method_6_code
def y_Pi_levelOf : MethodName := ⟨R_Pi, "levelOf", "(J)I"⟩
abbrev b_Pi_tenthsFor : ByteArray := prog_4_method_7_code
def y_Pi_tenthsFor : MethodName := ⟨R_Pi, "tenthsFor", "(I)I"⟩
abbrev b_Pi_set : ByteArray := prog_4_method_2_code
def y_Pi_set : MethodName := ⟨R_Pi, "set", "(JJ)V"⟩
abbrev b_Pi_isConnected : ByteArray := prog_4_method_3_code
def y_Pi_isConnected : MethodName := ⟨R_Pi, "isConnected", "()Z"⟩
abbrev b_Pi_isDigital : ByteArray := prog_4_method_4_code
def y_Pi_isDigital : MethodName := ⟨R_Pi, "isDigital", "()Z"⟩
abbrev b_Pi_tenthsOfAmpere : ByteArray := prog_4_method_5_code
def y_Pi_tenthsOfAmpere : MethodName := ⟨R_Pi, "tenthsOfAmpere", "()I"⟩
abbrev b_Ta_init : ByteArray := prog_5_method_1_code
def y_Ta_init : MethodName := ⟨R_Ta, "<init>", "()V"⟩
abbrev b_Ta_isOn : ByteArray := prog_5_method_2_code
def y_Ta_isOn : MethodName := ⟨R_Ta, "isOn", "()Z"⟩
abbrev b_Ta_isCharging : ByteArray := prog_5_method_3_code
def y_Ta_isCharging : MethodName := ⟨R_Ta, "isCharging", "()Z"⟩
abbrev b_Ta_end : ByteArray := prog_5_method_4_code
def y_Ta_end : MethodName := ⟨R_Ta, "end", "()V"⟩
abbrev b_Ta_runDown : ByteArray := prog_5_method_6_code
def y_Ta_runDown : MethodName := ⟨R_Ta, "runDown", "()I"⟩
abbrev b_Ta_breakOff : ByteArray := prog_5_method_7_code
def y_Ta_breakOff : MethodName := ⟨R_Ta, "breakOff", "()I"⟩
abbrev b_Ta_wholeEnergy : ByteArray := prog_5_method_8_code
def y_Ta_wholeEnergy : MethodName := ⟨R_Ta, "wholeEnergy", "()J"⟩
abbrev b_Ta_isLate : ByteArray := prog_5_method_9_code
def y_Ta_isLate : MethodName := ⟨R_Ta, "isLate", "(J)Z"⟩
abbrev b_Ta_phaseAtVolts : ByteArray := prog_5_method_11_code
def y_Ta_phaseAtVolts : MethodName := ⟨R_Ta, "phaseAtVolts", "(J)I"⟩
abbrev b_Ta_isLimit : ByteArray := prog_5_method_12_code
def y_Ta_isLimit : MethodName := ⟨R_Ta, "isLimit", "(J)Z"⟩
abbrev b_Ta_phaseAfter : ByteArray := prog_5_method_10_code
def y_Ta_phaseAfter : MethodName := ⟨R_Ta, "phaseAfter", "(IJZ)I"⟩
abbrev b_Ta_keep : ByteArray := prog_5_method_13_code
def y_Ta_keep : MethodName := ⟨R_Ta, "keep", "(IJJ)V"⟩
abbrev b_Ta_take : ByteArray := prog_5_method_5_code
def y_Ta_take : MethodName := ⟨R_Ta, "take", "(IJJZ)Z"⟩
abbrev b_Tf_isPrice : ByteArray := prog_6_method_9_code
def y_Tf_isPrice : MethodName := ⟨R_Tf, "isPrice", "(I)Z"⟩
abbrev b_Tf_isFull : ByteArray := prog_6_method_2_code
def y_Tf_isFull : MethodName := ⟨R_Tf, "isFull", "()Z"⟩
abbrev b_Tf_addSpan : ByteArray := prog_6_method_3_code
def y_Tf_addSpan : MethodName := ⟨R_Tf, "addSpan", "(III)I"⟩
abbrev b_Tf_unitsIn : ByteArray := prog_6_method_4_code
def y_Tf_unitsIn : MethodName := ⟨R_Tf, "unitsIn", "(J)I"⟩
abbrev b_Tf_measureRoom : ByteArray := prog_6_method_6_code
def y_Tf_measureRoom : MethodName := ⟨R_Tf, "measureRoom", "(II)V"⟩
abbrev b_Tf_buyCheapest : ByteArray := prog_6_method_7_code
def y_Tf_buyCheapest : MethodName := ⟨R_Tf, "buyCheapest", "(J)J"⟩
abbrev b_Tf_spread : ByteArray := prog_6_method_8_code
def y_Tf_spread : MethodName := ⟨R_Tf, "spread", "(II)V"⟩
abbrev b_Tf_makePlan : ByteArray := prog_6_method_5_code
def y_Tf_makePlan : MethodName := ⟨R_Tf, "makePlan", "(JII)J"⟩
abbrev b_Tf_init : ByteArray := prog_6_method_1_code
def y_Tf_init : MethodName := ⟨R_Tf, "<init>", "()V"⟩
abbrev b_Li_init : ByteArray := prog_3_method_1_code
def y_Li_init : MethodName := ⟨R_Li, "<init>", "()V"⟩
abbrev b_Li_isFull : ByteArray := prog_3_method_2_code
def y_Li_isFull : MethodName := ⟨R_Li, "isFull", "()Z"⟩
abbrev b_Li_has : ByteArray := prog_3_method_3_code
def y_Li_has : MethodName := ⟨R_Li, "has", "(I)Z"⟩
abbrev b_Li_add : ByteArray := prog_3_method_4_code
def y_Li_add : MethodName := ⟨R_Li, "add", "(I)I"⟩
abbrev b_Li_weightOf : ByteArray := prog_3_method_5_code
def y_Li_weightOf : MethodName := ⟨R_Li, "weightOf", "(I)I"⟩
abbrev b_X_init : ByteArray := prog_1_method_1_code
def y_X_init : MethodName := ⟨R_X, "<init>", "()V"⟩
abbrev b_X_pilot : ByteArray := prog_1_method_2_code
def y_X_pilot : MethodName := ⟨R_X, "pilot", "(JJ)I"⟩
abbrev b_X_message : ByteArray := prog_1_method_3_code
def y_X_message : MethodName := ⟨R_X, "message", "(IJJ)I"⟩
abbrev b_X_allowed : ByteArray := prog_1_method_4_code
def y_X_allowed : MethodName := ⟨R_X, "allowed", "()I"⟩
abbrev b_X_plug : ByteArray := prog_1_method_5_code
def y_X_plug : MethodName := ⟨R_X, "plug", "(Z)I"⟩
abbrev b_X_meter : ByteArray := prog_1_method_6_code
def y_X_meter : MethodName := ⟨R_X, "meter", "(J)I"⟩
abbrev b_X_plan : ByteArray := prog_1_method_7_code
def y_X_plan : MethodName := ⟨R_X, "plan", "(JJ)I"⟩
abbrev b_X_short0 : ByteArray := prog_1_method_8_code
def y_X_short0 : MethodName := ⟨R_X, "short0", "()J"⟩
abbrev b_X_price : ByteArray := prog_1_method_9_code
def y_X_price : MethodName := ⟨R_X, "price", "(JJJ)I"⟩
abbrev b_X_planned : ByteArray := prog_1_method_10_code
def y_X_planned : MethodName := ⟨R_X, "planned", "(J)J"⟩
abbrev b_X_stop : ByteArray := prog_1_method_11_code
def y_X_stop : MethodName := ⟨R_X, "stop", "(IJ)I"⟩
abbrev b_X_lost : ByteArray := prog_1_method_14_code
def y_X_lost : MethodName := ⟨R_X, "lost", "(J)I"⟩
abbrev b_X_state : ByteArray := prog_1_method_15_code
def y_X_state : MethodName := ⟨R_X, "state", "()I"⟩
abbrev b_X_car : ByteArray := prog_1_method_12_code
def y_X_car : MethodName := ⟨R_X, "car", "(I)I"⟩
abbrev b_X_commonFactor : ByteArray := prog_1_method_17_code
def y_X_commonFactor : MethodName := ⟨R_X, "commonFactor", "(JJ)J"⟩
abbrev b_Mo_init : ByteArray := prog_8_method_1_code
def y_Mo_init : MethodName := ⟨R_Mo, "<init>", "()V"⟩
abbrev b_Mo_isOn : ByteArray := prog_8_method_3_code
def y_Mo_isOn : MethodName := ⟨R_Mo, "isOn", "()Z"⟩
abbrev b_Mo_pilot : ByteArray := prog_8_method_4_code
def y_Mo_pilot : MethodName := ⟨R_Mo, "pilot", "(JJ)I"⟩
abbrev b_Mo_allows : ByteArray := prog_8_method_5_code
def y_Mo_allows : MethodName := ⟨R_Mo, "allows", "()I"⟩
abbrev b_Mo_allowed : ByteArray := prog_8_method_6_code
def y_Mo_allowed : MethodName := ⟨R_Mo, "allowed", "()I"⟩
abbrev b_Mo_isTime : ByteArray := prog_8_method_7_code
def y_Mo_isTime : MethodName := ⟨R_Mo, "isTime", "(J)Z"⟩
abbrev b_Mo_behind : ByteArray := prog_8_method_8_code
def y_Mo_behind : MethodName := ⟨R_Mo, "behind", "(IJJ)I"⟩
abbrev b_Mo_message : ByteArray := prog_8_method_9_code
def y_Mo_message : MethodName := ⟨R_Mo, "message", "(IJJ)I"⟩
abbrev b_Mo_plug : ByteArray := prog_8_method_10_code
def y_Mo_plug : MethodName := ⟨R_Mo, "plug", "(Z)I"⟩
abbrev b_Mo_meter : ByteArray := prog_8_method_11_code
def y_Mo_meter : MethodName := ⟨R_Mo, "meter", "(J)I"⟩
abbrev b_Mo_priceOf : ByteArray := prog_8_method_12_code
def y_Mo_priceOf : MethodName := ⟨R_Mo, "priceOf", "(I)I"⟩
abbrev b_Mo_plan : ByteArray := prog_8_method_13_code
def y_Mo_plan : MethodName := ⟨R_Mo, "plan", "(JJ)I"⟩
abbrev b_Mo_short0 : ByteArray := prog_8_method_14_code
def y_Mo_short0 : MethodName := ⟨R_Mo, "short0", "()J"⟩
abbrev b_Mo_price : ByteArray := prog_8_method_15_code
def y_Mo_price : MethodName := ⟨R_Mo, "price", "(JJJ)I"⟩
abbrev b_Mo_planned : ByteArray := prog_8_method_16_code
def y_Mo_planned : MethodName := ⟨R_Mo, "planned", "(J)J"⟩
abbrev b_Mo_stop : ByteArray := prog_8_method_17_code
def y_Mo_stop : MethodName := ⟨R_Mo, "stop", "(IJ)I"⟩
abbrev b_Mo_car : ByteArray := prog_8_method_18_code
def y_Mo_car : MethodName := ⟨R_Mo, "car", "(I)I"⟩
abbrev b_Mo_share : ByteArray := prog_8_method_19_code
def y_Mo_share : MethodName := ⟨R_Mo, "share", "(IJI)J"⟩
abbrev b_Mo_lost : ByteArray := prog_8_method_20_code
def y_Mo_lost : MethodName := ⟨R_Mo, "lost", "(J)I"⟩
abbrev b_Mo_state : ByteArray := prog_8_method_21_code
def y_Mo_state : MethodName := ⟨R_Mo, "state", "()I"⟩
def BIG : List Cond := w0_Ck ++ w0_Pi ++ w0_Ta ++ w0_Tf ++ w0_Li ++ w0_X ++ w0_Mo ++ [.methodLink R_Ck 1 objectInit,
  .instanceMethod objectInit,
  .code objectInit ⟨#[0xb1]⟩ 1 none,
  .constantLong R_Ck 9 (-9223372036854775808),
  .fieldLink R_Ck 11 "ChargeTalk$Clock" "told" "J",
  .constantLong R_Ck 17 1125899906842624,
  .code y_X_isWithin b_X_isWithin 6 (some .boolean),
  .initialized R_X,
  .static y_X_isWithin,
  .methodLink R_Pi 1 objectInit,
  .fieldLink R_Pi 7 "ChargeTalk$Pilot" "level" "I",
  .fieldLink R_Pi 13 "ChargeTalk$Pilot" "thousandths" "J",
  .constantLong R_Pi 41 12,
  .constantLong R_Pi 43 9,
  .constantLong R_Pi 45 6,
  .constantLong R_Pi 47 3,
  .constantLong R_Pi 49 (-12),
  .constantLong R_Pi 17 1000,
  .code y_Pi_levelOf b_Pi_levelOf 2 (some .int),
  .methodLink R_Pi 25 y_Pi_levelOf,
  .static y_Pi_levelOf,
  .initialized R_Pi,
  .code y_Pi_isConnected b_Pi_isConnected 1 (some .boolean),
  .methodLink R_Pi 29 y_Pi_isConnected,
  .instanceMethod y_Pi_isConnected,
  .selects R_Pi y_Pi_isConnected y_Pi_isConnected,
  .constantLong R_Pi 33 30,
  .constantLong R_Pi 35 70,
  .code y_Pi_tenthsFor b_Pi_tenthsFor 1 (some .int),
  .methodLink R_Pi 37 y_Pi_tenthsFor,
  .static y_Pi_tenthsFor,
  .methodLink R_Ta 1 objectInit,
  .fieldLink R_Ta 9 "ChargeTalk$Talk" "phase" "I",
  .fieldLink R_Ta 13 "ChargeTalk$Talk" "direct" "Z",
  .fieldLink R_Ta 17 "ChargeTalk$Talk" "limit" "J",
  .fieldLink R_Ta 21 "ChargeTalk$Talk" "current" "J",
  .fieldLink R_Ta 24 "ChargeTalk$Talk" "lastMessage" "J",
  .fieldLink R_Ta 27 "ChargeTalk$Talk" "energy" "J",
  .constantLong R_Ta 45 10,
  .methodLink R_Ta 47 Lib.Math.max.name,
  .static Lib.Math.max.name,
  .initialized "java/lang/Math",
  .code Lib.Math.max.name Lib.Math.max.code 2 (some .int),
  .code y_Ta_end b_Ta_end 1 none,
  .methodLink R_Ta 38 y_Ta_end,
  .instanceMethod y_Ta_end,
  .selects R_Ta y_Ta_end y_Ta_end,
  .initialized R_Ta,
  .constantLong R_Ta 53 36000,
  .code y_Ta_isOn b_Ta_isOn 1 (some .boolean),
  .methodLink R_Ta 55 y_Ta_isOn,
  .instanceMethod y_Ta_isOn,
  .selects R_Ta y_Ta_isOn y_Ta_isOn,
  .constantLong R_Ta 59 5000,
  .constantLong R_Ta 79 380,
  .constantLong R_Ta 81 420,
  .code y_Ta_isLimit b_Ta_isLimit 2 (some .boolean),
  .methodLink R_Ta 61 y_Ta_isLimit,
  .static y_Ta_isLimit,
  .constantLong R_Ta 64 100,
  .code y_Ta_phaseAtVolts b_Ta_phaseAtVolts 2 (some .int),
  .methodLink R_Ta 66 y_Ta_phaseAtVolts,
  .static y_Ta_phaseAtVolts,
  .code y_Ta_isCharging b_Ta_isCharging 1 (some .boolean),
  .methodLink R_Ta 70 y_Ta_isCharging,
  .instanceMethod y_Ta_isCharging,
  .selects R_Ta y_Ta_isCharging y_Ta_isCharging,
  .code y_Ta_isLate b_Ta_isLate 3 (some .boolean),
  .methodLink R_Ta 30 y_Ta_isLate,
  .instanceMethod y_Ta_isLate,
  .selects R_Ta y_Ta_isLate y_Ta_isLate,
  .code y_Ta_phaseAfter b_Ta_phaseAfter 5 (some .int),
  .methodLink R_Ta 34 y_Ta_phaseAfter,
  .instanceMethod y_Ta_phaseAfter,
  .selects R_Ta y_Ta_phaseAfter y_Ta_phaseAfter,
  .code y_Ta_keep b_Ta_keep 6 none,
  .methodLink R_Ta 41 y_Ta_keep,
  .instanceMethod y_Ta_keep,
  .selects R_Ta y_Ta_keep y_Ta_keep,
  .fieldLink R_Tf 20 "ChargeTalk$Tariff" "spans" "I",
  .fieldLink R_Tf 9 "ChargeTalk$Tariff" "centsIn" "[I",
  .methodLink R_Tf 28 Lib.Math.max.name,
  .constantLong R_Tf 34 1440,
  .fieldLink R_Tf 13 "ChargeTalk$Tariff" "units" "[I",
  .fieldLink R_Tf 16 "ChargeTalk$Tariff" "roomAt" "[J",
  .code y_Tf_isPrice b_Tf_isPrice 1 (some .boolean),
  .methodLink R_Tf 47 y_Tf_isPrice,
  .static y_Tf_isPrice,
  .initialized R_Tf,
  .fieldLink R_Tf 24 "ChargeTalk$Tariff" "lacking" "J",
  .methodLink R_Tf 51 Lib.MathLoose.min_long.x,
  .static Lib.MathLoose.min_long.x,
  .code Lib.MathLoose.min_long.x Lib.MathLoose.min_long.code 4 (some .long),
  .code y_Tf_measureRoom b_Tf_measureRoom 5 none,
  .methodLink R_Tf 36 y_Tf_measureRoom,
  .instanceMethod y_Tf_measureRoom,
  .selects R_Tf y_Tf_measureRoom y_Tf_measureRoom,
  .code y_Tf_buyCheapest b_Tf_buyCheapest 10 (some .long),
  .methodLink R_Tf 40 y_Tf_buyCheapest,
  .instanceMethod y_Tf_buyCheapest,
  .selects R_Tf y_Tf_buyCheapest y_Tf_buyCheapest,
  .code y_Tf_spread b_Tf_spread 6 none,
  .methodLink R_Tf 44 y_Tf_spread,
  .instanceMethod y_Tf_spread,
  .selects R_Tf y_Tf_spread y_Tf_spread,
  .methodLink R_Tf 1 objectInit,
  .arrayClass .int,
  .arrayClass .long,
  .methodLink R_Li 1 objectInit,
  .fieldLink R_Li 9 "ChargeTalk$Line" "weights" "[I",
  .fieldLink R_Li 13 "ChargeTalk$Line" "count" "I",
  .fieldLink R_Li 17 "ChargeTalk$Line" "total" "J",
  .methodLink R_X 1 objectInit,
  .classLink R_X 7 R_Ck,
  .instantiable R_Ck 1,
  .initialized R_Ck,
  .code y_Ck_init b_Ck_init 1 none,
  .instanceMethod y_Ck_init,
  .fieldLink R_X 10 "ChargeTalk" "clock" "LChargeTalk$Clock;",
  .classLink R_X 16 R_Pi,
  .instantiable R_Pi 2,
  .code y_Pi_init b_Pi_init 1 none,
  .instanceMethod y_Pi_init,
  .fieldLink R_X 19 "ChargeTalk" "signal" "LChargeTalk$Pilot;",
  .classLink R_X 23 R_Ta,
  .instantiable R_Ta 6,
  .code y_Ta_init b_Ta_init 1 none,
  .instanceMethod y_Ta_init,
  .fieldLink R_X 26 "ChargeTalk" "talk" "LChargeTalk$Talk;",
  .classLink R_X 30 R_Tf,
  .instantiable R_Tf 5,
  .code y_Tf_init b_Tf_init 2 none,
  .methodLink R_X 32 y_Tf_init,
  .instanceMethod y_Tf_init,
  .fieldLink R_X 33 "ChargeTalk" "tariff" "LChargeTalk$Tariff;",
  .classLink R_X 37 R_Li,
  .instantiable R_Li 3,
  .initialized R_Li,
  .code y_Li_init b_Li_init 1 none,
  .instanceMethod y_Li_init,
  .fieldLink R_X 40 "ChargeTalk" "line" "LChargeTalk$Line;",
  .fieldLink R_X 44 "ChargeTalk" "plugLocked" "Z",
  .code y_Pi_set b_Pi_set 5 none,
  .methodLink R_X 48 y_Pi_set,
  .instanceMethod y_Pi_set,
  .selects R_Pi y_Pi_set y_Pi_set,
  .methodLink R_X 52 y_Pi_isConnected,
  .methodLink R_X 56 y_Ta_end,
  .constantLong R_X 63 (-1000000),
  .constantLong R_X 65 1000000,
  .methodLink R_X 67 y_X_isWithin,
  .code y_Ck_canTell b_Ck_canTell 3 (some .boolean),
  .methodLink R_X 71 y_Ck_canTell,
  .instanceMethod y_Ck_canTell,
  .selects R_Ck y_Ck_canTell y_Ck_canTell,
  .code y_Ck_tell b_Ck_tell 3 none,
  .methodLink R_X 75 y_Ck_tell,
  .instanceMethod y_Ck_tell,
  .selects R_Ck y_Ck_tell y_Ck_tell,
  .code y_Pi_isDigital b_Pi_isDigital 1 (some .boolean),
  .methodLink R_X 79 y_Pi_isDigital,
  .instanceMethod y_Pi_isDigital,
  .selects R_Pi y_Pi_isDigital y_Pi_isDigital,
  .code y_Ta_take b_Ta_take 8 (some .boolean),
  .methodLink R_X 82 y_Ta_take,
  .instanceMethod y_Ta_take,
  .selects R_Ta y_Ta_take y_Ta_take,
  .code y_Pi_tenthsOfAmpere b_Pi_tenthsOfAmpere 1 (some .int),
  .methodLink R_X 89 y_Pi_tenthsOfAmpere,
  .instanceMethod y_Pi_tenthsOfAmpere,
  .selects R_Pi y_Pi_tenthsOfAmpere y_Pi_tenthsOfAmpere,
  .methodLink R_X 93 y_Ta_isOn,
  .constantLong R_X 96 1000000000,
  .code y_Ta_wholeEnergy b_Ta_wholeEnergy 1 (some .long),
  .methodLink R_X 98 y_Ta_wholeEnergy,
  .instanceMethod y_Ta_wholeEnergy,
  .selects R_Ta y_Ta_wholeEnergy y_Ta_wholeEnergy,
  .constantLong R_X 102 1440,
  .code y_Tf_makePlan b_Tf_makePlan 7 (some .long),
  .methodLink R_X 104 y_Tf_makePlan,
  .instanceMethod y_Tf_makePlan,
  .selects R_Tf y_Tf_makePlan y_Tf_makePlan,
  .constantLong R_X 112 1439,
  .constantLong R_X 114 1000,
  .code y_Tf_isFull b_Tf_isFull 1 (some .boolean),
  .methodLink R_X 116 y_Tf_isFull,
  .instanceMethod y_Tf_isFull,
  .selects R_Tf y_Tf_isFull y_Tf_isFull,
  .code y_Tf_addSpan b_Tf_addSpan 5 (some .int),
  .methodLink R_X 119 y_Tf_addSpan,
  .instanceMethod y_Tf_addSpan,
  .selects R_Tf y_Tf_addSpan y_Tf_addSpan,
  .code y_Tf_unitsIn b_Tf_unitsIn 3 (some .int),
  .methodLink R_X 123 y_Tf_unitsIn,
  .instanceMethod y_Tf_unitsIn,
  .selects R_Tf y_Tf_unitsIn y_Tf_unitsIn,
  .methodLink R_X 127 y_Ta_isCharging,
  .code y_Ta_runDown b_Ta_runDown 2 (some .int),
  .methodLink R_X 133 y_Ta_runDown,
  .instanceMethod y_Ta_runDown,
  .selects R_Ta y_Ta_runDown y_Ta_runDown,
  .code y_Ta_breakOff b_Ta_breakOff 1 (some .int),
  .methodLink R_X 130 y_Ta_breakOff,
  .instanceMethod y_Ta_breakOff,
  .selects R_Ta y_Ta_breakOff y_Ta_breakOff,
  .code y_Li_isFull b_Li_isFull 1 (some .boolean),
  .methodLink R_X 136 y_Li_isFull,
  .instanceMethod y_Li_isFull,
  .selects R_Li y_Li_isFull y_Li_isFull,
  .code y_Li_add b_Li_add 2 (some .int),
  .methodLink R_X 137 y_Li_add,
  .instanceMethod y_Li_add,
  .selects R_Li y_Li_add y_Li_add,
  .methodLink R_Mo 1 objectInit,
  .fieldLink R_Mo 7 "ChargeTalkModel" "from" "[I",
  .fieldLink R_Mo 13 "ChargeTalkModel" "to" "[I",
  .fieldLink R_Mo 16 "ChargeTalkModel" "cents" "[I",
  .fieldLink R_Mo 19 "ChargeTalkModel" "planned" "[J",
  .fieldLink R_Mo 23 "ChargeTalkModel" "weight" "[I",
  .fieldLink R_Mo 30 "ChargeTalkModel" "pilot" "I",
  .fieldLink R_Mo 26 "ChargeTalkModel" "code" "I",
  .fieldLink R_Mo 35 "ChargeTalkModel" "share" "I",
  .code y_Mo_isOn b_Mo_isOn 1 (some .boolean),
  .methodLink R_Mo 48 y_Mo_isOn,
  .instanceMethod y_Mo_isOn,
  .selects R_Mo y_Mo_isOn y_Mo_isOn,
  .initialized R_Mo,
  .fieldLink R_Mo 52 "ChargeTalkModel" "phase" "I",
  .constantLong R_Mo 33 1000,
  .constantLong R_Mo 38 12,
  .constantLong R_Mo 40 9,
  .constantLong R_Mo 42 6,
  .constantLong R_Mo 44 3,
  .constantLong R_Mo 46 (-12),
  .code y_Mo_allows b_Mo_allows 1 (some .int),
  .methodLink R_Mo 55 y_Mo_allows,
  .instanceMethod y_Mo_allows,
  .selects R_Mo y_Mo_allows y_Mo_allows,
  .fieldLink R_Mo 59 "ChargeTalkModel" "now" "J",
  .constantLong R_Mo 63 1125899906842624,
  .fieldLink R_Mo 65 "ChargeTalkModel" "locked" "Z",
  .constantLong R_Mo 69 5000,
  .fieldLink R_Mo 71 "ChargeTalkModel" "direct" "Z",
  .constantLong R_Mo 74 100,
  .constantLong R_Mo 76 380,
  .constantLong R_Mo 78 420,
  .fieldLink R_Mo 80 "ChargeTalkModel" "limit" "J",
  .fieldLink R_Mo 98 "ChargeTalkModel" "current" "J",
  .fieldLink R_Mo 101 "ChargeTalkModel" "energy" "J",
  .fieldLink R_Mo 91 "ChargeTalkModel" "last" "J",
  .constantLong R_Mo 83 (-1000000),
  .constantLong R_Mo 85 1000000,
  .code y_Mo_isTime b_Mo_isTime 3 (some .boolean),
  .methodLink R_Mo 87 y_Mo_isTime,
  .instanceMethod y_Mo_isTime,
  .selects R_Mo y_Mo_isTime y_Mo_isTime,
  .code y_Mo_behind b_Mo_behind 6 (some .int),
  .methodLink R_Mo 94 y_Mo_behind,
  .instanceMethod y_Mo_behind,
  .selects R_Mo y_Mo_behind y_Mo_behind,
  .constantLong R_Mo 104 1000000000,
  .constantLong R_Mo 106 36000,
  .fieldLink R_Mo 108 "ChargeTalkModel" "spans" "I",
  .fieldLink R_Mo 117 "ChargeTalkModel" "lacks" "J",
  .code y_Mo_priceOf b_Mo_priceOf 3 (some .int),
  .methodLink R_Mo 113 y_Mo_priceOf,
  .instanceMethod y_Mo_priceOf,
  .selects R_Mo y_Mo_priceOf y_Mo_priceOf,
  .constantLong R_Mo 111 1440,
  .constantLong R_Mo 120 1439,
  .constantLong R_Mo 122 10,
  .fieldLink R_Mo 124 "ChargeTalkModel" "cars" "I",
  .constantLong R_Mo 127 (-1),
  .constantLong R_Mo 131 (-2),
  .constantLong R_Mo 129 1000000000000]
def NEST : List Cond := [.methodLinkNest R_Ck 19 y_X_isWithin "ChargeTalk",
  .methodLinkNest R_Pi 19 y_X_isWithin "ChargeTalk",
  .methodLinkNest R_Ta 73 y_X_isWithin "ChargeTalk",
  .methodLinkNest R_X 9 y_Ck_init "ChargeTalk",
  .methodLinkNest R_X 18 y_Pi_init "ChargeTalk",
  .methodLinkNest R_X 25 y_Ta_init "ChargeTalk",
  .methodLinkNest R_X 39 y_Li_init "ChargeTalk",
  .fieldLinkNest R_X 59 "ChargeTalk$Pilot" "level" "I" "ChargeTalk",
  .fieldLinkNest R_X 86 "ChargeTalk$Talk" "phase" "I" "ChargeTalk",
  .fieldLinkNest R_X 108 "ChargeTalk$Tariff" "lacking" "J" "ChargeTalk"]
abbrev w_X_isWithin : List Cond := .code y_X_isWithin b_X_isWithin 6 (some .boolean) :: BIG
abbrev w_Ck_init : List Cond := .code y_Ck_init b_Ck_init 1 none :: BIG
abbrev w_Ck_canTell : List Cond := .code y_Ck_canTell b_Ck_canTell 3 (some .boolean) :: BIG
abbrev w_Ck_tell : List Cond := .code y_Ck_tell b_Ck_tell 3 none :: BIG
abbrev w_Pi_init : List Cond := .code y_Pi_init b_Pi_init 1 none :: BIG
abbrev w_Pi_levelOf : List Cond := .code y_Pi_levelOf b_Pi_levelOf 2 (some .int) :: BIG
abbrev w_Pi_tenthsFor : List Cond := .code y_Pi_tenthsFor b_Pi_tenthsFor 1 (some .int) :: BIG
abbrev w_Pi_set : List Cond := .code y_Pi_set b_Pi_set 5 none :: BIG
abbrev w_Pi_isConnected : List Cond := .code y_Pi_isConnected b_Pi_isConnected 1 (some .boolean) :: BIG
abbrev w_Pi_isDigital : List Cond := .code y_Pi_isDigital b_Pi_isDigital 1 (some .boolean) :: BIG
abbrev w_Pi_tenthsOfAmpere : List Cond := .code y_Pi_tenthsOfAmpere b_Pi_tenthsOfAmpere 1 (some .int) :: BIG
abbrev w_Ta_init : List Cond := .code y_Ta_init b_Ta_init 1 none :: BIG
abbrev w_Ta_isOn : List Cond := .code y_Ta_isOn b_Ta_isOn 1 (some .boolean) :: BIG
abbrev w_Ta_isCharging : List Cond := .code y_Ta_isCharging b_Ta_isCharging 1 (some .boolean) :: BIG
abbrev w_Ta_end : List Cond := .code y_Ta_end b_Ta_end 1 none :: BIG
abbrev w_Ta_runDown : List Cond := .code y_Ta_runDown b_Ta_runDown 2 (some .int) :: BIG
abbrev w_Ta_breakOff : List Cond := .code y_Ta_breakOff b_Ta_breakOff 1 (some .int) :: BIG
abbrev w_Ta_wholeEnergy : List Cond := .code y_Ta_wholeEnergy b_Ta_wholeEnergy 1 (some .long) :: BIG
abbrev w_Ta_isLate : List Cond := .code y_Ta_isLate b_Ta_isLate 3 (some .boolean) :: BIG
abbrev w_Ta_phaseAtVolts : List Cond := .code y_Ta_phaseAtVolts b_Ta_phaseAtVolts 2 (some .int) :: BIG
abbrev w_Ta_isLimit : List Cond := .code y_Ta_isLimit b_Ta_isLimit 2 (some .boolean) :: BIG
abbrev w_Ta_phaseAfter : List Cond := .code y_Ta_phaseAfter b_Ta_phaseAfter 5 (some .int) :: BIG
abbrev w_Ta_keep : List Cond := .code y_Ta_keep b_Ta_keep 6 none :: BIG
abbrev w_Ta_take : List Cond := .code y_Ta_take b_Ta_take 8 (some .boolean) :: BIG
abbrev w_Tf_isPrice : List Cond := .code y_Tf_isPrice b_Tf_isPrice 1 (some .boolean) :: BIG
abbrev w_Tf_isFull : List Cond := .code y_Tf_isFull b_Tf_isFull 1 (some .boolean) :: BIG
abbrev w_Tf_addSpan : List Cond := .code y_Tf_addSpan b_Tf_addSpan 5 (some .int) :: BIG
abbrev w_Tf_unitsIn : List Cond := .code y_Tf_unitsIn b_Tf_unitsIn 3 (some .int) :: BIG
abbrev w_Tf_measureRoom : List Cond := .code y_Tf_measureRoom b_Tf_measureRoom 5 none :: BIG
abbrev w_Tf_buyCheapest : List Cond := .code y_Tf_buyCheapest b_Tf_buyCheapest 10 (some .long) :: BIG
abbrev w_Tf_spread : List Cond := .code y_Tf_spread b_Tf_spread 6 none :: BIG
abbrev w_Tf_makePlan : List Cond := .code y_Tf_makePlan b_Tf_makePlan 7 (some .long) :: BIG
abbrev w_Tf_init : List Cond := .code y_Tf_init b_Tf_init 2 none :: BIG
abbrev w_Li_init : List Cond := .code y_Li_init b_Li_init 1 none :: BIG
abbrev w_Li_isFull : List Cond := .code y_Li_isFull b_Li_isFull 1 (some .boolean) :: BIG
abbrev w_Li_has : List Cond := .code y_Li_has b_Li_has 2 (some .boolean) :: BIG
abbrev w_Li_add : List Cond := .code y_Li_add b_Li_add 2 (some .int) :: BIG
abbrev w_Li_weightOf : List Cond := .code y_Li_weightOf b_Li_weightOf 2 (some .int) :: BIG
abbrev w_X_init : List Cond := .code y_X_init b_X_init 1 none :: BIG
abbrev w_X_pilot : List Cond := .code y_X_pilot b_X_pilot 5 (some .int) :: BIG
abbrev w_X_message : List Cond := .code y_X_message b_X_message 7 (some .int) :: BIG
abbrev w_X_allowed : List Cond := .code y_X_allowed b_X_allowed 1 (some .int) :: BIG
abbrev w_X_plug : List Cond := .code y_X_plug b_X_plug 2 (some .int) :: BIG
abbrev w_X_meter : List Cond := .code y_X_meter b_X_meter 3 (some .int) :: BIG
abbrev w_X_plan : List Cond := .code y_X_plan b_X_plan 7 (some .int) :: BIG
abbrev w_X_short0 : List Cond := .code y_X_short0 b_X_short0 1 (some .long) :: BIG
abbrev w_X_price : List Cond := .code y_X_price b_X_price 7 (some .int) :: BIG
abbrev w_X_planned : List Cond := .code y_X_planned b_X_planned 3 (some .long) :: BIG
abbrev w_X_stop : List Cond := .code y_X_stop b_X_stop 4 (some .int) :: BIG
abbrev w_X_lost : List Cond := .code y_X_lost b_X_lost 4 (some .int) :: BIG
abbrev w_X_state : List Cond := .code y_X_state b_X_state 1 (some .int) :: BIG
abbrev w_X_car : List Cond := .code y_X_car b_X_car 2 (some .int) :: BIG
abbrev w_X_commonFactor : List Cond := .code y_X_commonFactor b_X_commonFactor 11 (some .long) :: BIG
abbrev w_Mo_init : List Cond := .code y_Mo_init b_Mo_init 1 none :: BIG
abbrev w_Mo_isOn : List Cond := .code y_Mo_isOn b_Mo_isOn 1 (some .boolean) :: BIG
abbrev w_Mo_pilot : List Cond := .code y_Mo_pilot b_Mo_pilot 6 (some .int) :: BIG
abbrev w_Mo_allows : List Cond := .code y_Mo_allows b_Mo_allows 1 (some .int) :: BIG
abbrev w_Mo_allowed : List Cond := .code y_Mo_allowed b_Mo_allowed 1 (some .int) :: BIG
abbrev w_Mo_isTime : List Cond := .code y_Mo_isTime b_Mo_isTime 3 (some .boolean) :: BIG
abbrev w_Mo_behind : List Cond := .code y_Mo_behind b_Mo_behind 6 (some .int) :: BIG
abbrev w_Mo_message : List Cond := .code y_Mo_message b_Mo_message 7 (some .int) :: BIG
abbrev w_Mo_plug : List Cond := .code y_Mo_plug b_Mo_plug 3 (some .int) :: BIG
abbrev w_Mo_meter : List Cond := .code y_Mo_meter b_Mo_meter 3 (some .int) :: BIG
abbrev w_Mo_priceOf : List Cond := .code y_Mo_priceOf b_Mo_priceOf 3 (some .int) :: BIG
abbrev w_Mo_plan : List Cond := .code y_Mo_plan b_Mo_plan 13 (some .int) :: BIG
abbrev w_Mo_short0 : List Cond := .code y_Mo_short0 b_Mo_short0 1 (some .long) :: BIG
abbrev w_Mo_price : List Cond := .code y_Mo_price b_Mo_price 7 (some .int) :: BIG
abbrev w_Mo_planned : List Cond := .code y_Mo_planned b_Mo_planned 3 (some .long) :: BIG
abbrev w_Mo_stop : List Cond := .code y_Mo_stop b_Mo_stop 6 (some .int) :: BIG
abbrev w_Mo_car : List Cond := .code y_Mo_car b_Mo_car 2 (some .int) :: BIG
abbrev w_Mo_share : List Cond := .code y_Mo_share b_Mo_share 15 (some .long) :: BIG
abbrev w_Mo_lost : List Cond := .code y_Mo_lost b_Mo_lost 4 (some .int) :: BIG
abbrev w_Mo_state : List Cond := .code y_Mo_state b_Mo_state 1 (some .int) :: BIG
end
section
theorem bigR : ∀ w ∈ ([.methodLink R_Ck 1 objectInit, .instanceMethod objectInit, .code objectInit ⟨#[0xb1]⟩ 1 none, .constantLong R_Ck 9 (-9223372036854775808), .fieldLink R_Ck 11 "ChargeTalk$Clock" "told" "J", .constantLong R_Ck 17 1125899906842624, .code y_X_isWithin b_X_isWithin 6 (some .boolean), .initialized R_X, .static y_X_isWithin, .methodLink R_Pi 1 objectInit, .fieldLink R_Pi 7 "ChargeTalk$Pilot" "level" "I", .fieldLink R_Pi 13 "ChargeTalk$Pilot" "thousandths" "J", .constantLong R_Pi 41 12, .constantLong R_Pi 43 9, .constantLong R_Pi 45 6, .constantLong R_Pi 47 3, .constantLong R_Pi 49 (-12), .constantLong R_Pi 17 1000, .code y_Pi_levelOf b_Pi_levelOf 2 (some .int), .methodLink R_Pi 25 y_Pi_levelOf, .static y_Pi_levelOf, .initialized R_Pi, .code y_Pi_isConnected b_Pi_isConnected 1 (some .boolean), .methodLink R_Pi 29 y_Pi_isConnected, .instanceMethod y_Pi_isConnected, .selects R_Pi y_Pi_isConnected y_Pi_isConnected, .constantLong R_Pi 33 30, .constantLong R_Pi 35 70, .code y_Pi_tenthsFor b_Pi_tenthsFor 1 (some .int), .methodLink R_Pi 37 y_Pi_tenthsFor, .static y_Pi_tenthsFor, .methodLink R_Ta 1 objectInit, .fieldLink R_Ta 9 "ChargeTalk$Talk" "phase" "I", .fieldLink R_Ta 13 "ChargeTalk$Talk" "direct" "Z", .fieldLink R_Ta 17 "ChargeTalk$Talk" "limit" "J", .fieldLink R_Ta 21 "ChargeTalk$Talk" "current" "J", .fieldLink R_Ta 24 "ChargeTalk$Talk" "lastMessage" "J", .fieldLink R_Ta 27 "ChargeTalk$Talk" "energy" "J", .constantLong R_Ta 45 10, .methodLink R_Ta 47 Lib.Math.max.name, .static Lib.Math.max.name, .initialized "java/lang/Math", .code Lib.Math.max.name Lib.Math.max.code 2 (some .int), .code y_Ta_end b_Ta_end 1 none, .methodLink R_Ta 38 y_Ta_end, .instanceMethod y_Ta_end, .selects R_Ta y_Ta_end y_Ta_end, .initialized R_Ta, .constantLong R_Ta 53 36000, .code y_Ta_isOn b_Ta_isOn 1 (some .boolean), .methodLink R_Ta 55 y_Ta_isOn, .instanceMethod y_Ta_isOn, .selects R_Ta y_Ta_isOn y_Ta_isOn, .constantLong R_Ta 59 5000, .constantLong R_Ta 79 380, .constantLong R_Ta 81 420, .code y_Ta_isLimit b_Ta_isLimit 2 (some .boolean), .methodLink R_Ta 61 y_Ta_isLimit, .static y_Ta_isLimit, .constantLong R_Ta 64 100, .code y_Ta_phaseAtVolts b_Ta_phaseAtVolts 2 (some .int), .methodLink R_Ta 66 y_Ta_phaseAtVolts, .static y_Ta_phaseAtVolts, .code y_Ta_isCharging b_Ta_isCharging 1 (some .boolean), .methodLink R_Ta 70 y_Ta_isCharging, .instanceMethod y_Ta_isCharging, .selects R_Ta y_Ta_isCharging y_Ta_isCharging, .code y_Ta_isLate b_Ta_isLate 3 (some .boolean), .methodLink R_Ta 30 y_Ta_isLate, .instanceMethod y_Ta_isLate, .selects R_Ta y_Ta_isLate y_Ta_isLate, .code y_Ta_phaseAfter b_Ta_phaseAfter 5 (some .int), .methodLink R_Ta 34 y_Ta_phaseAfter, .instanceMethod y_Ta_phaseAfter, .selects R_Ta y_Ta_phaseAfter y_Ta_phaseAfter, .code y_Ta_keep b_Ta_keep 6 none, .methodLink R_Ta 41 y_Ta_keep, .instanceMethod y_Ta_keep, .selects R_Ta y_Ta_keep y_Ta_keep, .fieldLink R_Tf 20 "ChargeTalk$Tariff" "spans" "I", .fieldLink R_Tf 9 "ChargeTalk$Tariff" "centsIn" "[I", .methodLink R_Tf 28 Lib.Math.max.name, .constantLong R_Tf 34 1440, .fieldLink R_Tf 13 "ChargeTalk$Tariff" "units" "[I", .fieldLink R_Tf 16 "ChargeTalk$Tariff" "roomAt" "[J", .code y_Tf_isPrice b_Tf_isPrice 1 (some .boolean), .methodLink R_Tf 47 y_Tf_isPrice, .static y_Tf_isPrice, .initialized R_Tf, .fieldLink R_Tf 24 "ChargeTalk$Tariff" "lacking" "J", .methodLink R_Tf 51 Lib.MathLoose.min_long.x, .static Lib.MathLoose.min_long.x, .code Lib.MathLoose.min_long.x Lib.MathLoose.min_long.code 4 (some .long), .code y_Tf_measureRoom b_Tf_measureRoom 5 none, .methodLink R_Tf 36 y_Tf_measureRoom, .instanceMethod y_Tf_measureRoom, .selects R_Tf y_Tf_measureRoom y_Tf_measureRoom, .code y_Tf_buyCheapest b_Tf_buyCheapest 10 (some .long), .methodLink R_Tf 40 y_Tf_buyCheapest, .instanceMethod y_Tf_buyCheapest, .selects R_Tf y_Tf_buyCheapest y_Tf_buyCheapest, .code y_Tf_spread b_Tf_spread 6 none, .methodLink R_Tf 44 y_Tf_spread, .instanceMethod y_Tf_spread, .selects R_Tf y_Tf_spread y_Tf_spread, .methodLink R_Tf 1 objectInit, .arrayClass .int, .arrayClass .long, .methodLink R_Li 1 objectInit, .fieldLink R_Li 9 "ChargeTalk$Line" "weights" "[I", .fieldLink R_Li 13 "ChargeTalk$Line" "count" "I", .fieldLink R_Li 17 "ChargeTalk$Line" "total" "J", .methodLink R_X 1 objectInit, .classLink R_X 7 R_Ck, .instantiable R_Ck 1, .initialized R_Ck, .code y_Ck_init b_Ck_init 1 none, .instanceMethod y_Ck_init, .fieldLink R_X 10 "ChargeTalk" "clock" "LChargeTalk$Clock;", .classLink R_X 16 R_Pi, .instantiable R_Pi 2, .code y_Pi_init b_Pi_init 1 none, .instanceMethod y_Pi_init, .fieldLink R_X 19 "ChargeTalk" "signal" "LChargeTalk$Pilot;", .classLink R_X 23 R_Ta, .instantiable R_Ta 6, .code y_Ta_init b_Ta_init 1 none, .instanceMethod y_Ta_init, .fieldLink R_X 26 "ChargeTalk" "talk" "LChargeTalk$Talk;", .classLink R_X 30 R_Tf, .instantiable R_Tf 5, .code y_Tf_init b_Tf_init 2 none, .methodLink R_X 32 y_Tf_init, .instanceMethod y_Tf_init, .fieldLink R_X 33 "ChargeTalk" "tariff" "LChargeTalk$Tariff;", .classLink R_X 37 R_Li, .instantiable R_Li 3, .initialized R_Li, .code y_Li_init b_Li_init 1 none, .instanceMethod y_Li_init, .fieldLink R_X 40 "ChargeTalk" "line" "LChargeTalk$Line;", .fieldLink R_X 44 "ChargeTalk" "plugLocked" "Z", .code y_Pi_set b_Pi_set 5 none, .methodLink R_X 48 y_Pi_set, .instanceMethod y_Pi_set, .selects R_Pi y_Pi_set y_Pi_set, .methodLink R_X 52 y_Pi_isConnected, .methodLink R_X 56 y_Ta_end, .constantLong R_X 63 (-1000000), .constantLong R_X 65 1000000, .methodLink R_X 67 y_X_isWithin, .code y_Ck_canTell b_Ck_canTell 3 (some .boolean), .methodLink R_X 71 y_Ck_canTell, .instanceMethod y_Ck_canTell, .selects R_Ck y_Ck_canTell y_Ck_canTell, .code y_Ck_tell b_Ck_tell 3 none, .methodLink R_X 75 y_Ck_tell, .instanceMethod y_Ck_tell, .selects R_Ck y_Ck_tell y_Ck_tell, .code y_Pi_isDigital b_Pi_isDigital 1 (some .boolean), .methodLink R_X 79 y_Pi_isDigital, .instanceMethod y_Pi_isDigital, .selects R_Pi y_Pi_isDigital y_Pi_isDigital, .code y_Ta_take b_Ta_take 8 (some .boolean), .methodLink R_X 82 y_Ta_take, .instanceMethod y_Ta_take, .selects R_Ta y_Ta_take y_Ta_take, .code y_Pi_tenthsOfAmpere b_Pi_tenthsOfAmpere 1 (some .int), .methodLink R_X 89 y_Pi_tenthsOfAmpere, .instanceMethod y_Pi_tenthsOfAmpere, .selects R_Pi y_Pi_tenthsOfAmpere y_Pi_tenthsOfAmpere, .methodLink R_X 93 y_Ta_isOn, .constantLong R_X 96 1000000000, .code y_Ta_wholeEnergy b_Ta_wholeEnergy 1 (some .long), .methodLink R_X 98 y_Ta_wholeEnergy, .instanceMethod y_Ta_wholeEnergy, .selects R_Ta y_Ta_wholeEnergy y_Ta_wholeEnergy, .constantLong R_X 102 1440, .code y_Tf_makePlan b_Tf_makePlan 7 (some .long), .methodLink R_X 104 y_Tf_makePlan, .instanceMethod y_Tf_makePlan, .selects R_Tf y_Tf_makePlan y_Tf_makePlan, .constantLong R_X 112 1439, .constantLong R_X 114 1000, .code y_Tf_isFull b_Tf_isFull 1 (some .boolean), .methodLink R_X 116 y_Tf_isFull, .instanceMethod y_Tf_isFull, .selects R_Tf y_Tf_isFull y_Tf_isFull, .code y_Tf_addSpan b_Tf_addSpan 5 (some .int), .methodLink R_X 119 y_Tf_addSpan, .instanceMethod y_Tf_addSpan, .selects R_Tf y_Tf_addSpan y_Tf_addSpan, .code y_Tf_unitsIn b_Tf_unitsIn 3 (some .int), .methodLink R_X 123 y_Tf_unitsIn, .instanceMethod y_Tf_unitsIn, .selects R_Tf y_Tf_unitsIn y_Tf_unitsIn, .methodLink R_X 127 y_Ta_isCharging, .code y_Ta_runDown b_Ta_runDown 2 (some .int), .methodLink R_X 133 y_Ta_runDown, .instanceMethod y_Ta_runDown, .selects R_Ta y_Ta_runDown y_Ta_runDown, .code y_Ta_breakOff b_Ta_breakOff 1 (some .int), .methodLink R_X 130 y_Ta_breakOff, .instanceMethod y_Ta_breakOff, .selects R_Ta y_Ta_breakOff y_Ta_breakOff, .code y_Li_isFull b_Li_isFull 1 (some .boolean), .methodLink R_X 136 y_Li_isFull, .instanceMethod y_Li_isFull, .selects R_Li y_Li_isFull y_Li_isFull, .code y_Li_add b_Li_add 2 (some .int), .methodLink R_X 137 y_Li_add, .instanceMethod y_Li_add, .selects R_Li y_Li_add y_Li_add, .methodLink R_Mo 1 objectInit, .fieldLink R_Mo 7 "ChargeTalkModel" "from" "[I", .fieldLink R_Mo 13 "ChargeTalkModel" "to" "[I", .fieldLink R_Mo 16 "ChargeTalkModel" "cents" "[I", .fieldLink R_Mo 19 "ChargeTalkModel" "planned" "[J", .fieldLink R_Mo 23 "ChargeTalkModel" "weight" "[I", .fieldLink R_Mo 30 "ChargeTalkModel" "pilot" "I", .fieldLink R_Mo 26 "ChargeTalkModel" "code" "I", .fieldLink R_Mo 35 "ChargeTalkModel" "share" "I", .code y_Mo_isOn b_Mo_isOn 1 (some .boolean), .methodLink R_Mo 48 y_Mo_isOn, .instanceMethod y_Mo_isOn, .selects R_Mo y_Mo_isOn y_Mo_isOn, .initialized R_Mo, .fieldLink R_Mo 52 "ChargeTalkModel" "phase" "I", .constantLong R_Mo 33 1000, .constantLong R_Mo 38 12, .constantLong R_Mo 40 9, .constantLong R_Mo 42 6, .constantLong R_Mo 44 3, .constantLong R_Mo 46 (-12), .code y_Mo_allows b_Mo_allows 1 (some .int), .methodLink R_Mo 55 y_Mo_allows, .instanceMethod y_Mo_allows, .selects R_Mo y_Mo_allows y_Mo_allows, .fieldLink R_Mo 59 "ChargeTalkModel" "now" "J", .constantLong R_Mo 63 1125899906842624, .fieldLink R_Mo 65 "ChargeTalkModel" "locked" "Z", .constantLong R_Mo 69 5000, .fieldLink R_Mo 71 "ChargeTalkModel" "direct" "Z", .constantLong R_Mo 74 100, .constantLong R_Mo 76 380, .constantLong R_Mo 78 420, .fieldLink R_Mo 80 "ChargeTalkModel" "limit" "J", .fieldLink R_Mo 98 "ChargeTalkModel" "current" "J", .fieldLink R_Mo 101 "ChargeTalkModel" "energy" "J", .fieldLink R_Mo 91 "ChargeTalkModel" "last" "J", .constantLong R_Mo 83 (-1000000), .constantLong R_Mo 85 1000000, .code y_Mo_isTime b_Mo_isTime 3 (some .boolean), .methodLink R_Mo 87 y_Mo_isTime, .instanceMethod y_Mo_isTime, .selects R_Mo y_Mo_isTime y_Mo_isTime, .code y_Mo_behind b_Mo_behind 6 (some .int), .methodLink R_Mo 94 y_Mo_behind, .instanceMethod y_Mo_behind, .selects R_Mo y_Mo_behind y_Mo_behind, .constantLong R_Mo 104 1000000000, .constantLong R_Mo 106 36000, .fieldLink R_Mo 108 "ChargeTalkModel" "spans" "I", .fieldLink R_Mo 117 "ChargeTalkModel" "lacks" "J", .code y_Mo_priceOf b_Mo_priceOf 3 (some .int), .methodLink R_Mo 113 y_Mo_priceOf, .instanceMethod y_Mo_priceOf, .selects R_Mo y_Mo_priceOf y_Mo_priceOf, .constantLong R_Mo 111 1440, .constantLong R_Mo 120 1439, .constantLong R_Mo 122 10, .fieldLink R_Mo 124 "ChargeTalkModel" "cars" "I", .constantLong R_Mo 127 (-1), .constantLong R_Mo 131 (-2), .constantLong R_Mo 129 1000000000000] : List Cond), w ∈ BIG := fun w h => List.mem_append_right _ h
theorem kb_0 : (.methodLink R_Ck 1 objectInit) ∈ BIG := List.mem_append_right _ (List.mem_of_getElem? (i := 0) rfl)
theorem kb_1 : (.instanceMethod objectInit) ∈ BIG := List.mem_append_right _ (List.mem_of_getElem? (i := 1) rfl)
theorem kb_2 : (.code objectInit ⟨#[0xb1]⟩ 1 none) ∈ BIG := List.mem_append_right _ (List.mem_of_getElem? (i := 2) rfl)
theorem kb_3 : (.constantLong R_Ck 9 (-9223372036854775808)) ∈ BIG := List.mem_append_right _ (List.mem_of_getElem? (i := 3) rfl)
theorem kb_4 : (.fieldLink R_Ck 11 "ChargeTalk$Clock" "told" "J") ∈ BIG := List.mem_append_right _ (List.mem_of_getElem? (i := 4) rfl)
theorem kb_5 : (.constantLong R_Ck 17 1125899906842624) ∈ BIG := List.mem_append_right _ (List.mem_of_getElem? (i := 5) rfl)
theorem kb_6 : (.code y_X_isWithin b_X_isWithin 6 (some .boolean)) ∈ BIG := List.mem_append_right _ (List.mem_of_getElem? (i := 6) rfl)
theorem kb_7 : (.initialized R_X) ∈ BIG := List.mem_append_right _ (List.mem_of_getElem? (i := 7) rfl)
theorem kb_8 : (.static y_X_isWithin) ∈ BIG := List.mem_append_right _ (List.mem_of_getElem? (i := 8) rfl)
theorem kb_9 : (.methodLink R_Pi 1 objectInit) ∈ BIG := List.mem_append_right _ (List.mem_of_getElem? (i := 9) rfl)
theorem kb_10 : (.fieldLink R_Pi 7 "ChargeTalk$Pilot" "level" "I") ∈ BIG := List.mem_append_right _ (List.mem_of_getElem? (i := 10) rfl)
theorem kb_11 : (.fieldLink R_Pi 13 "ChargeTalk$Pilot" "thousandths" "J") ∈ BIG := List.mem_append_right _ (List.mem_of_getElem? (i := 11) rfl)
theorem kb_12 : (.constantLong R_Pi 41 12) ∈ BIG := List.mem_append_right _ (List.mem_of_getElem? (i := 12) rfl)
theorem kb_13 : (.constantLong R_Pi 43 9) ∈ BIG := List.mem_append_right _ (List.mem_of_getElem? (i := 13) rfl)
theorem kb_14 : (.constantLong R_Pi 45 6) ∈ BIG := List.mem_append_right _ (List.mem_of_getElem? (i := 14) rfl)
theorem kb_15 : (.constantLong R_Pi 47 3) ∈ BIG := List.mem_append_right _ (List.mem_of_getElem? (i := 15) rfl)
theorem kb_16 : (.constantLong R_Pi 49 (-12)) ∈ BIG := List.mem_append_right _ (List.mem_of_getElem? (i := 16) rfl)
theorem kb_17 : (.constantLong R_Pi 17 1000) ∈ BIG := List.mem_append_right _ (List.mem_of_getElem? (i := 17) rfl)
theorem kb_18 : (.code y_Pi_levelOf b_Pi_levelOf 2 (some .int)) ∈ BIG := List.mem_append_right _ (List.mem_of_getElem? (i := 18) rfl)
theorem kb_19 : (.methodLink R_Pi 25 y_Pi_levelOf) ∈ BIG := List.mem_append_right _ (List.mem_of_getElem? (i := 19) rfl)
theorem kb_20 : (.static y_Pi_levelOf) ∈ BIG := List.mem_append_right _ (List.mem_of_getElem? (i := 20) rfl)
theorem kb_21 : (.initialized R_Pi) ∈ BIG := List.mem_append_right _ (List.mem_of_getElem? (i := 21) rfl)
theorem kb_22 : (.code y_Pi_isConnected b_Pi_isConnected 1 (some .boolean)) ∈ BIG := List.mem_append_right _ (List.mem_of_getElem? (i := 22) rfl)
theorem kb_23 : (.methodLink R_Pi 29 y_Pi_isConnected) ∈ BIG := List.mem_append_right _ (List.mem_of_getElem? (i := 23) rfl)
theorem kb_24 : (.instanceMethod y_Pi_isConnected) ∈ BIG := List.mem_append_right _ (List.mem_of_getElem? (i := 24) rfl)
theorem kb_25 : (.selects R_Pi y_Pi_isConnected y_Pi_isConnected) ∈ BIG := List.mem_append_right _ (List.mem_of_getElem? (i := 25) rfl)
theorem kb_26 : (.constantLong R_Pi 33 30) ∈ BIG := List.mem_append_right _ (List.mem_of_getElem? (i := 26) rfl)
theorem kb_27 : (.constantLong R_Pi 35 70) ∈ BIG := List.mem_append_right _ (List.mem_of_getElem? (i := 27) rfl)
theorem kb_28 : (.code y_Pi_tenthsFor b_Pi_tenthsFor 1 (some .int)) ∈ BIG := List.mem_append_right _ (List.mem_of_getElem? (i := 28) rfl)
theorem kb_29 : (.methodLink R_Pi 37 y_Pi_tenthsFor) ∈ BIG := List.mem_append_right _ (List.mem_of_getElem? (i := 29) rfl)
theorem kb_30 : (.static y_Pi_tenthsFor) ∈ BIG := List.mem_append_right _ (List.mem_of_getElem? (i := 30) rfl)
theorem kb_31 : (.methodLink R_Ta 1 objectInit) ∈ BIG := List.mem_append_right _ (List.mem_of_getElem? (i := 31) rfl)
theorem kb_32 : (.fieldLink R_Ta 9 "ChargeTalk$Talk" "phase" "I") ∈ BIG := List.mem_append_right _ (List.mem_of_getElem? (i := 32) rfl)
theorem kb_33 : (.fieldLink R_Ta 13 "ChargeTalk$Talk" "direct" "Z") ∈ BIG := List.mem_append_right _ (List.mem_of_getElem? (i := 33) rfl)
theorem kb_34 : (.fieldLink R_Ta 17 "ChargeTalk$Talk" "limit" "J") ∈ BIG := List.mem_append_right _ (List.mem_of_getElem? (i := 34) rfl)
theorem kb_35 : (.fieldLink R_Ta 21 "ChargeTalk$Talk" "current" "J") ∈ BIG := List.mem_append_right _ (List.mem_of_getElem? (i := 35) rfl)
theorem kb_36 : (.fieldLink R_Ta 24 "ChargeTalk$Talk" "lastMessage" "J") ∈ BIG := List.mem_append_right _ (List.mem_of_getElem? (i := 36) rfl)
theorem kb_37 : (.fieldLink R_Ta 27 "ChargeTalk$Talk" "energy" "J") ∈ BIG := List.mem_append_right _ (List.mem_of_getElem? (i := 37) rfl)
theorem kb_38 : (.constantLong R_Ta 45 10) ∈ BIG := List.mem_append_right _ (List.mem_of_getElem? (i := 38) rfl)
theorem kb_39 : (.methodLink R_Ta 47 Lib.Math.max.name) ∈ BIG := List.mem_append_right _ (List.mem_of_getElem? (i := 39) rfl)
theorem kb_40 : (.static Lib.Math.max.name) ∈ BIG := List.mem_append_right _ (List.mem_of_getElem? (i := 40) rfl)
theorem kb_41 : (.initialized "java/lang/Math") ∈ BIG := List.mem_append_right _ (List.mem_of_getElem? (i := 41) rfl)
theorem kb_42 : (.code Lib.Math.max.name Lib.Math.max.code 2 (some .int)) ∈ BIG := List.mem_append_right _ (List.mem_of_getElem? (i := 42) rfl)
theorem kb_43 : (.code y_Ta_end b_Ta_end 1 none) ∈ BIG := List.mem_append_right _ (List.mem_of_getElem? (i := 43) rfl)
theorem kb_44 : (.methodLink R_Ta 38 y_Ta_end) ∈ BIG := List.mem_append_right _ (List.mem_of_getElem? (i := 44) rfl)
theorem kb_45 : (.instanceMethod y_Ta_end) ∈ BIG := List.mem_append_right _ (List.mem_of_getElem? (i := 45) rfl)
theorem kb_46 : (.selects R_Ta y_Ta_end y_Ta_end) ∈ BIG := List.mem_append_right _ (List.mem_of_getElem? (i := 46) rfl)
theorem kb_47 : (.initialized R_Ta) ∈ BIG := List.mem_append_right _ (List.mem_of_getElem? (i := 47) rfl)
theorem kb_48 : (.constantLong R_Ta 53 36000) ∈ BIG := List.mem_append_right _ (List.mem_of_getElem? (i := 48) rfl)
theorem kb_49 : (.code y_Ta_isOn b_Ta_isOn 1 (some .boolean)) ∈ BIG := List.mem_append_right _ (List.mem_of_getElem? (i := 49) rfl)
theorem kb_50 : (.methodLink R_Ta 55 y_Ta_isOn) ∈ BIG := List.mem_append_right _ (List.mem_of_getElem? (i := 50) rfl)
theorem kb_51 : (.instanceMethod y_Ta_isOn) ∈ BIG := List.mem_append_right _ (List.mem_of_getElem? (i := 51) rfl)
theorem kb_52 : (.selects R_Ta y_Ta_isOn y_Ta_isOn) ∈ BIG := List.mem_append_right _ (List.mem_of_getElem? (i := 52) rfl)
theorem kb_53 : (.constantLong R_Ta 59 5000) ∈ BIG := List.mem_append_right _ (List.mem_of_getElem? (i := 53) rfl)
theorem kb_54 : (.constantLong R_Ta 79 380) ∈ BIG := List.mem_append_right _ (List.mem_of_getElem? (i := 54) rfl)
theorem kb_55 : (.constantLong R_Ta 81 420) ∈ BIG := List.mem_append_right _ (List.mem_of_getElem? (i := 55) rfl)
theorem kb_56 : (.code y_Ta_isLimit b_Ta_isLimit 2 (some .boolean)) ∈ BIG := List.mem_append_right _ (List.mem_of_getElem? (i := 56) rfl)
theorem kb_57 : (.methodLink R_Ta 61 y_Ta_isLimit) ∈ BIG := List.mem_append_right _ (List.mem_of_getElem? (i := 57) rfl)
theorem kb_58 : (.static y_Ta_isLimit) ∈ BIG := List.mem_append_right _ (List.mem_of_getElem? (i := 58) rfl)
theorem kb_59 : (.constantLong R_Ta 64 100) ∈ BIG := List.mem_append_right _ (List.mem_of_getElem? (i := 59) rfl)
theorem kb_60 : (.code y_Ta_phaseAtVolts b_Ta_phaseAtVolts 2 (some .int)) ∈ BIG := List.mem_append_right _ (List.mem_of_getElem? (i := 60) rfl)
theorem kb_61 : (.methodLink R_Ta 66 y_Ta_phaseAtVolts) ∈ BIG := List.mem_append_right _ (List.mem_of_getElem? (i := 61) rfl)
theorem kb_62 : (.static y_Ta_phaseAtVolts) ∈ BIG := List.mem_append_right _ (List.mem_of_getElem? (i := 62) rfl)
theorem kb_63 : (.code y_Ta_isCharging b_Ta_isCharging 1 (some .boolean)) ∈ BIG := List.mem_append_right _ (List.mem_of_getElem? (i := 63) rfl)
theorem kb_64 : (.methodLink R_Ta 70 y_Ta_isCharging) ∈ BIG := List.mem_append_right _ (List.mem_of_getElem? (i := 64) rfl)
theorem kb_65 : (.instanceMethod y_Ta_isCharging) ∈ BIG := List.mem_append_right _ (List.mem_of_getElem? (i := 65) rfl)
theorem kb_66 : (.selects R_Ta y_Ta_isCharging y_Ta_isCharging) ∈ BIG := List.mem_append_right _ (List.mem_of_getElem? (i := 66) rfl)
theorem kb_67 : (.code y_Ta_isLate b_Ta_isLate 3 (some .boolean)) ∈ BIG := List.mem_append_right _ (List.mem_of_getElem? (i := 67) rfl)
theorem kb_68 : (.methodLink R_Ta 30 y_Ta_isLate) ∈ BIG := List.mem_append_right _ (List.mem_of_getElem? (i := 68) rfl)
theorem kb_69 : (.instanceMethod y_Ta_isLate) ∈ BIG := List.mem_append_right _ (List.mem_of_getElem? (i := 69) rfl)
theorem kb_70 : (.selects R_Ta y_Ta_isLate y_Ta_isLate) ∈ BIG := List.mem_append_right _ (List.mem_of_getElem? (i := 70) rfl)
theorem kb_71 : (.code y_Ta_phaseAfter b_Ta_phaseAfter 5 (some .int)) ∈ BIG := List.mem_append_right _ (List.mem_of_getElem? (i := 71) rfl)
theorem kb_72 : (.methodLink R_Ta 34 y_Ta_phaseAfter) ∈ BIG := List.mem_append_right _ (List.mem_of_getElem? (i := 72) rfl)
theorem kb_73 : (.instanceMethod y_Ta_phaseAfter) ∈ BIG := List.mem_append_right _ (List.mem_of_getElem? (i := 73) rfl)
theorem kb_74 : (.selects R_Ta y_Ta_phaseAfter y_Ta_phaseAfter) ∈ BIG := List.mem_append_right _ (List.mem_of_getElem? (i := 74) rfl)
theorem kb_75 : (.code y_Ta_keep b_Ta_keep 6 none) ∈ BIG := List.mem_append_right _ (List.mem_of_getElem? (i := 75) rfl)
theorem kb_76 : (.methodLink R_Ta 41 y_Ta_keep) ∈ BIG := List.mem_append_right _ (List.mem_of_getElem? (i := 76) rfl)
theorem kb_77 : (.instanceMethod y_Ta_keep) ∈ BIG := List.mem_append_right _ (List.mem_of_getElem? (i := 77) rfl)
theorem kb_78 : (.selects R_Ta y_Ta_keep y_Ta_keep) ∈ BIG := List.mem_append_right _ (List.mem_of_getElem? (i := 78) rfl)
theorem kb_79 : (.fieldLink R_Tf 20 "ChargeTalk$Tariff" "spans" "I") ∈ BIG := List.mem_append_right _ (List.mem_of_getElem? (i := 79) rfl)
theorem kb_80 : (.fieldLink R_Tf 9 "ChargeTalk$Tariff" "centsIn" "[I") ∈ BIG := List.mem_append_right _ (List.mem_of_getElem? (i := 80) rfl)
theorem kb_81 : (.methodLink R_Tf 28 Lib.Math.max.name) ∈ BIG := List.mem_append_right _ (List.mem_of_getElem? (i := 81) rfl)
theorem kb_82 : (.constantLong R_Tf 34 1440) ∈ BIG := List.mem_append_right _ (List.mem_of_getElem? (i := 82) rfl)
theorem kb_83 : (.fieldLink R_Tf 13 "ChargeTalk$Tariff" "units" "[I") ∈ BIG := List.mem_append_right _ (List.mem_of_getElem? (i := 83) rfl)
theorem kb_84 : (.fieldLink R_Tf 16 "ChargeTalk$Tariff" "roomAt" "[J") ∈ BIG := List.mem_append_right _ (List.mem_of_getElem? (i := 84) rfl)
theorem kb_85 : (.code y_Tf_isPrice b_Tf_isPrice 1 (some .boolean)) ∈ BIG := List.mem_append_right _ (List.mem_of_getElem? (i := 85) rfl)
theorem kb_86 : (.methodLink R_Tf 47 y_Tf_isPrice) ∈ BIG := List.mem_append_right _ (List.mem_of_getElem? (i := 86) rfl)
theorem kb_87 : (.static y_Tf_isPrice) ∈ BIG := List.mem_append_right _ (List.mem_of_getElem? (i := 87) rfl)
theorem kb_88 : (.initialized R_Tf) ∈ BIG := List.mem_append_right _ (List.mem_of_getElem? (i := 88) rfl)
theorem kb_89 : (.fieldLink R_Tf 24 "ChargeTalk$Tariff" "lacking" "J") ∈ BIG := List.mem_append_right _ (List.mem_of_getElem? (i := 89) rfl)
theorem kb_90 : (.methodLink R_Tf 51 Lib.MathLoose.min_long.x) ∈ BIG := List.mem_append_right _ (List.mem_of_getElem? (i := 90) rfl)
theorem kb_91 : (.static Lib.MathLoose.min_long.x) ∈ BIG := List.mem_append_right _ (List.mem_of_getElem? (i := 91) rfl)
theorem kb_92 : (.code Lib.MathLoose.min_long.x Lib.MathLoose.min_long.code 4 (some .long)) ∈ BIG := List.mem_append_right _ (List.mem_of_getElem? (i := 92) rfl)
theorem kb_93 : (.code y_Tf_measureRoom b_Tf_measureRoom 5 none) ∈ BIG := List.mem_append_right _ (List.mem_of_getElem? (i := 93) rfl)
theorem kb_94 : (.methodLink R_Tf 36 y_Tf_measureRoom) ∈ BIG := List.mem_append_right _ (List.mem_of_getElem? (i := 94) rfl)
theorem kb_95 : (.instanceMethod y_Tf_measureRoom) ∈ BIG := List.mem_append_right _ (List.mem_of_getElem? (i := 95) rfl)
theorem kb_96 : (.selects R_Tf y_Tf_measureRoom y_Tf_measureRoom) ∈ BIG := List.mem_append_right _ (List.mem_of_getElem? (i := 96) rfl)
theorem kb_97 : (.code y_Tf_buyCheapest b_Tf_buyCheapest 10 (some .long)) ∈ BIG := List.mem_append_right _ (List.mem_of_getElem? (i := 97) rfl)
theorem kb_98 : (.methodLink R_Tf 40 y_Tf_buyCheapest) ∈ BIG := List.mem_append_right _ (List.mem_of_getElem? (i := 98) rfl)
theorem kb_99 : (.instanceMethod y_Tf_buyCheapest) ∈ BIG := List.mem_append_right _ (List.mem_of_getElem? (i := 99) rfl)
theorem kb_100 : (.selects R_Tf y_Tf_buyCheapest y_Tf_buyCheapest) ∈ BIG := List.mem_append_right _ (List.mem_of_getElem? (i := 100) rfl)
theorem kb_101 : (.code y_Tf_spread b_Tf_spread 6 none) ∈ BIG := List.mem_append_right _ (List.mem_of_getElem? (i := 101) rfl)
theorem kb_102 : (.methodLink R_Tf 44 y_Tf_spread) ∈ BIG := List.mem_append_right _ (List.mem_of_getElem? (i := 102) rfl)
theorem kb_103 : (.instanceMethod y_Tf_spread) ∈ BIG := List.mem_append_right _ (List.mem_of_getElem? (i := 103) rfl)
theorem kb_104 : (.selects R_Tf y_Tf_spread y_Tf_spread) ∈ BIG := List.mem_append_right _ (List.mem_of_getElem? (i := 104) rfl)
theorem kb_105 : (.methodLink R_Tf 1 objectInit) ∈ BIG := List.mem_append_right _ (List.mem_of_getElem? (i := 105) rfl)
theorem kb_106 : (.arrayClass .int) ∈ BIG := List.mem_append_right _ (List.mem_of_getElem? (i := 106) rfl)
theorem kb_107 : (.arrayClass .long) ∈ BIG := List.mem_append_right _ (List.mem_of_getElem? (i := 107) rfl)
theorem kb_108 : (.methodLink R_Li 1 objectInit) ∈ BIG := List.mem_append_right _ (List.mem_of_getElem? (i := 108) rfl)
theorem kb_109 : (.fieldLink R_Li 9 "ChargeTalk$Line" "weights" "[I") ∈ BIG := List.mem_append_right _ (List.mem_of_getElem? (i := 109) rfl)
theorem kb_110 : (.fieldLink R_Li 13 "ChargeTalk$Line" "count" "I") ∈ BIG := List.mem_append_right _ (List.mem_of_getElem? (i := 110) rfl)
theorem kb_111 : (.fieldLink R_Li 17 "ChargeTalk$Line" "total" "J") ∈ BIG := List.mem_append_right _ (List.mem_of_getElem? (i := 111) rfl)
theorem kb_112 : (.methodLink R_X 1 objectInit) ∈ BIG := List.mem_append_right _ (List.mem_of_getElem? (i := 112) rfl)
theorem kb_113 : (.classLink R_X 7 R_Ck) ∈ BIG := List.mem_append_right _ (List.mem_of_getElem? (i := 113) rfl)
theorem kb_114 : (.instantiable R_Ck 1) ∈ BIG := List.mem_append_right _ (List.mem_of_getElem? (i := 114) rfl)
theorem kb_115 : (.initialized R_Ck) ∈ BIG := List.mem_append_right _ (List.mem_of_getElem? (i := 115) rfl)
theorem kb_116 : (.code y_Ck_init b_Ck_init 1 none) ∈ BIG := List.mem_append_right _ (List.mem_of_getElem? (i := 116) rfl)
theorem kb_117 : (.instanceMethod y_Ck_init) ∈ BIG := List.mem_append_right _ (List.mem_of_getElem? (i := 117) rfl)
theorem kb_118 : (.fieldLink R_X 10 "ChargeTalk" "clock" "LChargeTalk$Clock;") ∈ BIG := List.mem_append_right _ (List.mem_of_getElem? (i := 118) rfl)
theorem kb_119 : (.classLink R_X 16 R_Pi) ∈ BIG := List.mem_append_right _ (List.mem_of_getElem? (i := 119) rfl)
theorem kb_120 : (.instantiable R_Pi 2) ∈ BIG := List.mem_append_right _ (List.mem_of_getElem? (i := 120) rfl)
theorem kb_121 : (.code y_Pi_init b_Pi_init 1 none) ∈ BIG := List.mem_append_right _ (List.mem_of_getElem? (i := 121) rfl)
theorem kb_122 : (.instanceMethod y_Pi_init) ∈ BIG := List.mem_append_right _ (List.mem_of_getElem? (i := 122) rfl)
theorem kb_123 : (.fieldLink R_X 19 "ChargeTalk" "signal" "LChargeTalk$Pilot;") ∈ BIG := List.mem_append_right _ (List.mem_of_getElem? (i := 123) rfl)
theorem kb_124 : (.classLink R_X 23 R_Ta) ∈ BIG := List.mem_append_right _ (List.mem_of_getElem? (i := 124) rfl)
theorem kb_125 : (.instantiable R_Ta 6) ∈ BIG := List.mem_append_right _ (List.mem_of_getElem? (i := 125) rfl)
theorem kb_126 : (.code y_Ta_init b_Ta_init 1 none) ∈ BIG := List.mem_append_right _ (List.mem_of_getElem? (i := 126) rfl)
theorem kb_127 : (.instanceMethod y_Ta_init) ∈ BIG := List.mem_append_right _ (List.mem_of_getElem? (i := 127) rfl)
theorem kb_128 : (.fieldLink R_X 26 "ChargeTalk" "talk" "LChargeTalk$Talk;") ∈ BIG := List.mem_append_right _ (List.mem_of_getElem? (i := 128) rfl)
theorem kb_129 : (.classLink R_X 30 R_Tf) ∈ BIG := List.mem_append_right _ (List.mem_of_getElem? (i := 129) rfl)
theorem kb_130 : (.instantiable R_Tf 5) ∈ BIG := List.mem_append_right _ (List.mem_of_getElem? (i := 130) rfl)
theorem kb_131 : (.code y_Tf_init b_Tf_init 2 none) ∈ BIG := List.mem_append_right _ (List.mem_of_getElem? (i := 131) rfl)
theorem kb_132 : (.methodLink R_X 32 y_Tf_init) ∈ BIG := List.mem_append_right _ (List.mem_of_getElem? (i := 132) rfl)
theorem kb_133 : (.instanceMethod y_Tf_init) ∈ BIG := List.mem_append_right _ (List.mem_of_getElem? (i := 133) rfl)
theorem kb_134 : (.fieldLink R_X 33 "ChargeTalk" "tariff" "LChargeTalk$Tariff;") ∈ BIG := List.mem_append_right _ (List.mem_of_getElem? (i := 134) rfl)
theorem kb_135 : (.classLink R_X 37 R_Li) ∈ BIG := List.mem_append_right _ (List.mem_of_getElem? (i := 135) rfl)
theorem kb_136 : (.instantiable R_Li 3) ∈ BIG := List.mem_append_right _ (List.mem_of_getElem? (i := 136) rfl)
theorem kb_137 : (.initialized R_Li) ∈ BIG := List.mem_append_right _ (List.mem_of_getElem? (i := 137) rfl)
theorem kb_138 : (.code y_Li_init b_Li_init 1 none) ∈ BIG := List.mem_append_right _ (List.mem_of_getElem? (i := 138) rfl)
theorem kb_139 : (.instanceMethod y_Li_init) ∈ BIG := List.mem_append_right _ (List.mem_of_getElem? (i := 139) rfl)
theorem kb_140 : (.fieldLink R_X 40 "ChargeTalk" "line" "LChargeTalk$Line;") ∈ BIG := List.mem_append_right _ (List.mem_of_getElem? (i := 140) rfl)
theorem kb_141 : (.fieldLink R_X 44 "ChargeTalk" "plugLocked" "Z") ∈ BIG := List.mem_append_right _ (List.mem_of_getElem? (i := 141) rfl)
theorem kb_142 : (.code y_Pi_set b_Pi_set 5 none) ∈ BIG := List.mem_append_right _ (List.mem_of_getElem? (i := 142) rfl)
theorem kb_143 : (.methodLink R_X 48 y_Pi_set) ∈ BIG := List.mem_append_right _ (List.mem_of_getElem? (i := 143) rfl)
theorem kb_144 : (.instanceMethod y_Pi_set) ∈ BIG := List.mem_append_right _ (List.mem_of_getElem? (i := 144) rfl)
theorem kb_145 : (.selects R_Pi y_Pi_set y_Pi_set) ∈ BIG := List.mem_append_right _ (List.mem_of_getElem? (i := 145) rfl)
theorem kb_146 : (.methodLink R_X 52 y_Pi_isConnected) ∈ BIG := List.mem_append_right _ (List.mem_of_getElem? (i := 146) rfl)
theorem kb_147 : (.methodLink R_X 56 y_Ta_end) ∈ BIG := List.mem_append_right _ (List.mem_of_getElem? (i := 147) rfl)
theorem kb_148 : (.constantLong R_X 63 (-1000000)) ∈ BIG := List.mem_append_right _ (List.mem_of_getElem? (i := 148) rfl)
theorem kb_149 : (.constantLong R_X 65 1000000) ∈ BIG := List.mem_append_right _ (List.mem_of_getElem? (i := 149) rfl)
theorem kb_150 : (.methodLink R_X 67 y_X_isWithin) ∈ BIG := List.mem_append_right _ (List.mem_of_getElem? (i := 150) rfl)
theorem kb_151 : (.code y_Ck_canTell b_Ck_canTell 3 (some .boolean)) ∈ BIG := List.mem_append_right _ (List.mem_of_getElem? (i := 151) rfl)
theorem kb_152 : (.methodLink R_X 71 y_Ck_canTell) ∈ BIG := List.mem_append_right _ (List.mem_of_getElem? (i := 152) rfl)
theorem kb_153 : (.instanceMethod y_Ck_canTell) ∈ BIG := List.mem_append_right _ (List.mem_of_getElem? (i := 153) rfl)
theorem kb_154 : (.selects R_Ck y_Ck_canTell y_Ck_canTell) ∈ BIG := List.mem_append_right _ (List.mem_of_getElem? (i := 154) rfl)
theorem kb_155 : (.code y_Ck_tell b_Ck_tell 3 none) ∈ BIG := List.mem_append_right _ (List.mem_of_getElem? (i := 155) rfl)
theorem kb_156 : (.methodLink R_X 75 y_Ck_tell) ∈ BIG := List.mem_append_right _ (List.mem_of_getElem? (i := 156) rfl)
theorem kb_157 : (.instanceMethod y_Ck_tell) ∈ BIG := List.mem_append_right _ (List.mem_of_getElem? (i := 157) rfl)
theorem kb_158 : (.selects R_Ck y_Ck_tell y_Ck_tell) ∈ BIG := List.mem_append_right _ (List.mem_of_getElem? (i := 158) rfl)
theorem kb_159 : (.code y_Pi_isDigital b_Pi_isDigital 1 (some .boolean)) ∈ BIG := List.mem_append_right _ (List.mem_of_getElem? (i := 159) rfl)
theorem kb_160 : (.methodLink R_X 79 y_Pi_isDigital) ∈ BIG := List.mem_append_right _ (List.mem_of_getElem? (i := 160) rfl)
theorem kb_161 : (.instanceMethod y_Pi_isDigital) ∈ BIG := List.mem_append_right _ (List.mem_of_getElem? (i := 161) rfl)
theorem kb_162 : (.selects R_Pi y_Pi_isDigital y_Pi_isDigital) ∈ BIG := List.mem_append_right _ (List.mem_of_getElem? (i := 162) rfl)
theorem kb_163 : (.code y_Ta_take b_Ta_take 8 (some .boolean)) ∈ BIG := List.mem_append_right _ (List.mem_of_getElem? (i := 163) rfl)
theorem kb_164 : (.methodLink R_X 82 y_Ta_take) ∈ BIG := List.mem_append_right _ (List.mem_of_getElem? (i := 164) rfl)
theorem kb_165 : (.instanceMethod y_Ta_take) ∈ BIG := List.mem_append_right _ (List.mem_of_getElem? (i := 165) rfl)
theorem kb_166 : (.selects R_Ta y_Ta_take y_Ta_take) ∈ BIG := List.mem_append_right _ (List.mem_of_getElem? (i := 166) rfl)
theorem kb_167 : (.code y_Pi_tenthsOfAmpere b_Pi_tenthsOfAmpere 1 (some .int)) ∈ BIG := List.mem_append_right _ (List.mem_of_getElem? (i := 167) rfl)
theorem kb_168 : (.methodLink R_X 89 y_Pi_tenthsOfAmpere) ∈ BIG := List.mem_append_right _ (List.mem_of_getElem? (i := 168) rfl)
theorem kb_169 : (.instanceMethod y_Pi_tenthsOfAmpere) ∈ BIG := List.mem_append_right _ (List.mem_of_getElem? (i := 169) rfl)
theorem kb_170 : (.selects R_Pi y_Pi_tenthsOfAmpere y_Pi_tenthsOfAmpere) ∈ BIG := List.mem_append_right _ (List.mem_of_getElem? (i := 170) rfl)
theorem kb_171 : (.methodLink R_X 93 y_Ta_isOn) ∈ BIG := List.mem_append_right _ (List.mem_of_getElem? (i := 171) rfl)
theorem kb_172 : (.constantLong R_X 96 1000000000) ∈ BIG := List.mem_append_right _ (List.mem_of_getElem? (i := 172) rfl)
theorem kb_173 : (.code y_Ta_wholeEnergy b_Ta_wholeEnergy 1 (some .long)) ∈ BIG := List.mem_append_right _ (List.mem_of_getElem? (i := 173) rfl)
theorem kb_174 : (.methodLink R_X 98 y_Ta_wholeEnergy) ∈ BIG := List.mem_append_right _ (List.mem_of_getElem? (i := 174) rfl)
theorem kb_175 : (.instanceMethod y_Ta_wholeEnergy) ∈ BIG := List.mem_append_right _ (List.mem_of_getElem? (i := 175) rfl)
theorem kb_176 : (.selects R_Ta y_Ta_wholeEnergy y_Ta_wholeEnergy) ∈ BIG := List.mem_append_right _ (List.mem_of_getElem? (i := 176) rfl)
theorem kb_177 : (.constantLong R_X 102 1440) ∈ BIG := List.mem_append_right _ (List.mem_of_getElem? (i := 177) rfl)
theorem kb_178 : (.code y_Tf_makePlan b_Tf_makePlan 7 (some .long)) ∈ BIG := List.mem_append_right _ (List.mem_of_getElem? (i := 178) rfl)
theorem kb_179 : (.methodLink R_X 104 y_Tf_makePlan) ∈ BIG := List.mem_append_right _ (List.mem_of_getElem? (i := 179) rfl)
theorem kb_180 : (.instanceMethod y_Tf_makePlan) ∈ BIG := List.mem_append_right _ (List.mem_of_getElem? (i := 180) rfl)
theorem kb_181 : (.selects R_Tf y_Tf_makePlan y_Tf_makePlan) ∈ BIG := List.mem_append_right _ (List.mem_of_getElem? (i := 181) rfl)
theorem kb_182 : (.constantLong R_X 112 1439) ∈ BIG := List.mem_append_right _ (List.mem_of_getElem? (i := 182) rfl)
theorem kb_183 : (.constantLong R_X 114 1000) ∈ BIG := List.mem_append_right _ (List.mem_of_getElem? (i := 183) rfl)
theorem kb_184 : (.code y_Tf_isFull b_Tf_isFull 1 (some .boolean)) ∈ BIG := List.mem_append_right _ (List.mem_of_getElem? (i := 184) rfl)
theorem kb_185 : (.methodLink R_X 116 y_Tf_isFull) ∈ BIG := List.mem_append_right _ (List.mem_of_getElem? (i := 185) rfl)
theorem kb_186 : (.instanceMethod y_Tf_isFull) ∈ BIG := List.mem_append_right _ (List.mem_of_getElem? (i := 186) rfl)
theorem kb_187 : (.selects R_Tf y_Tf_isFull y_Tf_isFull) ∈ BIG := List.mem_append_right _ (List.mem_of_getElem? (i := 187) rfl)
theorem kb_188 : (.code y_Tf_addSpan b_Tf_addSpan 5 (some .int)) ∈ BIG := List.mem_append_right _ (List.mem_of_getElem? (i := 188) rfl)
theorem kb_189 : (.methodLink R_X 119 y_Tf_addSpan) ∈ BIG := List.mem_append_right _ (List.mem_of_getElem? (i := 189) rfl)
theorem kb_190 : (.instanceMethod y_Tf_addSpan) ∈ BIG := List.mem_append_right _ (List.mem_of_getElem? (i := 190) rfl)
theorem kb_191 : (.selects R_Tf y_Tf_addSpan y_Tf_addSpan) ∈ BIG := List.mem_append_right _ (List.mem_of_getElem? (i := 191) rfl)
theorem kb_192 : (.code y_Tf_unitsIn b_Tf_unitsIn 3 (some .int)) ∈ BIG := List.mem_append_right _ (List.mem_of_getElem? (i := 192) rfl)
theorem kb_193 : (.methodLink R_X 123 y_Tf_unitsIn) ∈ BIG := List.mem_append_right _ (List.mem_of_getElem? (i := 193) rfl)
theorem kb_194 : (.instanceMethod y_Tf_unitsIn) ∈ BIG := List.mem_append_right _ (List.mem_of_getElem? (i := 194) rfl)
theorem kb_195 : (.selects R_Tf y_Tf_unitsIn y_Tf_unitsIn) ∈ BIG := List.mem_append_right _ (List.mem_of_getElem? (i := 195) rfl)
theorem kb_196 : (.methodLink R_X 127 y_Ta_isCharging) ∈ BIG := List.mem_append_right _ (List.mem_of_getElem? (i := 196) rfl)
theorem kb_197 : (.code y_Ta_runDown b_Ta_runDown 2 (some .int)) ∈ BIG := List.mem_append_right _ (List.mem_of_getElem? (i := 197) rfl)
theorem kb_198 : (.methodLink R_X 133 y_Ta_runDown) ∈ BIG := List.mem_append_right _ (List.mem_of_getElem? (i := 198) rfl)
theorem kb_199 : (.instanceMethod y_Ta_runDown) ∈ BIG := List.mem_append_right _ (List.mem_of_getElem? (i := 199) rfl)
theorem kb_200 : (.selects R_Ta y_Ta_runDown y_Ta_runDown) ∈ BIG := List.mem_append_right _ (List.mem_of_getElem? (i := 200) rfl)
theorem kb_201 : (.code y_Ta_breakOff b_Ta_breakOff 1 (some .int)) ∈ BIG := List.mem_append_right _ (List.mem_of_getElem? (i := 201) rfl)
theorem kb_202 : (.methodLink R_X 130 y_Ta_breakOff) ∈ BIG := List.mem_append_right _ (List.mem_of_getElem? (i := 202) rfl)
theorem kb_203 : (.instanceMethod y_Ta_breakOff) ∈ BIG := List.mem_append_right _ (List.mem_of_getElem? (i := 203) rfl)
theorem kb_204 : (.selects R_Ta y_Ta_breakOff y_Ta_breakOff) ∈ BIG := List.mem_append_right _ (List.mem_of_getElem? (i := 204) rfl)
theorem kb_205 : (.code y_Li_isFull b_Li_isFull 1 (some .boolean)) ∈ BIG := List.mem_append_right _ (List.mem_of_getElem? (i := 205) rfl)
theorem kb_206 : (.methodLink R_X 136 y_Li_isFull) ∈ BIG := List.mem_append_right _ (List.mem_of_getElem? (i := 206) rfl)
theorem kb_207 : (.instanceMethod y_Li_isFull) ∈ BIG := List.mem_append_right _ (List.mem_of_getElem? (i := 207) rfl)
theorem kb_208 : (.selects R_Li y_Li_isFull y_Li_isFull) ∈ BIG := List.mem_append_right _ (List.mem_of_getElem? (i := 208) rfl)
theorem kb_209 : (.code y_Li_add b_Li_add 2 (some .int)) ∈ BIG := List.mem_append_right _ (List.mem_of_getElem? (i := 209) rfl)
theorem kb_210 : (.methodLink R_X 137 y_Li_add) ∈ BIG := List.mem_append_right _ (List.mem_of_getElem? (i := 210) rfl)
theorem kb_211 : (.instanceMethod y_Li_add) ∈ BIG := List.mem_append_right _ (List.mem_of_getElem? (i := 211) rfl)
theorem kb_212 : (.selects R_Li y_Li_add y_Li_add) ∈ BIG := List.mem_append_right _ (List.mem_of_getElem? (i := 212) rfl)
theorem kb_213 : (.methodLink R_Mo 1 objectInit) ∈ BIG := List.mem_append_right _ (List.mem_of_getElem? (i := 213) rfl)
theorem kb_214 : (.fieldLink R_Mo 7 "ChargeTalkModel" "from" "[I") ∈ BIG := List.mem_append_right _ (List.mem_of_getElem? (i := 214) rfl)
theorem kb_215 : (.fieldLink R_Mo 13 "ChargeTalkModel" "to" "[I") ∈ BIG := List.mem_append_right _ (List.mem_of_getElem? (i := 215) rfl)
theorem kb_216 : (.fieldLink R_Mo 16 "ChargeTalkModel" "cents" "[I") ∈ BIG := List.mem_append_right _ (List.mem_of_getElem? (i := 216) rfl)
theorem kb_217 : (.fieldLink R_Mo 19 "ChargeTalkModel" "planned" "[J") ∈ BIG := List.mem_append_right _ (List.mem_of_getElem? (i := 217) rfl)
theorem kb_218 : (.fieldLink R_Mo 23 "ChargeTalkModel" "weight" "[I") ∈ BIG := List.mem_append_right _ (List.mem_of_getElem? (i := 218) rfl)
theorem kb_219 : (.fieldLink R_Mo 30 "ChargeTalkModel" "pilot" "I") ∈ BIG := List.mem_append_right _ (List.mem_of_getElem? (i := 219) rfl)
theorem kb_220 : (.fieldLink R_Mo 26 "ChargeTalkModel" "code" "I") ∈ BIG := List.mem_append_right _ (List.mem_of_getElem? (i := 220) rfl)
theorem kb_221 : (.fieldLink R_Mo 35 "ChargeTalkModel" "share" "I") ∈ BIG := List.mem_append_right _ (List.mem_of_getElem? (i := 221) rfl)
theorem kb_222 : (.code y_Mo_isOn b_Mo_isOn 1 (some .boolean)) ∈ BIG := List.mem_append_right _ (List.mem_of_getElem? (i := 222) rfl)
theorem kb_223 : (.methodLink R_Mo 48 y_Mo_isOn) ∈ BIG := List.mem_append_right _ (List.mem_of_getElem? (i := 223) rfl)
theorem kb_224 : (.instanceMethod y_Mo_isOn) ∈ BIG := List.mem_append_right _ (List.mem_of_getElem? (i := 224) rfl)
theorem kb_225 : (.selects R_Mo y_Mo_isOn y_Mo_isOn) ∈ BIG := List.mem_append_right _ (List.mem_of_getElem? (i := 225) rfl)
theorem kb_226 : (.initialized R_Mo) ∈ BIG := List.mem_append_right _ (List.mem_of_getElem? (i := 226) rfl)
theorem kb_227 : (.fieldLink R_Mo 52 "ChargeTalkModel" "phase" "I") ∈ BIG := List.mem_append_right _ (List.mem_of_getElem? (i := 227) rfl)
theorem kb_228 : (.constantLong R_Mo 33 1000) ∈ BIG := List.mem_append_right _ (List.mem_of_getElem? (i := 228) rfl)
theorem kb_229 : (.constantLong R_Mo 38 12) ∈ BIG := List.mem_append_right _ (List.mem_of_getElem? (i := 229) rfl)
theorem kb_230 : (.constantLong R_Mo 40 9) ∈ BIG := List.mem_append_right _ (List.mem_of_getElem? (i := 230) rfl)
theorem kb_231 : (.constantLong R_Mo 42 6) ∈ BIG := List.mem_append_right _ (List.mem_of_getElem? (i := 231) rfl)
theorem kb_232 : (.constantLong R_Mo 44 3) ∈ BIG := List.mem_append_right _ (List.mem_of_getElem? (i := 232) rfl)
theorem kb_233 : (.constantLong R_Mo 46 (-12)) ∈ BIG := List.mem_append_right _ (List.mem_of_getElem? (i := 233) rfl)
theorem kb_234 : (.code y_Mo_allows b_Mo_allows 1 (some .int)) ∈ BIG := List.mem_append_right _ (List.mem_of_getElem? (i := 234) rfl)
theorem kb_235 : (.methodLink R_Mo 55 y_Mo_allows) ∈ BIG := List.mem_append_right _ (List.mem_of_getElem? (i := 235) rfl)
theorem kb_236 : (.instanceMethod y_Mo_allows) ∈ BIG := List.mem_append_right _ (List.mem_of_getElem? (i := 236) rfl)
theorem kb_237 : (.selects R_Mo y_Mo_allows y_Mo_allows) ∈ BIG := List.mem_append_right _ (List.mem_of_getElem? (i := 237) rfl)
theorem kb_238 : (.fieldLink R_Mo 59 "ChargeTalkModel" "now" "J") ∈ BIG := List.mem_append_right _ (List.mem_of_getElem? (i := 238) rfl)
theorem kb_239 : (.constantLong R_Mo 63 1125899906842624) ∈ BIG := List.mem_append_right _ (List.mem_of_getElem? (i := 239) rfl)
theorem kb_240 : (.fieldLink R_Mo 65 "ChargeTalkModel" "locked" "Z") ∈ BIG := List.mem_append_right _ (List.mem_of_getElem? (i := 240) rfl)
theorem kb_241 : (.constantLong R_Mo 69 5000) ∈ BIG := List.mem_append_right _ (List.mem_of_getElem? (i := 241) rfl)
theorem kb_242 : (.fieldLink R_Mo 71 "ChargeTalkModel" "direct" "Z") ∈ BIG := List.mem_append_right _ (List.mem_of_getElem? (i := 242) rfl)
theorem kb_243 : (.constantLong R_Mo 74 100) ∈ BIG := List.mem_append_right _ (List.mem_of_getElem? (i := 243) rfl)
theorem kb_244 : (.constantLong R_Mo 76 380) ∈ BIG := List.mem_append_right _ (List.mem_of_getElem? (i := 244) rfl)
theorem kb_245 : (.constantLong R_Mo 78 420) ∈ BIG := List.mem_append_right _ (List.mem_of_getElem? (i := 245) rfl)
theorem kb_246 : (.fieldLink R_Mo 80 "ChargeTalkModel" "limit" "J") ∈ BIG := List.mem_append_right _ (List.mem_of_getElem? (i := 246) rfl)
theorem kb_247 : (.fieldLink R_Mo 98 "ChargeTalkModel" "current" "J") ∈ BIG := List.mem_append_right _ (List.mem_of_getElem? (i := 247) rfl)
theorem kb_248 : (.fieldLink R_Mo 101 "ChargeTalkModel" "energy" "J") ∈ BIG := List.mem_append_right _ (List.mem_of_getElem? (i := 248) rfl)
theorem kb_249 : (.fieldLink R_Mo 91 "ChargeTalkModel" "last" "J") ∈ BIG := List.mem_append_right _ (List.mem_of_getElem? (i := 249) rfl)
theorem kb_250 : (.constantLong R_Mo 83 (-1000000)) ∈ BIG := List.mem_append_right _ (List.mem_of_getElem? (i := 250) rfl)
theorem kb_251 : (.constantLong R_Mo 85 1000000) ∈ BIG := List.mem_append_right _ (List.mem_of_getElem? (i := 251) rfl)
theorem kb_252 : (.code y_Mo_isTime b_Mo_isTime 3 (some .boolean)) ∈ BIG := List.mem_append_right _ (List.mem_of_getElem? (i := 252) rfl)
theorem kb_253 : (.methodLink R_Mo 87 y_Mo_isTime) ∈ BIG := List.mem_append_right _ (List.mem_of_getElem? (i := 253) rfl)
theorem kb_254 : (.instanceMethod y_Mo_isTime) ∈ BIG := List.mem_append_right _ (List.mem_of_getElem? (i := 254) rfl)
theorem kb_255 : (.selects R_Mo y_Mo_isTime y_Mo_isTime) ∈ BIG := List.mem_append_right _ (List.mem_of_getElem? (i := 255) rfl)
theorem kb_256 : (.code y_Mo_behind b_Mo_behind 6 (some .int)) ∈ BIG := List.mem_append_right _ (List.mem_of_getElem? (i := 256) rfl)
theorem kb_257 : (.methodLink R_Mo 94 y_Mo_behind) ∈ BIG := List.mem_append_right _ (List.mem_of_getElem? (i := 257) rfl)
theorem kb_258 : (.instanceMethod y_Mo_behind) ∈ BIG := List.mem_append_right _ (List.mem_of_getElem? (i := 258) rfl)
theorem kb_259 : (.selects R_Mo y_Mo_behind y_Mo_behind) ∈ BIG := List.mem_append_right _ (List.mem_of_getElem? (i := 259) rfl)
theorem kb_260 : (.constantLong R_Mo 104 1000000000) ∈ BIG := List.mem_append_right _ (List.mem_of_getElem? (i := 260) rfl)
theorem kb_261 : (.constantLong R_Mo 106 36000) ∈ BIG := List.mem_append_right _ (List.mem_of_getElem? (i := 261) rfl)
theorem kb_262 : (.fieldLink R_Mo 108 "ChargeTalkModel" "spans" "I") ∈ BIG := List.mem_append_right _ (List.mem_of_getElem? (i := 262) rfl)
theorem kb_263 : (.fieldLink R_Mo 117 "ChargeTalkModel" "lacks" "J") ∈ BIG := List.mem_append_right _ (List.mem_of_getElem? (i := 263) rfl)
theorem kb_264 : (.code y_Mo_priceOf b_Mo_priceOf 3 (some .int)) ∈ BIG := List.mem_append_right _ (List.mem_of_getElem? (i := 264) rfl)
theorem kb_265 : (.methodLink R_Mo 113 y_Mo_priceOf) ∈ BIG := List.mem_append_right _ (List.mem_of_getElem? (i := 265) rfl)
theorem kb_266 : (.instanceMethod y_Mo_priceOf) ∈ BIG := List.mem_append_right _ (List.mem_of_getElem? (i := 266) rfl)
theorem kb_267 : (.selects R_Mo y_Mo_priceOf y_Mo_priceOf) ∈ BIG := List.mem_append_right _ (List.mem_of_getElem? (i := 267) rfl)
theorem kb_268 : (.constantLong R_Mo 111 1440) ∈ BIG := List.mem_append_right _ (List.mem_of_getElem? (i := 268) rfl)
theorem kb_269 : (.constantLong R_Mo 120 1439) ∈ BIG := List.mem_append_right _ (List.mem_of_getElem? (i := 269) rfl)
theorem kb_270 : (.constantLong R_Mo 122 10) ∈ BIG := List.mem_append_right _ (List.mem_of_getElem? (i := 270) rfl)
theorem kb_271 : (.fieldLink R_Mo 124 "ChargeTalkModel" "cars" "I") ∈ BIG := List.mem_append_right _ (List.mem_of_getElem? (i := 271) rfl)
theorem kb_272 : (.constantLong R_Mo 127 (-1)) ∈ BIG := List.mem_append_right _ (List.mem_of_getElem? (i := 272) rfl)
theorem kb_273 : (.constantLong R_Mo 131 (-2)) ∈ BIG := List.mem_append_right _ (List.mem_of_getElem? (i := 273) rfl)
theorem kb_274 : (.constantLong R_Mo 129 1000000000000) ∈ BIG := List.mem_append_right _ (List.mem_of_getElem? (i := 274) rfl)
theorem kn_0 : (.methodLinkNest R_Ck 19 y_X_isWithin "ChargeTalk") ∈ NEST := List.mem_of_getElem? (i := 0) rfl
theorem kn_1 : (.methodLinkNest R_Pi 19 y_X_isWithin "ChargeTalk") ∈ NEST := List.mem_of_getElem? (i := 1) rfl
theorem kn_2 : (.methodLinkNest R_Ta 73 y_X_isWithin "ChargeTalk") ∈ NEST := List.mem_of_getElem? (i := 2) rfl
theorem kn_3 : (.methodLinkNest R_X 9 y_Ck_init "ChargeTalk") ∈ NEST := List.mem_of_getElem? (i := 3) rfl
theorem kn_4 : (.methodLinkNest R_X 18 y_Pi_init "ChargeTalk") ∈ NEST := List.mem_of_getElem? (i := 4) rfl
theorem kn_5 : (.methodLinkNest R_X 25 y_Ta_init "ChargeTalk") ∈ NEST := List.mem_of_getElem? (i := 5) rfl
theorem kn_6 : (.methodLinkNest R_X 39 y_Li_init "ChargeTalk") ∈ NEST := List.mem_of_getElem? (i := 6) rfl
theorem kn_7 : (.fieldLinkNest R_X 59 "ChargeTalk$Pilot" "level" "I" "ChargeTalk") ∈ NEST := List.mem_of_getElem? (i := 7) rfl
theorem kn_8 : (.fieldLinkNest R_X 86 "ChargeTalk$Talk" "phase" "I" "ChargeTalk") ∈ NEST := List.mem_of_getElem? (i := 8) rfl
theorem kn_9 : (.fieldLinkNest R_X 108 "ChargeTalk$Tariff" "lacking" "J" "ChargeTalk") ∈ NEST := List.mem_of_getElem? (i := 9) rfl
theorem inC_Ck : ∀ w ∈ u_ws R_Ck F_Ck 1, w ∈ BIG := fun w h => List.mem_append_left _ (List.mem_append_left _ (List.mem_append_left _ (List.mem_append_left _ (List.mem_append_left _ (List.mem_append_left _ (List.mem_append_left _ (h)))))))
theorem inC_Pi : ∀ w ∈ u_ws R_Pi F_Pi 2, w ∈ BIG := fun w h => List.mem_append_left _ (List.mem_append_left _ (List.mem_append_left _ (List.mem_append_left _ (List.mem_append_left _ (List.mem_append_left _ (List.mem_append_right _ h))))))
theorem inC_Ta : ∀ w ∈ u_ws R_Ta F_Ta 6, w ∈ BIG := fun w h => List.mem_append_left _ (List.mem_append_left _ (List.mem_append_left _ (List.mem_append_left _ (List.mem_append_left _ (List.mem_append_right _ h)))))
theorem inC_Tf : ∀ w ∈ u_ws R_Tf F_Tf 5, w ∈ BIG := fun w h => List.mem_append_left _ (List.mem_append_left _ (List.mem_append_left _ (List.mem_append_left _ (List.mem_append_right _ h))))
theorem inC_Li : ∀ w ∈ u_ws R_Li F_Li 3, w ∈ BIG := fun w h => List.mem_append_left _ (List.mem_append_left _ (List.mem_append_left _ (List.mem_append_right _ h)))
theorem inC_X : ∀ w ∈ u_ws R_X F_X 6, w ∈ BIG := fun w h => List.mem_append_left _ (List.mem_append_left _ (List.mem_append_right _ h))
theorem inC_Mo : ∀ w ∈ u_ws R_Mo F_Mo 19, w ∈ BIG := fun w h => List.mem_append_left _ (List.mem_append_right _ h)
end
section
-- what every contract's start and end say, and the rows of a call
def nst (U : State) : Prop := ∀ w ∈ NEST, va_Nw w U
def nestOk : Cond → Bool
  | .fieldLinkNest .. => true
  | .methodLinkNest .. => true
  | _ => false
theorem NEST_ok : ∀ w ∈ NEST, nestOk w = true := by decide +kernel
theorem NEST_on : ∀ w ∈ NEST, w.onTables = true := by decide +kernel
theorem nst.warm {s U : State} (hW : s.WarmedH U.vm) (h : nst s) : nst U := by
  intro w hw
  have h1 := NEST_ok w hw
  have h2 := h w hw
  cases w <;> first | exact va_Nw.warmF hW h2 | exact va_Nw.warmM hW h2 | exact absurd h1 Bool.false_ne_true
theorem nst.same {s U : State} (e : s.vm = U.vm) (h : nst s) : nst U := fun w hw => va_Nw.same (NEST_on w hw) e (h w hw)
theorem bigGood : ∀ w ∈ BIG, goodWord w = true := by decide +kernel
theorem gin {x y : Cond} (hy : y ∈ BIG) : GoodIn (x :: BIG) (y :: BIG) := by
  intro w hw
  rcases List.mem_cons.mp hw with h | h
  · subst h; exact ⟨List.mem_cons_of_mem _ hy, good_of_word (bigGood _ hy)⟩
  · exact ⟨List.mem_cons_of_mem _ h, good_of_word (bigGood _ h)⟩
theorem ginC {x a : Cond} {l : List Cond} (ha : a ∈ BIG) (h : GoodIn (x :: BIG) l) : GoodIn (x :: BIG) (a :: l) := by
  intro w hw
  rcases List.mem_cons.mp hw with h1 | h1
  · subst h1; exact ⟨List.mem_cons_of_mem _ ha, good_of_word (bigGood _ ha)⟩
  · exact h w h1
theorem ginS {x cd : Cond} {own : String} {idx : Nat} {y : MethodName} (h1 : Cond.methodLink own idx y ∈ BIG) (h2 : Cond.static y ∈ BIG) (h3 : Cond.initialized own ∈ BIG) (hc : cd ∈ BIG) : GoodIn (x :: BIG) (wsS own idx y (cd :: BIG)) := ginC h1 (ginC h2 (ginC h3 (gin hc)))
theorem ginV {x cd : Cond} {own C : String} {idx : Nat} {y : MethodName} (h1 : Cond.methodLink own idx y ∈ BIG) (h2 : Cond.instanceMethod y ∈ BIG) (h3 : Cond.selects C y y ∈ BIG) (h4 : Cond.initialized C ∈ BIG) (hc : cd ∈ BIG) : GoodIn (x :: BIG) (wsV own idx C y (cd :: BIG)) := ginC h1 (ginC h2 (ginC h3 (ginC h4 (gin hc))))
theorem big_of {x : Cond} {args : Array Value} {s : State} (hts : ∀ w ∈ x :: BIG, w.before args s = true) : ∀ w ∈ BIG, w.before args s = true := fun w h => hts w (List.mem_cons_of_mem _ h)
def cPre (dC : Nat → ClassId) (dI : Nat → Nat → Nat) (av : List Value) (sz : Nat) (tys : List (ClassId × FieldType)) (ws : va_W) : Array Value → State → Prop := va_Pc av (fun U => U.heap.size = sz ∧ nst U ∧ va_P (dC, dI) classes ws U.heap ∧ va_K (dC, dI) classes tys U ∧ va_D (fun _ => True) ws)
abbrev cB (dC : Nat → ClassId) (dI : Nat → Nat → Nat) (A : Nat → Prop) (tys : List (ClassId × FieldType)) (ws : va_W) (t : State) : Prop := va_P (dC, dI) classes ws t.heap ∧ va_K (dC, dI) classes tys t ∧ va_D A ws
theorem cPre_fb {dC : Nat → ClassId} {dI : Nat → Nat → Nat} {av : List Value} {sz : Nat} {tys : List (ClassId × FieldType)} {ws : va_W} : FrameBlind (cPre dC dI av sz tys ws) := fun a U g mk q => by
  obtain ⟨q0, q1, qN, qP, qK, qD⟩ := q
  exact ⟨q0, q1, nst.same (s := U) (U := U.calling g mk a) rfl qN, qP, va_K.moved (u := U) (U := U.calling g mk a) (Vm.Alike.refl U.vm) qK, qD⟩
section
variable {s : State} {H : Heap} {dC : Nat → ClassId} {dI : Nat → Nat → Nat} {A0 : Nat → Prop} {tys tysC : List (ClassId × FieldType)} {ws wc : va_W} {av As : List Value}
theorem preS (hK : va_K (dC, dI) classes tys s) (hN : nst s) (hP : va_P (dC, dI) classes ws H) (hD : va_D A0 ws) (isC : List Nat) (h1 : isC.filterMap (fun i => ws[i]?) = wc) (h2 : isC.map (fun i => ws[i]?) = wc.map some) (h3 : va_nd isC = true) (tj : List Nat) (h4 : tj.filterMap (fun i => tys[i]?) = tysC) : PreS s H (cPre dC dI av H.size tysC wc) av :=
  ⟨cPre_fb, fun U hU hW => ⟨rfl, by rw [hU], hN.warm hW, by rw [hU]; exact hP.sub isC h1, va_K.moved hW.alike (hK.sub tj h4), (hD.sub isC h3 h2).weaken (fun _ _ _ _ => trivial)⟩⟩
theorem preV {ci b : Nat} {C : String} {T : u_T} {N : Nat} {fs : List Value} (hK : va_K (dC, dI) classes tys s) (hN : nst s) (hP : va_P (dC, dI) classes ws H) (hD : va_D A0 ws) (isC : List Nat) (h1 : isC.filterMap (fun i => ws[i]?) = wc) (h2 : isC.map (fun i => ws[i]?) = wc.map some) (h3 : va_nd isC = true) (tj : List Nat) (h4 : tj.filterMap (fun i => tys[i]?) = tysC) (hc : classes[ci]? = some (C, T, N)) (he : wc[0]? = some (b, .inr (ci, fs))) : PreV s H C b (cPre dC dI (.ref b :: As) H.size tysC wc) As :=
  ⟨cPre_fb, va_recv (q := (C, T, N)) hK (hP.sub isC h1) hc he, (preS (av := .ref b :: As) hK hN hP hD isC h1 h2 h3 tj h4).2⟩
end
section
variable {p : Program} {l : Launch} {e : Env} {R : Room} {s : State} {m : MethodId} {args : Array Value} {below : List Frame} {meth : Method} {c : Code} {H : Heap} {locs : List Loc} {cells slots : Nat} {Q : State → Prop}
variable {pc : Nat} {ls : Array Slot} {rest st0 : List Value} {a : Array Value} {A0 : Nat → Prop} {H0 : Heap} {mc ms : Nat} {dC : Nat → ClassId} {dI : Nat → Nat → Nat} {ws wc wr : va_W}
theorem kc_i {S : Type} {post : Int32 → S → Prop} {w1 : S → va_W} {ty1 : S → List (ClassId × FieldType)} (hr : va_Run p l e R s m args below meth c H locs cells slots mc ms (F0 m pc ls st0) rest (va_Qi post (fun u t => cB dC dI (va_A wc H.size) (ty1 u) (w1 u) t) (va_A wc H.size) a) (va_A wc H.size))
    (hP : va_P (dC, dI) classes ws H) (hD : va_D A0 ws) (hS : va_S A0 H0 H locs) (hA : ∀ q, H0.size ≤ q → A0 q) (isC isR : List Nat) (hC : isC.map (fun i => ws[i]?) = wc.map some) (hR : isR.map (fun i => ws[i]?) = wr.map some) (hn : va_nd isR = true) (hdis : ∀ i ∈ isR, i ∉ isC)
    (kk : ∀ (r : Int32) (u : S) (H1 : Heap) (locs1 : List Loc), post r u → va_P (dC, dI) classes (wr ++ w1 u) H1 → va_D A0 (wr ++ w1 u) → va_K (dC, dI) classes (ty1 u) s → va_S A0 H0 H1 locs1 → W p l e R s m args below meth c H1 locs1 (cells + mc) (slots + ms) Q (F0 m (pc + 3) ls (.int r :: rest))) : W p l e R s m args below meth c H locs cells slots Q (F0 m pc ls st0) := by
  have hF := va_free hD hS hA isC hC
  refine va_calli hr hS (fun q _ h => hF q h) hF (fun r u t H1 locs1 ht hvm hw hB hz hk hS1 => ?_)
  obtain ⟨hP1, hK1, hD1⟩ := hB
  rw [ht] at hP1
  obtain ⟨hP2, hD2⟩ := va_join hP hD isC isR hC hR hn hdis hk hF hP1 hD1
  exact kk r u H1 locs1 hw hP2 hD2 (va_K.moved hvm.symm hK1) hS1
theorem kc_l {S : Type} {post : Int64 → S → Prop} {w1 : S → va_W} {ty1 : S → List (ClassId × FieldType)} (hr : va_Run p l e R s m args below meth c H locs cells slots mc ms (F0 m pc ls st0) rest (va_Ql post (fun u t => cB dC dI (va_A wc H.size) (ty1 u) (w1 u) t) (va_A wc H.size) a) (va_A wc H.size))
    (hP : va_P (dC, dI) classes ws H) (hD : va_D A0 ws) (hS : va_S A0 H0 H locs) (hA : ∀ q, H0.size ≤ q → A0 q) (isC isR : List Nat) (hC : isC.map (fun i => ws[i]?) = wc.map some) (hR : isR.map (fun i => ws[i]?) = wr.map some) (hn : va_nd isR = true) (hdis : ∀ i ∈ isR, i ∉ isC)
    (kk : ∀ (r : Int64) (u : S) (H1 : Heap) (locs1 : List Loc), post r u → va_P (dC, dI) classes (wr ++ w1 u) H1 → va_D A0 (wr ++ w1 u) → va_K (dC, dI) classes (ty1 u) s → va_S A0 H0 H1 locs1 → W p l e R s m args below meth c H1 locs1 (cells + mc) (slots + ms) Q (F0 m (pc + 3) ls (.long r :: rest))) : W p l e R s m args below meth c H locs cells slots Q (F0 m pc ls st0) := by
  have hF := va_free hD hS hA isC hC
  refine va_calll hr hS (fun q _ h => hF q h) hF (fun r u t H1 locs1 ht hvm hw hB hz hk hS1 => ?_)
  obtain ⟨hP1, hK1, hD1⟩ := hB
  rw [ht] at hP1
  obtain ⟨hP2, hD2⟩ := va_join hP hD isC isR hC hR hn hdis hk hF hP1 hD1
  exact kk r u H1 locs1 hw hP2 hD2 (va_K.moved hvm.symm hK1) hS1
theorem kc_v {S : Type} {post : S → Prop} {w1 : S → va_W} {ty1 : S → List (ClassId × FieldType)} (hr : va_Run p l e R s m args below meth c H locs cells slots mc ms (F0 m pc ls st0) rest (va_Qv post (fun u t => cB dC dI (va_A wc H.size) (ty1 u) (w1 u) t) (va_A wc H.size) a) (va_A wc H.size))
    (hP : va_P (dC, dI) classes ws H) (hD : va_D A0 ws) (hS : va_S A0 H0 H locs) (hA : ∀ q, H0.size ≤ q → A0 q) (isC isR : List Nat) (hC : isC.map (fun i => ws[i]?) = wc.map some) (hR : isR.map (fun i => ws[i]?) = wr.map some) (hn : va_nd isR = true) (hdis : ∀ i ∈ isR, i ∉ isC)
    (kk : ∀ (u : S) (H1 : Heap) (locs1 : List Loc), post u → va_P (dC, dI) classes (wr ++ w1 u) H1 → va_D A0 (wr ++ w1 u) → va_K (dC, dI) classes (ty1 u) s → va_S A0 H0 H1 locs1 → W p l e R s m args below meth c H1 locs1 (cells + mc) (slots + ms) Q (F0 m (pc + 3) ls rest)) : W p l e R s m args below meth c H locs cells slots Q (F0 m pc ls st0) := by
  have hF := va_free hD hS hA isC hC
  refine va_callv hr hS (fun q _ h => hF q h) hF (fun u t H1 locs1 ht hvm hw hB hz hk hS1 => ?_)
  obtain ⟨hP1, hK1, hD1⟩ := hB
  rw [ht] at hP1
  obtain ⟨hP2, hD2⟩ := va_join hP hD isC isR hC hR hn hdis hk hF hP1 hD1
  exact kk u H1 locs1 hw hP2 hD2 (va_K.moved hvm.symm hK1) hS1
end
def bi (P : Prop) [Decidable P] : Int32 := if P then 1 else 0
theorem bi_t {P : Prop} [Decidable P] (h : P) : bi P = 1 := if_pos h
theorem bi_f {P : Prop} [Decidable P] (h : ¬ P) : bi P = 0 := if_neg h
theorem bi_n {P : Prop} [Decidable P] (h : bi P = 0) : ¬ P := fun q => by rw [bi_t q] at h; exact absurd h (by decide)
theorem bi_y {P : Prop} [Decidable P] {r : Int32} (h : r = bi P) (c : ¬ r = 0) : P := Decidable.byContradiction fun q => c (h.trans (bi_f q))
theorem nar_bi {P : Prop} [Decidable P] {r : Int32} (h : r = bi P) : narrow .boolean (.int r) = .int r := by
  rw [h]; unfold bi; split <;> rfl
theorem nar_b {x : Int32} (h : x = 0 ∨ x = 1) : narrow .boolean (.int x) = .int x := by rcases h with rfl | rfl <;> rfl
theorem fit_b {x : Int32} (h : x = 0 ∨ x = 1) : fits .boolean (.int x) = true := by rcases h with rfl | rfl <;> rfl
theorem swx (lo hi : Int) (x : Int32) : (x.toInt < lo ∨ hi < x.toInt) ∨ (lo ≤ x.toInt ∧ x.toInt ≤ hi) := by omega
end
section
-- what the answers are, in numbers
def lev (v : Int64) : Int32 := if v = 12 then 0 else if v = 9 then 1 else if v = 6 then 2 else if v = 3 then 3 else if v = 0 then 4 else if v = -12 then 5 else 6
def lvl (x v : Int64) : Int32 := if 0 ≤ x ∧ x ≤ 1000 then lev v else 6
def tf (x : Int32) : Int32 := if x < 80 ∨ 970 < x then 0 else if x < 100 then 60 else if x ≤ 850 then 6 * x / 10 else if x ≤ 960 then 25 * (x - 640) / 10 else 800
def ten (lv : Int32) (th : Int64) : Int32 := if 1 ≤ lv ∧ lv ≤ 3 then tf th.toInt32 else 0
def tg (x : Int32) : Int32 := if 80 ≤ x ∧ x < 100 then 60 else if 100 ≤ x ∧ x ≤ 850 then 6 * x / 10 else if 850 < x ∧ x ≤ 960 then 25 * (x - 640) / 10 else if 960 < x ∧ x ≤ 970 then 800 else 0
def tem (pi sh : Int32) : Int32 := if 0 < pi ∧ pi < 4 then tg sh else 0
def shr (x : Int64) : Int32 := if 0 ≤ x ∧ x ≤ 1000 then x.toInt32 else 0
def prOk (a b c : Int64) : Prop := (0 ≤ a ∧ a ≤ 1439) ∧ (a + 1 ≤ b ∧ b ≤ 1440) ∧ (0 ≤ c ∧ c ≤ 1000)
def mrOk (a b c : Int64) : Prop := (¬ a < 0 ∧ ¬ 1439 < a) ∧ (¬ b ≤ a ∧ ¬ 1440 < b) ∧ (¬ c < 0 ∧ c ≤ 1000)
-- bounds
theorem vinB (k : Int32) {i : Int32} {n : Nat} (h : 0 ≤ i) (c : ¬ k ≤ i) (hk : k.toInt ≤ n) : vp_in i n := by
  rw [vp_in_iff]
  rw [Int32.le_iff_toInt_le] at h c
  rw [Int32.toInt_zero] at h
  omega
theorem vinC (k : Int32) {i : Int32} {n : Nat} (h : 0 ≤ i) (c : ¬ k < i) (hk : k.toInt < n) : vp_in i n := by
  rw [vp_in_iff]
  rw [Int32.le_iff_toInt_le] at h
  rw [Int32.lt_iff_toInt_lt] at c
  rw [Int32.toInt_zero] at h
  omega
theorem vinL (k : Int64) {q : Int64} {x : Int32} {n : Nat} (h : ¬ q < 0) (c : q.toInt < n) (hn : n ≤ 100000) (e : x = q.toInt32) : vp_in x n := by
  rw [vp_in_iff, e]
  rw [Int64.lt_iff_toInt_lt, Int64.toInt_zero] at h
  rw [Jvm.Kit.i32_of_i64 (by omega) (by omega)]
  omega
theorem nle6 {a b : Int64} {n : Int} (c : ¬ a ≤ b) (h : a.toInt = n) : b.toInt < n := by rw [Int64.le_iff_toInt_le] at c; omega
theorem nlt6 {a b : Int64} {n : Int} (c : ¬ a < b) (h : a.toInt = n) : b.toInt ≤ n := by rw [Int64.lt_iff_toInt_lt] at c; omega
theorem ii0 (k : Int32) {i x : Int32} (h : 0 ≤ i) (c : ¬ k ≤ i) (e : x = i + 1) : 0 ≤ x ∧ x.toInt = i.toInt + 1 ∧ i.toInt < k.toInt ∧ 0 ≤ i.toInt := by
  rw [Int32.le_iff_toInt_le] at h c ⊢
  rw [Int32.toInt_zero] at h ⊢
  have h1 : (1 : Int32).toInt = 1 := by decide
  have h2 := Int32.toInt_lt k
  have h3 : x.toInt = i.toInt + 1 := by rw [e, Jvm.Kit.i32_add (by omega) (by omega), h1]
  omega
theorem ij0 (k : Int32) {i x : Int32} (h : 0 ≤ i) (c : ¬ k < i) (hk : k.toInt < 2147483647) (e : x = i + 1) : 0 ≤ x ∧ x.toInt = i.toInt + 1 ∧ i.toInt ≤ k.toInt ∧ 0 ≤ i.toInt := by
  rw [Int32.le_iff_toInt_le] at h ⊢
  rw [Int32.lt_iff_toInt_lt] at c
  rw [Int32.toInt_zero] at h ⊢
  have h1 : (1 : Int32).toInt = 1 := by decide
  have h3 : x.toInt = i.toInt + 1 := by rw [e, Jvm.Kit.i32_add (by omega) (by omega), h1]
  omega
theorem mx0 {x y : Int32} (e : x = if (0 : Int32) < y then y else 0) : 0 ≤ x ∧ 0 ≤ x.toInt := by
  have h : 0 ≤ x := by
    rw [e]; split
    · next h => exact Int32.le_of_lt h
    · exact Int32.le_refl 0
  exact ⟨h, by rw [Int32.le_iff_toInt_le, Int32.toInt_zero] at h; exact h⟩
theorem le0 : (0 : Int32) ≤ 0 := by decide
theorem vinM {p0 x : Int32} (h1 : ¬ p0 < 1) (h2 : ¬ 10 < p0) (e : x = p0 - 1) : vp_in x 10 := by
  rw [Int32.lt_iff_toInt_lt] at h1 h2
  have a1 : (1 : Int32).toInt = 1 := by decide
  have a2 : (10 : Int32).toInt = 10 := by decide
  rw [vp_in_iff, e, Jvm.Kit.i32_sub (by omega) (by omega)]
  omega
theorem vinI {i : Int32} {n : Nat} (h1 : 0 ≤ i.toInt) (h2 : i.toInt < n) : vp_in i n := vp_in_iff.mpr ⟨h1, h2⟩
theorem remlt {x y z : Int64} (hy : 0 < y.toInt) (e : z = x - x / y * y) : z.toInt < y.toInt := by
  rw [e, Jvm.Kit.i64_rem]
  exact (tmod_bounds hy).2
theorem i6z {y : Int64} : y = 0 ↔ y.toInt = 0 := by rw [← Int64.toInt_inj, Int64.toInt_zero]
theorem i6p {y : Int64} (h : ¬ y ≤ 0) : 0 < y.toInt := by rw [Int64.le_iff_toInt_le, Int64.toInt_zero] at h; omega
theorem i6nz {y : Int64} (h : ¬ y ≤ 0) : ¬ y = 0 := fun e => by have := i6p h; rw [e, Int64.toInt_zero] at this; omega
theorem i2l_w {w : Int32} {x : Int64} (e : x = w.toInt64) : (0 ≤ x ∧ x ≤ 1000) ↔ (0 ≤ w ∧ w ≤ 1000) := by
  have a1 : (1000 : Int64).toInt = 1000 := by decide
  have a2 : (1000 : Int32).toInt = 1000 := by decide
  have h : x.toInt = w.toInt := by rw [e, Jvm.Kit.i64_of_i32]
  rw [Int64.le_iff_toInt_le, Int64.le_iff_toInt_le, Int32.le_iff_toInt_le, Int32.le_iff_toInt_le, Int64.toInt_zero, Int32.toInt_zero, h, a1, a2]
theorem i32ge {i : Int32} (h : 0 ≤ i) : 0 ≤ i.toInt := by rw [Int32.le_iff_toInt_le, Int32.toInt_zero] at h; exact h
theorem i32nlt {a i : Int32} {n : Int} (h : ¬ a < i) (e : a.toInt = n) : i.toInt ≤ n := by rw [Int32.lt_iff_toInt_lt] at h; omega
theorem i32nle {a i : Int32} (h : ¬ a ≤ i) : i.toInt < a.toInt := by rw [Int32.le_iff_toInt_le] at h; omega
theorem vinK {k : Int32} (h : ¬ k < 0) (h2 : k.toInt < 20) : vp_in k 20 := by
  rw [Int32.lt_iff_toInt_lt, Int32.toInt_zero] at h
  exact vinI (by omega) (by omega)
theorem sp1 {sp x : Int32} (h0 : 0 ≤ sp.toInt) (h1 : sp.toInt ≤ 20) (e : x = sp - 1) : x.toInt < 20 ∧ (x.toInt + 1).toNat < 22 := by
  have a1 : (1 : Int32).toInt = 1 := by decide
  rw [e, Jvm.Kit.i32_sub (by omega) (by omega)]
  omega
theorem kd {k x : Int32} (h : ¬ k < 0) (h2 : k.toInt < 20) (e : x = k + (-1)) : x.toInt < 20 ∧ x.toInt = k.toInt - 1 ∧ 0 ≤ k.toInt := by
  rw [Int32.lt_iff_toInt_lt, Int32.toInt_zero] at h
  have a1 : (-1 : Int32).toInt = -1 := by decide
  have h3 : x.toInt = k.toInt - 1 := by rw [e, Jvm.Kit.i32_add (by omega) (by omega)]; omega
  omega
theorem vinSp {sp k : Int32} (h1 : sp.toInt ≤ 20) (h : 0 ≤ k) (c : ¬ sp ≤ k) : vp_in k 20 := vinI (i32ge h) (by have := i32nle c; omega)
theorem vinU {u x : Int64} {k : Int32} (hu : u.toInt ≤ 1440) (h : 0 ≤ k) (c : ¬ u ≤ x) (e : x = k.toInt64) : vp_in k 1440 := by
  rw [Int64.le_iff_toInt_le, e, Jvm.Kit.i64_of_i32] at c
  exact vinI (i32ge h) (by omega)
theorem nle6c {u : Int64} (h : u ≤ 1440) : u.toInt ≤ 1440 := by
  rw [Int64.le_iff_toInt_le] at h
  have : (1440 : Int64).toInt = 1440 := by decide
  omega
theorem le6 {u : Int64} (h : u ≤ 1439) : u.toInt < 1440 := by
  rw [Int64.le_iff_toInt_le] at h
  have : (1439 : Int64).toInt = 1439 := by decide
  omega
theorem kkup {sp k x : Int32} (h1 : sp.toInt ≤ 20) (h : 0 ≤ k) (c : ¬ sp ≤ k) (e : x = k + 1) : 0 ≤ x ∧ x.toInt = k.toInt + 1 ∧ k.toInt < 20 ∧ 0 ≤ k.toInt := by
  have := ii0 sp h c e
  exact ⟨this.1, this.2.1, by omega, this.2.2.2⟩
theorem kkU {u q : Int64} {k x : Int32} (hu : u.toInt ≤ 1440) (h : 0 ≤ k) (c : ¬ u ≤ q) (e : q = k.toInt64) (e2 : x = k + 1) : 0 ≤ x ∧ x.toInt = k.toInt + 1 ∧ k.toInt < 1440 ∧ 0 ≤ k.toInt := by
  have hk := (vp_in_iff.mp (vinU hu h c e))
  have := ii0 1440 h (fun q => by rw [Int32.le_iff_toInt_le] at q; have h9 : (1440 : Int32).toInt = 1440 := (by decide); omega) e2
  exact ⟨this.1, this.2.1, by omega, this.2.2.2⟩
theorem vinN {sp : Int32} (h0 : 0 ≤ sp.toInt) (h1 : sp.toInt ≤ 20) (c : ¬ sp = 20) : vp_in sp 20 := by
  refine vinI h0 ?_
  have h2 : sp.toInt ≠ 20 := fun h => c (Int32.toInt_inj.mp (h.trans (by decide)))
  omega
theorem vinCs {cs x : Int32} (h0 : 0 ≤ cs.toInt) (h1 : cs.toInt ≤ 10) (c : ¬ cs = 10) (e : x = cs + 1) : vp_in x 11 := by
  have h2 : cs.toInt ≠ 10 := fun h => c (Int32.toInt_inj.mp (h.trans (by decide)))
  have a1 : (1 : Int32).toInt = 1 := by decide
  have h3 : x.toInt = cs.toInt + 1 := by rw [e, Jvm.Kit.i32_add (by omega) (by omega), a1]
  exact vinI (by omega) (by omega)
theorem vinKs {cs k : Int32} (h1 : cs.toInt ≤ 10) (h : 0 ≤ k) (c : ¬ cs < k) : vp_in k 11 := vinI (i32ge h) (by have := i32nlt c rfl; omega)
theorem vinP {cs q : Int32} (h1 : cs.toInt ≤ 10) (h : 1 ≤ q.toInt ∧ q.toInt ≤ cs.toInt) : vp_in q 11 := vinI (by omega) (by omega)
theorem pcs {q cs : Int32} (c : ¬ q < 1) (d : q ≤ cs) : 1 ≤ q.toInt ∧ q.toInt ≤ cs.toInt := by
  rw [Int32.lt_iff_toInt_lt] at c
  rw [Int32.le_iff_toInt_le] at d
  have a1 : (1 : Int32).toInt = 1 := by decide
  omega
theorem kksh {cs k x : Int32} (h1 : cs.toInt ≤ 10) (h : 0 ≤ k) (c : ¬ cs < k) (e : x = k + 1) : 0 ≤ x ∧ x.toInt = k.toInt + 1 ∧ k.toInt ≤ 10 ∧ 0 ≤ k.toInt := by
  have := ij0 cs h c (by omega) e
  exact ⟨this.1, this.2.1, by omega, this.2.2.2⟩
-- the law
def sx (xs : Nat → Int32) (x4 k : Int32) : Int32 := xs (x4 + k).toNatClampNeg
def jn (a b : Int32) : Int64 := a.toInt64 <<< ((32 : Int32).toInt64 &&& 63) ||| b.toInt64 &&& 4294967295
theorem vinS0 {i L : Nat} {x4 : Int32} (hL : L ≤ 3584) (hi : i + 7 ≤ L) (e4 : x4 = nI i) : vp_in x4 L := by
  rw [e4]; exact vp_in_nI (by omega) (by omega)
theorem vinS (k : Nat) {i L : Nat} {x4 c : Int32} (hL : L ≤ 3584) (hi : i + 7 ≤ L) (e4 : x4 = nI i) (hk : k < 7) (hc : c = nI k) : vp_in (x4 + c) L := by
  rw [e4, hc, nI_add]; exact vp_in_nI (by omega) (by omega)
theorem ge32 {i : Int32} (h : 0 ≤ i.toInt) : 0 ≤ i := by rw [Int32.le_iff_toInt_le, Int32.toInt_zero]; exact h
def linv (lv mpi : Int32) (th : Int64) (msh sp msp cn mcs : Int32) : Prop := (lv = mpi ∧ (1 ≤ lv ∧ lv ≤ 3 → th.toInt32 = msh)) ∧ (sp = msp ∧ 0 ≤ sp.toInt ∧ sp.toInt ≤ 20) ∧ (cn = mcs ∧ 0 ≤ cn.toInt ∧ cn.toInt ≤ 10)
theorem pil {lv2 pi2 sh2 : Int32} {th2 a b : Int64} (h1 : lv2 = lvl a b ∧ th2 = a) (h2 : pi2 = lvl a b ∧ sh2 = shr a) : lv2 = pi2 ∧ (1 ≤ lv2 ∧ lv2 ≤ 3 → th2.toInt32 = sh2) := by
  refine ⟨h1.1.trans h2.1.symm, fun h => ?_⟩
  rw [h1.2, h2.2]
  by_cases g : 0 ≤ a ∧ a ≤ 1000
  · rw [shr, if_pos g]
  · rw [h1.1, lvl, if_neg g] at h
    exact absurd h.2 (by decide)
theorem tgf (x : Int32) : tf x = tg x := by
  have a1 : (80 : Int32).toInt = 80 := by decide
  have a2 : (970 : Int32).toInt = 970 := by decide
  have a3 : (100 : Int32).toInt = 100 := by decide
  have a4 : (850 : Int32).toInt = 850 := by decide
  have a5 : (960 : Int32).toInt = 960 := by decide
  unfold tf tg
  simp only [Int32.lt_iff_toInt_lt, Int32.le_iff_toInt_le, a1, a2, a3, a4, a5]
  repeat' split
  all_goals first | rfl | (exfalso; omega)
theorem alo {lv mpi msh ra rb : Int32} {th : Int64} (h : lv = mpi ∧ (1 ≤ lv ∧ lv ≤ 3 → th.toInt32 = msh)) (h1 : ra = ten lv th) (h2 : rb = tem mpi msh) : ra = rb := by
  obtain ⟨rfl, h⟩ := h
  have a1 : (1 : Int32).toInt = 1 := by decide
  have a2 : (3 : Int32).toInt = 3 := by decide
  have a3 : (4 : Int32).toInt = 4 := by decide
  rw [h1, h2, ten, tem]
  by_cases g : 1 ≤ lv ∧ lv ≤ 3
  · rw [if_pos g, if_pos, tgf, h g]
    simp only [Int32.lt_iff_toInt_lt, Int32.le_iff_toInt_le, Int32.toInt_zero, a1, a2, a3] at g ⊢
    omega
  · rw [if_neg g, if_neg]
    simp only [Int32.lt_iff_toInt_lt, Int32.le_iff_toInt_le, Int32.toInt_zero, a1, a2, a3] at g ⊢
    omega
theorem prmr {a b c : Int64} : prOk a b c ↔ mrOk a b c := by
  have a1 : (1439 : Int64).toInt = 1439 := by decide
  have a2 : (1440 : Int64).toInt = 1440 := by decide
  have a3 : (1000 : Int64).toInt = 1000 := by decide
  have a4 : (1 : Int64).toInt = 1 := by decide
  unfold prOk mrOk
  simp only [Int64.lt_iff_toInt_lt, Int64.le_iff_toInt_le, Int64.toInt_zero, a1, a2, a3]
  constructor
  · intro h
    have e : (a + 1).toInt = a.toInt + 1 := by rw [Jvm.Kit.i64_add (by omega) (by omega), a4]
    omega
  · intro h
    have e : (a + 1).toInt = a.toInt + 1 := by rw [Jvm.Kit.i64_add (by omega) (by omega), a4]
    omega
theorem pri {sp msp sp2 msp2 ra rb : Int32} {a b c : Int64} (hI : sp = msp ∧ 0 ≤ sp.toInt ∧ sp.toInt ≤ 20)
    (h1 : (¬ prOk a b c → ra = -2 ∧ sp2 = sp) ∧ (prOk a b c → 20 ≤ sp → ra = -4 ∧ sp2 = sp) ∧ (prOk a b c → ¬ 20 ≤ sp → ra = sp + 1 ∧ sp2 = sp + 1))
    (h2 : (¬ mrOk a b c → rb = -2 ∧ msp2 = msp) ∧ (mrOk a b c → msp = 20 → rb = -4 ∧ msp2 = msp) ∧ (mrOk a b c → ¬ msp = 20 → rb = msp + 1 ∧ msp2 = msp + 1)) :
    ra = rb ∧ sp2 = msp2 ∧ 0 ≤ sp2.toInt ∧ sp2.toInt ≤ 20 := by
  obtain ⟨rfl, i0, i1⟩ := hI
  have a1 : (20 : Int32).toInt = 20 := by decide
  have a2 : (1 : Int32).toInt = 1 := by decide
  by_cases g : prOk a b c
  · have g2 := prmr.mp g
    by_cases f : sp = 20
    · obtain ⟨rfl, rfl⟩ := h1.2.1 g (by rw [f]; exact Int32.le_refl _)
      obtain ⟨rfl, rfl⟩ := h2.2.1 g2 f
      exact ⟨rfl, rfl, i0, i1⟩
    · have f2 : sp.toInt ≠ 20 := fun h => f (Int32.toInt_inj.mp (h.trans a1.symm))
      obtain ⟨rfl, rfl⟩ := h1.2.2 g (by rw [Int32.le_iff_toInt_le]; omega)
      obtain ⟨rfl, rfl⟩ := h2.2.2 g2 f
      refine ⟨rfl, rfl, ?_, ?_⟩ <;> (rw [Jvm.Kit.i32_add (by omega) (by omega)]; omega)
  · obtain ⟨rfl, rfl⟩ := h1.1 g
    obtain ⟨rfl, rfl⟩ := h2.1 (fun h => g (prmr.mpr h))
    exact ⟨rfl, rfl, i0, i1⟩
theorem cri {cn mcs cn2 mcs2 ra rb w : Int32} (hI : cn = mcs ∧ 0 ≤ cn.toInt ∧ cn.toInt ≤ 10)
    (h1 : (¬ (0 ≤ w ∧ w ≤ 1000) → ra = -2 ∧ cn2 = cn) ∧ (0 ≤ w ∧ w ≤ 1000 → 10 ≤ cn → ra = -4 ∧ cn2 = cn) ∧ (0 ≤ w ∧ w ≤ 1000 → ¬ 10 ≤ cn → ra = cn + 1 ∧ cn2 = cn + 1))
    (h2 : (¬ (0 ≤ w ∧ w ≤ 1000) → rb = -2 ∧ mcs2 = mcs) ∧ (0 ≤ w ∧ w ≤ 1000 → mcs = 10 → rb = -4 ∧ mcs2 = mcs) ∧ (0 ≤ w ∧ w ≤ 1000 → ¬ mcs = 10 → rb = mcs + 1 ∧ mcs2 = mcs + 1)) :
    ra = rb ∧ cn2 = mcs2 ∧ 0 ≤ cn2.toInt ∧ cn2.toInt ≤ 10 := by
  obtain ⟨rfl, i0, i1⟩ := hI
  have a1 : (10 : Int32).toInt = 10 := by decide
  have a2 : (1 : Int32).toInt = 1 := by decide
  by_cases g : 0 ≤ w ∧ w ≤ 1000
  · by_cases f : cn = 10
    · obtain ⟨rfl, rfl⟩ := h1.2.1 g (by rw [f]; exact Int32.le_refl _)
      obtain ⟨rfl, rfl⟩ := h2.2.1 g f
      exact ⟨rfl, rfl, i0, i1⟩
    · have f2 : cn.toInt ≠ 10 := fun h => f (Int32.toInt_inj.mp (h.trans a1.symm))
      obtain ⟨rfl, rfl⟩ := h1.2.2 g (by rw [Int32.le_iff_toInt_le]; omega)
      obtain ⟨rfl, rfl⟩ := h2.2.2 g f
      refine ⟨rfl, rfl, ?_, ?_⟩ <;> (rw [Jvm.Kit.i32_add (by omega) (by omega)]; omega)
  · obtain ⟨rfl, rfl⟩ := h1.1 g
    obtain ⟨rfl, rfl⟩ := h2.1 g
    exact ⟨rfl, rfl, i0, i1⟩
end
section
theorem d_X_isWithin_0 : decode b_X_isWithin 0 = .ok (.lload_n 0, 1) := by decide +kernel
theorem d_X_isWithin_1 : decode b_X_isWithin 1 = .ok (.lload_n 2, 1) := by decide +kernel
theorem d_X_isWithin_2 : decode b_X_isWithin 2 = .ok (.lcmp, 1) := by decide +kernel
theorem d_X_isWithin_3 : decode b_X_isWithin 3 = .ok (.ifCond .lt 14, 3) := by decide +kernel
theorem d_X_isWithin_6 : decode b_X_isWithin 6 = .ok (.lload_n 0, 1) := by decide +kernel
theorem d_X_isWithin_7 : decode b_X_isWithin 7 = .ok (.lload 4, 2) := by decide +kernel
theorem d_X_isWithin_9 : decode b_X_isWithin 9 = .ok (.lcmp, 1) := by decide +kernel
theorem d_X_isWithin_10 : decode b_X_isWithin 10 = .ok (.ifCond .gt 7, 3) := by decide +kernel
theorem d_X_isWithin_13 : decode b_X_isWithin 13 = .ok (.iconst 1, 1) := by decide +kernel
theorem d_X_isWithin_14 : decode b_X_isWithin 14 = .ok (.goto 4, 3) := by decide +kernel
theorem d_X_isWithin_17 : decode b_X_isWithin 17 = .ok (.iconst 0, 1) := by decide +kernel
theorem d_X_isWithin_18 : decode b_X_isWithin 18 = .ok (.ireturn, 1) := by decide +kernel
theorem d_Ck_init_0 : decode b_Ck_init 0 = .ok (.aload_n 0, 1) := by decide +kernel
theorem d_Ck_init_1 : decode b_Ck_init 1 = .ok (.invokespecial 1, 3) := by decide +kernel
theorem d_Ck_init_4 : decode b_Ck_init 4 = .ok (.aload_n 0, 1) := by decide +kernel
theorem d_Ck_init_5 : decode b_Ck_init 5 = .ok (.ldc2_w 9, 3) := by decide +kernel
theorem d_Ck_init_8 : decode b_Ck_init 8 = .ok (.putfield 11, 3) := by decide +kernel
theorem d_Ck_init_11 : decode b_Ck_init 11 = .ok (.return_, 1) := by decide +kernel
theorem d_Ck_canTell_0 : decode b_Ck_canTell 0 = .ok (.lload_n 1, 1) := by decide +kernel
theorem d_Ck_canTell_1 : decode b_Ck_canTell 1 = .ok (.aload_n 0, 1) := by decide +kernel
theorem d_Ck_canTell_2 : decode b_Ck_canTell 2 = .ok (.getfield 11, 3) := by decide +kernel
theorem d_Ck_canTell_5 : decode b_Ck_canTell 5 = .ok (.ldc2_w 17, 3) := by decide +kernel
theorem d_Ck_canTell_8 : decode b_Ck_canTell 8 = .ok (.invokestatic 19, 3) := by decide +kernel
theorem d_Ck_canTell_11 : decode b_Ck_canTell 11 = .ok (.ireturn, 1) := by decide +kernel
theorem d_Ck_tell_0 : decode b_Ck_tell 0 = .ok (.aload_n 0, 1) := by decide +kernel
theorem d_Ck_tell_1 : decode b_Ck_tell 1 = .ok (.lload_n 1, 1) := by decide +kernel
theorem d_Ck_tell_2 : decode b_Ck_tell 2 = .ok (.putfield 11, 3) := by decide +kernel
theorem d_Ck_tell_5 : decode b_Ck_tell 5 = .ok (.return_, 1) := by decide +kernel
theorem d_Pi_init_0 : decode b_Pi_init 0 = .ok (.aload_n 0, 1) := by decide +kernel
theorem d_Pi_init_1 : decode b_Pi_init 1 = .ok (.invokespecial 1, 3) := by decide +kernel
theorem d_Pi_init_4 : decode b_Pi_init 4 = .ok (.aload_n 0, 1) := by decide +kernel
theorem d_Pi_init_5 : decode b_Pi_init 5 = .ok (.iconst 0, 1) := by decide +kernel
theorem d_Pi_init_6 : decode b_Pi_init 6 = .ok (.putfield 7, 3) := by decide +kernel
theorem d_Pi_init_9 : decode b_Pi_init 9 = .ok (.aload_n 0, 1) := by decide +kernel
theorem d_Pi_init_10 : decode b_Pi_init 10 = .ok (.lconst 0, 1) := by decide +kernel
theorem d_Pi_init_11 : decode b_Pi_init 11 = .ok (.putfield 13, 3) := by decide +kernel
theorem d_Pi_init_14 : decode b_Pi_init 14 = .ok (.return_, 1) := by decide +kernel
theorem d_Pi_levelOf_0 : decode b_Pi_levelOf 0 = .ok (.lload_n 0, 1) := by decide +kernel
theorem d_Pi_levelOf_1 : decode b_Pi_levelOf 1 = .ok (.ldc2_w 41, 3) := by decide +kernel
theorem d_Pi_levelOf_4 : decode b_Pi_levelOf 4 = .ok (.lcmp, 1) := by decide +kernel
theorem d_Pi_levelOf_5 : decode b_Pi_levelOf 5 = .ok (.ifCond .ne 5, 3) := by decide +kernel
theorem d_Pi_levelOf_8 : decode b_Pi_levelOf 8 = .ok (.iconst 0, 1) := by decide +kernel
theorem d_Pi_levelOf_9 : decode b_Pi_levelOf 9 = .ok (.ireturn, 1) := by decide +kernel
theorem d_Pi_levelOf_10 : decode b_Pi_levelOf 10 = .ok (.lload_n 0, 1) := by decide +kernel
theorem d_Pi_levelOf_11 : decode b_Pi_levelOf 11 = .ok (.ldc2_w 43, 3) := by decide +kernel
theorem d_Pi_levelOf_14 : decode b_Pi_levelOf 14 = .ok (.lcmp, 1) := by decide +kernel
theorem d_Pi_levelOf_15 : decode b_Pi_levelOf 15 = .ok (.ifCond .ne 5, 3) := by decide +kernel
theorem d_Pi_levelOf_18 : decode b_Pi_levelOf 18 = .ok (.iconst 1, 1) := by decide +kernel
theorem d_Pi_levelOf_19 : decode b_Pi_levelOf 19 = .ok (.ireturn, 1) := by decide +kernel
theorem d_Pi_levelOf_20 : decode b_Pi_levelOf 20 = .ok (.lload_n 0, 1) := by decide +kernel
theorem d_Pi_levelOf_21 : decode b_Pi_levelOf 21 = .ok (.ldc2_w 45, 3) := by decide +kernel
theorem d_Pi_levelOf_24 : decode b_Pi_levelOf 24 = .ok (.lcmp, 1) := by decide +kernel
theorem d_Pi_levelOf_25 : decode b_Pi_levelOf 25 = .ok (.ifCond .ne 5, 3) := by decide +kernel
theorem d_Pi_levelOf_28 : decode b_Pi_levelOf 28 = .ok (.iconst 2, 1) := by decide +kernel
theorem d_Pi_levelOf_29 : decode b_Pi_levelOf 29 = .ok (.ireturn, 1) := by decide +kernel
theorem d_Pi_levelOf_30 : decode b_Pi_levelOf 30 = .ok (.lload_n 0, 1) := by decide +kernel
theorem d_Pi_levelOf_31 : decode b_Pi_levelOf 31 = .ok (.ldc2_w 47, 3) := by decide +kernel
theorem d_Pi_levelOf_34 : decode b_Pi_levelOf 34 = .ok (.lcmp, 1) := by decide +kernel
theorem d_Pi_levelOf_35 : decode b_Pi_levelOf 35 = .ok (.ifCond .ne 5, 3) := by decide +kernel
theorem d_Pi_levelOf_38 : decode b_Pi_levelOf 38 = .ok (.iconst 3, 1) := by decide +kernel
theorem d_Pi_levelOf_39 : decode b_Pi_levelOf 39 = .ok (.ireturn, 1) := by decide +kernel
theorem d_Pi_levelOf_40 : decode b_Pi_levelOf 40 = .ok (.lload_n 0, 1) := by decide +kernel
theorem d_Pi_levelOf_41 : decode b_Pi_levelOf 41 = .ok (.lconst 0, 1) := by decide +kernel
theorem d_Pi_levelOf_42 : decode b_Pi_levelOf 42 = .ok (.lcmp, 1) := by decide +kernel
theorem d_Pi_levelOf_43 : decode b_Pi_levelOf 43 = .ok (.ifCond .ne 5, 3) := by decide +kernel
theorem d_Pi_levelOf_46 : decode b_Pi_levelOf 46 = .ok (.iconst 4, 1) := by decide +kernel
theorem d_Pi_levelOf_47 : decode b_Pi_levelOf 47 = .ok (.ireturn, 1) := by decide +kernel
theorem d_Pi_levelOf_48 : decode b_Pi_levelOf 48 = .ok (.lload_n 0, 1) := by decide +kernel
theorem d_Pi_levelOf_49 : decode b_Pi_levelOf 49 = .ok (.ldc2_w 49, 3) := by decide +kernel
theorem d_Pi_levelOf_52 : decode b_Pi_levelOf 52 = .ok (.lcmp, 1) := by decide +kernel
theorem d_Pi_levelOf_53 : decode b_Pi_levelOf 53 = .ok (.ifCond .ne 7, 3) := by decide +kernel
theorem d_Pi_levelOf_56 : decode b_Pi_levelOf 56 = .ok (.iconst 5, 1) := by decide +kernel
theorem d_Pi_levelOf_57 : decode b_Pi_levelOf 57 = .ok (.goto 5, 3) := by decide +kernel
theorem d_Pi_levelOf_60 : decode b_Pi_levelOf 60 = .ok (.bipush 6, 2) := by decide +kernel
theorem d_Pi_levelOf_62 : decode b_Pi_levelOf 62 = .ok (.ireturn, 1) := by decide +kernel
theorem d_Pi_tenthsFor_0 : decode b_Pi_tenthsFor 0 = .ok (.iload_n 0, 1) := by decide +kernel
theorem d_Pi_tenthsFor_1 : decode b_Pi_tenthsFor 1 = .ok (.bipush 80, 2) := by decide +kernel
theorem d_Pi_tenthsFor_3 : decode b_Pi_tenthsFor 3 = .ok (.if_icmp .lt 10, 3) := by decide +kernel
theorem d_Pi_tenthsFor_6 : decode b_Pi_tenthsFor 6 = .ok (.iload_n 0, 1) := by decide +kernel
theorem d_Pi_tenthsFor_7 : decode b_Pi_tenthsFor 7 = .ok (.sipush 970, 3) := by decide +kernel
theorem d_Pi_tenthsFor_10 : decode b_Pi_tenthsFor 10 = .ok (.if_icmp .le 5, 3) := by decide +kernel
theorem d_Pi_tenthsFor_13 : decode b_Pi_tenthsFor 13 = .ok (.iconst 0, 1) := by decide +kernel
theorem d_Pi_tenthsFor_14 : decode b_Pi_tenthsFor 14 = .ok (.ireturn, 1) := by decide +kernel
theorem d_Pi_tenthsFor_15 : decode b_Pi_tenthsFor 15 = .ok (.iload_n 0, 1) := by decide +kernel
theorem d_Pi_tenthsFor_16 : decode b_Pi_tenthsFor 16 = .ok (.bipush 100, 2) := by decide +kernel
theorem d_Pi_tenthsFor_18 : decode b_Pi_tenthsFor 18 = .ok (.if_icmp .ge 6, 3) := by decide +kernel
theorem d_Pi_tenthsFor_21 : decode b_Pi_tenthsFor 21 = .ok (.bipush 60, 2) := by decide +kernel
theorem d_Pi_tenthsFor_23 : decode b_Pi_tenthsFor 23 = .ok (.ireturn, 1) := by decide +kernel
theorem d_Pi_tenthsFor_24 : decode b_Pi_tenthsFor 24 = .ok (.iload_n 0, 1) := by decide +kernel
theorem d_Pi_tenthsFor_25 : decode b_Pi_tenthsFor 25 = .ok (.sipush 850, 3) := by decide +kernel
theorem d_Pi_tenthsFor_28 : decode b_Pi_tenthsFor 28 = .ok (.if_icmp .gt 11, 3) := by decide +kernel
theorem d_Pi_tenthsFor_31 : decode b_Pi_tenthsFor 31 = .ok (.bipush 6, 2) := by decide +kernel
theorem d_Pi_tenthsFor_33 : decode b_Pi_tenthsFor 33 = .ok (.iload_n 0, 1) := by decide +kernel
theorem d_Pi_tenthsFor_34 : decode b_Pi_tenthsFor 34 = .ok (.imul, 1) := by decide +kernel
theorem d_Pi_tenthsFor_35 : decode b_Pi_tenthsFor 35 = .ok (.bipush 10, 2) := by decide +kernel
theorem d_Pi_tenthsFor_37 : decode b_Pi_tenthsFor 37 = .ok (.idiv, 1) := by decide +kernel
theorem d_Pi_tenthsFor_38 : decode b_Pi_tenthsFor 38 = .ok (.ireturn, 1) := by decide +kernel
theorem d_Pi_tenthsFor_39 : decode b_Pi_tenthsFor 39 = .ok (.iload_n 0, 1) := by decide +kernel
theorem d_Pi_tenthsFor_40 : decode b_Pi_tenthsFor 40 = .ok (.sipush 960, 3) := by decide +kernel
theorem d_Pi_tenthsFor_43 : decode b_Pi_tenthsFor 43 = .ok (.if_icmp .gt 17, 3) := by decide +kernel
theorem d_Pi_tenthsFor_46 : decode b_Pi_tenthsFor 46 = .ok (.bipush 25, 2) := by decide +kernel
theorem d_Pi_tenthsFor_48 : decode b_Pi_tenthsFor 48 = .ok (.iload_n 0, 1) := by decide +kernel
theorem d_Pi_tenthsFor_49 : decode b_Pi_tenthsFor 49 = .ok (.sipush 640, 3) := by decide +kernel
theorem d_Pi_tenthsFor_52 : decode b_Pi_tenthsFor 52 = .ok (.isub, 1) := by decide +kernel
theorem d_Pi_tenthsFor_53 : decode b_Pi_tenthsFor 53 = .ok (.imul, 1) := by decide +kernel
theorem d_Pi_tenthsFor_54 : decode b_Pi_tenthsFor 54 = .ok (.bipush 10, 2) := by decide +kernel
theorem d_Pi_tenthsFor_56 : decode b_Pi_tenthsFor 56 = .ok (.idiv, 1) := by decide +kernel
theorem d_Pi_tenthsFor_57 : decode b_Pi_tenthsFor 57 = .ok (.goto 6, 3) := by decide +kernel
theorem d_Pi_tenthsFor_60 : decode b_Pi_tenthsFor 60 = .ok (.sipush 800, 3) := by decide +kernel
theorem d_Pi_tenthsFor_63 : decode b_Pi_tenthsFor 63 = .ok (.ireturn, 1) := by decide +kernel
theorem d_Pi_set_0 : decode b_Pi_set 0 = .ok (.aload_n 0, 1) := by decide +kernel
theorem d_Pi_set_1 : decode b_Pi_set 1 = .ok (.lload_n 1, 1) := by decide +kernel
theorem d_Pi_set_2 : decode b_Pi_set 2 = .ok (.putfield 13, 3) := by decide +kernel
theorem d_Pi_set_5 : decode b_Pi_set 5 = .ok (.aload_n 0, 1) := by decide +kernel
theorem d_Pi_set_6 : decode b_Pi_set 6 = .ok (.lload_n 1, 1) := by decide +kernel
theorem d_Pi_set_7 : decode b_Pi_set 7 = .ok (.lconst 0, 1) := by decide +kernel
theorem d_Pi_set_8 : decode b_Pi_set 8 = .ok (.ldc2_w 17, 3) := by decide +kernel
theorem d_Pi_set_11 : decode b_Pi_set 11 = .ok (.invokestatic 19, 3) := by decide +kernel
theorem d_Pi_set_14 : decode b_Pi_set 14 = .ok (.ifCond .eq 10, 3) := by decide +kernel
theorem d_Pi_set_17 : decode b_Pi_set 17 = .ok (.lload_n 3, 1) := by decide +kernel
theorem d_Pi_set_18 : decode b_Pi_set 18 = .ok (.invokestatic 25, 3) := by decide +kernel
theorem d_Pi_set_21 : decode b_Pi_set 21 = .ok (.goto 5, 3) := by decide +kernel
theorem d_Pi_set_24 : decode b_Pi_set 24 = .ok (.bipush 6, 2) := by decide +kernel
theorem d_Pi_set_26 : decode b_Pi_set 26 = .ok (.putfield 7, 3) := by decide +kernel
theorem d_Pi_set_29 : decode b_Pi_set 29 = .ok (.return_, 1) := by decide +kernel
theorem d_Pi_isConnected_0 : decode b_Pi_isConnected 0 = .ok (.aload_n 0, 1) := by decide +kernel
theorem d_Pi_isConnected_1 : decode b_Pi_isConnected 1 = .ok (.getfield 7, 3) := by decide +kernel
theorem d_Pi_isConnected_4 : decode b_Pi_isConnected 4 = .ok (.iconst 1, 1) := by decide +kernel
theorem d_Pi_isConnected_5 : decode b_Pi_isConnected 5 = .ok (.if_icmp .lt 15, 3) := by decide +kernel
theorem d_Pi_isConnected_8 : decode b_Pi_isConnected 8 = .ok (.aload_n 0, 1) := by decide +kernel
theorem d_Pi_isConnected_9 : decode b_Pi_isConnected 9 = .ok (.getfield 7, 3) := by decide +kernel
theorem d_Pi_isConnected_12 : decode b_Pi_isConnected 12 = .ok (.iconst 3, 1) := by decide +kernel
theorem d_Pi_isConnected_13 : decode b_Pi_isConnected 13 = .ok (.if_icmp .gt 7, 3) := by decide +kernel
theorem d_Pi_isConnected_16 : decode b_Pi_isConnected 16 = .ok (.iconst 1, 1) := by decide +kernel
theorem d_Pi_isConnected_17 : decode b_Pi_isConnected 17 = .ok (.goto 4, 3) := by decide +kernel
theorem d_Pi_isConnected_20 : decode b_Pi_isConnected 20 = .ok (.iconst 0, 1) := by decide +kernel
theorem d_Pi_isConnected_21 : decode b_Pi_isConnected 21 = .ok (.ireturn, 1) := by decide +kernel
theorem d_Pi_isDigital_0 : decode b_Pi_isDigital 0 = .ok (.aload_n 0, 1) := by decide +kernel
theorem d_Pi_isDigital_1 : decode b_Pi_isDigital 1 = .ok (.invokevirtual 29, 3) := by decide +kernel
theorem d_Pi_isDigital_4 : decode b_Pi_isDigital 4 = .ok (.ifCond .eq 23, 3) := by decide +kernel
theorem d_Pi_isDigital_7 : decode b_Pi_isDigital 7 = .ok (.aload_n 0, 1) := by decide +kernel
theorem d_Pi_isDigital_8 : decode b_Pi_isDigital 8 = .ok (.getfield 13, 3) := by decide +kernel
theorem d_Pi_isDigital_11 : decode b_Pi_isDigital 11 = .ok (.ldc2_w 33, 3) := by decide +kernel
theorem d_Pi_isDigital_14 : decode b_Pi_isDigital 14 = .ok (.ldc2_w 35, 3) := by decide +kernel
theorem d_Pi_isDigital_17 : decode b_Pi_isDigital 17 = .ok (.invokestatic 19, 3) := by decide +kernel
theorem d_Pi_isDigital_20 : decode b_Pi_isDigital 20 = .ok (.ifCond .eq 7, 3) := by decide +kernel
theorem d_Pi_isDigital_23 : decode b_Pi_isDigital 23 = .ok (.iconst 1, 1) := by decide +kernel
theorem d_Pi_isDigital_24 : decode b_Pi_isDigital 24 = .ok (.goto 4, 3) := by decide +kernel
theorem d_Pi_isDigital_27 : decode b_Pi_isDigital 27 = .ok (.iconst 0, 1) := by decide +kernel
theorem d_Pi_isDigital_28 : decode b_Pi_isDigital 28 = .ok (.ireturn, 1) := by decide +kernel
theorem d_Pi_tenthsOfAmpere_0 : decode b_Pi_tenthsOfAmpere 0 = .ok (.aload_n 0, 1) := by decide +kernel
theorem d_Pi_tenthsOfAmpere_1 : decode b_Pi_tenthsOfAmpere 1 = .ok (.invokevirtual 29, 3) := by decide +kernel
theorem d_Pi_tenthsOfAmpere_4 : decode b_Pi_tenthsOfAmpere 4 = .ok (.ifCond .eq 14, 3) := by decide +kernel
theorem d_Pi_tenthsOfAmpere_7 : decode b_Pi_tenthsOfAmpere 7 = .ok (.aload_n 0, 1) := by decide +kernel
theorem d_Pi_tenthsOfAmpere_8 : decode b_Pi_tenthsOfAmpere 8 = .ok (.getfield 13, 3) := by decide +kernel
theorem d_Pi_tenthsOfAmpere_11 : decode b_Pi_tenthsOfAmpere 11 = .ok (.l2i, 1) := by decide +kernel
theorem d_Pi_tenthsOfAmpere_12 : decode b_Pi_tenthsOfAmpere 12 = .ok (.invokestatic 37, 3) := by decide +kernel
theorem d_Pi_tenthsOfAmpere_15 : decode b_Pi_tenthsOfAmpere 15 = .ok (.goto 4, 3) := by decide +kernel
theorem d_Pi_tenthsOfAmpere_18 : decode b_Pi_tenthsOfAmpere 18 = .ok (.iconst 0, 1) := by decide +kernel
theorem d_Pi_tenthsOfAmpere_19 : decode b_Pi_tenthsOfAmpere 19 = .ok (.ireturn, 1) := by decide +kernel
end
section
theorem d_Ta_init_0 : decode b_Ta_init 0 = .ok (.aload_n 0, 1) := by decide +kernel
theorem d_Ta_init_1 : decode b_Ta_init 1 = .ok (.invokespecial 1, 3) := by decide +kernel
theorem d_Ta_init_4 : decode b_Ta_init 4 = .ok (.aload_n 0, 1) := by decide +kernel
theorem d_Ta_init_5 : decode b_Ta_init 5 = .ok (.iconst 0, 1) := by decide +kernel
theorem d_Ta_init_6 : decode b_Ta_init 6 = .ok (.putfield 9, 3) := by decide +kernel
theorem d_Ta_init_9 : decode b_Ta_init 9 = .ok (.aload_n 0, 1) := by decide +kernel
theorem d_Ta_init_10 : decode b_Ta_init 10 = .ok (.iconst 0, 1) := by decide +kernel
theorem d_Ta_init_11 : decode b_Ta_init 11 = .ok (.putfield 13, 3) := by decide +kernel
theorem d_Ta_init_14 : decode b_Ta_init 14 = .ok (.aload_n 0, 1) := by decide +kernel
theorem d_Ta_init_15 : decode b_Ta_init 15 = .ok (.lconst 0, 1) := by decide +kernel
theorem d_Ta_init_16 : decode b_Ta_init 16 = .ok (.putfield 17, 3) := by decide +kernel
theorem d_Ta_init_19 : decode b_Ta_init 19 = .ok (.aload_n 0, 1) := by decide +kernel
theorem d_Ta_init_20 : decode b_Ta_init 20 = .ok (.lconst 0, 1) := by decide +kernel
theorem d_Ta_init_21 : decode b_Ta_init 21 = .ok (.putfield 21, 3) := by decide +kernel
theorem d_Ta_init_24 : decode b_Ta_init 24 = .ok (.aload_n 0, 1) := by decide +kernel
theorem d_Ta_init_25 : decode b_Ta_init 25 = .ok (.lconst 0, 1) := by decide +kernel
theorem d_Ta_init_26 : decode b_Ta_init 26 = .ok (.putfield 24, 3) := by decide +kernel
theorem d_Ta_init_29 : decode b_Ta_init 29 = .ok (.aload_n 0, 1) := by decide +kernel
theorem d_Ta_init_30 : decode b_Ta_init 30 = .ok (.lconst 0, 1) := by decide +kernel
theorem d_Ta_init_31 : decode b_Ta_init 31 = .ok (.putfield 27, 3) := by decide +kernel
theorem d_Ta_init_34 : decode b_Ta_init 34 = .ok (.return_, 1) := by decide +kernel
theorem d_Ta_isOn_0 : decode b_Ta_isOn 0 = .ok (.aload_n 0, 1) := by decide +kernel
theorem d_Ta_isOn_1 : decode b_Ta_isOn 1 = .ok (.getfield 9, 3) := by decide +kernel
theorem d_Ta_isOn_4 : decode b_Ta_isOn 4 = .ok (.ifCond .eq 7, 3) := by decide +kernel
theorem d_Ta_isOn_7 : decode b_Ta_isOn 7 = .ok (.iconst 1, 1) := by decide +kernel
theorem d_Ta_isOn_8 : decode b_Ta_isOn 8 = .ok (.goto 4, 3) := by decide +kernel
theorem d_Ta_isOn_11 : decode b_Ta_isOn 11 = .ok (.iconst 0, 1) := by decide +kernel
theorem d_Ta_isOn_12 : decode b_Ta_isOn 12 = .ok (.ireturn, 1) := by decide +kernel
theorem d_Ta_isCharging_0 : decode b_Ta_isCharging 0 = .ok (.aload_n 0, 1) := by decide +kernel
theorem d_Ta_isCharging_1 : decode b_Ta_isCharging 1 = .ok (.getfield 9, 3) := by decide +kernel
theorem d_Ta_isCharging_4 : decode b_Ta_isCharging 4 = .ok (.bipush 7, 2) := by decide +kernel
theorem d_Ta_isCharging_6 : decode b_Ta_isCharging 6 = .ok (.if_icmp .ne 7, 3) := by decide +kernel
theorem d_Ta_isCharging_9 : decode b_Ta_isCharging 9 = .ok (.iconst 1, 1) := by decide +kernel
theorem d_Ta_isCharging_10 : decode b_Ta_isCharging 10 = .ok (.goto 4, 3) := by decide +kernel
theorem d_Ta_isCharging_13 : decode b_Ta_isCharging 13 = .ok (.iconst 0, 1) := by decide +kernel
theorem d_Ta_isCharging_14 : decode b_Ta_isCharging 14 = .ok (.ireturn, 1) := by decide +kernel
theorem d_Ta_end_0 : decode b_Ta_end 0 = .ok (.aload_n 0, 1) := by decide +kernel
theorem d_Ta_end_1 : decode b_Ta_end 1 = .ok (.iconst 0, 1) := by decide +kernel
theorem d_Ta_end_2 : decode b_Ta_end 2 = .ok (.putfield 9, 3) := by decide +kernel
theorem d_Ta_end_5 : decode b_Ta_end 5 = .ok (.return_, 1) := by decide +kernel
theorem d_Ta_runDown_0 : decode b_Ta_runDown 0 = .ok (.aload_n 0, 1) := by decide +kernel
theorem d_Ta_runDown_1 : decode b_Ta_runDown 1 = .ok (.bipush 8, 2) := by decide +kernel
theorem d_Ta_runDown_3 : decode b_Ta_runDown 3 = .ok (.putfield 9, 3) := by decide +kernel
theorem d_Ta_runDown_6 : decode b_Ta_runDown 6 = .ok (.aload_n 0, 1) := by decide +kernel
theorem d_Ta_runDown_7 : decode b_Ta_runDown 7 = .ok (.getfield 21, 3) := by decide +kernel
theorem d_Ta_runDown_10 : decode b_Ta_runDown 10 = .ok (.ldc2_w 45, 3) := by decide +kernel
theorem d_Ta_runDown_13 : decode b_Ta_runDown 13 = .ok (.ldiv, 1) := by decide +kernel
theorem d_Ta_runDown_14 : decode b_Ta_runDown 14 = .ok (.l2i, 1) := by decide +kernel
theorem d_Ta_runDown_15 : decode b_Ta_runDown 15 = .ok (.istore_n 1, 1) := by decide +kernel
theorem d_Ta_runDown_16 : decode b_Ta_runDown 16 = .ok (.sipush 5000, 3) := by decide +kernel
theorem d_Ta_runDown_19 : decode b_Ta_runDown 19 = .ok (.sipush 1000, 3) := by decide +kernel
theorem d_Ta_runDown_22 : decode b_Ta_runDown 22 = .ok (.iload_n 1, 1) := by decide +kernel
theorem d_Ta_runDown_23 : decode b_Ta_runDown 23 = .ok (.imul, 1) := by decide +kernel
theorem d_Ta_runDown_24 : decode b_Ta_runDown 24 = .ok (.invokestatic 47, 3) := by decide +kernel
theorem d_Ta_runDown_27 : decode b_Ta_runDown 27 = .ok (.ireturn, 1) := by decide +kernel
theorem d_Ta_breakOff_0 : decode b_Ta_breakOff 0 = .ok (.aload_n 0, 1) := by decide +kernel
theorem d_Ta_breakOff_1 : decode b_Ta_breakOff 1 = .ok (.invokevirtual 38, 3) := by decide +kernel
theorem d_Ta_breakOff_4 : decode b_Ta_breakOff 4 = .ok (.sipush 5000, 3) := by decide +kernel
theorem d_Ta_breakOff_7 : decode b_Ta_breakOff 7 = .ok (.ireturn, 1) := by decide +kernel
theorem d_Ta_wholeEnergy_0 : decode b_Ta_wholeEnergy 0 = .ok (.aload_n 0, 1) := by decide +kernel
theorem d_Ta_wholeEnergy_1 : decode b_Ta_wholeEnergy 1 = .ok (.getfield 27, 3) := by decide +kernel
theorem d_Ta_wholeEnergy_4 : decode b_Ta_wholeEnergy 4 = .ok (.ldc2_w 53, 3) := by decide +kernel
theorem d_Ta_wholeEnergy_7 : decode b_Ta_wholeEnergy 7 = .ok (.ldiv, 1) := by decide +kernel
theorem d_Ta_wholeEnergy_8 : decode b_Ta_wholeEnergy 8 = .ok (.lreturn, 1) := by decide +kernel
theorem d_Ta_isLate_0 : decode b_Ta_isLate 0 = .ok (.aload_n 0, 1) := by decide +kernel
theorem d_Ta_isLate_1 : decode b_Ta_isLate 1 = .ok (.invokevirtual 55, 3) := by decide +kernel
theorem d_Ta_isLate_4 : decode b_Ta_isLate 4 = .ok (.ifCond .eq 20, 3) := by decide +kernel
theorem d_Ta_isLate_7 : decode b_Ta_isLate 7 = .ok (.lload_n 1, 1) := by decide +kernel
theorem d_Ta_isLate_8 : decode b_Ta_isLate 8 = .ok (.aload_n 0, 1) := by decide +kernel
theorem d_Ta_isLate_9 : decode b_Ta_isLate 9 = .ok (.getfield 24, 3) := by decide +kernel
theorem d_Ta_isLate_12 : decode b_Ta_isLate 12 = .ok (.ldc2_w 59, 3) := by decide +kernel
theorem d_Ta_isLate_15 : decode b_Ta_isLate 15 = .ok (.ladd, 1) := by decide +kernel
theorem d_Ta_isLate_16 : decode b_Ta_isLate 16 = .ok (.lcmp, 1) := by decide +kernel
theorem d_Ta_isLate_17 : decode b_Ta_isLate 17 = .ok (.ifCond .le 7, 3) := by decide +kernel
theorem d_Ta_isLate_20 : decode b_Ta_isLate 20 = .ok (.iconst 1, 1) := by decide +kernel
theorem d_Ta_isLate_21 : decode b_Ta_isLate 21 = .ok (.goto 4, 3) := by decide +kernel
theorem d_Ta_isLate_24 : decode b_Ta_isLate 24 = .ok (.iconst 0, 1) := by decide +kernel
theorem d_Ta_isLate_25 : decode b_Ta_isLate 25 = .ok (.ireturn, 1) := by decide +kernel
theorem d_Ta_phaseAtVolts_0 : decode b_Ta_phaseAtVolts 0 = .ok (.lload_n 0, 1) := by decide +kernel
theorem d_Ta_phaseAtVolts_1 : decode b_Ta_phaseAtVolts 1 = .ok (.ldc2_w 79, 3) := by decide +kernel
theorem d_Ta_phaseAtVolts_4 : decode b_Ta_phaseAtVolts 4 = .ok (.ldc2_w 81, 3) := by decide +kernel
theorem d_Ta_phaseAtVolts_7 : decode b_Ta_phaseAtVolts 7 = .ok (.invokestatic 73, 3) := by decide +kernel
theorem d_Ta_phaseAtVolts_10 : decode b_Ta_phaseAtVolts 10 = .ok (.ifCond .eq 8, 3) := by decide +kernel
theorem d_Ta_phaseAtVolts_13 : decode b_Ta_phaseAtVolts 13 = .ok (.bipush 6, 2) := by decide +kernel
theorem d_Ta_phaseAtVolts_15 : decode b_Ta_phaseAtVolts 15 = .ok (.goto 4, 3) := by decide +kernel
theorem d_Ta_phaseAtVolts_18 : decode b_Ta_phaseAtVolts 18 = .ok (.iconst 5, 1) := by decide +kernel
theorem d_Ta_phaseAtVolts_19 : decode b_Ta_phaseAtVolts 19 = .ok (.ireturn, 1) := by decide +kernel
theorem d_Ta_isLimit_0 : decode b_Ta_isLimit 0 = .ok (.lload_n 0, 1) := by decide +kernel
theorem d_Ta_isLimit_1 : decode b_Ta_isLimit 1 = .ok (.lconst 1, 1) := by decide +kernel
theorem d_Ta_isLimit_2 : decode b_Ta_isLimit 2 = .ok (.ldc2_w 59, 3) := by decide +kernel
theorem d_Ta_isLimit_5 : decode b_Ta_isLimit 5 = .ok (.invokestatic 73, 3) := by decide +kernel
theorem d_Ta_isLimit_8 : decode b_Ta_isLimit 8 = .ok (.ireturn, 1) := by decide +kernel
theorem d_Ta_phaseAfter_0 : decode b_Ta_phaseAfter 0 = .ok (.iload_n 1, 1) := by decide +kernel
theorem d_Ta_phaseAfter_1 : decode b_Ta_phaseAfter 1 = .ok (.tableswitch 297 0 10 #[59, 77, 103, 123, 144, 173, 190, 221, 247, 268, 282], 59) := by decide +kernel
theorem d_Ta_phaseAfter_60 : decode b_Ta_phaseAfter 60 = .ok (.aload_n 0, 1) := by decide +kernel
theorem d_Ta_phaseAfter_61 : decode b_Ta_phaseAfter 61 = .ok (.getfield 9, 3) := by decide +kernel
theorem d_Ta_phaseAfter_64 : decode b_Ta_phaseAfter 64 = .ok (.ifCond .ne 12, 3) := by decide +kernel
theorem d_Ta_phaseAfter_67 : decode b_Ta_phaseAfter 67 = .ok (.iload 4, 2) := by decide +kernel
theorem d_Ta_phaseAfter_69 : decode b_Ta_phaseAfter 69 = .ok (.ifCond .eq 7, 3) := by decide +kernel
theorem d_Ta_phaseAfter_72 : decode b_Ta_phaseAfter 72 = .ok (.iconst 1, 1) := by decide +kernel
theorem d_Ta_phaseAfter_73 : decode b_Ta_phaseAfter 73 = .ok (.goto 4, 3) := by decide +kernel
theorem d_Ta_phaseAfter_76 : decode b_Ta_phaseAfter 76 = .ok (.iconst (-1), 1) := by decide +kernel
theorem d_Ta_phaseAfter_77 : decode b_Ta_phaseAfter 77 = .ok (.ireturn, 1) := by decide +kernel
theorem d_Ta_phaseAfter_78 : decode b_Ta_phaseAfter 78 = .ok (.aload_n 0, 1) := by decide +kernel
theorem d_Ta_phaseAfter_79 : decode b_Ta_phaseAfter 79 = .ok (.getfield 9, 3) := by decide +kernel
theorem d_Ta_phaseAfter_82 : decode b_Ta_phaseAfter 82 = .ok (.iconst 1, 1) := by decide +kernel
theorem d_Ta_phaseAfter_83 : decode b_Ta_phaseAfter 83 = .ok (.if_icmp .ne 19, 3) := by decide +kernel
theorem d_Ta_phaseAfter_86 : decode b_Ta_phaseAfter 86 = .ok (.lload_n 2, 1) := by decide +kernel
theorem d_Ta_phaseAfter_87 : decode b_Ta_phaseAfter 87 = .ok (.lconst 0, 1) := by decide +kernel
theorem d_Ta_phaseAfter_88 : decode b_Ta_phaseAfter 88 = .ok (.lcmp, 1) := by decide +kernel
theorem d_Ta_phaseAfter_89 : decode b_Ta_phaseAfter 89 = .ok (.ifCond .eq 9, 3) := by decide +kernel
theorem d_Ta_phaseAfter_92 : decode b_Ta_phaseAfter 92 = .ok (.lload_n 2, 1) := by decide +kernel
theorem d_Ta_phaseAfter_93 : decode b_Ta_phaseAfter 93 = .ok (.lconst 1, 1) := by decide +kernel
theorem d_Ta_phaseAfter_94 : decode b_Ta_phaseAfter 94 = .ok (.lcmp, 1) := by decide +kernel
theorem d_Ta_phaseAfter_95 : decode b_Ta_phaseAfter 95 = .ok (.ifCond .ne 7, 3) := by decide +kernel
theorem d_Ta_phaseAfter_98 : decode b_Ta_phaseAfter 98 = .ok (.iconst 2, 1) := by decide +kernel
theorem d_Ta_phaseAfter_99 : decode b_Ta_phaseAfter 99 = .ok (.goto 4, 3) := by decide +kernel
theorem d_Ta_phaseAfter_102 : decode b_Ta_phaseAfter 102 = .ok (.iconst (-1), 1) := by decide +kernel
theorem d_Ta_phaseAfter_103 : decode b_Ta_phaseAfter 103 = .ok (.ireturn, 1) := by decide +kernel
theorem d_Ta_phaseAfter_104 : decode b_Ta_phaseAfter 104 = .ok (.aload_n 0, 1) := by decide +kernel
theorem d_Ta_phaseAfter_105 : decode b_Ta_phaseAfter 105 = .ok (.getfield 9, 3) := by decide +kernel
theorem d_Ta_phaseAfter_108 : decode b_Ta_phaseAfter 108 = .ok (.iconst 2, 1) := by decide +kernel
theorem d_Ta_phaseAfter_109 : decode b_Ta_phaseAfter 109 = .ok (.if_icmp .ne 13, 3) := by decide +kernel
theorem d_Ta_phaseAfter_112 : decode b_Ta_phaseAfter 112 = .ok (.lload_n 2, 1) := by decide +kernel
theorem d_Ta_phaseAfter_113 : decode b_Ta_phaseAfter 113 = .ok (.lconst 1, 1) := by decide +kernel
theorem d_Ta_phaseAfter_114 : decode b_Ta_phaseAfter 114 = .ok (.lcmp, 1) := by decide +kernel
theorem d_Ta_phaseAfter_115 : decode b_Ta_phaseAfter 115 = .ok (.ifCond .ne 7, 3) := by decide +kernel
theorem d_Ta_phaseAfter_118 : decode b_Ta_phaseAfter 118 = .ok (.iconst 3, 1) := by decide +kernel
theorem d_Ta_phaseAfter_119 : decode b_Ta_phaseAfter 119 = .ok (.goto 4, 3) := by decide +kernel
theorem d_Ta_phaseAfter_122 : decode b_Ta_phaseAfter 122 = .ok (.iconst (-1), 1) := by decide +kernel
theorem d_Ta_phaseAfter_123 : decode b_Ta_phaseAfter 123 = .ok (.ireturn, 1) := by decide +kernel
theorem d_Ta_phaseAfter_124 : decode b_Ta_phaseAfter 124 = .ok (.aload_n 0, 1) := by decide +kernel
theorem d_Ta_phaseAfter_125 : decode b_Ta_phaseAfter 125 = .ok (.getfield 9, 3) := by decide +kernel
theorem d_Ta_phaseAfter_128 : decode b_Ta_phaseAfter 128 = .ok (.iconst 3, 1) := by decide +kernel
theorem d_Ta_phaseAfter_129 : decode b_Ta_phaseAfter 129 = .ok (.if_icmp .ne 14, 3) := by decide +kernel
theorem d_Ta_phaseAfter_132 : decode b_Ta_phaseAfter 132 = .ok (.lload_n 2, 1) := by decide +kernel
theorem d_Ta_phaseAfter_133 : decode b_Ta_phaseAfter 133 = .ok (.invokestatic 61, 3) := by decide +kernel
theorem d_Ta_phaseAfter_136 : decode b_Ta_phaseAfter 136 = .ok (.ifCond .eq 7, 3) := by decide +kernel
theorem d_Ta_phaseAfter_139 : decode b_Ta_phaseAfter 139 = .ok (.iconst 4, 1) := by decide +kernel
theorem d_Ta_phaseAfter_140 : decode b_Ta_phaseAfter 140 = .ok (.goto 4, 3) := by decide +kernel
theorem d_Ta_phaseAfter_143 : decode b_Ta_phaseAfter 143 = .ok (.iconst (-1), 1) := by decide +kernel
theorem d_Ta_phaseAfter_144 : decode b_Ta_phaseAfter 144 = .ok (.ireturn, 1) := by decide +kernel
theorem d_Ta_phaseAfter_145 : decode b_Ta_phaseAfter 145 = .ok (.aload_n 0, 1) := by decide +kernel
theorem d_Ta_phaseAfter_146 : decode b_Ta_phaseAfter 146 = .ok (.getfield 9, 3) := by decide +kernel
theorem d_Ta_phaseAfter_149 : decode b_Ta_phaseAfter 149 = .ok (.iconst 4, 1) := by decide +kernel
theorem d_Ta_phaseAfter_150 : decode b_Ta_phaseAfter 150 = .ok (.if_icmp .ne 22, 3) := by decide +kernel
theorem d_Ta_phaseAfter_153 : decode b_Ta_phaseAfter 153 = .ok (.aload_n 0, 1) := by decide +kernel
theorem d_Ta_phaseAfter_154 : decode b_Ta_phaseAfter 154 = .ok (.getfield 13, 3) := by decide +kernel
theorem d_Ta_phaseAfter_157 : decode b_Ta_phaseAfter 157 = .ok (.ifCond .eq 15, 3) := by decide +kernel
theorem d_Ta_phaseAfter_160 : decode b_Ta_phaseAfter 160 = .ok (.lload_n 2, 1) := by decide +kernel
theorem d_Ta_phaseAfter_161 : decode b_Ta_phaseAfter 161 = .ok (.ldc2_w 64, 3) := by decide +kernel
theorem d_Ta_phaseAfter_164 : decode b_Ta_phaseAfter 164 = .ok (.lcmp, 1) := by decide +kernel
theorem d_Ta_phaseAfter_165 : decode b_Ta_phaseAfter 165 = .ok (.ifCond .lt 7, 3) := by decide +kernel
theorem d_Ta_phaseAfter_168 : decode b_Ta_phaseAfter 168 = .ok (.iconst 5, 1) := by decide +kernel
theorem d_Ta_phaseAfter_169 : decode b_Ta_phaseAfter 169 = .ok (.goto 4, 3) := by decide +kernel
theorem d_Ta_phaseAfter_172 : decode b_Ta_phaseAfter 172 = .ok (.iconst (-1), 1) := by decide +kernel
theorem d_Ta_phaseAfter_173 : decode b_Ta_phaseAfter 173 = .ok (.ireturn, 1) := by decide +kernel
theorem d_Ta_phaseAfter_174 : decode b_Ta_phaseAfter 174 = .ok (.aload_n 0, 1) := by decide +kernel
theorem d_Ta_phaseAfter_175 : decode b_Ta_phaseAfter 175 = .ok (.getfield 9, 3) := by decide +kernel
theorem d_Ta_phaseAfter_178 : decode b_Ta_phaseAfter 178 = .ok (.iconst 5, 1) := by decide +kernel
end
section
theorem d_Ta_phaseAfter_179 : decode b_Ta_phaseAfter 179 = .ok (.if_icmp .ne 10, 3) := by decide +kernel
theorem d_Ta_phaseAfter_182 : decode b_Ta_phaseAfter 182 = .ok (.lload_n 2, 1) := by decide +kernel
theorem d_Ta_phaseAfter_183 : decode b_Ta_phaseAfter 183 = .ok (.invokestatic 66, 3) := by decide +kernel
theorem d_Ta_phaseAfter_186 : decode b_Ta_phaseAfter 186 = .ok (.goto 4, 3) := by decide +kernel
theorem d_Ta_phaseAfter_189 : decode b_Ta_phaseAfter 189 = .ok (.iconst (-1), 1) := by decide +kernel
theorem d_Ta_phaseAfter_190 : decode b_Ta_phaseAfter 190 = .ok (.ireturn, 1) := by decide +kernel
theorem d_Ta_phaseAfter_191 : decode b_Ta_phaseAfter 191 = .ok (.aload_n 0, 1) := by decide +kernel
theorem d_Ta_phaseAfter_192 : decode b_Ta_phaseAfter 192 = .ok (.getfield 9, 3) := by decide +kernel
theorem d_Ta_phaseAfter_195 : decode b_Ta_phaseAfter 195 = .ok (.iconst 4, 1) := by decide +kernel
theorem d_Ta_phaseAfter_196 : decode b_Ta_phaseAfter 196 = .ok (.if_icmp .ne 10, 3) := by decide +kernel
theorem d_Ta_phaseAfter_199 : decode b_Ta_phaseAfter 199 = .ok (.aload_n 0, 1) := by decide +kernel
theorem d_Ta_phaseAfter_200 : decode b_Ta_phaseAfter 200 = .ok (.getfield 13, 3) := by decide +kernel
theorem d_Ta_phaseAfter_203 : decode b_Ta_phaseAfter 203 = .ok (.ifCond .eq 12, 3) := by decide +kernel
theorem d_Ta_phaseAfter_206 : decode b_Ta_phaseAfter 206 = .ok (.aload_n 0, 1) := by decide +kernel
theorem d_Ta_phaseAfter_207 : decode b_Ta_phaseAfter 207 = .ok (.getfield 9, 3) := by decide +kernel
theorem d_Ta_phaseAfter_210 : decode b_Ta_phaseAfter 210 = .ok (.bipush 6, 2) := by decide +kernel
theorem d_Ta_phaseAfter_212 : decode b_Ta_phaseAfter 212 = .ok (.if_icmp .ne 8, 3) := by decide +kernel
theorem d_Ta_phaseAfter_215 : decode b_Ta_phaseAfter 215 = .ok (.bipush 7, 2) := by decide +kernel
theorem d_Ta_phaseAfter_217 : decode b_Ta_phaseAfter 217 = .ok (.goto 4, 3) := by decide +kernel
theorem d_Ta_phaseAfter_220 : decode b_Ta_phaseAfter 220 = .ok (.iconst (-1), 1) := by decide +kernel
theorem d_Ta_phaseAfter_221 : decode b_Ta_phaseAfter 221 = .ok (.ireturn, 1) := by decide +kernel
theorem d_Ta_phaseAfter_222 : decode b_Ta_phaseAfter 222 = .ok (.aload_n 0, 1) := by decide +kernel
theorem d_Ta_phaseAfter_223 : decode b_Ta_phaseAfter 223 = .ok (.invokevirtual 70, 3) := by decide +kernel
theorem d_Ta_phaseAfter_226 : decode b_Ta_phaseAfter 226 = .ok (.ifCond .eq 20, 3) := by decide +kernel
theorem d_Ta_phaseAfter_229 : decode b_Ta_phaseAfter 229 = .ok (.lload_n 2, 1) := by decide +kernel
theorem d_Ta_phaseAfter_230 : decode b_Ta_phaseAfter 230 = .ok (.lconst 0, 1) := by decide +kernel
theorem d_Ta_phaseAfter_231 : decode b_Ta_phaseAfter 231 = .ok (.aload_n 0, 1) := by decide +kernel
theorem d_Ta_phaseAfter_232 : decode b_Ta_phaseAfter 232 = .ok (.getfield 17, 3) := by decide +kernel
theorem d_Ta_phaseAfter_235 : decode b_Ta_phaseAfter 235 = .ok (.invokestatic 73, 3) := by decide +kernel
theorem d_Ta_phaseAfter_238 : decode b_Ta_phaseAfter 238 = .ok (.ifCond .eq 8, 3) := by decide +kernel
theorem d_Ta_phaseAfter_241 : decode b_Ta_phaseAfter 241 = .ok (.bipush 7, 2) := by decide +kernel
theorem d_Ta_phaseAfter_243 : decode b_Ta_phaseAfter 243 = .ok (.goto 4, 3) := by decide +kernel
theorem d_Ta_phaseAfter_246 : decode b_Ta_phaseAfter 246 = .ok (.iconst (-1), 1) := by decide +kernel
theorem d_Ta_phaseAfter_247 : decode b_Ta_phaseAfter 247 = .ok (.ireturn, 1) := by decide +kernel
theorem d_Ta_phaseAfter_248 : decode b_Ta_phaseAfter 248 = .ok (.aload_n 0, 1) := by decide +kernel
theorem d_Ta_phaseAfter_249 : decode b_Ta_phaseAfter 249 = .ok (.invokevirtual 70, 3) := by decide +kernel
theorem d_Ta_phaseAfter_252 : decode b_Ta_phaseAfter 252 = .ok (.ifCond .eq 15, 3) := by decide +kernel
theorem d_Ta_phaseAfter_255 : decode b_Ta_phaseAfter 255 = .ok (.lload_n 2, 1) := by decide +kernel
theorem d_Ta_phaseAfter_256 : decode b_Ta_phaseAfter 256 = .ok (.invokestatic 61, 3) := by decide +kernel
theorem d_Ta_phaseAfter_259 : decode b_Ta_phaseAfter 259 = .ok (.ifCond .eq 8, 3) := by decide +kernel
theorem d_Ta_phaseAfter_262 : decode b_Ta_phaseAfter 262 = .ok (.bipush 7, 2) := by decide +kernel
theorem d_Ta_phaseAfter_264 : decode b_Ta_phaseAfter 264 = .ok (.goto 4, 3) := by decide +kernel
theorem d_Ta_phaseAfter_267 : decode b_Ta_phaseAfter 267 = .ok (.iconst (-1), 1) := by decide +kernel
theorem d_Ta_phaseAfter_268 : decode b_Ta_phaseAfter 268 = .ok (.ireturn, 1) := by decide +kernel
theorem d_Ta_phaseAfter_269 : decode b_Ta_phaseAfter 269 = .ok (.aload_n 0, 1) := by decide +kernel
theorem d_Ta_phaseAfter_270 : decode b_Ta_phaseAfter 270 = .ok (.invokevirtual 70, 3) := by decide +kernel
theorem d_Ta_phaseAfter_273 : decode b_Ta_phaseAfter 273 = .ok (.ifCond .eq 8, 3) := by decide +kernel
theorem d_Ta_phaseAfter_276 : decode b_Ta_phaseAfter 276 = .ok (.bipush 8, 2) := by decide +kernel
theorem d_Ta_phaseAfter_278 : decode b_Ta_phaseAfter 278 = .ok (.goto 4, 3) := by decide +kernel
theorem d_Ta_phaseAfter_281 : decode b_Ta_phaseAfter 281 = .ok (.iconst (-1), 1) := by decide +kernel
theorem d_Ta_phaseAfter_282 : decode b_Ta_phaseAfter 282 = .ok (.ireturn, 1) := by decide +kernel
theorem d_Ta_phaseAfter_283 : decode b_Ta_phaseAfter 283 = .ok (.aload_n 0, 1) := by decide +kernel
theorem d_Ta_phaseAfter_284 : decode b_Ta_phaseAfter 284 = .ok (.getfield 9, 3) := by decide +kernel
theorem d_Ta_phaseAfter_287 : decode b_Ta_phaseAfter 287 = .ok (.bipush 8, 2) := by decide +kernel
theorem d_Ta_phaseAfter_289 : decode b_Ta_phaseAfter 289 = .ok (.if_icmp .ne 7, 3) := by decide +kernel
theorem d_Ta_phaseAfter_292 : decode b_Ta_phaseAfter 292 = .ok (.iconst 0, 1) := by decide +kernel
theorem d_Ta_phaseAfter_293 : decode b_Ta_phaseAfter 293 = .ok (.goto 4, 3) := by decide +kernel
theorem d_Ta_phaseAfter_296 : decode b_Ta_phaseAfter 296 = .ok (.iconst (-1), 1) := by decide +kernel
theorem d_Ta_phaseAfter_297 : decode b_Ta_phaseAfter 297 = .ok (.ireturn, 1) := by decide +kernel
theorem d_Ta_phaseAfter_298 : decode b_Ta_phaseAfter 298 = .ok (.iconst (-1), 1) := by decide +kernel
theorem d_Ta_phaseAfter_299 : decode b_Ta_phaseAfter 299 = .ok (.ireturn, 1) := by decide +kernel
theorem d_Ta_keep_0 : decode b_Ta_keep 0 = .ok (.iload_n 1, 1) := by decide +kernel
theorem d_Ta_keep_1 : decode b_Ta_keep 1 = .ok (.ifCond .ne 11, 3) := by decide +kernel
theorem d_Ta_keep_4 : decode b_Ta_keep 4 = .ok (.aload_n 0, 1) := by decide +kernel
theorem d_Ta_keep_5 : decode b_Ta_keep 5 = .ok (.lconst 0, 1) := by decide +kernel
theorem d_Ta_keep_6 : decode b_Ta_keep 6 = .ok (.putfield 21, 3) := by decide +kernel
theorem d_Ta_keep_9 : decode b_Ta_keep 9 = .ok (.goto 74, 3) := by decide +kernel
theorem d_Ta_keep_12 : decode b_Ta_keep 12 = .ok (.iload_n 1, 1) := by decide +kernel
theorem d_Ta_keep_13 : decode b_Ta_keep 13 = .ok (.iconst 1, 1) := by decide +kernel
theorem d_Ta_keep_14 : decode b_Ta_keep 14 = .ok (.if_icmp .ne 21, 3) := by decide +kernel
theorem d_Ta_keep_17 : decode b_Ta_keep 17 = .ok (.aload_n 0, 1) := by decide +kernel
theorem d_Ta_keep_18 : decode b_Ta_keep 18 = .ok (.lload_n 2, 1) := by decide +kernel
theorem d_Ta_keep_19 : decode b_Ta_keep 19 = .ok (.lconst 1, 1) := by decide +kernel
theorem d_Ta_keep_20 : decode b_Ta_keep 20 = .ok (.lcmp, 1) := by decide +kernel
theorem d_Ta_keep_21 : decode b_Ta_keep 21 = .ok (.ifCond .ne 7, 3) := by decide +kernel
theorem d_Ta_keep_24 : decode b_Ta_keep 24 = .ok (.iconst 1, 1) := by decide +kernel
theorem d_Ta_keep_25 : decode b_Ta_keep 25 = .ok (.goto 4, 3) := by decide +kernel
theorem d_Ta_keep_28 : decode b_Ta_keep 28 = .ok (.iconst 0, 1) := by decide +kernel
theorem d_Ta_keep_29 : decode b_Ta_keep 29 = .ok (.putfield 13, 3) := by decide +kernel
theorem d_Ta_keep_32 : decode b_Ta_keep 32 = .ok (.goto 51, 3) := by decide +kernel
theorem d_Ta_keep_35 : decode b_Ta_keep 35 = .ok (.iload_n 1, 1) := by decide +kernel
theorem d_Ta_keep_36 : decode b_Ta_keep 36 = .ok (.iconst 3, 1) := by decide +kernel
theorem d_Ta_keep_37 : decode b_Ta_keep 37 = .ok (.if_icmp .eq 9, 3) := by decide +kernel
theorem d_Ta_keep_40 : decode b_Ta_keep 40 = .ok (.iload_n 1, 1) := by decide +kernel
theorem d_Ta_keep_41 : decode b_Ta_keep 41 = .ok (.bipush 8, 2) := by decide +kernel
theorem d_Ta_keep_43 : decode b_Ta_keep 43 = .ok (.if_icmp .ne 11, 3) := by decide +kernel
theorem d_Ta_keep_46 : decode b_Ta_keep 46 = .ok (.aload_n 0, 1) := by decide +kernel
theorem d_Ta_keep_47 : decode b_Ta_keep 47 = .ok (.lload_n 2, 1) := by decide +kernel
theorem d_Ta_keep_48 : decode b_Ta_keep 48 = .ok (.putfield 17, 3) := by decide +kernel
theorem d_Ta_keep_51 : decode b_Ta_keep 51 = .ok (.goto 32, 3) := by decide +kernel
theorem d_Ta_keep_54 : decode b_Ta_keep 54 = .ok (.iload_n 1, 1) := by decide +kernel
theorem d_Ta_keep_55 : decode b_Ta_keep 55 = .ok (.bipush 7, 2) := by decide +kernel
theorem d_Ta_keep_57 : decode b_Ta_keep 57 = .ok (.if_icmp .ne 26, 3) := by decide +kernel
theorem d_Ta_keep_60 : decode b_Ta_keep 60 = .ok (.aload_n 0, 1) := by decide +kernel
theorem d_Ta_keep_61 : decode b_Ta_keep 61 = .ok (.dup, 1) := by decide +kernel
theorem d_Ta_keep_62 : decode b_Ta_keep 62 = .ok (.getfield 27, 3) := by decide +kernel
theorem d_Ta_keep_65 : decode b_Ta_keep 65 = .ok (.lload_n 2, 1) := by decide +kernel
theorem d_Ta_keep_66 : decode b_Ta_keep 66 = .ok (.lload 4, 2) := by decide +kernel
theorem d_Ta_keep_68 : decode b_Ta_keep 68 = .ok (.aload_n 0, 1) := by decide +kernel
theorem d_Ta_keep_69 : decode b_Ta_keep 69 = .ok (.getfield 24, 3) := by decide +kernel
theorem d_Ta_keep_72 : decode b_Ta_keep 72 = .ok (.lsub, 1) := by decide +kernel
theorem d_Ta_keep_73 : decode b_Ta_keep 73 = .ok (.lmul, 1) := by decide +kernel
theorem d_Ta_keep_74 : decode b_Ta_keep 74 = .ok (.ladd, 1) := by decide +kernel
theorem d_Ta_keep_75 : decode b_Ta_keep 75 = .ok (.putfield 27, 3) := by decide +kernel
theorem d_Ta_keep_78 : decode b_Ta_keep 78 = .ok (.aload_n 0, 1) := by decide +kernel
theorem d_Ta_keep_79 : decode b_Ta_keep 79 = .ok (.lload_n 2, 1) := by decide +kernel
theorem d_Ta_keep_80 : decode b_Ta_keep 80 = .ok (.putfield 21, 3) := by decide +kernel
theorem d_Ta_keep_83 : decode b_Ta_keep 83 = .ok (.aload_n 0, 1) := by decide +kernel
theorem d_Ta_keep_84 : decode b_Ta_keep 84 = .ok (.lload 4, 2) := by decide +kernel
theorem d_Ta_keep_86 : decode b_Ta_keep 86 = .ok (.putfield 24, 3) := by decide +kernel
theorem d_Ta_keep_89 : decode b_Ta_keep 89 = .ok (.return_, 1) := by decide +kernel
theorem d_Ta_take_0 : decode b_Ta_take 0 = .ok (.aload_n 0, 1) := by decide +kernel
theorem d_Ta_take_1 : decode b_Ta_take 1 = .ok (.lload 4, 2) := by decide +kernel
theorem d_Ta_take_3 : decode b_Ta_take 3 = .ok (.invokevirtual 30, 3) := by decide +kernel
theorem d_Ta_take_6 : decode b_Ta_take 6 = .ok (.ifCond .eq 7, 3) := by decide +kernel
theorem d_Ta_take_9 : decode b_Ta_take 9 = .ok (.iconst (-1), 1) := by decide +kernel
theorem d_Ta_take_10 : decode b_Ta_take 10 = .ok (.goto 11, 3) := by decide +kernel
theorem d_Ta_take_13 : decode b_Ta_take 13 = .ok (.aload_n 0, 1) := by decide +kernel
theorem d_Ta_take_14 : decode b_Ta_take 14 = .ok (.iload_n 1, 1) := by decide +kernel
theorem d_Ta_take_15 : decode b_Ta_take 15 = .ok (.lload_n 2, 1) := by decide +kernel
theorem d_Ta_take_16 : decode b_Ta_take 16 = .ok (.iload 6, 2) := by decide +kernel
theorem d_Ta_take_18 : decode b_Ta_take 18 = .ok (.invokevirtual 34, 3) := by decide +kernel
theorem d_Ta_take_21 : decode b_Ta_take 21 = .ok (.istore 7, 2) := by decide +kernel
theorem d_Ta_take_23 : decode b_Ta_take 23 = .ok (.iload 7, 2) := by decide +kernel
theorem d_Ta_take_25 : decode b_Ta_take 25 = .ok (.iconst (-1), 1) := by decide +kernel
theorem d_Ta_take_26 : decode b_Ta_take 26 = .ok (.if_icmp .ne 9, 3) := by decide +kernel
theorem d_Ta_take_29 : decode b_Ta_take 29 = .ok (.aload_n 0, 1) := by decide +kernel
theorem d_Ta_take_30 : decode b_Ta_take 30 = .ok (.invokevirtual 38, 3) := by decide +kernel
theorem d_Ta_take_33 : decode b_Ta_take 33 = .ok (.iconst 0, 1) := by decide +kernel
theorem d_Ta_take_34 : decode b_Ta_take 34 = .ok (.ireturn, 1) := by decide +kernel
theorem d_Ta_take_35 : decode b_Ta_take 35 = .ok (.aload_n 0, 1) := by decide +kernel
theorem d_Ta_take_36 : decode b_Ta_take 36 = .ok (.iload_n 1, 1) := by decide +kernel
theorem d_Ta_take_37 : decode b_Ta_take 37 = .ok (.lload_n 2, 1) := by decide +kernel
theorem d_Ta_take_38 : decode b_Ta_take 38 = .ok (.lload 4, 2) := by decide +kernel
theorem d_Ta_take_40 : decode b_Ta_take 40 = .ok (.invokevirtual 41, 3) := by decide +kernel
theorem d_Ta_take_43 : decode b_Ta_take 43 = .ok (.aload_n 0, 1) := by decide +kernel
theorem d_Ta_take_44 : decode b_Ta_take 44 = .ok (.iload 7, 2) := by decide +kernel
theorem d_Ta_take_46 : decode b_Ta_take 46 = .ok (.putfield 9, 3) := by decide +kernel
theorem d_Ta_take_49 : decode b_Ta_take 49 = .ok (.iconst 1, 1) := by decide +kernel
theorem d_Ta_take_50 : decode b_Ta_take 50 = .ok (.ireturn, 1) := by decide +kernel
theorem d_Tf_isPrice_0 : decode b_Tf_isPrice 0 = .ok (.iload_n 0, 1) := by decide +kernel
theorem d_Tf_isPrice_1 : decode b_Tf_isPrice 1 = .ok (.ifCond .lt 14, 3) := by decide +kernel
theorem d_Tf_isPrice_4 : decode b_Tf_isPrice 4 = .ok (.iload_n 0, 1) := by decide +kernel
theorem d_Tf_isPrice_5 : decode b_Tf_isPrice 5 = .ok (.sipush 1000, 3) := by decide +kernel
theorem d_Tf_isPrice_8 : decode b_Tf_isPrice 8 = .ok (.if_icmp .gt 7, 3) := by decide +kernel
theorem d_Tf_isPrice_11 : decode b_Tf_isPrice 11 = .ok (.iconst 1, 1) := by decide +kernel
theorem d_Tf_isPrice_12 : decode b_Tf_isPrice 12 = .ok (.goto 4, 3) := by decide +kernel
theorem d_Tf_isPrice_15 : decode b_Tf_isPrice 15 = .ok (.iconst 0, 1) := by decide +kernel
theorem d_Tf_isPrice_16 : decode b_Tf_isPrice 16 = .ok (.ireturn, 1) := by decide +kernel
theorem d_Tf_isFull_0 : decode b_Tf_isFull 0 = .ok (.aload_n 0, 1) := by decide +kernel
theorem d_Tf_isFull_1 : decode b_Tf_isFull 1 = .ok (.getfield 20, 3) := by decide +kernel
theorem d_Tf_isFull_4 : decode b_Tf_isFull 4 = .ok (.bipush 20, 2) := by decide +kernel
theorem d_Tf_isFull_6 : decode b_Tf_isFull 6 = .ok (.if_icmp .lt 7, 3) := by decide +kernel
theorem d_Tf_isFull_9 : decode b_Tf_isFull 9 = .ok (.iconst 1, 1) := by decide +kernel
theorem d_Tf_isFull_10 : decode b_Tf_isFull 10 = .ok (.goto 4, 3) := by decide +kernel
theorem d_Tf_isFull_13 : decode b_Tf_isFull 13 = .ok (.iconst 0, 1) := by decide +kernel
theorem d_Tf_isFull_14 : decode b_Tf_isFull 14 = .ok (.ireturn, 1) := by decide +kernel
theorem d_Tf_addSpan_0 : decode b_Tf_addSpan 0 = .ok (.iconst 0, 1) := by decide +kernel
theorem d_Tf_addSpan_1 : decode b_Tf_addSpan 1 = .ok (.iload_n 1, 1) := by decide +kernel
theorem d_Tf_addSpan_2 : decode b_Tf_addSpan 2 = .ok (.invokestatic 28, 3) := by decide +kernel
end
section
theorem d_Tf_addSpan_5 : decode b_Tf_addSpan 5 = .ok (.istore 4, 2) := by decide +kernel
theorem d_Tf_addSpan_7 : decode b_Tf_addSpan 7 = .ok (.iload 4, 2) := by decide +kernel
theorem d_Tf_addSpan_9 : decode b_Tf_addSpan 9 = .ok (.iload_n 2, 1) := by decide +kernel
theorem d_Tf_addSpan_10 : decode b_Tf_addSpan 10 = .ok (.if_icmp .ge 25, 3) := by decide +kernel
theorem d_Tf_addSpan_13 : decode b_Tf_addSpan 13 = .ok (.iload 4, 2) := by decide +kernel
theorem d_Tf_addSpan_15 : decode b_Tf_addSpan 15 = .ok (.sipush 1440, 3) := by decide +kernel
theorem d_Tf_addSpan_18 : decode b_Tf_addSpan 18 = .ok (.if_icmp .ge 17, 3) := by decide +kernel
theorem d_Tf_addSpan_21 : decode b_Tf_addSpan 21 = .ok (.aload_n 0, 1) := by decide +kernel
theorem d_Tf_addSpan_22 : decode b_Tf_addSpan 22 = .ok (.getfield 9, 3) := by decide +kernel
theorem d_Tf_addSpan_25 : decode b_Tf_addSpan 25 = .ok (.iload 4, 2) := by decide +kernel
theorem d_Tf_addSpan_27 : decode b_Tf_addSpan 27 = .ok (.iload_n 3, 1) := by decide +kernel
theorem d_Tf_addSpan_28 : decode b_Tf_addSpan 28 = .ok (.iastore, 1) := by decide +kernel
theorem d_Tf_addSpan_29 : decode b_Tf_addSpan 29 = .ok (.iinc 4 1, 3) := by decide +kernel
theorem d_Tf_addSpan_32 : decode b_Tf_addSpan 32 = .ok (.goto (-25), 3) := by decide +kernel
theorem d_Tf_addSpan_35 : decode b_Tf_addSpan 35 = .ok (.aload_n 0, 1) := by decide +kernel
theorem d_Tf_addSpan_36 : decode b_Tf_addSpan 36 = .ok (.dup, 1) := by decide +kernel
theorem d_Tf_addSpan_37 : decode b_Tf_addSpan 37 = .ok (.getfield 20, 3) := by decide +kernel
theorem d_Tf_addSpan_40 : decode b_Tf_addSpan 40 = .ok (.iconst 1, 1) := by decide +kernel
theorem d_Tf_addSpan_41 : decode b_Tf_addSpan 41 = .ok (.iadd, 1) := by decide +kernel
theorem d_Tf_addSpan_42 : decode b_Tf_addSpan 42 = .ok (.putfield 20, 3) := by decide +kernel
theorem d_Tf_addSpan_45 : decode b_Tf_addSpan 45 = .ok (.aload_n 0, 1) := by decide +kernel
theorem d_Tf_addSpan_46 : decode b_Tf_addSpan 46 = .ok (.getfield 20, 3) := by decide +kernel
theorem d_Tf_addSpan_49 : decode b_Tf_addSpan 49 = .ok (.ireturn, 1) := by decide +kernel
theorem d_Tf_unitsIn_0 : decode b_Tf_unitsIn 0 = .ok (.lload_n 1, 1) := by decide +kernel
theorem d_Tf_unitsIn_1 : decode b_Tf_unitsIn 1 = .ok (.lconst 0, 1) := by decide +kernel
theorem d_Tf_unitsIn_2 : decode b_Tf_unitsIn 2 = .ok (.lcmp, 1) := by decide +kernel
theorem d_Tf_unitsIn_3 : decode b_Tf_unitsIn 3 = .ok (.ifCond .lt 21, 3) := by decide +kernel
theorem d_Tf_unitsIn_6 : decode b_Tf_unitsIn 6 = .ok (.lload_n 1, 1) := by decide +kernel
theorem d_Tf_unitsIn_7 : decode b_Tf_unitsIn 7 = .ok (.ldc2_w 34, 3) := by decide +kernel
theorem d_Tf_unitsIn_10 : decode b_Tf_unitsIn 10 = .ok (.lcmp, 1) := by decide +kernel
theorem d_Tf_unitsIn_11 : decode b_Tf_unitsIn 11 = .ok (.ifCond .ge 13, 3) := by decide +kernel
theorem d_Tf_unitsIn_14 : decode b_Tf_unitsIn 14 = .ok (.aload_n 0, 1) := by decide +kernel
theorem d_Tf_unitsIn_15 : decode b_Tf_unitsIn 15 = .ok (.getfield 13, 3) := by decide +kernel
theorem d_Tf_unitsIn_18 : decode b_Tf_unitsIn 18 = .ok (.lload_n 1, 1) := by decide +kernel
theorem d_Tf_unitsIn_19 : decode b_Tf_unitsIn 19 = .ok (.l2i, 1) := by decide +kernel
theorem d_Tf_unitsIn_20 : decode b_Tf_unitsIn 20 = .ok (.iaload, 1) := by decide +kernel
theorem d_Tf_unitsIn_21 : decode b_Tf_unitsIn 21 = .ok (.goto 4, 3) := by decide +kernel
theorem d_Tf_unitsIn_24 : decode b_Tf_unitsIn 24 = .ok (.iconst 0, 1) := by decide +kernel
theorem d_Tf_unitsIn_25 : decode b_Tf_unitsIn 25 = .ok (.ireturn, 1) := by decide +kernel
theorem d_Tf_measureRoom_0 : decode b_Tf_measureRoom 0 = .ok (.iconst 0, 1) := by decide +kernel
theorem d_Tf_measureRoom_1 : decode b_Tf_measureRoom 1 = .ok (.istore_n 3, 1) := by decide +kernel
theorem d_Tf_measureRoom_2 : decode b_Tf_measureRoom 2 = .ok (.iload_n 3, 1) := by decide +kernel
theorem d_Tf_measureRoom_3 : decode b_Tf_measureRoom 3 = .ok (.sipush 1000, 3) := by decide +kernel
theorem d_Tf_measureRoom_6 : decode b_Tf_measureRoom 6 = .ok (.if_icmp .gt 16, 3) := by decide +kernel
theorem d_Tf_measureRoom_9 : decode b_Tf_measureRoom 9 = .ok (.aload_n 0, 1) := by decide +kernel
theorem d_Tf_measureRoom_10 : decode b_Tf_measureRoom 10 = .ok (.getfield 16, 3) := by decide +kernel
theorem d_Tf_measureRoom_13 : decode b_Tf_measureRoom 13 = .ok (.iload_n 3, 1) := by decide +kernel
theorem d_Tf_measureRoom_14 : decode b_Tf_measureRoom 14 = .ok (.lconst 0, 1) := by decide +kernel
theorem d_Tf_measureRoom_15 : decode b_Tf_measureRoom 15 = .ok (.lastore, 1) := by decide +kernel
theorem d_Tf_measureRoom_16 : decode b_Tf_measureRoom 16 = .ok (.iinc 3 1, 3) := by decide +kernel
theorem d_Tf_measureRoom_19 : decode b_Tf_measureRoom 19 = .ok (.goto (-17), 3) := by decide +kernel
theorem d_Tf_measureRoom_22 : decode b_Tf_measureRoom 22 = .ok (.iconst 0, 1) := by decide +kernel
theorem d_Tf_measureRoom_23 : decode b_Tf_measureRoom 23 = .ok (.istore_n 3, 1) := by decide +kernel
theorem d_Tf_measureRoom_24 : decode b_Tf_measureRoom 24 = .ok (.iload_n 3, 1) := by decide +kernel
theorem d_Tf_measureRoom_25 : decode b_Tf_measureRoom 25 = .ok (.iload_n 1, 1) := by decide +kernel
theorem d_Tf_measureRoom_26 : decode b_Tf_measureRoom 26 = .ok (.if_icmp .ge 44, 3) := by decide +kernel
theorem d_Tf_measureRoom_29 : decode b_Tf_measureRoom 29 = .ok (.iload_n 3, 1) := by decide +kernel
theorem d_Tf_measureRoom_30 : decode b_Tf_measureRoom 30 = .ok (.sipush 1440, 3) := by decide +kernel
theorem d_Tf_measureRoom_33 : decode b_Tf_measureRoom 33 = .ok (.if_icmp .ge 37, 3) := by decide +kernel
theorem d_Tf_measureRoom_36 : decode b_Tf_measureRoom 36 = .ok (.aload_n 0, 1) := by decide +kernel
theorem d_Tf_measureRoom_37 : decode b_Tf_measureRoom 37 = .ok (.getfield 9, 3) := by decide +kernel
theorem d_Tf_measureRoom_40 : decode b_Tf_measureRoom 40 = .ok (.iload_n 3, 1) := by decide +kernel
theorem d_Tf_measureRoom_41 : decode b_Tf_measureRoom 41 = .ok (.iaload, 1) := by decide +kernel
theorem d_Tf_measureRoom_42 : decode b_Tf_measureRoom 42 = .ok (.istore 4, 2) := by decide +kernel
theorem d_Tf_measureRoom_44 : decode b_Tf_measureRoom 44 = .ok (.iload 4, 2) := by decide +kernel
theorem d_Tf_measureRoom_46 : decode b_Tf_measureRoom 46 = .ok (.invokestatic 47, 3) := by decide +kernel
theorem d_Tf_measureRoom_49 : decode b_Tf_measureRoom 49 = .ok (.ifCond .eq 15, 3) := by decide +kernel
theorem d_Tf_measureRoom_52 : decode b_Tf_measureRoom 52 = .ok (.aload_n 0, 1) := by decide +kernel
theorem d_Tf_measureRoom_53 : decode b_Tf_measureRoom 53 = .ok (.getfield 16, 3) := by decide +kernel
theorem d_Tf_measureRoom_56 : decode b_Tf_measureRoom 56 = .ok (.iload 4, 2) := by decide +kernel
theorem d_Tf_measureRoom_58 : decode b_Tf_measureRoom 58 = .ok (.dup2, 1) := by decide +kernel
theorem d_Tf_measureRoom_59 : decode b_Tf_measureRoom 59 = .ok (.laload, 1) := by decide +kernel
theorem d_Tf_measureRoom_60 : decode b_Tf_measureRoom 60 = .ok (.iload_n 2, 1) := by decide +kernel
theorem d_Tf_measureRoom_61 : decode b_Tf_measureRoom 61 = .ok (.i2l, 1) := by decide +kernel
theorem d_Tf_measureRoom_62 : decode b_Tf_measureRoom 62 = .ok (.ladd, 1) := by decide +kernel
theorem d_Tf_measureRoom_63 : decode b_Tf_measureRoom 63 = .ok (.lastore, 1) := by decide +kernel
theorem d_Tf_measureRoom_64 : decode b_Tf_measureRoom 64 = .ok (.iinc 3 1, 3) := by decide +kernel
theorem d_Tf_measureRoom_67 : decode b_Tf_measureRoom 67 = .ok (.goto (-43), 3) := by decide +kernel
theorem d_Tf_measureRoom_70 : decode b_Tf_measureRoom 70 = .ok (.return_, 1) := by decide +kernel
theorem d_Tf_buyCheapest_0 : decode b_Tf_buyCheapest 0 = .ok (.lload_n 1, 1) := by decide +kernel
theorem d_Tf_buyCheapest_1 : decode b_Tf_buyCheapest 1 = .ok (.lstore_n 3, 1) := by decide +kernel
theorem d_Tf_buyCheapest_2 : decode b_Tf_buyCheapest 2 = .ok (.lconst 0, 1) := by decide +kernel
theorem d_Tf_buyCheapest_3 : decode b_Tf_buyCheapest 3 = .ok (.lstore 5, 2) := by decide +kernel
theorem d_Tf_buyCheapest_5 : decode b_Tf_buyCheapest 5 = .ok (.iconst 0, 1) := by decide +kernel
theorem d_Tf_buyCheapest_6 : decode b_Tf_buyCheapest 6 = .ok (.istore 7, 2) := by decide +kernel
theorem d_Tf_buyCheapest_8 : decode b_Tf_buyCheapest 8 = .ok (.iload 7, 2) := by decide +kernel
theorem d_Tf_buyCheapest_10 : decode b_Tf_buyCheapest 10 = .ok (.sipush 1000, 3) := by decide +kernel
theorem d_Tf_buyCheapest_13 : decode b_Tf_buyCheapest 13 = .ok (.if_icmp .gt 47, 3) := by decide +kernel
theorem d_Tf_buyCheapest_16 : decode b_Tf_buyCheapest 16 = .ok (.lload_n 3, 1) := by decide +kernel
theorem d_Tf_buyCheapest_17 : decode b_Tf_buyCheapest 17 = .ok (.aload_n 0, 1) := by decide +kernel
theorem d_Tf_buyCheapest_18 : decode b_Tf_buyCheapest 18 = .ok (.getfield 16, 3) := by decide +kernel
theorem d_Tf_buyCheapest_21 : decode b_Tf_buyCheapest 21 = .ok (.iload 7, 2) := by decide +kernel
theorem d_Tf_buyCheapest_23 : decode b_Tf_buyCheapest 23 = .ok (.laload, 1) := by decide +kernel
theorem d_Tf_buyCheapest_24 : decode b_Tf_buyCheapest 24 = .ok (.invokestatic 51, 3) := by decide +kernel
theorem d_Tf_buyCheapest_27 : decode b_Tf_buyCheapest 27 = .ok (.lstore 8, 2) := by decide +kernel
theorem d_Tf_buyCheapest_29 : decode b_Tf_buyCheapest 29 = .ok (.aload_n 0, 1) := by decide +kernel
theorem d_Tf_buyCheapest_30 : decode b_Tf_buyCheapest 30 = .ok (.getfield 16, 3) := by decide +kernel
theorem d_Tf_buyCheapest_33 : decode b_Tf_buyCheapest 33 = .ok (.iload 7, 2) := by decide +kernel
theorem d_Tf_buyCheapest_35 : decode b_Tf_buyCheapest 35 = .ok (.lload 8, 2) := by decide +kernel
theorem d_Tf_buyCheapest_37 : decode b_Tf_buyCheapest 37 = .ok (.lastore, 1) := by decide +kernel
theorem d_Tf_buyCheapest_38 : decode b_Tf_buyCheapest 38 = .ok (.lload_n 3, 1) := by decide +kernel
theorem d_Tf_buyCheapest_39 : decode b_Tf_buyCheapest 39 = .ok (.lload 8, 2) := by decide +kernel
theorem d_Tf_buyCheapest_41 : decode b_Tf_buyCheapest 41 = .ok (.lsub, 1) := by decide +kernel
theorem d_Tf_buyCheapest_42 : decode b_Tf_buyCheapest 42 = .ok (.lstore_n 3, 1) := by decide +kernel
theorem d_Tf_buyCheapest_43 : decode b_Tf_buyCheapest 43 = .ok (.lload 5, 2) := by decide +kernel
theorem d_Tf_buyCheapest_45 : decode b_Tf_buyCheapest 45 = .ok (.lload 8, 2) := by decide +kernel
theorem d_Tf_buyCheapest_47 : decode b_Tf_buyCheapest 47 = .ok (.iload 7, 2) := by decide +kernel
theorem d_Tf_buyCheapest_49 : decode b_Tf_buyCheapest 49 = .ok (.i2l, 1) := by decide +kernel
theorem d_Tf_buyCheapest_50 : decode b_Tf_buyCheapest 50 = .ok (.lmul, 1) := by decide +kernel
theorem d_Tf_buyCheapest_51 : decode b_Tf_buyCheapest 51 = .ok (.ladd, 1) := by decide +kernel
theorem d_Tf_buyCheapest_52 : decode b_Tf_buyCheapest 52 = .ok (.lstore 5, 2) := by decide +kernel
theorem d_Tf_buyCheapest_54 : decode b_Tf_buyCheapest 54 = .ok (.iinc 7 1, 3) := by decide +kernel
theorem d_Tf_buyCheapest_57 : decode b_Tf_buyCheapest 57 = .ok (.goto (-49), 3) := by decide +kernel
theorem d_Tf_buyCheapest_60 : decode b_Tf_buyCheapest 60 = .ok (.aload_n 0, 1) := by decide +kernel
theorem d_Tf_buyCheapest_61 : decode b_Tf_buyCheapest 61 = .ok (.lload_n 3, 1) := by decide +kernel
theorem d_Tf_buyCheapest_62 : decode b_Tf_buyCheapest 62 = .ok (.putfield 24, 3) := by decide +kernel
theorem d_Tf_buyCheapest_65 : decode b_Tf_buyCheapest 65 = .ok (.lload 5, 2) := by decide +kernel
theorem d_Tf_buyCheapest_67 : decode b_Tf_buyCheapest 67 = .ok (.lreturn, 1) := by decide +kernel
theorem d_Tf_spread_0 : decode b_Tf_spread 0 = .ok (.iconst 0, 1) := by decide +kernel
theorem d_Tf_spread_1 : decode b_Tf_spread 1 = .ok (.istore_n 3, 1) := by decide +kernel
theorem d_Tf_spread_2 : decode b_Tf_spread 2 = .ok (.iload_n 3, 1) := by decide +kernel
theorem d_Tf_spread_3 : decode b_Tf_spread 3 = .ok (.sipush 1440, 3) := by decide +kernel
theorem d_Tf_spread_6 : decode b_Tf_spread 6 = .ok (.if_icmp .ge 69, 3) := by decide +kernel
theorem d_Tf_spread_9 : decode b_Tf_spread 9 = .ok (.aload_n 0, 1) := by decide +kernel
theorem d_Tf_spread_10 : decode b_Tf_spread 10 = .ok (.getfield 9, 3) := by decide +kernel
theorem d_Tf_spread_13 : decode b_Tf_spread 13 = .ok (.iload_n 3, 1) := by decide +kernel
theorem d_Tf_spread_14 : decode b_Tf_spread 14 = .ok (.iaload, 1) := by decide +kernel
theorem d_Tf_spread_15 : decode b_Tf_spread 15 = .ok (.istore 4, 2) := by decide +kernel
theorem d_Tf_spread_17 : decode b_Tf_spread 17 = .ok (.iconst 0, 1) := by decide +kernel
theorem d_Tf_spread_18 : decode b_Tf_spread 18 = .ok (.istore 5, 2) := by decide +kernel
theorem d_Tf_spread_20 : decode b_Tf_spread 20 = .ok (.iload_n 3, 1) := by decide +kernel
theorem d_Tf_spread_21 : decode b_Tf_spread 21 = .ok (.iload_n 1, 1) := by decide +kernel
theorem d_Tf_spread_22 : decode b_Tf_spread 22 = .ok (.if_icmp .ge 39, 3) := by decide +kernel
theorem d_Tf_spread_25 : decode b_Tf_spread 25 = .ok (.iload 4, 2) := by decide +kernel
theorem d_Tf_spread_27 : decode b_Tf_spread 27 = .ok (.invokestatic 47, 3) := by decide +kernel
theorem d_Tf_spread_30 : decode b_Tf_spread 30 = .ok (.ifCond .eq 31, 3) := by decide +kernel
theorem d_Tf_spread_33 : decode b_Tf_spread 33 = .ok (.iload_n 2, 1) := by decide +kernel
theorem d_Tf_spread_34 : decode b_Tf_spread 34 = .ok (.i2l, 1) := by decide +kernel
theorem d_Tf_spread_35 : decode b_Tf_spread 35 = .ok (.aload_n 0, 1) := by decide +kernel
theorem d_Tf_spread_36 : decode b_Tf_spread 36 = .ok (.getfield 16, 3) := by decide +kernel
theorem d_Tf_spread_39 : decode b_Tf_spread 39 = .ok (.iload 4, 2) := by decide +kernel
theorem d_Tf_spread_41 : decode b_Tf_spread 41 = .ok (.laload, 1) := by decide +kernel
theorem d_Tf_spread_42 : decode b_Tf_spread 42 = .ok (.invokestatic 51, 3) := by decide +kernel
theorem d_Tf_spread_45 : decode b_Tf_spread 45 = .ok (.l2i, 1) := by decide +kernel
theorem d_Tf_spread_46 : decode b_Tf_spread 46 = .ok (.istore 5, 2) := by decide +kernel
theorem d_Tf_spread_48 : decode b_Tf_spread 48 = .ok (.aload_n 0, 1) := by decide +kernel
theorem d_Tf_spread_49 : decode b_Tf_spread 49 = .ok (.getfield 16, 3) := by decide +kernel
theorem d_Tf_spread_52 : decode b_Tf_spread 52 = .ok (.iload 4, 2) := by decide +kernel
theorem d_Tf_spread_54 : decode b_Tf_spread 54 = .ok (.dup2, 1) := by decide +kernel
theorem d_Tf_spread_55 : decode b_Tf_spread 55 = .ok (.laload, 1) := by decide +kernel
theorem d_Tf_spread_56 : decode b_Tf_spread 56 = .ok (.iload 5, 2) := by decide +kernel
theorem d_Tf_spread_58 : decode b_Tf_spread 58 = .ok (.i2l, 1) := by decide +kernel
theorem d_Tf_spread_59 : decode b_Tf_spread 59 = .ok (.lsub, 1) := by decide +kernel
theorem d_Tf_spread_60 : decode b_Tf_spread 60 = .ok (.lastore, 1) := by decide +kernel
theorem d_Tf_spread_61 : decode b_Tf_spread 61 = .ok (.aload_n 0, 1) := by decide +kernel
theorem d_Tf_spread_62 : decode b_Tf_spread 62 = .ok (.getfield 13, 3) := by decide +kernel
theorem d_Tf_spread_65 : decode b_Tf_spread 65 = .ok (.iload_n 3, 1) := by decide +kernel
theorem d_Tf_spread_66 : decode b_Tf_spread 66 = .ok (.iload 5, 2) := by decide +kernel
theorem d_Tf_spread_68 : decode b_Tf_spread 68 = .ok (.iastore, 1) := by decide +kernel
theorem d_Tf_spread_69 : decode b_Tf_spread 69 = .ok (.iinc 3 1, 3) := by decide +kernel
end
section
theorem d_Tf_spread_72 : decode b_Tf_spread 72 = .ok (.goto (-70), 3) := by decide +kernel
theorem d_Tf_spread_75 : decode b_Tf_spread 75 = .ok (.return_, 1) := by decide +kernel
theorem d_Tf_makePlan_0 : decode b_Tf_makePlan 0 = .ok (.aload_n 0, 1) := by decide +kernel
theorem d_Tf_makePlan_1 : decode b_Tf_makePlan 1 = .ok (.iload_n 3, 1) := by decide +kernel
theorem d_Tf_makePlan_2 : decode b_Tf_makePlan 2 = .ok (.iload 4, 2) := by decide +kernel
theorem d_Tf_makePlan_4 : decode b_Tf_makePlan 4 = .ok (.invokevirtual 36, 3) := by decide +kernel
theorem d_Tf_makePlan_7 : decode b_Tf_makePlan 7 = .ok (.aload_n 0, 1) := by decide +kernel
theorem d_Tf_makePlan_8 : decode b_Tf_makePlan 8 = .ok (.lload_n 1, 1) := by decide +kernel
theorem d_Tf_makePlan_9 : decode b_Tf_makePlan 9 = .ok (.invokevirtual 40, 3) := by decide +kernel
theorem d_Tf_makePlan_12 : decode b_Tf_makePlan 12 = .ok (.lstore 5, 2) := by decide +kernel
theorem d_Tf_makePlan_14 : decode b_Tf_makePlan 14 = .ok (.aload_n 0, 1) := by decide +kernel
theorem d_Tf_makePlan_15 : decode b_Tf_makePlan 15 = .ok (.iload_n 3, 1) := by decide +kernel
theorem d_Tf_makePlan_16 : decode b_Tf_makePlan 16 = .ok (.iload 4, 2) := by decide +kernel
theorem d_Tf_makePlan_18 : decode b_Tf_makePlan 18 = .ok (.invokevirtual 44, 3) := by decide +kernel
theorem d_Tf_makePlan_21 : decode b_Tf_makePlan 21 = .ok (.lload 5, 2) := by decide +kernel
theorem d_Tf_makePlan_23 : decode b_Tf_makePlan 23 = .ok (.lreturn, 1) := by decide +kernel
theorem d_Tf_init_0 : decode b_Tf_init 0 = .ok (.aload_n 0, 1) := by decide +kernel
theorem d_Tf_init_1 : decode b_Tf_init 1 = .ok (.invokespecial 1, 3) := by decide +kernel
theorem d_Tf_init_4 : decode b_Tf_init 4 = .ok (.aload_n 0, 1) := by decide +kernel
theorem d_Tf_init_5 : decode b_Tf_init 5 = .ok (.sipush 1440, 3) := by decide +kernel
theorem d_Tf_init_8 : decode b_Tf_init 8 = .ok (.newarray .int, 2) := by decide +kernel
theorem d_Tf_init_10 : decode b_Tf_init 10 = .ok (.putfield 9, 3) := by decide +kernel
theorem d_Tf_init_13 : decode b_Tf_init 13 = .ok (.aload_n 0, 1) := by decide +kernel
theorem d_Tf_init_14 : decode b_Tf_init 14 = .ok (.sipush 1440, 3) := by decide +kernel
theorem d_Tf_init_17 : decode b_Tf_init 17 = .ok (.newarray .int, 2) := by decide +kernel
theorem d_Tf_init_19 : decode b_Tf_init 19 = .ok (.putfield 13, 3) := by decide +kernel
theorem d_Tf_init_22 : decode b_Tf_init 22 = .ok (.aload_n 0, 1) := by decide +kernel
theorem d_Tf_init_23 : decode b_Tf_init 23 = .ok (.sipush 1001, 3) := by decide +kernel
theorem d_Tf_init_26 : decode b_Tf_init 26 = .ok (.newarray .long, 2) := by decide +kernel
theorem d_Tf_init_28 : decode b_Tf_init 28 = .ok (.putfield 16, 3) := by decide +kernel
theorem d_Tf_init_31 : decode b_Tf_init 31 = .ok (.aload_n 0, 1) := by decide +kernel
theorem d_Tf_init_32 : decode b_Tf_init 32 = .ok (.iconst 0, 1) := by decide +kernel
theorem d_Tf_init_33 : decode b_Tf_init 33 = .ok (.putfield 20, 3) := by decide +kernel
theorem d_Tf_init_36 : decode b_Tf_init 36 = .ok (.aload_n 0, 1) := by decide +kernel
theorem d_Tf_init_37 : decode b_Tf_init 37 = .ok (.lconst 0, 1) := by decide +kernel
theorem d_Tf_init_38 : decode b_Tf_init 38 = .ok (.putfield 24, 3) := by decide +kernel
theorem d_Tf_init_41 : decode b_Tf_init 41 = .ok (.iconst 0, 1) := by decide +kernel
theorem d_Tf_init_42 : decode b_Tf_init 42 = .ok (.istore_n 1, 1) := by decide +kernel
theorem d_Tf_init_43 : decode b_Tf_init 43 = .ok (.iload_n 1, 1) := by decide +kernel
theorem d_Tf_init_44 : decode b_Tf_init 44 = .ok (.sipush 1440, 3) := by decide +kernel
theorem d_Tf_init_47 : decode b_Tf_init 47 = .ok (.if_icmp .ge 16, 3) := by decide +kernel
theorem d_Tf_init_50 : decode b_Tf_init 50 = .ok (.aload_n 0, 1) := by decide +kernel
theorem d_Tf_init_51 : decode b_Tf_init 51 = .ok (.getfield 9, 3) := by decide +kernel
theorem d_Tf_init_54 : decode b_Tf_init 54 = .ok (.iload_n 1, 1) := by decide +kernel
theorem d_Tf_init_55 : decode b_Tf_init 55 = .ok (.iconst (-1), 1) := by decide +kernel
theorem d_Tf_init_56 : decode b_Tf_init 56 = .ok (.iastore, 1) := by decide +kernel
theorem d_Tf_init_57 : decode b_Tf_init 57 = .ok (.iinc 1 1, 3) := by decide +kernel
theorem d_Tf_init_60 : decode b_Tf_init 60 = .ok (.goto (-17), 3) := by decide +kernel
theorem d_Tf_init_63 : decode b_Tf_init 63 = .ok (.return_, 1) := by decide +kernel
theorem d_Li_init_0 : decode b_Li_init 0 = .ok (.aload_n 0, 1) := by decide +kernel
theorem d_Li_init_1 : decode b_Li_init 1 = .ok (.invokespecial 1, 3) := by decide +kernel
theorem d_Li_init_4 : decode b_Li_init 4 = .ok (.aload_n 0, 1) := by decide +kernel
theorem d_Li_init_5 : decode b_Li_init 5 = .ok (.bipush 10, 2) := by decide +kernel
theorem d_Li_init_7 : decode b_Li_init 7 = .ok (.newarray .int, 2) := by decide +kernel
theorem d_Li_init_9 : decode b_Li_init 9 = .ok (.putfield 9, 3) := by decide +kernel
theorem d_Li_init_12 : decode b_Li_init 12 = .ok (.aload_n 0, 1) := by decide +kernel
theorem d_Li_init_13 : decode b_Li_init 13 = .ok (.iconst 0, 1) := by decide +kernel
theorem d_Li_init_14 : decode b_Li_init 14 = .ok (.putfield 13, 3) := by decide +kernel
theorem d_Li_init_17 : decode b_Li_init 17 = .ok (.aload_n 0, 1) := by decide +kernel
theorem d_Li_init_18 : decode b_Li_init 18 = .ok (.lconst 0, 1) := by decide +kernel
theorem d_Li_init_19 : decode b_Li_init 19 = .ok (.putfield 17, 3) := by decide +kernel
theorem d_Li_init_22 : decode b_Li_init 22 = .ok (.return_, 1) := by decide +kernel
theorem d_Li_isFull_0 : decode b_Li_isFull 0 = .ok (.aload_n 0, 1) := by decide +kernel
theorem d_Li_isFull_1 : decode b_Li_isFull 1 = .ok (.getfield 13, 3) := by decide +kernel
theorem d_Li_isFull_4 : decode b_Li_isFull 4 = .ok (.bipush 10, 2) := by decide +kernel
theorem d_Li_isFull_6 : decode b_Li_isFull 6 = .ok (.if_icmp .lt 7, 3) := by decide +kernel
theorem d_Li_isFull_9 : decode b_Li_isFull 9 = .ok (.iconst 1, 1) := by decide +kernel
theorem d_Li_isFull_10 : decode b_Li_isFull 10 = .ok (.goto 4, 3) := by decide +kernel
theorem d_Li_isFull_13 : decode b_Li_isFull 13 = .ok (.iconst 0, 1) := by decide +kernel
theorem d_Li_isFull_14 : decode b_Li_isFull 14 = .ok (.ireturn, 1) := by decide +kernel
theorem d_Li_has_0 : decode b_Li_has 0 = .ok (.iload_n 1, 1) := by decide +kernel
theorem d_Li_has_1 : decode b_Li_has 1 = .ok (.iconst 1, 1) := by decide +kernel
theorem d_Li_has_2 : decode b_Li_has 2 = .ok (.if_icmp .lt 15, 3) := by decide +kernel
theorem d_Li_has_5 : decode b_Li_has 5 = .ok (.iload_n 1, 1) := by decide +kernel
theorem d_Li_has_6 : decode b_Li_has 6 = .ok (.aload_n 0, 1) := by decide +kernel
theorem d_Li_has_7 : decode b_Li_has 7 = .ok (.getfield 13, 3) := by decide +kernel
theorem d_Li_has_10 : decode b_Li_has 10 = .ok (.if_icmp .gt 7, 3) := by decide +kernel
theorem d_Li_has_13 : decode b_Li_has 13 = .ok (.iconst 1, 1) := by decide +kernel
theorem d_Li_has_14 : decode b_Li_has 14 = .ok (.goto 4, 3) := by decide +kernel
theorem d_Li_has_17 : decode b_Li_has 17 = .ok (.iconst 0, 1) := by decide +kernel
theorem d_Li_has_18 : decode b_Li_has 18 = .ok (.ireturn, 1) := by decide +kernel
theorem d_Li_add_0 : decode b_Li_add 0 = .ok (.aload_n 0, 1) := by decide +kernel
theorem d_Li_add_1 : decode b_Li_add 1 = .ok (.getfield 13, 3) := by decide +kernel
theorem d_Li_add_4 : decode b_Li_add 4 = .ok (.bipush 10, 2) := by decide +kernel
theorem d_Li_add_6 : decode b_Li_add 6 = .ok (.if_icmp .ge 34, 3) := by decide +kernel
theorem d_Li_add_9 : decode b_Li_add 9 = .ok (.aload_n 0, 1) := by decide +kernel
theorem d_Li_add_10 : decode b_Li_add 10 = .ok (.getfield 9, 3) := by decide +kernel
theorem d_Li_add_13 : decode b_Li_add 13 = .ok (.aload_n 0, 1) := by decide +kernel
theorem d_Li_add_14 : decode b_Li_add 14 = .ok (.getfield 13, 3) := by decide +kernel
theorem d_Li_add_17 : decode b_Li_add 17 = .ok (.iload_n 1, 1) := by decide +kernel
theorem d_Li_add_18 : decode b_Li_add 18 = .ok (.iastore, 1) := by decide +kernel
theorem d_Li_add_19 : decode b_Li_add 19 = .ok (.aload_n 0, 1) := by decide +kernel
theorem d_Li_add_20 : decode b_Li_add 20 = .ok (.dup, 1) := by decide +kernel
theorem d_Li_add_21 : decode b_Li_add 21 = .ok (.getfield 17, 3) := by decide +kernel
theorem d_Li_add_24 : decode b_Li_add 24 = .ok (.iload_n 1, 1) := by decide +kernel
theorem d_Li_add_25 : decode b_Li_add 25 = .ok (.i2l, 1) := by decide +kernel
theorem d_Li_add_26 : decode b_Li_add 26 = .ok (.ladd, 1) := by decide +kernel
theorem d_Li_add_27 : decode b_Li_add 27 = .ok (.putfield 17, 3) := by decide +kernel
theorem d_Li_add_30 : decode b_Li_add 30 = .ok (.aload_n 0, 1) := by decide +kernel
theorem d_Li_add_31 : decode b_Li_add 31 = .ok (.dup, 1) := by decide +kernel
theorem d_Li_add_32 : decode b_Li_add 32 = .ok (.getfield 13, 3) := by decide +kernel
theorem d_Li_add_35 : decode b_Li_add 35 = .ok (.iconst 1, 1) := by decide +kernel
theorem d_Li_add_36 : decode b_Li_add 36 = .ok (.iadd, 1) := by decide +kernel
theorem d_Li_add_37 : decode b_Li_add 37 = .ok (.putfield 13, 3) := by decide +kernel
theorem d_Li_add_40 : decode b_Li_add 40 = .ok (.aload_n 0, 1) := by decide +kernel
theorem d_Li_add_41 : decode b_Li_add 41 = .ok (.getfield 13, 3) := by decide +kernel
theorem d_Li_add_44 : decode b_Li_add 44 = .ok (.ireturn, 1) := by decide +kernel
theorem d_Li_weightOf_0 : decode b_Li_weightOf 0 = .ok (.iload_n 1, 1) := by decide +kernel
theorem d_Li_weightOf_1 : decode b_Li_weightOf 1 = .ok (.iconst 1, 1) := by decide +kernel
theorem d_Li_weightOf_2 : decode b_Li_weightOf 2 = .ok (.if_icmp .lt 20, 3) := by decide +kernel
theorem d_Li_weightOf_5 : decode b_Li_weightOf 5 = .ok (.iload_n 1, 1) := by decide +kernel
theorem d_Li_weightOf_6 : decode b_Li_weightOf 6 = .ok (.bipush 10, 2) := by decide +kernel
theorem d_Li_weightOf_8 : decode b_Li_weightOf 8 = .ok (.if_icmp .gt 14, 3) := by decide +kernel
theorem d_Li_weightOf_11 : decode b_Li_weightOf 11 = .ok (.aload_n 0, 1) := by decide +kernel
theorem d_Li_weightOf_12 : decode b_Li_weightOf 12 = .ok (.getfield 9, 3) := by decide +kernel
theorem d_Li_weightOf_15 : decode b_Li_weightOf 15 = .ok (.iload_n 1, 1) := by decide +kernel
theorem d_Li_weightOf_16 : decode b_Li_weightOf 16 = .ok (.iconst 1, 1) := by decide +kernel
theorem d_Li_weightOf_17 : decode b_Li_weightOf 17 = .ok (.isub, 1) := by decide +kernel
theorem d_Li_weightOf_18 : decode b_Li_weightOf 18 = .ok (.iaload, 1) := by decide +kernel
theorem d_Li_weightOf_19 : decode b_Li_weightOf 19 = .ok (.goto 4, 3) := by decide +kernel
theorem d_Li_weightOf_22 : decode b_Li_weightOf 22 = .ok (.iconst 0, 1) := by decide +kernel
theorem d_Li_weightOf_23 : decode b_Li_weightOf 23 = .ok (.ireturn, 1) := by decide +kernel
theorem d_X_init_0 : decode b_X_init 0 = .ok (.aload_n 0, 1) := by decide +kernel
theorem d_X_init_1 : decode b_X_init 1 = .ok (.invokespecial 1, 3) := by decide +kernel
theorem d_X_init_4 : decode b_X_init 4 = .ok (.aload_n 0, 1) := by decide +kernel
theorem d_X_init_5 : decode b_X_init 5 = .ok (.new 7, 3) := by decide +kernel
theorem d_X_init_8 : decode b_X_init 8 = .ok (.dup, 1) := by decide +kernel
theorem d_X_init_9 : decode b_X_init 9 = .ok (.invokespecial 9, 3) := by decide +kernel
theorem d_X_init_12 : decode b_X_init 12 = .ok (.putfield 10, 3) := by decide +kernel
theorem d_X_init_15 : decode b_X_init 15 = .ok (.aload_n 0, 1) := by decide +kernel
theorem d_X_init_16 : decode b_X_init 16 = .ok (.new 16, 3) := by decide +kernel
theorem d_X_init_19 : decode b_X_init 19 = .ok (.dup, 1) := by decide +kernel
theorem d_X_init_20 : decode b_X_init 20 = .ok (.invokespecial 18, 3) := by decide +kernel
theorem d_X_init_23 : decode b_X_init 23 = .ok (.putfield 19, 3) := by decide +kernel
theorem d_X_init_26 : decode b_X_init 26 = .ok (.aload_n 0, 1) := by decide +kernel
theorem d_X_init_27 : decode b_X_init 27 = .ok (.new 23, 3) := by decide +kernel
theorem d_X_init_30 : decode b_X_init 30 = .ok (.dup, 1) := by decide +kernel
theorem d_X_init_31 : decode b_X_init 31 = .ok (.invokespecial 25, 3) := by decide +kernel
theorem d_X_init_34 : decode b_X_init 34 = .ok (.putfield 26, 3) := by decide +kernel
theorem d_X_init_37 : decode b_X_init 37 = .ok (.aload_n 0, 1) := by decide +kernel
theorem d_X_init_38 : decode b_X_init 38 = .ok (.new 30, 3) := by decide +kernel
theorem d_X_init_41 : decode b_X_init 41 = .ok (.dup, 1) := by decide +kernel
theorem d_X_init_42 : decode b_X_init 42 = .ok (.invokespecial 32, 3) := by decide +kernel
theorem d_X_init_45 : decode b_X_init 45 = .ok (.putfield 33, 3) := by decide +kernel
theorem d_X_init_48 : decode b_X_init 48 = .ok (.aload_n 0, 1) := by decide +kernel
theorem d_X_init_49 : decode b_X_init 49 = .ok (.new 37, 3) := by decide +kernel
theorem d_X_init_52 : decode b_X_init 52 = .ok (.dup, 1) := by decide +kernel
theorem d_X_init_53 : decode b_X_init 53 = .ok (.invokespecial 39, 3) := by decide +kernel
theorem d_X_init_56 : decode b_X_init 56 = .ok (.putfield 40, 3) := by decide +kernel
theorem d_X_init_59 : decode b_X_init 59 = .ok (.aload_n 0, 1) := by decide +kernel
theorem d_X_init_60 : decode b_X_init 60 = .ok (.iconst 0, 1) := by decide +kernel
theorem d_X_init_61 : decode b_X_init 61 = .ok (.putfield 44, 3) := by decide +kernel
theorem d_X_init_64 : decode b_X_init 64 = .ok (.return_, 1) := by decide +kernel
theorem d_X_pilot_0 : decode b_X_pilot 0 = .ok (.aload_n 0, 1) := by decide +kernel
theorem d_X_pilot_1 : decode b_X_pilot 1 = .ok (.getfield 19, 3) := by decide +kernel
theorem d_X_pilot_4 : decode b_X_pilot 4 = .ok (.lload_n 1, 1) := by decide +kernel
theorem d_X_pilot_5 : decode b_X_pilot 5 = .ok (.lload_n 3, 1) := by decide +kernel
theorem d_X_pilot_6 : decode b_X_pilot 6 = .ok (.invokevirtual 48, 3) := by decide +kernel
theorem d_X_pilot_9 : decode b_X_pilot 9 = .ok (.aload_n 0, 1) := by decide +kernel
theorem d_X_pilot_10 : decode b_X_pilot 10 = .ok (.getfield 19, 3) := by decide +kernel
end
section
theorem d_X_pilot_13 : decode b_X_pilot 13 = .ok (.invokevirtual 52, 3) := by decide +kernel
theorem d_X_pilot_16 : decode b_X_pilot 16 = .ok (.ifCond .ne 10, 3) := by decide +kernel
theorem d_X_pilot_19 : decode b_X_pilot 19 = .ok (.aload_n 0, 1) := by decide +kernel
theorem d_X_pilot_20 : decode b_X_pilot 20 = .ok (.getfield 26, 3) := by decide +kernel
theorem d_X_pilot_23 : decode b_X_pilot 23 = .ok (.invokevirtual 56, 3) := by decide +kernel
theorem d_X_pilot_26 : decode b_X_pilot 26 = .ok (.aload_n 0, 1) := by decide +kernel
theorem d_X_pilot_27 : decode b_X_pilot 27 = .ok (.getfield 19, 3) := by decide +kernel
theorem d_X_pilot_30 : decode b_X_pilot 30 = .ok (.getfield 59, 3) := by decide +kernel
theorem d_X_pilot_33 : decode b_X_pilot 33 = .ok (.ireturn, 1) := by decide +kernel
theorem d_X_message_0 : decode b_X_message 0 = .ok (.iload_n 1, 1) := by decide +kernel
theorem d_X_message_1 : decode b_X_message 1 = .ok (.ifCond .lt 9, 3) := by decide +kernel
theorem d_X_message_4 : decode b_X_message 4 = .ok (.iload_n 1, 1) := by decide +kernel
theorem d_X_message_5 : decode b_X_message 5 = .ok (.bipush 10, 2) := by decide +kernel
theorem d_X_message_7 : decode b_X_message 7 = .ok (.if_icmp .le 6, 3) := by decide +kernel
theorem d_X_message_10 : decode b_X_message 10 = .ok (.bipush (-2), 2) := by decide +kernel
theorem d_X_message_12 : decode b_X_message 12 = .ok (.ireturn, 1) := by decide +kernel
theorem d_X_message_13 : decode b_X_message 13 = .ok (.lload_n 2, 1) := by decide +kernel
theorem d_X_message_14 : decode b_X_message 14 = .ok (.ldc2_w 63, 3) := by decide +kernel
theorem d_X_message_17 : decode b_X_message 17 = .ok (.ldc2_w 65, 3) := by decide +kernel
theorem d_X_message_20 : decode b_X_message 20 = .ok (.invokestatic 67, 3) := by decide +kernel
theorem d_X_message_23 : decode b_X_message 23 = .ok (.ifCond .eq 15, 3) := by decide +kernel
theorem d_X_message_26 : decode b_X_message 26 = .ok (.aload_n 0, 1) := by decide +kernel
theorem d_X_message_27 : decode b_X_message 27 = .ok (.getfield 10, 3) := by decide +kernel
theorem d_X_message_30 : decode b_X_message 30 = .ok (.lload 4, 2) := by decide +kernel
theorem d_X_message_32 : decode b_X_message 32 = .ok (.invokevirtual 71, 3) := by decide +kernel
theorem d_X_message_35 : decode b_X_message 35 = .ok (.ifCond .ne 6, 3) := by decide +kernel
theorem d_X_message_38 : decode b_X_message 38 = .ok (.bipush (-2), 2) := by decide +kernel
theorem d_X_message_40 : decode b_X_message 40 = .ok (.ireturn, 1) := by decide +kernel
theorem d_X_message_41 : decode b_X_message 41 = .ok (.aload_n 0, 1) := by decide +kernel
theorem d_X_message_42 : decode b_X_message 42 = .ok (.getfield 10, 3) := by decide +kernel
theorem d_X_message_45 : decode b_X_message 45 = .ok (.lload 4, 2) := by decide +kernel
theorem d_X_message_47 : decode b_X_message 47 = .ok (.invokevirtual 75, 3) := by decide +kernel
theorem d_X_message_50 : decode b_X_message 50 = .ok (.aload_n 0, 1) := by decide +kernel
theorem d_X_message_51 : decode b_X_message 51 = .ok (.getfield 19, 3) := by decide +kernel
theorem d_X_message_54 : decode b_X_message 54 = .ok (.invokevirtual 79, 3) := by decide +kernel
theorem d_X_message_57 : decode b_X_message 57 = .ok (.ifCond .eq 14, 3) := by decide +kernel
theorem d_X_message_60 : decode b_X_message 60 = .ok (.aload_n 0, 1) := by decide +kernel
theorem d_X_message_61 : decode b_X_message 61 = .ok (.getfield 44, 3) := by decide +kernel
theorem d_X_message_64 : decode b_X_message 64 = .ok (.ifCond .eq 7, 3) := by decide +kernel
theorem d_X_message_67 : decode b_X_message 67 = .ok (.iconst 1, 1) := by decide +kernel
theorem d_X_message_68 : decode b_X_message 68 = .ok (.goto 4, 3) := by decide +kernel
theorem d_X_message_71 : decode b_X_message 71 = .ok (.iconst 0, 1) := by decide +kernel
theorem d_X_message_72 : decode b_X_message 72 = .ok (.istore 6, 2) := by decide +kernel
theorem d_X_message_74 : decode b_X_message 74 = .ok (.aload_n 0, 1) := by decide +kernel
theorem d_X_message_75 : decode b_X_message 75 = .ok (.getfield 26, 3) := by decide +kernel
theorem d_X_message_78 : decode b_X_message 78 = .ok (.iload_n 1, 1) := by decide +kernel
theorem d_X_message_79 : decode b_X_message 79 = .ok (.lload_n 2, 1) := by decide +kernel
theorem d_X_message_80 : decode b_X_message 80 = .ok (.lload 4, 2) := by decide +kernel
theorem d_X_message_82 : decode b_X_message 82 = .ok (.iload 6, 2) := by decide +kernel
theorem d_X_message_84 : decode b_X_message 84 = .ok (.invokevirtual 82, 3) := by decide +kernel
theorem d_X_message_87 : decode b_X_message 87 = .ok (.ifCond .eq 13, 3) := by decide +kernel
theorem d_X_message_90 : decode b_X_message 90 = .ok (.aload_n 0, 1) := by decide +kernel
theorem d_X_message_91 : decode b_X_message 91 = .ok (.getfield 26, 3) := by decide +kernel
theorem d_X_message_94 : decode b_X_message 94 = .ok (.getfield 86, 3) := by decide +kernel
theorem d_X_message_97 : decode b_X_message 97 = .ok (.goto 5, 3) := by decide +kernel
theorem d_X_message_100 : decode b_X_message 100 = .ok (.bipush (-3), 2) := by decide +kernel
theorem d_X_message_102 : decode b_X_message 102 = .ok (.ireturn, 1) := by decide +kernel
theorem d_X_allowed_0 : decode b_X_allowed 0 = .ok (.aload_n 0, 1) := by decide +kernel
theorem d_X_allowed_1 : decode b_X_allowed 1 = .ok (.getfield 19, 3) := by decide +kernel
theorem d_X_allowed_4 : decode b_X_allowed 4 = .ok (.invokevirtual 89, 3) := by decide +kernel
theorem d_X_allowed_7 : decode b_X_allowed 7 = .ok (.ireturn, 1) := by decide +kernel
theorem d_X_plug_0 : decode b_X_plug 0 = .ok (.iload_n 1, 1) := by decide +kernel
theorem d_X_plug_1 : decode b_X_plug 1 = .ok (.aload_n 0, 1) := by decide +kernel
theorem d_X_plug_2 : decode b_X_plug 2 = .ok (.getfield 44, 3) := by decide +kernel
theorem d_X_plug_5 : decode b_X_plug 5 = .ok (.if_icmp .ne 5, 3) := by decide +kernel
theorem d_X_plug_8 : decode b_X_plug 8 = .ok (.iconst 0, 1) := by decide +kernel
theorem d_X_plug_9 : decode b_X_plug 9 = .ok (.ireturn, 1) := by decide +kernel
theorem d_X_plug_10 : decode b_X_plug 10 = .ok (.iload_n 1, 1) := by decide +kernel
theorem d_X_plug_11 : decode b_X_plug 11 = .ok (.ifCond .ne 16, 3) := by decide +kernel
theorem d_X_plug_14 : decode b_X_plug 14 = .ok (.aload_n 0, 1) := by decide +kernel
theorem d_X_plug_15 : decode b_X_plug 15 = .ok (.getfield 26, 3) := by decide +kernel
theorem d_X_plug_18 : decode b_X_plug 18 = .ok (.invokevirtual 93, 3) := by decide +kernel
theorem d_X_plug_21 : decode b_X_plug 21 = .ok (.ifCond .eq 6, 3) := by decide +kernel
theorem d_X_plug_24 : decode b_X_plug 24 = .ok (.bipush (-3), 2) := by decide +kernel
theorem d_X_plug_26 : decode b_X_plug 26 = .ok (.ireturn, 1) := by decide +kernel
theorem d_X_plug_27 : decode b_X_plug 27 = .ok (.aload_n 0, 1) := by decide +kernel
theorem d_X_plug_28 : decode b_X_plug 28 = .ok (.iload_n 1, 1) := by decide +kernel
theorem d_X_plug_29 : decode b_X_plug 29 = .ok (.putfield 44, 3) := by decide +kernel
theorem d_X_plug_32 : decode b_X_plug 32 = .ok (.iconst 1, 1) := by decide +kernel
theorem d_X_plug_33 : decode b_X_plug 33 = .ok (.ireturn, 1) := by decide +kernel
theorem d_X_meter_0 : decode b_X_meter 0 = .ok (.lload_n 1, 1) := by decide +kernel
theorem d_X_meter_1 : decode b_X_meter 1 = .ok (.lconst 0, 1) := by decide +kernel
theorem d_X_meter_2 : decode b_X_meter 2 = .ok (.ldc2_w 96, 3) := by decide +kernel
theorem d_X_meter_5 : decode b_X_meter 5 = .ok (.invokestatic 67, 3) := by decide +kernel
theorem d_X_meter_8 : decode b_X_meter 8 = .ok (.ifCond .ne 6, 3) := by decide +kernel
theorem d_X_meter_11 : decode b_X_meter 11 = .ok (.bipush (-2), 2) := by decide +kernel
theorem d_X_meter_13 : decode b_X_meter 13 = .ok (.ireturn, 1) := by decide +kernel
theorem d_X_meter_14 : decode b_X_meter 14 = .ok (.lload_n 1, 1) := by decide +kernel
theorem d_X_meter_15 : decode b_X_meter 15 = .ok (.aload_n 0, 1) := by decide +kernel
theorem d_X_meter_16 : decode b_X_meter 16 = .ok (.getfield 26, 3) := by decide +kernel
theorem d_X_meter_19 : decode b_X_meter 19 = .ok (.invokevirtual 98, 3) := by decide +kernel
theorem d_X_meter_22 : decode b_X_meter 22 = .ok (.lsub, 1) := by decide +kernel
theorem d_X_meter_23 : decode b_X_meter 23 = .ok (.l2i, 1) := by decide +kernel
theorem d_X_meter_24 : decode b_X_meter 24 = .ok (.ireturn, 1) := by decide +kernel
theorem d_X_plan_0 : decode b_X_plan 0 = .ok (.lload_n 1, 1) := by decide +kernel
theorem d_X_plan_1 : decode b_X_plan 1 = .ok (.lconst 0, 1) := by decide +kernel
theorem d_X_plan_2 : decode b_X_plan 2 = .ok (.ldc2_w 65, 3) := by decide +kernel
theorem d_X_plan_5 : decode b_X_plan 5 = .ok (.invokestatic 67, 3) := by decide +kernel
theorem d_X_plan_8 : decode b_X_plan 8 = .ok (.ifCond .eq 14, 3) := by decide +kernel
theorem d_X_plan_11 : decode b_X_plan 11 = .ok (.lload_n 3, 1) := by decide +kernel
theorem d_X_plan_12 : decode b_X_plan 12 = .ok (.lconst 0, 1) := by decide +kernel
theorem d_X_plan_13 : decode b_X_plan 13 = .ok (.ldc2_w 102, 3) := by decide +kernel
theorem d_X_plan_16 : decode b_X_plan 16 = .ok (.invokestatic 67, 3) := by decide +kernel
theorem d_X_plan_19 : decode b_X_plan 19 = .ok (.ifCond .ne 6, 3) := by decide +kernel
theorem d_X_plan_22 : decode b_X_plan 22 = .ok (.bipush (-2), 2) := by decide +kernel
theorem d_X_plan_24 : decode b_X_plan 24 = .ok (.ireturn, 1) := by decide +kernel
theorem d_X_plan_25 : decode b_X_plan 25 = .ok (.aload_n 0, 1) := by decide +kernel
theorem d_X_plan_26 : decode b_X_plan 26 = .ok (.getfield 33, 3) := by decide +kernel
theorem d_X_plan_29 : decode b_X_plan 29 = .ok (.lload_n 1, 1) := by decide +kernel
theorem d_X_plan_30 : decode b_X_plan 30 = .ok (.lload_n 3, 1) := by decide +kernel
theorem d_X_plan_31 : decode b_X_plan 31 = .ok (.l2i, 1) := by decide +kernel
theorem d_X_plan_32 : decode b_X_plan 32 = .ok (.aload_n 0, 1) := by decide +kernel
theorem d_X_plan_33 : decode b_X_plan 33 = .ok (.getfield 19, 3) := by decide +kernel
theorem d_X_plan_36 : decode b_X_plan 36 = .ok (.invokevirtual 89, 3) := by decide +kernel
theorem d_X_plan_39 : decode b_X_plan 39 = .ok (.invokevirtual 104, 3) := by decide +kernel
theorem d_X_plan_42 : decode b_X_plan 42 = .ok (.lstore 5, 2) := by decide +kernel
theorem d_X_plan_44 : decode b_X_plan 44 = .ok (.aload_n 0, 1) := by decide +kernel
theorem d_X_plan_45 : decode b_X_plan 45 = .ok (.getfield 33, 3) := by decide +kernel
theorem d_X_plan_48 : decode b_X_plan 48 = .ok (.getfield 108, 3) := by decide +kernel
theorem d_X_plan_51 : decode b_X_plan 51 = .ok (.lconst 0, 1) := by decide +kernel
theorem d_X_plan_52 : decode b_X_plan 52 = .ok (.lcmp, 1) := by decide +kernel
theorem d_X_plan_53 : decode b_X_plan 53 = .ok (.ifCond .le 7, 3) := by decide +kernel
theorem d_X_plan_56 : decode b_X_plan 56 = .ok (.iconst (-1), 1) := by decide +kernel
theorem d_X_plan_57 : decode b_X_plan 57 = .ok (.goto 6, 3) := by decide +kernel
theorem d_X_plan_60 : decode b_X_plan 60 = .ok (.lload 5, 2) := by decide +kernel
theorem d_X_plan_62 : decode b_X_plan 62 = .ok (.l2i, 1) := by decide +kernel
theorem d_X_plan_63 : decode b_X_plan 63 = .ok (.ireturn, 1) := by decide +kernel
theorem d_X_short0_0 : decode b_X_short0 0 = .ok (.aload_n 0, 1) := by decide +kernel
theorem d_X_short0_1 : decode b_X_short0 1 = .ok (.getfield 33, 3) := by decide +kernel
theorem d_X_short0_4 : decode b_X_short0 4 = .ok (.getfield 108, 3) := by decide +kernel
theorem d_X_short0_7 : decode b_X_short0 7 = .ok (.lreturn, 1) := by decide +kernel
theorem d_X_price_0 : decode b_X_price 0 = .ok (.lload_n 1, 1) := by decide +kernel
theorem d_X_price_1 : decode b_X_price 1 = .ok (.lconst 0, 1) := by decide +kernel
theorem d_X_price_2 : decode b_X_price 2 = .ok (.ldc2_w 112, 3) := by decide +kernel
theorem d_X_price_5 : decode b_X_price 5 = .ok (.invokestatic 67, 3) := by decide +kernel
theorem d_X_price_8 : decode b_X_price 8 = .ok (.ifCond .eq 16, 3) := by decide +kernel
theorem d_X_price_11 : decode b_X_price 11 = .ok (.lload_n 3, 1) := by decide +kernel
theorem d_X_price_12 : decode b_X_price 12 = .ok (.lload_n 1, 1) := by decide +kernel
theorem d_X_price_13 : decode b_X_price 13 = .ok (.lconst 1, 1) := by decide +kernel
theorem d_X_price_14 : decode b_X_price 14 = .ok (.ladd, 1) := by decide +kernel
theorem d_X_price_15 : decode b_X_price 15 = .ok (.ldc2_w 102, 3) := by decide +kernel
theorem d_X_price_18 : decode b_X_price 18 = .ok (.invokestatic 67, 3) := by decide +kernel
theorem d_X_price_21 : decode b_X_price 21 = .ok (.ifCond .ne 6, 3) := by decide +kernel
theorem d_X_price_24 : decode b_X_price 24 = .ok (.bipush (-2), 2) := by decide +kernel
theorem d_X_price_26 : decode b_X_price 26 = .ok (.ireturn, 1) := by decide +kernel
theorem d_X_price_27 : decode b_X_price 27 = .ok (.lload 5, 2) := by decide +kernel
theorem d_X_price_29 : decode b_X_price 29 = .ok (.lconst 0, 1) := by decide +kernel
theorem d_X_price_30 : decode b_X_price 30 = .ok (.ldc2_w 114, 3) := by decide +kernel
theorem d_X_price_33 : decode b_X_price 33 = .ok (.invokestatic 67, 3) := by decide +kernel
theorem d_X_price_36 : decode b_X_price 36 = .ok (.ifCond .ne 6, 3) := by decide +kernel
theorem d_X_price_39 : decode b_X_price 39 = .ok (.bipush (-2), 2) := by decide +kernel
theorem d_X_price_41 : decode b_X_price 41 = .ok (.ireturn, 1) := by decide +kernel
theorem d_X_price_42 : decode b_X_price 42 = .ok (.aload_n 0, 1) := by decide +kernel
theorem d_X_price_43 : decode b_X_price 43 = .ok (.getfield 33, 3) := by decide +kernel
theorem d_X_price_46 : decode b_X_price 46 = .ok (.invokevirtual 116, 3) := by decide +kernel
theorem d_X_price_49 : decode b_X_price 49 = .ok (.ifCond .eq 6, 3) := by decide +kernel
theorem d_X_price_52 : decode b_X_price 52 = .ok (.bipush (-4), 2) := by decide +kernel
theorem d_X_price_54 : decode b_X_price 54 = .ok (.ireturn, 1) := by decide +kernel
theorem d_X_price_55 : decode b_X_price 55 = .ok (.aload_n 0, 1) := by decide +kernel
theorem d_X_price_56 : decode b_X_price 56 = .ok (.getfield 33, 3) := by decide +kernel
end
section
theorem d_X_price_59 : decode b_X_price 59 = .ok (.lload_n 1, 1) := by decide +kernel
theorem d_X_price_60 : decode b_X_price 60 = .ok (.l2i, 1) := by decide +kernel
theorem d_X_price_61 : decode b_X_price 61 = .ok (.lload_n 3, 1) := by decide +kernel
theorem d_X_price_62 : decode b_X_price 62 = .ok (.l2i, 1) := by decide +kernel
theorem d_X_price_63 : decode b_X_price 63 = .ok (.lload 5, 2) := by decide +kernel
theorem d_X_price_65 : decode b_X_price 65 = .ok (.l2i, 1) := by decide +kernel
theorem d_X_price_66 : decode b_X_price 66 = .ok (.invokevirtual 119, 3) := by decide +kernel
theorem d_X_price_69 : decode b_X_price 69 = .ok (.ireturn, 1) := by decide +kernel
theorem d_X_planned_0 : decode b_X_planned 0 = .ok (.aload_n 0, 1) := by decide +kernel
theorem d_X_planned_1 : decode b_X_planned 1 = .ok (.getfield 33, 3) := by decide +kernel
theorem d_X_planned_4 : decode b_X_planned 4 = .ok (.lload_n 1, 1) := by decide +kernel
theorem d_X_planned_5 : decode b_X_planned 5 = .ok (.invokevirtual 123, 3) := by decide +kernel
theorem d_X_planned_8 : decode b_X_planned 8 = .ok (.i2l, 1) := by decide +kernel
theorem d_X_planned_9 : decode b_X_planned 9 = .ok (.lreturn, 1) := by decide +kernel
theorem d_X_stop_0 : decode b_X_stop 0 = .ok (.iload_n 1, 1) := by decide +kernel
theorem d_X_stop_1 : decode b_X_stop 1 = .ok (.ifCond .eq 10, 3) := by decide +kernel
theorem d_X_stop_4 : decode b_X_stop 4 = .ok (.iload_n 1, 1) := by decide +kernel
theorem d_X_stop_5 : decode b_X_stop 5 = .ok (.iconst 1, 1) := by decide +kernel
theorem d_X_stop_6 : decode b_X_stop 6 = .ok (.if_icmp .eq 5, 3) := by decide +kernel
theorem d_X_stop_9 : decode b_X_stop 9 = .ok (.iconst (-1), 1) := by decide +kernel
theorem d_X_stop_10 : decode b_X_stop 10 = .ok (.ireturn, 1) := by decide +kernel
theorem d_X_stop_11 : decode b_X_stop 11 = .ok (.aload_n 0, 1) := by decide +kernel
theorem d_X_stop_12 : decode b_X_stop 12 = .ok (.getfield 10, 3) := by decide +kernel
theorem d_X_stop_15 : decode b_X_stop 15 = .ok (.lload_n 2, 1) := by decide +kernel
theorem d_X_stop_16 : decode b_X_stop 16 = .ok (.invokevirtual 71, 3) := by decide +kernel
theorem d_X_stop_19 : decode b_X_stop 19 = .ok (.ifCond .ne 6, 3) := by decide +kernel
theorem d_X_stop_22 : decode b_X_stop 22 = .ok (.bipush (-2), 2) := by decide +kernel
theorem d_X_stop_24 : decode b_X_stop 24 = .ok (.ireturn, 1) := by decide +kernel
theorem d_X_stop_25 : decode b_X_stop 25 = .ok (.aload_n 0, 1) := by decide +kernel
theorem d_X_stop_26 : decode b_X_stop 26 = .ok (.getfield 26, 3) := by decide +kernel
theorem d_X_stop_29 : decode b_X_stop 29 = .ok (.invokevirtual 127, 3) := by decide +kernel
theorem d_X_stop_32 : decode b_X_stop 32 = .ok (.ifCond .ne 6, 3) := by decide +kernel
theorem d_X_stop_35 : decode b_X_stop 35 = .ok (.bipush (-3), 2) := by decide +kernel
theorem d_X_stop_37 : decode b_X_stop 37 = .ok (.ireturn, 1) := by decide +kernel
theorem d_X_stop_38 : decode b_X_stop 38 = .ok (.aload_n 0, 1) := by decide +kernel
theorem d_X_stop_39 : decode b_X_stop 39 = .ok (.getfield 10, 3) := by decide +kernel
theorem d_X_stop_42 : decode b_X_stop 42 = .ok (.lload_n 2, 1) := by decide +kernel
theorem d_X_stop_43 : decode b_X_stop 43 = .ok (.invokevirtual 75, 3) := by decide +kernel
theorem d_X_stop_46 : decode b_X_stop 46 = .ok (.iload_n 1, 1) := by decide +kernel
theorem d_X_stop_47 : decode b_X_stop 47 = .ok (.iconst 1, 1) := by decide +kernel
theorem d_X_stop_48 : decode b_X_stop 48 = .ok (.if_icmp .ne 13, 3) := by decide +kernel
theorem d_X_stop_51 : decode b_X_stop 51 = .ok (.aload_n 0, 1) := by decide +kernel
theorem d_X_stop_52 : decode b_X_stop 52 = .ok (.getfield 26, 3) := by decide +kernel
theorem d_X_stop_55 : decode b_X_stop 55 = .ok (.invokevirtual 130, 3) := by decide +kernel
theorem d_X_stop_58 : decode b_X_stop 58 = .ok (.goto 10, 3) := by decide +kernel
theorem d_X_stop_61 : decode b_X_stop 61 = .ok (.aload_n 0, 1) := by decide +kernel
theorem d_X_stop_62 : decode b_X_stop 62 = .ok (.getfield 26, 3) := by decide +kernel
theorem d_X_stop_65 : decode b_X_stop 65 = .ok (.invokevirtual 133, 3) := by decide +kernel
theorem d_X_stop_68 : decode b_X_stop 68 = .ok (.ireturn, 1) := by decide +kernel
theorem d_X_lost_0 : decode b_X_lost 0 = .ok (.aload_n 0, 1) := by decide +kernel
theorem d_X_lost_1 : decode b_X_lost 1 = .ok (.getfield 10, 3) := by decide +kernel
theorem d_X_lost_4 : decode b_X_lost 4 = .ok (.lload_n 1, 1) := by decide +kernel
theorem d_X_lost_5 : decode b_X_lost 5 = .ok (.invokevirtual 71, 3) := by decide +kernel
theorem d_X_lost_8 : decode b_X_lost 8 = .ok (.ifCond .ne 6, 3) := by decide +kernel
theorem d_X_lost_11 : decode b_X_lost 11 = .ok (.bipush (-2), 2) := by decide +kernel
theorem d_X_lost_13 : decode b_X_lost 13 = .ok (.ireturn, 1) := by decide +kernel
theorem d_X_lost_14 : decode b_X_lost 14 = .ok (.aload_n 0, 1) := by decide +kernel
theorem d_X_lost_15 : decode b_X_lost 15 = .ok (.getfield 10, 3) := by decide +kernel
theorem d_X_lost_18 : decode b_X_lost 18 = .ok (.lload_n 1, 1) := by decide +kernel
theorem d_X_lost_19 : decode b_X_lost 19 = .ok (.invokevirtual 75, 3) := by decide +kernel
theorem d_X_lost_22 : decode b_X_lost 22 = .ok (.aload_n 0, 1) := by decide +kernel
theorem d_X_lost_23 : decode b_X_lost 23 = .ok (.getfield 26, 3) := by decide +kernel
theorem d_X_lost_26 : decode b_X_lost 26 = .ok (.getfield 86, 3) := by decide +kernel
theorem d_X_lost_29 : decode b_X_lost 29 = .ok (.istore_n 3, 1) := by decide +kernel
theorem d_X_lost_30 : decode b_X_lost 30 = .ok (.aload_n 0, 1) := by decide +kernel
theorem d_X_lost_31 : decode b_X_lost 31 = .ok (.getfield 26, 3) := by decide +kernel
theorem d_X_lost_34 : decode b_X_lost 34 = .ok (.invokevirtual 56, 3) := by decide +kernel
theorem d_X_lost_37 : decode b_X_lost 37 = .ok (.iload_n 3, 1) := by decide +kernel
theorem d_X_lost_38 : decode b_X_lost 38 = .ok (.ireturn, 1) := by decide +kernel
theorem d_X_state_0 : decode b_X_state 0 = .ok (.aload_n 0, 1) := by decide +kernel
theorem d_X_state_1 : decode b_X_state 1 = .ok (.getfield 26, 3) := by decide +kernel
theorem d_X_state_4 : decode b_X_state 4 = .ok (.getfield 86, 3) := by decide +kernel
theorem d_X_state_7 : decode b_X_state 7 = .ok (.ireturn, 1) := by decide +kernel
theorem d_X_car_0 : decode b_X_car 0 = .ok (.iload_n 1, 1) := by decide +kernel
theorem d_X_car_1 : decode b_X_car 1 = .ok (.i2l, 1) := by decide +kernel
theorem d_X_car_2 : decode b_X_car 2 = .ok (.lconst 0, 1) := by decide +kernel
theorem d_X_car_3 : decode b_X_car 3 = .ok (.ldc2_w 114, 3) := by decide +kernel
theorem d_X_car_6 : decode b_X_car 6 = .ok (.invokestatic 67, 3) := by decide +kernel
theorem d_X_car_9 : decode b_X_car 9 = .ok (.ifCond .ne 6, 3) := by decide +kernel
theorem d_X_car_12 : decode b_X_car 12 = .ok (.bipush (-2), 2) := by decide +kernel
theorem d_X_car_14 : decode b_X_car 14 = .ok (.ireturn, 1) := by decide +kernel
theorem d_X_car_15 : decode b_X_car 15 = .ok (.aload_n 0, 1) := by decide +kernel
theorem d_X_car_16 : decode b_X_car 16 = .ok (.getfield 40, 3) := by decide +kernel
theorem d_X_car_19 : decode b_X_car 19 = .ok (.invokevirtual 136, 3) := by decide +kernel
theorem d_X_car_22 : decode b_X_car 22 = .ok (.ifCond .eq 6, 3) := by decide +kernel
theorem d_X_car_25 : decode b_X_car 25 = .ok (.bipush (-4), 2) := by decide +kernel
theorem d_X_car_27 : decode b_X_car 27 = .ok (.ireturn, 1) := by decide +kernel
theorem d_X_car_28 : decode b_X_car 28 = .ok (.aload_n 0, 1) := by decide +kernel
theorem d_X_car_29 : decode b_X_car 29 = .ok (.getfield 40, 3) := by decide +kernel
theorem d_X_car_32 : decode b_X_car 32 = .ok (.iload_n 1, 1) := by decide +kernel
theorem d_X_car_33 : decode b_X_car 33 = .ok (.invokevirtual 137, 3) := by decide +kernel
theorem d_X_car_36 : decode b_X_car 36 = .ok (.ireturn, 1) := by decide +kernel
theorem d_X_commonFactor_0 : decode b_X_commonFactor 0 = .ok (.lload_n 0, 1) := by decide +kernel
theorem d_X_commonFactor_1 : decode b_X_commonFactor 1 = .ok (.lstore 4, 2) := by decide +kernel
theorem d_X_commonFactor_3 : decode b_X_commonFactor 3 = .ok (.lload_n 2, 1) := by decide +kernel
theorem d_X_commonFactor_4 : decode b_X_commonFactor 4 = .ok (.lstore 6, 2) := by decide +kernel
theorem d_X_commonFactor_6 : decode b_X_commonFactor 6 = .ok (.iconst 0, 1) := by decide +kernel
theorem d_X_commonFactor_7 : decode b_X_commonFactor 7 = .ok (.istore 8, 2) := by decide +kernel
theorem d_X_commonFactor_9 : decode b_X_commonFactor 9 = .ok (.iload 8, 2) := by decide +kernel
theorem d_X_commonFactor_11 : decode b_X_commonFactor 11 = .ok (.sipush 200, 3) := by decide +kernel
theorem d_X_commonFactor_14 : decode b_X_commonFactor 14 = .ok (.if_icmp .ge 31, 3) := by decide +kernel
theorem d_X_commonFactor_17 : decode b_X_commonFactor 17 = .ok (.lload 6, 2) := by decide +kernel
theorem d_X_commonFactor_19 : decode b_X_commonFactor 19 = .ok (.lconst 0, 1) := by decide +kernel
theorem d_X_commonFactor_20 : decode b_X_commonFactor 20 = .ok (.lcmp, 1) := by decide +kernel
theorem d_X_commonFactor_21 : decode b_X_commonFactor 21 = .ok (.ifCond .eq 24, 3) := by decide +kernel
theorem d_X_commonFactor_24 : decode b_X_commonFactor 24 = .ok (.lload 4, 2) := by decide +kernel
theorem d_X_commonFactor_26 : decode b_X_commonFactor 26 = .ok (.lload 6, 2) := by decide +kernel
theorem d_X_commonFactor_28 : decode b_X_commonFactor 28 = .ok (.lrem, 1) := by decide +kernel
theorem d_X_commonFactor_29 : decode b_X_commonFactor 29 = .ok (.lstore 9, 2) := by decide +kernel
theorem d_X_commonFactor_31 : decode b_X_commonFactor 31 = .ok (.lload 6, 2) := by decide +kernel
theorem d_X_commonFactor_33 : decode b_X_commonFactor 33 = .ok (.lstore 4, 2) := by decide +kernel
theorem d_X_commonFactor_35 : decode b_X_commonFactor 35 = .ok (.lload 9, 2) := by decide +kernel
theorem d_X_commonFactor_37 : decode b_X_commonFactor 37 = .ok (.lstore 6, 2) := by decide +kernel
theorem d_X_commonFactor_39 : decode b_X_commonFactor 39 = .ok (.iinc 8 1, 3) := by decide +kernel
theorem d_X_commonFactor_42 : decode b_X_commonFactor 42 = .ok (.goto (-33), 3) := by decide +kernel
theorem d_X_commonFactor_45 : decode b_X_commonFactor 45 = .ok (.lload 4, 2) := by decide +kernel
theorem d_X_commonFactor_47 : decode b_X_commonFactor 47 = .ok (.lreturn, 1) := by decide +kernel
theorem d_Mo_init_0 : decode b_Mo_init 0 = .ok (.aload_n 0, 1) := by decide +kernel
theorem d_Mo_init_1 : decode b_Mo_init 1 = .ok (.invokespecial 1, 3) := by decide +kernel
theorem d_Mo_init_4 : decode b_Mo_init 4 = .ok (.aload_n 0, 1) := by decide +kernel
theorem d_Mo_init_5 : decode b_Mo_init 5 = .ok (.bipush 20, 2) := by decide +kernel
theorem d_Mo_init_7 : decode b_Mo_init 7 = .ok (.newarray .int, 2) := by decide +kernel
theorem d_Mo_init_9 : decode b_Mo_init 9 = .ok (.putfield 7, 3) := by decide +kernel
theorem d_Mo_init_12 : decode b_Mo_init 12 = .ok (.aload_n 0, 1) := by decide +kernel
theorem d_Mo_init_13 : decode b_Mo_init 13 = .ok (.bipush 20, 2) := by decide +kernel
theorem d_Mo_init_15 : decode b_Mo_init 15 = .ok (.newarray .int, 2) := by decide +kernel
theorem d_Mo_init_17 : decode b_Mo_init 17 = .ok (.putfield 13, 3) := by decide +kernel
theorem d_Mo_init_20 : decode b_Mo_init 20 = .ok (.aload_n 0, 1) := by decide +kernel
theorem d_Mo_init_21 : decode b_Mo_init 21 = .ok (.bipush 20, 2) := by decide +kernel
theorem d_Mo_init_23 : decode b_Mo_init 23 = .ok (.newarray .int, 2) := by decide +kernel
theorem d_Mo_init_25 : decode b_Mo_init 25 = .ok (.putfield 16, 3) := by decide +kernel
theorem d_Mo_init_28 : decode b_Mo_init 28 = .ok (.aload_n 0, 1) := by decide +kernel
theorem d_Mo_init_29 : decode b_Mo_init 29 = .ok (.sipush 1440, 3) := by decide +kernel
theorem d_Mo_init_32 : decode b_Mo_init 32 = .ok (.newarray .long, 2) := by decide +kernel
theorem d_Mo_init_34 : decode b_Mo_init 34 = .ok (.putfield 19, 3) := by decide +kernel
theorem d_Mo_init_37 : decode b_Mo_init 37 = .ok (.aload_n 0, 1) := by decide +kernel
theorem d_Mo_init_38 : decode b_Mo_init 38 = .ok (.bipush 11, 2) := by decide +kernel
theorem d_Mo_init_40 : decode b_Mo_init 40 = .ok (.newarray .int, 2) := by decide +kernel
theorem d_Mo_init_42 : decode b_Mo_init 42 = .ok (.putfield 23, 3) := by decide +kernel
theorem d_Mo_init_45 : decode b_Mo_init 45 = .ok (.return_, 1) := by decide +kernel
theorem d_Mo_isOn_0 : decode b_Mo_isOn 0 = .ok (.aload_n 0, 1) := by decide +kernel
theorem d_Mo_isOn_1 : decode b_Mo_isOn 1 = .ok (.getfield 30, 3) := by decide +kernel
theorem d_Mo_isOn_4 : decode b_Mo_isOn 4 = .ok (.ifCond .le 15, 3) := by decide +kernel
theorem d_Mo_isOn_7 : decode b_Mo_isOn 7 = .ok (.aload_n 0, 1) := by decide +kernel
theorem d_Mo_isOn_8 : decode b_Mo_isOn 8 = .ok (.getfield 30, 3) := by decide +kernel
theorem d_Mo_isOn_11 : decode b_Mo_isOn 11 = .ok (.iconst 4, 1) := by decide +kernel
theorem d_Mo_isOn_12 : decode b_Mo_isOn 12 = .ok (.if_icmp .ge 7, 3) := by decide +kernel
theorem d_Mo_isOn_15 : decode b_Mo_isOn 15 = .ok (.iconst 1, 1) := by decide +kernel
theorem d_Mo_isOn_16 : decode b_Mo_isOn 16 = .ok (.goto 4, 3) := by decide +kernel
theorem d_Mo_isOn_19 : decode b_Mo_isOn 19 = .ok (.iconst 0, 1) := by decide +kernel
theorem d_Mo_isOn_20 : decode b_Mo_isOn 20 = .ok (.ireturn, 1) := by decide +kernel
theorem d_Mo_pilot_0 : decode b_Mo_pilot 0 = .ok (.aload_n 0, 1) := by decide +kernel
theorem d_Mo_pilot_1 : decode b_Mo_pilot 1 = .ok (.iconst 0, 1) := by decide +kernel
theorem d_Mo_pilot_2 : decode b_Mo_pilot 2 = .ok (.putfield 26, 3) := by decide +kernel
theorem d_Mo_pilot_5 : decode b_Mo_pilot 5 = .ok (.lload_n 1, 1) := by decide +kernel
theorem d_Mo_pilot_6 : decode b_Mo_pilot 6 = .ok (.lconst 0, 1) := by decide +kernel
theorem d_Mo_pilot_7 : decode b_Mo_pilot 7 = .ok (.lcmp, 1) := by decide +kernel
theorem d_Mo_pilot_8 : decode b_Mo_pilot 8 = .ok (.ifCond .lt 15, 3) := by decide +kernel
theorem d_Mo_pilot_11 : decode b_Mo_pilot 11 = .ok (.lload_n 1, 1) := by decide +kernel
theorem d_Mo_pilot_12 : decode b_Mo_pilot 12 = .ok (.ldc2_w 33, 3) := by decide +kernel
end
section
theorem d_Mo_pilot_15 : decode b_Mo_pilot 15 = .ok (.lcmp, 1) := by decide +kernel
theorem d_Mo_pilot_16 : decode b_Mo_pilot 16 = .ok (.ifCond .gt 7, 3) := by decide +kernel
theorem d_Mo_pilot_19 : decode b_Mo_pilot 19 = .ok (.iconst 1, 1) := by decide +kernel
theorem d_Mo_pilot_20 : decode b_Mo_pilot 20 = .ok (.goto 4, 3) := by decide +kernel
theorem d_Mo_pilot_23 : decode b_Mo_pilot 23 = .ok (.iconst 0, 1) := by decide +kernel
theorem d_Mo_pilot_24 : decode b_Mo_pilot 24 = .ok (.istore 5, 2) := by decide +kernel
theorem d_Mo_pilot_26 : decode b_Mo_pilot 26 = .ok (.aload_n 0, 1) := by decide +kernel
theorem d_Mo_pilot_27 : decode b_Mo_pilot 27 = .ok (.iload 5, 2) := by decide +kernel
theorem d_Mo_pilot_29 : decode b_Mo_pilot 29 = .ok (.ifCond .eq 8, 3) := by decide +kernel
theorem d_Mo_pilot_32 : decode b_Mo_pilot 32 = .ok (.lload_n 1, 1) := by decide +kernel
theorem d_Mo_pilot_33 : decode b_Mo_pilot 33 = .ok (.l2i, 1) := by decide +kernel
theorem d_Mo_pilot_34 : decode b_Mo_pilot 34 = .ok (.goto 4, 3) := by decide +kernel
theorem d_Mo_pilot_37 : decode b_Mo_pilot 37 = .ok (.iconst 0, 1) := by decide +kernel
theorem d_Mo_pilot_38 : decode b_Mo_pilot 38 = .ok (.putfield 35, 3) := by decide +kernel
theorem d_Mo_pilot_41 : decode b_Mo_pilot 41 = .ok (.aload_n 0, 1) := by decide +kernel
theorem d_Mo_pilot_42 : decode b_Mo_pilot 42 = .ok (.iload 5, 2) := by decide +kernel
theorem d_Mo_pilot_44 : decode b_Mo_pilot 44 = .ok (.ifCond .ne 8, 3) := by decide +kernel
theorem d_Mo_pilot_47 : decode b_Mo_pilot 47 = .ok (.bipush 6, 2) := by decide +kernel
theorem d_Mo_pilot_49 : decode b_Mo_pilot 49 = .ok (.goto 75, 3) := by decide +kernel
theorem d_Mo_pilot_52 : decode b_Mo_pilot 52 = .ok (.lload_n 3, 1) := by decide +kernel
theorem d_Mo_pilot_53 : decode b_Mo_pilot 53 = .ok (.ldc2_w 38, 3) := by decide +kernel
theorem d_Mo_pilot_56 : decode b_Mo_pilot 56 = .ok (.lcmp, 1) := by decide +kernel
theorem d_Mo_pilot_57 : decode b_Mo_pilot 57 = .ok (.ifCond .ne 7, 3) := by decide +kernel
theorem d_Mo_pilot_60 : decode b_Mo_pilot 60 = .ok (.iconst 0, 1) := by decide +kernel
theorem d_Mo_pilot_61 : decode b_Mo_pilot 61 = .ok (.goto 63, 3) := by decide +kernel
theorem d_Mo_pilot_64 : decode b_Mo_pilot 64 = .ok (.lload_n 3, 1) := by decide +kernel
theorem d_Mo_pilot_65 : decode b_Mo_pilot 65 = .ok (.ldc2_w 40, 3) := by decide +kernel
theorem d_Mo_pilot_68 : decode b_Mo_pilot 68 = .ok (.lcmp, 1) := by decide +kernel
theorem d_Mo_pilot_69 : decode b_Mo_pilot 69 = .ok (.ifCond .ne 7, 3) := by decide +kernel
theorem d_Mo_pilot_72 : decode b_Mo_pilot 72 = .ok (.iconst 1, 1) := by decide +kernel
theorem d_Mo_pilot_73 : decode b_Mo_pilot 73 = .ok (.goto 51, 3) := by decide +kernel
theorem d_Mo_pilot_76 : decode b_Mo_pilot 76 = .ok (.lload_n 3, 1) := by decide +kernel
theorem d_Mo_pilot_77 : decode b_Mo_pilot 77 = .ok (.ldc2_w 42, 3) := by decide +kernel
theorem d_Mo_pilot_80 : decode b_Mo_pilot 80 = .ok (.lcmp, 1) := by decide +kernel
theorem d_Mo_pilot_81 : decode b_Mo_pilot 81 = .ok (.ifCond .ne 7, 3) := by decide +kernel
theorem d_Mo_pilot_84 : decode b_Mo_pilot 84 = .ok (.iconst 2, 1) := by decide +kernel
theorem d_Mo_pilot_85 : decode b_Mo_pilot 85 = .ok (.goto 39, 3) := by decide +kernel
theorem d_Mo_pilot_88 : decode b_Mo_pilot 88 = .ok (.lload_n 3, 1) := by decide +kernel
theorem d_Mo_pilot_89 : decode b_Mo_pilot 89 = .ok (.ldc2_w 44, 3) := by decide +kernel
theorem d_Mo_pilot_92 : decode b_Mo_pilot 92 = .ok (.lcmp, 1) := by decide +kernel
theorem d_Mo_pilot_93 : decode b_Mo_pilot 93 = .ok (.ifCond .ne 7, 3) := by decide +kernel
theorem d_Mo_pilot_96 : decode b_Mo_pilot 96 = .ok (.iconst 3, 1) := by decide +kernel
theorem d_Mo_pilot_97 : decode b_Mo_pilot 97 = .ok (.goto 27, 3) := by decide +kernel
theorem d_Mo_pilot_100 : decode b_Mo_pilot 100 = .ok (.lload_n 3, 1) := by decide +kernel
theorem d_Mo_pilot_101 : decode b_Mo_pilot 101 = .ok (.lconst 0, 1) := by decide +kernel
theorem d_Mo_pilot_102 : decode b_Mo_pilot 102 = .ok (.lcmp, 1) := by decide +kernel
theorem d_Mo_pilot_103 : decode b_Mo_pilot 103 = .ok (.ifCond .ne 7, 3) := by decide +kernel
theorem d_Mo_pilot_106 : decode b_Mo_pilot 106 = .ok (.iconst 4, 1) := by decide +kernel
theorem d_Mo_pilot_107 : decode b_Mo_pilot 107 = .ok (.goto 17, 3) := by decide +kernel
theorem d_Mo_pilot_110 : decode b_Mo_pilot 110 = .ok (.lload_n 3, 1) := by decide +kernel
theorem d_Mo_pilot_111 : decode b_Mo_pilot 111 = .ok (.ldc2_w 46, 3) := by decide +kernel
theorem d_Mo_pilot_114 : decode b_Mo_pilot 114 = .ok (.lcmp, 1) := by decide +kernel
theorem d_Mo_pilot_115 : decode b_Mo_pilot 115 = .ok (.ifCond .ne 7, 3) := by decide +kernel
theorem d_Mo_pilot_118 : decode b_Mo_pilot 118 = .ok (.iconst 5, 1) := by decide +kernel
theorem d_Mo_pilot_119 : decode b_Mo_pilot 119 = .ok (.goto 5, 3) := by decide +kernel
theorem d_Mo_pilot_122 : decode b_Mo_pilot 122 = .ok (.bipush 6, 2) := by decide +kernel
theorem d_Mo_pilot_124 : decode b_Mo_pilot 124 = .ok (.putfield 30, 3) := by decide +kernel
theorem d_Mo_pilot_127 : decode b_Mo_pilot 127 = .ok (.aload_n 0, 1) := by decide +kernel
theorem d_Mo_pilot_128 : decode b_Mo_pilot 128 = .ok (.invokevirtual 48, 3) := by decide +kernel
theorem d_Mo_pilot_131 : decode b_Mo_pilot 131 = .ok (.ifCond .ne 8, 3) := by decide +kernel
theorem d_Mo_pilot_134 : decode b_Mo_pilot 134 = .ok (.aload_n 0, 1) := by decide +kernel
theorem d_Mo_pilot_135 : decode b_Mo_pilot 135 = .ok (.iconst 0, 1) := by decide +kernel
theorem d_Mo_pilot_136 : decode b_Mo_pilot 136 = .ok (.putfield 52, 3) := by decide +kernel
theorem d_Mo_pilot_139 : decode b_Mo_pilot 139 = .ok (.aload_n 0, 1) := by decide +kernel
theorem d_Mo_pilot_140 : decode b_Mo_pilot 140 = .ok (.getfield 30, 3) := by decide +kernel
theorem d_Mo_pilot_143 : decode b_Mo_pilot 143 = .ok (.ireturn, 1) := by decide +kernel
theorem d_Mo_allows_0 : decode b_Mo_allows 0 = .ok (.aload_n 0, 1) := by decide +kernel
theorem d_Mo_allows_1 : decode b_Mo_allows 1 = .ok (.invokevirtual 48, 3) := by decide +kernel
theorem d_Mo_allows_4 : decode b_Mo_allows 4 = .ok (.ifCond .ne 5, 3) := by decide +kernel
theorem d_Mo_allows_7 : decode b_Mo_allows 7 = .ok (.iconst 0, 1) := by decide +kernel
theorem d_Mo_allows_8 : decode b_Mo_allows 8 = .ok (.ireturn, 1) := by decide +kernel
theorem d_Mo_allows_9 : decode b_Mo_allows 9 = .ok (.aload_n 0, 1) := by decide +kernel
theorem d_Mo_allows_10 : decode b_Mo_allows 10 = .ok (.getfield 35, 3) := by decide +kernel
theorem d_Mo_allows_13 : decode b_Mo_allows 13 = .ok (.bipush 80, 2) := by decide +kernel
theorem d_Mo_allows_15 : decode b_Mo_allows 15 = .ok (.if_icmp .lt 15, 3) := by decide +kernel
theorem d_Mo_allows_18 : decode b_Mo_allows 18 = .ok (.aload_n 0, 1) := by decide +kernel
theorem d_Mo_allows_19 : decode b_Mo_allows 19 = .ok (.getfield 35, 3) := by decide +kernel
theorem d_Mo_allows_22 : decode b_Mo_allows 22 = .ok (.bipush 100, 2) := by decide +kernel
theorem d_Mo_allows_24 : decode b_Mo_allows 24 = .ok (.if_icmp .ge 6, 3) := by decide +kernel
theorem d_Mo_allows_27 : decode b_Mo_allows 27 = .ok (.bipush 60, 2) := by decide +kernel
theorem d_Mo_allows_29 : decode b_Mo_allows 29 = .ok (.ireturn, 1) := by decide +kernel
theorem d_Mo_allows_30 : decode b_Mo_allows 30 = .ok (.aload_n 0, 1) := by decide +kernel
theorem d_Mo_allows_31 : decode b_Mo_allows 31 = .ok (.getfield 35, 3) := by decide +kernel
theorem d_Mo_allows_34 : decode b_Mo_allows 34 = .ok (.bipush 100, 2) := by decide +kernel
theorem d_Mo_allows_36 : decode b_Mo_allows 36 = .ok (.if_icmp .lt 24, 3) := by decide +kernel
theorem d_Mo_allows_39 : decode b_Mo_allows 39 = .ok (.aload_n 0, 1) := by decide +kernel
theorem d_Mo_allows_40 : decode b_Mo_allows 40 = .ok (.getfield 35, 3) := by decide +kernel
theorem d_Mo_allows_43 : decode b_Mo_allows 43 = .ok (.sipush 850, 3) := by decide +kernel
theorem d_Mo_allows_46 : decode b_Mo_allows 46 = .ok (.if_icmp .gt 14, 3) := by decide +kernel
theorem d_Mo_allows_49 : decode b_Mo_allows 49 = .ok (.bipush 6, 2) := by decide +kernel
theorem d_Mo_allows_51 : decode b_Mo_allows 51 = .ok (.aload_n 0, 1) := by decide +kernel
theorem d_Mo_allows_52 : decode b_Mo_allows 52 = .ok (.getfield 35, 3) := by decide +kernel
theorem d_Mo_allows_55 : decode b_Mo_allows 55 = .ok (.imul, 1) := by decide +kernel
theorem d_Mo_allows_56 : decode b_Mo_allows 56 = .ok (.bipush 10, 2) := by decide +kernel
theorem d_Mo_allows_58 : decode b_Mo_allows 58 = .ok (.idiv, 1) := by decide +kernel
theorem d_Mo_allows_59 : decode b_Mo_allows 59 = .ok (.ireturn, 1) := by decide +kernel
theorem d_Mo_allows_60 : decode b_Mo_allows 60 = .ok (.aload_n 0, 1) := by decide +kernel
theorem d_Mo_allows_61 : decode b_Mo_allows 61 = .ok (.getfield 35, 3) := by decide +kernel
theorem d_Mo_allows_64 : decode b_Mo_allows 64 = .ok (.sipush 850, 3) := by decide +kernel
theorem d_Mo_allows_67 : decode b_Mo_allows 67 = .ok (.if_icmp .le 28, 3) := by decide +kernel
theorem d_Mo_allows_70 : decode b_Mo_allows 70 = .ok (.aload_n 0, 1) := by decide +kernel
theorem d_Mo_allows_71 : decode b_Mo_allows 71 = .ok (.getfield 35, 3) := by decide +kernel
theorem d_Mo_allows_74 : decode b_Mo_allows 74 = .ok (.sipush 960, 3) := by decide +kernel
theorem d_Mo_allows_77 : decode b_Mo_allows 77 = .ok (.if_icmp .gt 18, 3) := by decide +kernel
theorem d_Mo_allows_80 : decode b_Mo_allows 80 = .ok (.bipush 25, 2) := by decide +kernel
theorem d_Mo_allows_82 : decode b_Mo_allows 82 = .ok (.aload_n 0, 1) := by decide +kernel
theorem d_Mo_allows_83 : decode b_Mo_allows 83 = .ok (.getfield 35, 3) := by decide +kernel
theorem d_Mo_allows_86 : decode b_Mo_allows 86 = .ok (.sipush 640, 3) := by decide +kernel
theorem d_Mo_allows_89 : decode b_Mo_allows 89 = .ok (.isub, 1) := by decide +kernel
theorem d_Mo_allows_90 : decode b_Mo_allows 90 = .ok (.imul, 1) := by decide +kernel
theorem d_Mo_allows_91 : decode b_Mo_allows 91 = .ok (.bipush 10, 2) := by decide +kernel
theorem d_Mo_allows_93 : decode b_Mo_allows 93 = .ok (.idiv, 1) := by decide +kernel
theorem d_Mo_allows_94 : decode b_Mo_allows 94 = .ok (.ireturn, 1) := by decide +kernel
theorem d_Mo_allows_95 : decode b_Mo_allows 95 = .ok (.aload_n 0, 1) := by decide +kernel
theorem d_Mo_allows_96 : decode b_Mo_allows 96 = .ok (.getfield 35, 3) := by decide +kernel
theorem d_Mo_allows_99 : decode b_Mo_allows 99 = .ok (.sipush 960, 3) := by decide +kernel
theorem d_Mo_allows_102 : decode b_Mo_allows 102 = .ok (.if_icmp .le 19, 3) := by decide +kernel
theorem d_Mo_allows_105 : decode b_Mo_allows 105 = .ok (.aload_n 0, 1) := by decide +kernel
theorem d_Mo_allows_106 : decode b_Mo_allows 106 = .ok (.getfield 35, 3) := by decide +kernel
theorem d_Mo_allows_109 : decode b_Mo_allows 109 = .ok (.sipush 970, 3) := by decide +kernel
theorem d_Mo_allows_112 : decode b_Mo_allows 112 = .ok (.if_icmp .gt 9, 3) := by decide +kernel
theorem d_Mo_allows_115 : decode b_Mo_allows 115 = .ok (.sipush 800, 3) := by decide +kernel
theorem d_Mo_allows_118 : decode b_Mo_allows 118 = .ok (.goto 4, 3) := by decide +kernel
theorem d_Mo_allows_121 : decode b_Mo_allows 121 = .ok (.iconst 0, 1) := by decide +kernel
theorem d_Mo_allows_122 : decode b_Mo_allows 122 = .ok (.ireturn, 1) := by decide +kernel
theorem d_Mo_allowed_0 : decode b_Mo_allowed 0 = .ok (.aload_n 0, 1) := by decide +kernel
theorem d_Mo_allowed_1 : decode b_Mo_allowed 1 = .ok (.iconst 0, 1) := by decide +kernel
theorem d_Mo_allowed_2 : decode b_Mo_allowed 2 = .ok (.putfield 26, 3) := by decide +kernel
theorem d_Mo_allowed_5 : decode b_Mo_allowed 5 = .ok (.aload_n 0, 1) := by decide +kernel
theorem d_Mo_allowed_6 : decode b_Mo_allowed 6 = .ok (.invokevirtual 55, 3) := by decide +kernel
theorem d_Mo_allowed_9 : decode b_Mo_allowed 9 = .ok (.ireturn, 1) := by decide +kernel
theorem d_Mo_isTime_0 : decode b_Mo_isTime 0 = .ok (.lload_n 1, 1) := by decide +kernel
theorem d_Mo_isTime_1 : decode b_Mo_isTime 1 = .ok (.aload_n 0, 1) := by decide +kernel
theorem d_Mo_isTime_2 : decode b_Mo_isTime 2 = .ok (.getfield 59, 3) := by decide +kernel
theorem d_Mo_isTime_5 : decode b_Mo_isTime 5 = .ok (.lcmp, 1) := by decide +kernel
theorem d_Mo_isTime_6 : decode b_Mo_isTime 6 = .ok (.ifCond .lt 15, 3) := by decide +kernel
theorem d_Mo_isTime_9 : decode b_Mo_isTime 9 = .ok (.lload_n 1, 1) := by decide +kernel
theorem d_Mo_isTime_10 : decode b_Mo_isTime 10 = .ok (.ldc2_w 63, 3) := by decide +kernel
theorem d_Mo_isTime_13 : decode b_Mo_isTime 13 = .ok (.lcmp, 1) := by decide +kernel
theorem d_Mo_isTime_14 : decode b_Mo_isTime 14 = .ok (.ifCond .gt 7, 3) := by decide +kernel
theorem d_Mo_isTime_17 : decode b_Mo_isTime 17 = .ok (.iconst 1, 1) := by decide +kernel
theorem d_Mo_isTime_18 : decode b_Mo_isTime 18 = .ok (.goto 4, 3) := by decide +kernel
theorem d_Mo_isTime_21 : decode b_Mo_isTime 21 = .ok (.iconst 0, 1) := by decide +kernel
theorem d_Mo_isTime_22 : decode b_Mo_isTime 22 = .ok (.ireturn, 1) := by decide +kernel
theorem d_Mo_behind_0 : decode b_Mo_behind 0 = .ok (.iload_n 1, 1) := by decide +kernel
theorem d_Mo_behind_1 : decode b_Mo_behind 1 = .ok (.tableswitch 346 0 9 #[55, 100, 126, 146, 174, 203, 238, 269, 300, 330], 55) := by decide +kernel
theorem d_Mo_behind_56 : decode b_Mo_behind 56 = .ok (.aload_n 0, 1) := by decide +kernel
theorem d_Mo_behind_57 : decode b_Mo_behind 57 = .ok (.getfield 52, 3) := by decide +kernel
theorem d_Mo_behind_60 : decode b_Mo_behind 60 = .ok (.ifCond .ne 39, 3) := by decide +kernel
theorem d_Mo_behind_63 : decode b_Mo_behind 63 = .ok (.aload_n 0, 1) := by decide +kernel
theorem d_Mo_behind_64 : decode b_Mo_behind 64 = .ok (.invokevirtual 48, 3) := by decide +kernel
theorem d_Mo_behind_67 : decode b_Mo_behind 67 = .ok (.ifCond .eq 32, 3) := by decide +kernel
theorem d_Mo_behind_70 : decode b_Mo_behind 70 = .ok (.aload_n 0, 1) := by decide +kernel
theorem d_Mo_behind_71 : decode b_Mo_behind 71 = .ok (.getfield 35, 3) := by decide +kernel
theorem d_Mo_behind_74 : decode b_Mo_behind 74 = .ok (.bipush 30, 2) := by decide +kernel
theorem d_Mo_behind_76 : decode b_Mo_behind 76 = .ok (.if_icmp .lt 23, 3) := by decide +kernel
theorem d_Mo_behind_79 : decode b_Mo_behind 79 = .ok (.aload_n 0, 1) := by decide +kernel
theorem d_Mo_behind_80 : decode b_Mo_behind 80 = .ok (.getfield 35, 3) := by decide +kernel
theorem d_Mo_behind_83 : decode b_Mo_behind 83 = .ok (.bipush 70, 2) := by decide +kernel
theorem d_Mo_behind_85 : decode b_Mo_behind 85 = .ok (.if_icmp .gt 14, 3) := by decide +kernel
end
section
theorem d_Mo_behind_88 : decode b_Mo_behind 88 = .ok (.aload_n 0, 1) := by decide +kernel
theorem d_Mo_behind_89 : decode b_Mo_behind 89 = .ok (.getfield 65, 3) := by decide +kernel
theorem d_Mo_behind_92 : decode b_Mo_behind 92 = .ok (.ifCond .eq 7, 3) := by decide +kernel
theorem d_Mo_behind_95 : decode b_Mo_behind 95 = .ok (.iconst 1, 1) := by decide +kernel
theorem d_Mo_behind_96 : decode b_Mo_behind 96 = .ok (.goto 4, 3) := by decide +kernel
theorem d_Mo_behind_99 : decode b_Mo_behind 99 = .ok (.iconst (-1), 1) := by decide +kernel
theorem d_Mo_behind_100 : decode b_Mo_behind 100 = .ok (.ireturn, 1) := by decide +kernel
theorem d_Mo_behind_101 : decode b_Mo_behind 101 = .ok (.aload_n 0, 1) := by decide +kernel
theorem d_Mo_behind_102 : decode b_Mo_behind 102 = .ok (.getfield 52, 3) := by decide +kernel
theorem d_Mo_behind_105 : decode b_Mo_behind 105 = .ok (.iconst 1, 1) := by decide +kernel
theorem d_Mo_behind_106 : decode b_Mo_behind 106 = .ok (.if_icmp .ne 19, 3) := by decide +kernel
theorem d_Mo_behind_109 : decode b_Mo_behind 109 = .ok (.lload_n 2, 1) := by decide +kernel
theorem d_Mo_behind_110 : decode b_Mo_behind 110 = .ok (.lconst 0, 1) := by decide +kernel
theorem d_Mo_behind_111 : decode b_Mo_behind 111 = .ok (.lcmp, 1) := by decide +kernel
theorem d_Mo_behind_112 : decode b_Mo_behind 112 = .ok (.ifCond .eq 9, 3) := by decide +kernel
theorem d_Mo_behind_115 : decode b_Mo_behind 115 = .ok (.lload_n 2, 1) := by decide +kernel
theorem d_Mo_behind_116 : decode b_Mo_behind 116 = .ok (.lconst 1, 1) := by decide +kernel
theorem d_Mo_behind_117 : decode b_Mo_behind 117 = .ok (.lcmp, 1) := by decide +kernel
theorem d_Mo_behind_118 : decode b_Mo_behind 118 = .ok (.ifCond .ne 7, 3) := by decide +kernel
theorem d_Mo_behind_121 : decode b_Mo_behind 121 = .ok (.iconst 2, 1) := by decide +kernel
theorem d_Mo_behind_122 : decode b_Mo_behind 122 = .ok (.goto 4, 3) := by decide +kernel
theorem d_Mo_behind_125 : decode b_Mo_behind 125 = .ok (.iconst (-1), 1) := by decide +kernel
theorem d_Mo_behind_126 : decode b_Mo_behind 126 = .ok (.ireturn, 1) := by decide +kernel
theorem d_Mo_behind_127 : decode b_Mo_behind 127 = .ok (.aload_n 0, 1) := by decide +kernel
theorem d_Mo_behind_128 : decode b_Mo_behind 128 = .ok (.getfield 52, 3) := by decide +kernel
theorem d_Mo_behind_131 : decode b_Mo_behind 131 = .ok (.iconst 2, 1) := by decide +kernel
theorem d_Mo_behind_132 : decode b_Mo_behind 132 = .ok (.if_icmp .ne 13, 3) := by decide +kernel
theorem d_Mo_behind_135 : decode b_Mo_behind 135 = .ok (.lload_n 2, 1) := by decide +kernel
theorem d_Mo_behind_136 : decode b_Mo_behind 136 = .ok (.lconst 1, 1) := by decide +kernel
theorem d_Mo_behind_137 : decode b_Mo_behind 137 = .ok (.lcmp, 1) := by decide +kernel
theorem d_Mo_behind_138 : decode b_Mo_behind 138 = .ok (.ifCond .ne 7, 3) := by decide +kernel
theorem d_Mo_behind_141 : decode b_Mo_behind 141 = .ok (.iconst 3, 1) := by decide +kernel
theorem d_Mo_behind_142 : decode b_Mo_behind 142 = .ok (.goto 4, 3) := by decide +kernel
theorem d_Mo_behind_145 : decode b_Mo_behind 145 = .ok (.iconst (-1), 1) := by decide +kernel
theorem d_Mo_behind_146 : decode b_Mo_behind 146 = .ok (.ireturn, 1) := by decide +kernel
theorem d_Mo_behind_147 : decode b_Mo_behind 147 = .ok (.aload_n 0, 1) := by decide +kernel
theorem d_Mo_behind_148 : decode b_Mo_behind 148 = .ok (.getfield 52, 3) := by decide +kernel
theorem d_Mo_behind_151 : decode b_Mo_behind 151 = .ok (.iconst 3, 1) := by decide +kernel
theorem d_Mo_behind_152 : decode b_Mo_behind 152 = .ok (.if_icmp .ne 21, 3) := by decide +kernel
theorem d_Mo_behind_155 : decode b_Mo_behind 155 = .ok (.lload_n 2, 1) := by decide +kernel
theorem d_Mo_behind_156 : decode b_Mo_behind 156 = .ok (.lconst 0, 1) := by decide +kernel
theorem d_Mo_behind_157 : decode b_Mo_behind 157 = .ok (.lcmp, 1) := by decide +kernel
theorem d_Mo_behind_158 : decode b_Mo_behind 158 = .ok (.ifCond .le 15, 3) := by decide +kernel
theorem d_Mo_behind_161 : decode b_Mo_behind 161 = .ok (.lload_n 2, 1) := by decide +kernel
theorem d_Mo_behind_162 : decode b_Mo_behind 162 = .ok (.ldc2_w 69, 3) := by decide +kernel
theorem d_Mo_behind_165 : decode b_Mo_behind 165 = .ok (.lcmp, 1) := by decide +kernel
theorem d_Mo_behind_166 : decode b_Mo_behind 166 = .ok (.ifCond .gt 7, 3) := by decide +kernel
theorem d_Mo_behind_169 : decode b_Mo_behind 169 = .ok (.iconst 4, 1) := by decide +kernel
theorem d_Mo_behind_170 : decode b_Mo_behind 170 = .ok (.goto 4, 3) := by decide +kernel
theorem d_Mo_behind_173 : decode b_Mo_behind 173 = .ok (.iconst (-1), 1) := by decide +kernel
theorem d_Mo_behind_174 : decode b_Mo_behind 174 = .ok (.ireturn, 1) := by decide +kernel
theorem d_Mo_behind_175 : decode b_Mo_behind 175 = .ok (.aload_n 0, 1) := by decide +kernel
theorem d_Mo_behind_176 : decode b_Mo_behind 176 = .ok (.getfield 52, 3) := by decide +kernel
theorem d_Mo_behind_179 : decode b_Mo_behind 179 = .ok (.iconst 4, 1) := by decide +kernel
theorem d_Mo_behind_180 : decode b_Mo_behind 180 = .ok (.if_icmp .ne 22, 3) := by decide +kernel
theorem d_Mo_behind_183 : decode b_Mo_behind 183 = .ok (.aload_n 0, 1) := by decide +kernel
theorem d_Mo_behind_184 : decode b_Mo_behind 184 = .ok (.getfield 71, 3) := by decide +kernel
theorem d_Mo_behind_187 : decode b_Mo_behind 187 = .ok (.ifCond .eq 15, 3) := by decide +kernel
theorem d_Mo_behind_190 : decode b_Mo_behind 190 = .ok (.lload_n 2, 1) := by decide +kernel
theorem d_Mo_behind_191 : decode b_Mo_behind 191 = .ok (.ldc2_w 74, 3) := by decide +kernel
theorem d_Mo_behind_194 : decode b_Mo_behind 194 = .ok (.lcmp, 1) := by decide +kernel
theorem d_Mo_behind_195 : decode b_Mo_behind 195 = .ok (.ifCond .lt 7, 3) := by decide +kernel
theorem d_Mo_behind_198 : decode b_Mo_behind 198 = .ok (.iconst 5, 1) := by decide +kernel
theorem d_Mo_behind_199 : decode b_Mo_behind 199 = .ok (.goto 4, 3) := by decide +kernel
theorem d_Mo_behind_202 : decode b_Mo_behind 202 = .ok (.iconst (-1), 1) := by decide +kernel
theorem d_Mo_behind_203 : decode b_Mo_behind 203 = .ok (.ireturn, 1) := by decide +kernel
theorem d_Mo_behind_204 : decode b_Mo_behind 204 = .ok (.aload_n 0, 1) := by decide +kernel
theorem d_Mo_behind_205 : decode b_Mo_behind 205 = .ok (.getfield 52, 3) := by decide +kernel
theorem d_Mo_behind_208 : decode b_Mo_behind 208 = .ok (.iconst 5, 1) := by decide +kernel
theorem d_Mo_behind_209 : decode b_Mo_behind 209 = .ok (.if_icmp .eq 7, 3) := by decide +kernel
theorem d_Mo_behind_212 : decode b_Mo_behind 212 = .ok (.iconst (-1), 1) := by decide +kernel
theorem d_Mo_behind_213 : decode b_Mo_behind 213 = .ok (.goto 25, 3) := by decide +kernel
theorem d_Mo_behind_216 : decode b_Mo_behind 216 = .ok (.lload_n 2, 1) := by decide +kernel
theorem d_Mo_behind_217 : decode b_Mo_behind 217 = .ok (.ldc2_w 76, 3) := by decide +kernel
theorem d_Mo_behind_220 : decode b_Mo_behind 220 = .ok (.lcmp, 1) := by decide +kernel
theorem d_Mo_behind_221 : decode b_Mo_behind 221 = .ok (.ifCond .lt 16, 3) := by decide +kernel
theorem d_Mo_behind_224 : decode b_Mo_behind 224 = .ok (.lload_n 2, 1) := by decide +kernel
theorem d_Mo_behind_225 : decode b_Mo_behind 225 = .ok (.ldc2_w 78, 3) := by decide +kernel
theorem d_Mo_behind_228 : decode b_Mo_behind 228 = .ok (.lcmp, 1) := by decide +kernel
theorem d_Mo_behind_229 : decode b_Mo_behind 229 = .ok (.ifCond .gt 8, 3) := by decide +kernel
theorem d_Mo_behind_232 : decode b_Mo_behind 232 = .ok (.bipush 6, 2) := by decide +kernel
theorem d_Mo_behind_234 : decode b_Mo_behind 234 = .ok (.goto 4, 3) := by decide +kernel
theorem d_Mo_behind_237 : decode b_Mo_behind 237 = .ok (.iconst 5, 1) := by decide +kernel
theorem d_Mo_behind_238 : decode b_Mo_behind 238 = .ok (.ireturn, 1) := by decide +kernel
theorem d_Mo_behind_239 : decode b_Mo_behind 239 = .ok (.aload_n 0, 1) := by decide +kernel
theorem d_Mo_behind_240 : decode b_Mo_behind 240 = .ok (.getfield 52, 3) := by decide +kernel
theorem d_Mo_behind_243 : decode b_Mo_behind 243 = .ok (.iconst 4, 1) := by decide +kernel
theorem d_Mo_behind_244 : decode b_Mo_behind 244 = .ok (.if_icmp .ne 10, 3) := by decide +kernel
theorem d_Mo_behind_247 : decode b_Mo_behind 247 = .ok (.aload_n 0, 1) := by decide +kernel
theorem d_Mo_behind_248 : decode b_Mo_behind 248 = .ok (.getfield 71, 3) := by decide +kernel
theorem d_Mo_behind_251 : decode b_Mo_behind 251 = .ok (.ifCond .eq 12, 3) := by decide +kernel
theorem d_Mo_behind_254 : decode b_Mo_behind 254 = .ok (.aload_n 0, 1) := by decide +kernel
theorem d_Mo_behind_255 : decode b_Mo_behind 255 = .ok (.getfield 52, 3) := by decide +kernel
theorem d_Mo_behind_258 : decode b_Mo_behind 258 = .ok (.bipush 6, 2) := by decide +kernel
theorem d_Mo_behind_260 : decode b_Mo_behind 260 = .ok (.if_icmp .ne 8, 3) := by decide +kernel
theorem d_Mo_behind_263 : decode b_Mo_behind 263 = .ok (.bipush 7, 2) := by decide +kernel
theorem d_Mo_behind_265 : decode b_Mo_behind 265 = .ok (.goto 4, 3) := by decide +kernel
theorem d_Mo_behind_268 : decode b_Mo_behind 268 = .ok (.iconst (-1), 1) := by decide +kernel
theorem d_Mo_behind_269 : decode b_Mo_behind 269 = .ok (.ireturn, 1) := by decide +kernel
theorem d_Mo_behind_270 : decode b_Mo_behind 270 = .ok (.aload_n 0, 1) := by decide +kernel
theorem d_Mo_behind_271 : decode b_Mo_behind 271 = .ok (.getfield 52, 3) := by decide +kernel
theorem d_Mo_behind_274 : decode b_Mo_behind 274 = .ok (.bipush 7, 2) := by decide +kernel
theorem d_Mo_behind_276 : decode b_Mo_behind 276 = .ok (.if_icmp .ne 23, 3) := by decide +kernel
theorem d_Mo_behind_279 : decode b_Mo_behind 279 = .ok (.lload_n 2, 1) := by decide +kernel
theorem d_Mo_behind_280 : decode b_Mo_behind 280 = .ok (.lconst 0, 1) := by decide +kernel
theorem d_Mo_behind_281 : decode b_Mo_behind 281 = .ok (.lcmp, 1) := by decide +kernel
theorem d_Mo_behind_282 : decode b_Mo_behind 282 = .ok (.ifCond .lt 17, 3) := by decide +kernel
theorem d_Mo_behind_285 : decode b_Mo_behind 285 = .ok (.lload_n 2, 1) := by decide +kernel
theorem d_Mo_behind_286 : decode b_Mo_behind 286 = .ok (.aload_n 0, 1) := by decide +kernel
theorem d_Mo_behind_287 : decode b_Mo_behind 287 = .ok (.getfield 80, 3) := by decide +kernel
theorem d_Mo_behind_290 : decode b_Mo_behind 290 = .ok (.lcmp, 1) := by decide +kernel
theorem d_Mo_behind_291 : decode b_Mo_behind 291 = .ok (.ifCond .gt 8, 3) := by decide +kernel
theorem d_Mo_behind_294 : decode b_Mo_behind 294 = .ok (.bipush 7, 2) := by decide +kernel
theorem d_Mo_behind_296 : decode b_Mo_behind 296 = .ok (.goto 4, 3) := by decide +kernel
theorem d_Mo_behind_299 : decode b_Mo_behind 299 = .ok (.iconst (-1), 1) := by decide +kernel
theorem d_Mo_behind_300 : decode b_Mo_behind 300 = .ok (.ireturn, 1) := by decide +kernel
theorem d_Mo_behind_301 : decode b_Mo_behind 301 = .ok (.aload_n 0, 1) := by decide +kernel
theorem d_Mo_behind_302 : decode b_Mo_behind 302 = .ok (.getfield 52, 3) := by decide +kernel
theorem d_Mo_behind_305 : decode b_Mo_behind 305 = .ok (.bipush 7, 2) := by decide +kernel
theorem d_Mo_behind_307 : decode b_Mo_behind 307 = .ok (.if_icmp .ne 22, 3) := by decide +kernel
theorem d_Mo_behind_310 : decode b_Mo_behind 310 = .ok (.lload_n 2, 1) := by decide +kernel
theorem d_Mo_behind_311 : decode b_Mo_behind 311 = .ok (.lconst 0, 1) := by decide +kernel
theorem d_Mo_behind_312 : decode b_Mo_behind 312 = .ok (.lcmp, 1) := by decide +kernel
theorem d_Mo_behind_313 : decode b_Mo_behind 313 = .ok (.ifCond .le 16, 3) := by decide +kernel
theorem d_Mo_behind_316 : decode b_Mo_behind 316 = .ok (.lload_n 2, 1) := by decide +kernel
theorem d_Mo_behind_317 : decode b_Mo_behind 317 = .ok (.ldc2_w 69, 3) := by decide +kernel
theorem d_Mo_behind_320 : decode b_Mo_behind 320 = .ok (.lcmp, 1) := by decide +kernel
theorem d_Mo_behind_321 : decode b_Mo_behind 321 = .ok (.ifCond .gt 8, 3) := by decide +kernel
theorem d_Mo_behind_324 : decode b_Mo_behind 324 = .ok (.bipush 7, 2) := by decide +kernel
theorem d_Mo_behind_326 : decode b_Mo_behind 326 = .ok (.goto 4, 3) := by decide +kernel
theorem d_Mo_behind_329 : decode b_Mo_behind 329 = .ok (.iconst (-1), 1) := by decide +kernel
theorem d_Mo_behind_330 : decode b_Mo_behind 330 = .ok (.ireturn, 1) := by decide +kernel
theorem d_Mo_behind_331 : decode b_Mo_behind 331 = .ok (.aload_n 0, 1) := by decide +kernel
theorem d_Mo_behind_332 : decode b_Mo_behind 332 = .ok (.getfield 52, 3) := by decide +kernel
theorem d_Mo_behind_335 : decode b_Mo_behind 335 = .ok (.bipush 7, 2) := by decide +kernel
theorem d_Mo_behind_337 : decode b_Mo_behind 337 = .ok (.if_icmp .ne 8, 3) := by decide +kernel
theorem d_Mo_behind_340 : decode b_Mo_behind 340 = .ok (.bipush 8, 2) := by decide +kernel
theorem d_Mo_behind_342 : decode b_Mo_behind 342 = .ok (.goto 4, 3) := by decide +kernel
theorem d_Mo_behind_345 : decode b_Mo_behind 345 = .ok (.iconst (-1), 1) := by decide +kernel
theorem d_Mo_behind_346 : decode b_Mo_behind 346 = .ok (.ireturn, 1) := by decide +kernel
theorem d_Mo_behind_347 : decode b_Mo_behind 347 = .ok (.aload_n 0, 1) := by decide +kernel
theorem d_Mo_behind_348 : decode b_Mo_behind 348 = .ok (.getfield 52, 3) := by decide +kernel
theorem d_Mo_behind_351 : decode b_Mo_behind 351 = .ok (.bipush 8, 2) := by decide +kernel
theorem d_Mo_behind_353 : decode b_Mo_behind 353 = .ok (.if_icmp .ne 7, 3) := by decide +kernel
theorem d_Mo_behind_356 : decode b_Mo_behind 356 = .ok (.iconst 0, 1) := by decide +kernel
theorem d_Mo_behind_357 : decode b_Mo_behind 357 = .ok (.goto 4, 3) := by decide +kernel
theorem d_Mo_behind_360 : decode b_Mo_behind 360 = .ok (.iconst (-1), 1) := by decide +kernel
theorem d_Mo_behind_361 : decode b_Mo_behind 361 = .ok (.ireturn, 1) := by decide +kernel
theorem d_Mo_message_0 : decode b_Mo_message 0 = .ok (.aload_n 0, 1) := by decide +kernel
theorem d_Mo_message_1 : decode b_Mo_message 1 = .ok (.iconst 0, 1) := by decide +kernel
theorem d_Mo_message_2 : decode b_Mo_message 2 = .ok (.putfield 26, 3) := by decide +kernel
theorem d_Mo_message_5 : decode b_Mo_message 5 = .ok (.iload_n 1, 1) := by decide +kernel
theorem d_Mo_message_6 : decode b_Mo_message 6 = .ok (.ifCond .lt 34, 3) := by decide +kernel
theorem d_Mo_message_9 : decode b_Mo_message 9 = .ok (.iload_n 1, 1) := by decide +kernel
theorem d_Mo_message_10 : decode b_Mo_message 10 = .ok (.bipush 10, 2) := by decide +kernel
theorem d_Mo_message_12 : decode b_Mo_message 12 = .ok (.if_icmp .gt 28, 3) := by decide +kernel
theorem d_Mo_message_15 : decode b_Mo_message 15 = .ok (.lload_n 2, 1) := by decide +kernel
theorem d_Mo_message_16 : decode b_Mo_message 16 = .ok (.ldc2_w 83, 3) := by decide +kernel
theorem d_Mo_message_19 : decode b_Mo_message 19 = .ok (.lcmp, 1) := by decide +kernel
theorem d_Mo_message_20 : decode b_Mo_message 20 = .ok (.ifCond .lt 20, 3) := by decide +kernel
end
section
theorem d_Mo_message_23 : decode b_Mo_message 23 = .ok (.lload_n 2, 1) := by decide +kernel
theorem d_Mo_message_24 : decode b_Mo_message 24 = .ok (.ldc2_w 85, 3) := by decide +kernel
theorem d_Mo_message_27 : decode b_Mo_message 27 = .ok (.lcmp, 1) := by decide +kernel
theorem d_Mo_message_28 : decode b_Mo_message 28 = .ok (.ifCond .gt 12, 3) := by decide +kernel
theorem d_Mo_message_31 : decode b_Mo_message 31 = .ok (.aload_n 0, 1) := by decide +kernel
theorem d_Mo_message_32 : decode b_Mo_message 32 = .ok (.lload 4, 2) := by decide +kernel
theorem d_Mo_message_34 : decode b_Mo_message 34 = .ok (.invokevirtual 87, 3) := by decide +kernel
theorem d_Mo_message_37 : decode b_Mo_message 37 = .ok (.ifCond .ne 6, 3) := by decide +kernel
theorem d_Mo_message_40 : decode b_Mo_message 40 = .ok (.bipush (-2), 2) := by decide +kernel
theorem d_Mo_message_42 : decode b_Mo_message 42 = .ok (.ireturn, 1) := by decide +kernel
theorem d_Mo_message_43 : decode b_Mo_message 43 = .ok (.aload_n 0, 1) := by decide +kernel
theorem d_Mo_message_44 : decode b_Mo_message 44 = .ok (.lload 4, 2) := by decide +kernel
theorem d_Mo_message_46 : decode b_Mo_message 46 = .ok (.putfield 59, 3) := by decide +kernel
theorem d_Mo_message_49 : decode b_Mo_message 49 = .ok (.aload_n 0, 1) := by decide +kernel
theorem d_Mo_message_50 : decode b_Mo_message 50 = .ok (.getfield 52, 3) := by decide +kernel
theorem d_Mo_message_53 : decode b_Mo_message 53 = .ok (.ifCond .le 21, 3) := by decide +kernel
theorem d_Mo_message_56 : decode b_Mo_message 56 = .ok (.lload 4, 2) := by decide +kernel
theorem d_Mo_message_58 : decode b_Mo_message 58 = .ok (.aload_n 0, 1) := by decide +kernel
theorem d_Mo_message_59 : decode b_Mo_message 59 = .ok (.getfield 91, 3) := by decide +kernel
theorem d_Mo_message_62 : decode b_Mo_message 62 = .ok (.lsub, 1) := by decide +kernel
theorem d_Mo_message_63 : decode b_Mo_message 63 = .ok (.ldc2_w 69, 3) := by decide +kernel
theorem d_Mo_message_66 : decode b_Mo_message 66 = .ok (.lcmp, 1) := by decide +kernel
theorem d_Mo_message_67 : decode b_Mo_message 67 = .ok (.ifCond .le 7, 3) := by decide +kernel
theorem d_Mo_message_70 : decode b_Mo_message 70 = .ok (.iconst (-1), 1) := by decide +kernel
theorem d_Mo_message_71 : decode b_Mo_message 71 = .ok (.goto 11, 3) := by decide +kernel
theorem d_Mo_message_74 : decode b_Mo_message 74 = .ok (.aload_n 0, 1) := by decide +kernel
theorem d_Mo_message_75 : decode b_Mo_message 75 = .ok (.iload_n 1, 1) := by decide +kernel
theorem d_Mo_message_76 : decode b_Mo_message 76 = .ok (.lload_n 2, 1) := by decide +kernel
theorem d_Mo_message_77 : decode b_Mo_message 77 = .ok (.lload 4, 2) := by decide +kernel
theorem d_Mo_message_79 : decode b_Mo_message 79 = .ok (.invokevirtual 94, 3) := by decide +kernel
theorem d_Mo_message_82 : decode b_Mo_message 82 = .ok (.istore 6, 2) := by decide +kernel
theorem d_Mo_message_84 : decode b_Mo_message 84 = .ok (.iload 6, 2) := by decide +kernel
theorem d_Mo_message_86 : decode b_Mo_message 86 = .ok (.ifCond .ge 11, 3) := by decide +kernel
theorem d_Mo_message_89 : decode b_Mo_message 89 = .ok (.aload_n 0, 1) := by decide +kernel
theorem d_Mo_message_90 : decode b_Mo_message 90 = .ok (.iconst 0, 1) := by decide +kernel
theorem d_Mo_message_91 : decode b_Mo_message 91 = .ok (.putfield 52, 3) := by decide +kernel
theorem d_Mo_message_94 : decode b_Mo_message 94 = .ok (.bipush (-3), 2) := by decide +kernel
theorem d_Mo_message_96 : decode b_Mo_message 96 = .ok (.ireturn, 1) := by decide +kernel
theorem d_Mo_message_97 : decode b_Mo_message 97 = .ok (.iload_n 1, 1) := by decide +kernel
theorem d_Mo_message_98 : decode b_Mo_message 98 = .ok (.ifCond .ne 8, 3) := by decide +kernel
theorem d_Mo_message_101 : decode b_Mo_message 101 = .ok (.aload_n 0, 1) := by decide +kernel
theorem d_Mo_message_102 : decode b_Mo_message 102 = .ok (.lconst 0, 1) := by decide +kernel
theorem d_Mo_message_103 : decode b_Mo_message 103 = .ok (.putfield 98, 3) := by decide +kernel
theorem d_Mo_message_106 : decode b_Mo_message 106 = .ok (.iload_n 1, 1) := by decide +kernel
theorem d_Mo_message_107 : decode b_Mo_message 107 = .ok (.iconst 1, 1) := by decide +kernel
theorem d_Mo_message_108 : decode b_Mo_message 108 = .ok (.if_icmp .ne 18, 3) := by decide +kernel
theorem d_Mo_message_111 : decode b_Mo_message 111 = .ok (.aload_n 0, 1) := by decide +kernel
theorem d_Mo_message_112 : decode b_Mo_message 112 = .ok (.lload_n 2, 1) := by decide +kernel
theorem d_Mo_message_113 : decode b_Mo_message 113 = .ok (.lconst 1, 1) := by decide +kernel
theorem d_Mo_message_114 : decode b_Mo_message 114 = .ok (.lcmp, 1) := by decide +kernel
theorem d_Mo_message_115 : decode b_Mo_message 115 = .ok (.ifCond .ne 7, 3) := by decide +kernel
theorem d_Mo_message_118 : decode b_Mo_message 118 = .ok (.iconst 1, 1) := by decide +kernel
theorem d_Mo_message_119 : decode b_Mo_message 119 = .ok (.goto 4, 3) := by decide +kernel
theorem d_Mo_message_122 : decode b_Mo_message 122 = .ok (.iconst 0, 1) := by decide +kernel
theorem d_Mo_message_123 : decode b_Mo_message 123 = .ok (.putfield 71, 3) := by decide +kernel
theorem d_Mo_message_126 : decode b_Mo_message 126 = .ok (.iload_n 1, 1) := by decide +kernel
theorem d_Mo_message_127 : decode b_Mo_message 127 = .ok (.iconst 3, 1) := by decide +kernel
theorem d_Mo_message_128 : decode b_Mo_message 128 = .ok (.if_icmp .eq 9, 3) := by decide +kernel
theorem d_Mo_message_131 : decode b_Mo_message 131 = .ok (.iload_n 1, 1) := by decide +kernel
theorem d_Mo_message_132 : decode b_Mo_message 132 = .ok (.bipush 8, 2) := by decide +kernel
theorem d_Mo_message_134 : decode b_Mo_message 134 = .ok (.if_icmp .ne 8, 3) := by decide +kernel
theorem d_Mo_message_137 : decode b_Mo_message 137 = .ok (.aload_n 0, 1) := by decide +kernel
theorem d_Mo_message_138 : decode b_Mo_message 138 = .ok (.lload_n 2, 1) := by decide +kernel
theorem d_Mo_message_139 : decode b_Mo_message 139 = .ok (.putfield 80, 3) := by decide +kernel
theorem d_Mo_message_142 : decode b_Mo_message 142 = .ok (.iload_n 1, 1) := by decide +kernel
theorem d_Mo_message_143 : decode b_Mo_message 143 = .ok (.bipush 7, 2) := by decide +kernel
theorem d_Mo_message_145 : decode b_Mo_message 145 = .ok (.if_icmp .ne 26, 3) := by decide +kernel
theorem d_Mo_message_148 : decode b_Mo_message 148 = .ok (.aload_n 0, 1) := by decide +kernel
theorem d_Mo_message_149 : decode b_Mo_message 149 = .ok (.dup, 1) := by decide +kernel
theorem d_Mo_message_150 : decode b_Mo_message 150 = .ok (.getfield 101, 3) := by decide +kernel
theorem d_Mo_message_153 : decode b_Mo_message 153 = .ok (.lload_n 2, 1) := by decide +kernel
theorem d_Mo_message_154 : decode b_Mo_message 154 = .ok (.lload 4, 2) := by decide +kernel
theorem d_Mo_message_156 : decode b_Mo_message 156 = .ok (.aload_n 0, 1) := by decide +kernel
theorem d_Mo_message_157 : decode b_Mo_message 157 = .ok (.getfield 91, 3) := by decide +kernel
theorem d_Mo_message_160 : decode b_Mo_message 160 = .ok (.lsub, 1) := by decide +kernel
theorem d_Mo_message_161 : decode b_Mo_message 161 = .ok (.lmul, 1) := by decide +kernel
theorem d_Mo_message_162 : decode b_Mo_message 162 = .ok (.ladd, 1) := by decide +kernel
theorem d_Mo_message_163 : decode b_Mo_message 163 = .ok (.putfield 101, 3) := by decide +kernel
theorem d_Mo_message_166 : decode b_Mo_message 166 = .ok (.aload_n 0, 1) := by decide +kernel
theorem d_Mo_message_167 : decode b_Mo_message 167 = .ok (.lload_n 2, 1) := by decide +kernel
theorem d_Mo_message_168 : decode b_Mo_message 168 = .ok (.putfield 98, 3) := by decide +kernel
theorem d_Mo_message_171 : decode b_Mo_message 171 = .ok (.aload_n 0, 1) := by decide +kernel
theorem d_Mo_message_172 : decode b_Mo_message 172 = .ok (.lload 4, 2) := by decide +kernel
theorem d_Mo_message_174 : decode b_Mo_message 174 = .ok (.putfield 91, 3) := by decide +kernel
theorem d_Mo_message_177 : decode b_Mo_message 177 = .ok (.aload_n 0, 1) := by decide +kernel
theorem d_Mo_message_178 : decode b_Mo_message 178 = .ok (.iload 6, 2) := by decide +kernel
theorem d_Mo_message_180 : decode b_Mo_message 180 = .ok (.putfield 52, 3) := by decide +kernel
theorem d_Mo_message_183 : decode b_Mo_message 183 = .ok (.aload_n 0, 1) := by decide +kernel
theorem d_Mo_message_184 : decode b_Mo_message 184 = .ok (.getfield 52, 3) := by decide +kernel
theorem d_Mo_message_187 : decode b_Mo_message 187 = .ok (.ireturn, 1) := by decide +kernel
theorem d_Mo_plug_0 : decode b_Mo_plug 0 = .ok (.aload_n 0, 1) := by decide +kernel
theorem d_Mo_plug_1 : decode b_Mo_plug 1 = .ok (.iconst 0, 1) := by decide +kernel
theorem d_Mo_plug_2 : decode b_Mo_plug 2 = .ok (.putfield 26, 3) := by decide +kernel
theorem d_Mo_plug_5 : decode b_Mo_plug 5 = .ok (.iload_n 1, 1) := by decide +kernel
theorem d_Mo_plug_6 : decode b_Mo_plug 6 = .ok (.ifCond .ne 20, 3) := by decide +kernel
theorem d_Mo_plug_9 : decode b_Mo_plug 9 = .ok (.aload_n 0, 1) := by decide +kernel
theorem d_Mo_plug_10 : decode b_Mo_plug 10 = .ok (.getfield 52, 3) := by decide +kernel
theorem d_Mo_plug_13 : decode b_Mo_plug 13 = .ok (.ifCond .le 13, 3) := by decide +kernel
theorem d_Mo_plug_16 : decode b_Mo_plug 16 = .ok (.aload_n 0, 1) := by decide +kernel
theorem d_Mo_plug_17 : decode b_Mo_plug 17 = .ok (.getfield 65, 3) := by decide +kernel
theorem d_Mo_plug_20 : decode b_Mo_plug 20 = .ok (.ifCond .eq 6, 3) := by decide +kernel
theorem d_Mo_plug_23 : decode b_Mo_plug 23 = .ok (.bipush (-3), 2) := by decide +kernel
theorem d_Mo_plug_25 : decode b_Mo_plug 25 = .ok (.ireturn, 1) := by decide +kernel
theorem d_Mo_plug_26 : decode b_Mo_plug 26 = .ok (.aload_n 0, 1) := by decide +kernel
theorem d_Mo_plug_27 : decode b_Mo_plug 27 = .ok (.getfield 65, 3) := by decide +kernel
theorem d_Mo_plug_30 : decode b_Mo_plug 30 = .ok (.iload_n 1, 1) := by decide +kernel
theorem d_Mo_plug_31 : decode b_Mo_plug 31 = .ok (.if_icmp .eq 7, 3) := by decide +kernel
theorem d_Mo_plug_34 : decode b_Mo_plug 34 = .ok (.iconst 1, 1) := by decide +kernel
theorem d_Mo_plug_35 : decode b_Mo_plug 35 = .ok (.goto 4, 3) := by decide +kernel
theorem d_Mo_plug_38 : decode b_Mo_plug 38 = .ok (.iconst 0, 1) := by decide +kernel
theorem d_Mo_plug_39 : decode b_Mo_plug 39 = .ok (.istore_n 2, 1) := by decide +kernel
theorem d_Mo_plug_40 : decode b_Mo_plug 40 = .ok (.aload_n 0, 1) := by decide +kernel
theorem d_Mo_plug_41 : decode b_Mo_plug 41 = .ok (.iload_n 1, 1) := by decide +kernel
theorem d_Mo_plug_42 : decode b_Mo_plug 42 = .ok (.putfield 65, 3) := by decide +kernel
theorem d_Mo_plug_45 : decode b_Mo_plug 45 = .ok (.iload_n 2, 1) := by decide +kernel
theorem d_Mo_plug_46 : decode b_Mo_plug 46 = .ok (.ifCond .eq 7, 3) := by decide +kernel
theorem d_Mo_plug_49 : decode b_Mo_plug 49 = .ok (.iconst 1, 1) := by decide +kernel
theorem d_Mo_plug_50 : decode b_Mo_plug 50 = .ok (.goto 4, 3) := by decide +kernel
theorem d_Mo_plug_53 : decode b_Mo_plug 53 = .ok (.iconst 0, 1) := by decide +kernel
theorem d_Mo_plug_54 : decode b_Mo_plug 54 = .ok (.ireturn, 1) := by decide +kernel
theorem d_Mo_meter_0 : decode b_Mo_meter 0 = .ok (.aload_n 0, 1) := by decide +kernel
theorem d_Mo_meter_1 : decode b_Mo_meter 1 = .ok (.iconst 0, 1) := by decide +kernel
theorem d_Mo_meter_2 : decode b_Mo_meter 2 = .ok (.putfield 26, 3) := by decide +kernel
theorem d_Mo_meter_5 : decode b_Mo_meter 5 = .ok (.lload_n 1, 1) := by decide +kernel
theorem d_Mo_meter_6 : decode b_Mo_meter 6 = .ok (.lconst 0, 1) := by decide +kernel
theorem d_Mo_meter_7 : decode b_Mo_meter 7 = .ok (.lcmp, 1) := by decide +kernel
theorem d_Mo_meter_8 : decode b_Mo_meter 8 = .ok (.ifCond .lt 11, 3) := by decide +kernel
theorem d_Mo_meter_11 : decode b_Mo_meter 11 = .ok (.lload_n 1, 1) := by decide +kernel
theorem d_Mo_meter_12 : decode b_Mo_meter 12 = .ok (.ldc2_w 104, 3) := by decide +kernel
theorem d_Mo_meter_15 : decode b_Mo_meter 15 = .ok (.lcmp, 1) := by decide +kernel
theorem d_Mo_meter_16 : decode b_Mo_meter 16 = .ok (.ifCond .le 8, 3) := by decide +kernel
theorem d_Mo_meter_19 : decode b_Mo_meter 19 = .ok (.bipush (-2), 2) := by decide +kernel
theorem d_Mo_meter_21 : decode b_Mo_meter 21 = .ok (.goto 14, 3) := by decide +kernel
theorem d_Mo_meter_24 : decode b_Mo_meter 24 = .ok (.lload_n 1, 1) := by decide +kernel
theorem d_Mo_meter_25 : decode b_Mo_meter 25 = .ok (.aload_n 0, 1) := by decide +kernel
theorem d_Mo_meter_26 : decode b_Mo_meter 26 = .ok (.getfield 101, 3) := by decide +kernel
theorem d_Mo_meter_29 : decode b_Mo_meter 29 = .ok (.ldc2_w 106, 3) := by decide +kernel
theorem d_Mo_meter_32 : decode b_Mo_meter 32 = .ok (.ldiv, 1) := by decide +kernel
theorem d_Mo_meter_33 : decode b_Mo_meter 33 = .ok (.lsub, 1) := by decide +kernel
theorem d_Mo_meter_34 : decode b_Mo_meter 34 = .ok (.l2i, 1) := by decide +kernel
theorem d_Mo_meter_35 : decode b_Mo_meter 35 = .ok (.ireturn, 1) := by decide +kernel
theorem d_Mo_priceOf_0 : decode b_Mo_priceOf 0 = .ok (.aload_n 0, 1) := by decide +kernel
theorem d_Mo_priceOf_1 : decode b_Mo_priceOf 1 = .ok (.getfield 108, 3) := by decide +kernel
theorem d_Mo_priceOf_4 : decode b_Mo_priceOf 4 = .ok (.iconst 1, 1) := by decide +kernel
theorem d_Mo_priceOf_5 : decode b_Mo_priceOf 5 = .ok (.isub, 1) := by decide +kernel
theorem d_Mo_priceOf_6 : decode b_Mo_priceOf 6 = .ok (.istore_n 2, 1) := by decide +kernel
theorem d_Mo_priceOf_7 : decode b_Mo_priceOf 7 = .ok (.iload_n 2, 1) := by decide +kernel
theorem d_Mo_priceOf_8 : decode b_Mo_priceOf 8 = .ok (.ifCond .lt 36, 3) := by decide +kernel
theorem d_Mo_priceOf_11 : decode b_Mo_priceOf 11 = .ok (.iload_n 1, 1) := by decide +kernel
theorem d_Mo_priceOf_12 : decode b_Mo_priceOf 12 = .ok (.aload_n 0, 1) := by decide +kernel
theorem d_Mo_priceOf_13 : decode b_Mo_priceOf 13 = .ok (.getfield 7, 3) := by decide +kernel
theorem d_Mo_priceOf_16 : decode b_Mo_priceOf 16 = .ok (.iload_n 2, 1) := by decide +kernel
theorem d_Mo_priceOf_17 : decode b_Mo_priceOf 17 = .ok (.iaload, 1) := by decide +kernel
theorem d_Mo_priceOf_18 : decode b_Mo_priceOf 18 = .ok (.if_icmp .lt 20, 3) := by decide +kernel
theorem d_Mo_priceOf_21 : decode b_Mo_priceOf 21 = .ok (.iload_n 1, 1) := by decide +kernel
theorem d_Mo_priceOf_22 : decode b_Mo_priceOf 22 = .ok (.aload_n 0, 1) := by decide +kernel
theorem d_Mo_priceOf_23 : decode b_Mo_priceOf 23 = .ok (.getfield 13, 3) := by decide +kernel
theorem d_Mo_priceOf_26 : decode b_Mo_priceOf 26 = .ok (.iload_n 2, 1) := by decide +kernel
theorem d_Mo_priceOf_27 : decode b_Mo_priceOf 27 = .ok (.iaload, 1) := by decide +kernel
theorem d_Mo_priceOf_28 : decode b_Mo_priceOf 28 = .ok (.if_icmp .ge 10, 3) := by decide +kernel
end
section
theorem d_Mo_priceOf_31 : decode b_Mo_priceOf 31 = .ok (.aload_n 0, 1) := by decide +kernel
theorem d_Mo_priceOf_32 : decode b_Mo_priceOf 32 = .ok (.getfield 16, 3) := by decide +kernel
theorem d_Mo_priceOf_35 : decode b_Mo_priceOf 35 = .ok (.iload_n 2, 1) := by decide +kernel
theorem d_Mo_priceOf_36 : decode b_Mo_priceOf 36 = .ok (.iaload, 1) := by decide +kernel
theorem d_Mo_priceOf_37 : decode b_Mo_priceOf 37 = .ok (.ireturn, 1) := by decide +kernel
theorem d_Mo_priceOf_38 : decode b_Mo_priceOf 38 = .ok (.iinc 2 (-1), 3) := by decide +kernel
theorem d_Mo_priceOf_41 : decode b_Mo_priceOf 41 = .ok (.goto (-34), 3) := by decide +kernel
theorem d_Mo_priceOf_44 : decode b_Mo_priceOf 44 = .ok (.iconst (-1), 1) := by decide +kernel
theorem d_Mo_priceOf_45 : decode b_Mo_priceOf 45 = .ok (.ireturn, 1) := by decide +kernel
theorem d_Mo_plan_0 : decode b_Mo_plan 0 = .ok (.aload_n 0, 1) := by decide +kernel
theorem d_Mo_plan_1 : decode b_Mo_plan 1 = .ok (.iconst 0, 1) := by decide +kernel
theorem d_Mo_plan_2 : decode b_Mo_plan 2 = .ok (.putfield 26, 3) := by decide +kernel
theorem d_Mo_plan_5 : decode b_Mo_plan 5 = .ok (.lload_n 1, 1) := by decide +kernel
theorem d_Mo_plan_6 : decode b_Mo_plan 6 = .ok (.lconst 0, 1) := by decide +kernel
theorem d_Mo_plan_7 : decode b_Mo_plan 7 = .ok (.lcmp, 1) := by decide +kernel
theorem d_Mo_plan_8 : decode b_Mo_plan 8 = .ok (.ifCond .lt 25, 3) := by decide +kernel
theorem d_Mo_plan_11 : decode b_Mo_plan 11 = .ok (.lload_n 1, 1) := by decide +kernel
theorem d_Mo_plan_12 : decode b_Mo_plan 12 = .ok (.ldc2_w 85, 3) := by decide +kernel
theorem d_Mo_plan_15 : decode b_Mo_plan 15 = .ok (.lcmp, 1) := by decide +kernel
theorem d_Mo_plan_16 : decode b_Mo_plan 16 = .ok (.ifCond .gt 17, 3) := by decide +kernel
theorem d_Mo_plan_19 : decode b_Mo_plan 19 = .ok (.lload_n 3, 1) := by decide +kernel
theorem d_Mo_plan_20 : decode b_Mo_plan 20 = .ok (.lconst 0, 1) := by decide +kernel
theorem d_Mo_plan_21 : decode b_Mo_plan 21 = .ok (.lcmp, 1) := by decide +kernel
theorem d_Mo_plan_22 : decode b_Mo_plan 22 = .ok (.ifCond .lt 11, 3) := by decide +kernel
theorem d_Mo_plan_25 : decode b_Mo_plan 25 = .ok (.lload_n 3, 1) := by decide +kernel
theorem d_Mo_plan_26 : decode b_Mo_plan 26 = .ok (.ldc2_w 111, 3) := by decide +kernel
theorem d_Mo_plan_29 : decode b_Mo_plan 29 = .ok (.lcmp, 1) := by decide +kernel
theorem d_Mo_plan_30 : decode b_Mo_plan 30 = .ok (.ifCond .le 6, 3) := by decide +kernel
theorem d_Mo_plan_33 : decode b_Mo_plan 33 = .ok (.bipush (-2), 2) := by decide +kernel
theorem d_Mo_plan_35 : decode b_Mo_plan 35 = .ok (.ireturn, 1) := by decide +kernel
theorem d_Mo_plan_36 : decode b_Mo_plan 36 = .ok (.iconst 0, 1) := by decide +kernel
theorem d_Mo_plan_37 : decode b_Mo_plan 37 = .ok (.istore 5, 2) := by decide +kernel
theorem d_Mo_plan_39 : decode b_Mo_plan 39 = .ok (.iload 5, 2) := by decide +kernel
theorem d_Mo_plan_41 : decode b_Mo_plan 41 = .ok (.sipush 1440, 3) := by decide +kernel
theorem d_Mo_plan_44 : decode b_Mo_plan 44 = .ok (.if_icmp .ge 17, 3) := by decide +kernel
theorem d_Mo_plan_47 : decode b_Mo_plan 47 = .ok (.aload_n 0, 1) := by decide +kernel
theorem d_Mo_plan_48 : decode b_Mo_plan 48 = .ok (.getfield 19, 3) := by decide +kernel
theorem d_Mo_plan_51 : decode b_Mo_plan 51 = .ok (.iload 5, 2) := by decide +kernel
theorem d_Mo_plan_53 : decode b_Mo_plan 53 = .ok (.lconst 0, 1) := by decide +kernel
theorem d_Mo_plan_54 : decode b_Mo_plan 54 = .ok (.lastore, 1) := by decide +kernel
theorem d_Mo_plan_55 : decode b_Mo_plan 55 = .ok (.iinc 5 1, 3) := by decide +kernel
theorem d_Mo_plan_58 : decode b_Mo_plan 58 = .ok (.goto (-19), 3) := by decide +kernel
theorem d_Mo_plan_61 : decode b_Mo_plan 61 = .ok (.lload_n 1, 1) := by decide +kernel
theorem d_Mo_plan_62 : decode b_Mo_plan 62 = .ok (.lstore 5, 2) := by decide +kernel
theorem d_Mo_plan_64 : decode b_Mo_plan 64 = .ok (.lconst 0, 1) := by decide +kernel
theorem d_Mo_plan_65 : decode b_Mo_plan 65 = .ok (.lstore 7, 2) := by decide +kernel
theorem d_Mo_plan_67 : decode b_Mo_plan 67 = .ok (.aload_n 0, 1) := by decide +kernel
theorem d_Mo_plan_68 : decode b_Mo_plan 68 = .ok (.invokevirtual 55, 3) := by decide +kernel
theorem d_Mo_plan_71 : decode b_Mo_plan 71 = .ok (.istore 9, 2) := by decide +kernel
theorem d_Mo_plan_73 : decode b_Mo_plan 73 = .ok (.iconst 0, 1) := by decide +kernel
theorem d_Mo_plan_74 : decode b_Mo_plan 74 = .ok (.istore 10, 2) := by decide +kernel
theorem d_Mo_plan_76 : decode b_Mo_plan 76 = .ok (.iload 10, 2) := by decide +kernel
theorem d_Mo_plan_78 : decode b_Mo_plan 78 = .ok (.sipush 1000, 3) := by decide +kernel
theorem d_Mo_plan_81 : decode b_Mo_plan 81 = .ok (.if_icmp .gt 156, 3) := by decide +kernel
theorem d_Mo_plan_84 : decode b_Mo_plan 84 = .ok (.lload 5, 2) := by decide +kernel
theorem d_Mo_plan_86 : decode b_Mo_plan 86 = .ok (.lconst 0, 1) := by decide +kernel
theorem d_Mo_plan_87 : decode b_Mo_plan 87 = .ok (.lcmp, 1) := by decide +kernel
theorem d_Mo_plan_88 : decode b_Mo_plan 88 = .ok (.ifCond .le 149, 3) := by decide +kernel
theorem d_Mo_plan_91 : decode b_Mo_plan 91 = .ok (.iconst 0, 1) := by decide +kernel
theorem d_Mo_plan_92 : decode b_Mo_plan 92 = .ok (.istore 11, 2) := by decide +kernel
theorem d_Mo_plan_94 : decode b_Mo_plan 94 = .ok (.iconst 0, 1) := by decide +kernel
theorem d_Mo_plan_95 : decode b_Mo_plan 95 = .ok (.istore 12, 2) := by decide +kernel
theorem d_Mo_plan_97 : decode b_Mo_plan 97 = .ok (.iload 12, 2) := by decide +kernel
theorem d_Mo_plan_99 : decode b_Mo_plan 99 = .ok (.aload_n 0, 1) := by decide +kernel
theorem d_Mo_plan_100 : decode b_Mo_plan 100 = .ok (.getfield 108, 3) := by decide +kernel
theorem d_Mo_plan_103 : decode b_Mo_plan 103 = .ok (.if_icmp .ge 33, 3) := by decide +kernel
theorem d_Mo_plan_106 : decode b_Mo_plan 106 = .ok (.iload 11, 2) := by decide +kernel
theorem d_Mo_plan_108 : decode b_Mo_plan 108 = .ok (.ifCond .ne 15, 3) := by decide +kernel
theorem d_Mo_plan_111 : decode b_Mo_plan 111 = .ok (.aload_n 0, 1) := by decide +kernel
theorem d_Mo_plan_112 : decode b_Mo_plan 112 = .ok (.getfield 16, 3) := by decide +kernel
theorem d_Mo_plan_115 : decode b_Mo_plan 115 = .ok (.iload 12, 2) := by decide +kernel
theorem d_Mo_plan_117 : decode b_Mo_plan 117 = .ok (.iaload, 1) := by decide +kernel
theorem d_Mo_plan_118 : decode b_Mo_plan 118 = .ok (.iload 10, 2) := by decide +kernel
theorem d_Mo_plan_120 : decode b_Mo_plan 120 = .ok (.if_icmp .ne 7, 3) := by decide +kernel
theorem d_Mo_plan_123 : decode b_Mo_plan 123 = .ok (.iconst 1, 1) := by decide +kernel
theorem d_Mo_plan_124 : decode b_Mo_plan 124 = .ok (.goto 4, 3) := by decide +kernel
theorem d_Mo_plan_127 : decode b_Mo_plan 127 = .ok (.iconst 0, 1) := by decide +kernel
theorem d_Mo_plan_128 : decode b_Mo_plan 128 = .ok (.istore 11, 2) := by decide +kernel
theorem d_Mo_plan_130 : decode b_Mo_plan 130 = .ok (.iinc 12 1, 3) := by decide +kernel
theorem d_Mo_plan_133 : decode b_Mo_plan 133 = .ok (.goto (-36), 3) := by decide +kernel
theorem d_Mo_plan_136 : decode b_Mo_plan 136 = .ok (.iconst 0, 1) := by decide +kernel
theorem d_Mo_plan_137 : decode b_Mo_plan 137 = .ok (.istore 12, 2) := by decide +kernel
theorem d_Mo_plan_139 : decode b_Mo_plan 139 = .ok (.iload 12, 2) := by decide +kernel
theorem d_Mo_plan_141 : decode b_Mo_plan 141 = .ok (.i2l, 1) := by decide +kernel
theorem d_Mo_plan_142 : decode b_Mo_plan 142 = .ok (.lload_n 3, 1) := by decide +kernel
theorem d_Mo_plan_143 : decode b_Mo_plan 143 = .ok (.lcmp, 1) := by decide +kernel
theorem d_Mo_plan_144 : decode b_Mo_plan 144 = .ok (.ifCond .ge 87, 3) := by decide +kernel
theorem d_Mo_plan_147 : decode b_Mo_plan 147 = .ok (.lload 5, 2) := by decide +kernel
theorem d_Mo_plan_149 : decode b_Mo_plan 149 = .ok (.lconst 0, 1) := by decide +kernel
theorem d_Mo_plan_150 : decode b_Mo_plan 150 = .ok (.lcmp, 1) := by decide +kernel
theorem d_Mo_plan_151 : decode b_Mo_plan 151 = .ok (.ifCond .le 80, 3) := by decide +kernel
theorem d_Mo_plan_154 : decode b_Mo_plan 154 = .ok (.iload 11, 2) := by decide +kernel
theorem d_Mo_plan_156 : decode b_Mo_plan 156 = .ok (.ifCond .eq 75, 3) := by decide +kernel
theorem d_Mo_plan_159 : decode b_Mo_plan 159 = .ok (.aload_n 0, 1) := by decide +kernel
theorem d_Mo_plan_160 : decode b_Mo_plan 160 = .ok (.iload 12, 2) := by decide +kernel
theorem d_Mo_plan_162 : decode b_Mo_plan 162 = .ok (.invokevirtual 113, 3) := by decide +kernel
theorem d_Mo_plan_165 : decode b_Mo_plan 165 = .ok (.iload 10, 2) := by decide +kernel
theorem d_Mo_plan_167 : decode b_Mo_plan 167 = .ok (.if_icmp .eq 6, 3) := by decide +kernel
theorem d_Mo_plan_170 : decode b_Mo_plan 170 = .ok (.goto 55, 3) := by decide +kernel
theorem d_Mo_plan_173 : decode b_Mo_plan 173 = .ok (.aload_n 0, 1) := by decide +kernel
theorem d_Mo_plan_174 : decode b_Mo_plan 174 = .ok (.getfield 19, 3) := by decide +kernel
theorem d_Mo_plan_177 : decode b_Mo_plan 177 = .ok (.iload 12, 2) := by decide +kernel
theorem d_Mo_plan_179 : decode b_Mo_plan 179 = .ok (.lload 5, 2) := by decide +kernel
theorem d_Mo_plan_181 : decode b_Mo_plan 181 = .ok (.iload 9, 2) := by decide +kernel
theorem d_Mo_plan_183 : decode b_Mo_plan 183 = .ok (.i2l, 1) := by decide +kernel
theorem d_Mo_plan_184 : decode b_Mo_plan 184 = .ok (.lcmp, 1) := by decide +kernel
theorem d_Mo_plan_185 : decode b_Mo_plan 185 = .ok (.ifCond .ge 8, 3) := by decide +kernel
theorem d_Mo_plan_188 : decode b_Mo_plan 188 = .ok (.lload 5, 2) := by decide +kernel
theorem d_Mo_plan_190 : decode b_Mo_plan 190 = .ok (.goto 6, 3) := by decide +kernel
theorem d_Mo_plan_193 : decode b_Mo_plan 193 = .ok (.iload 9, 2) := by decide +kernel
theorem d_Mo_plan_195 : decode b_Mo_plan 195 = .ok (.i2l, 1) := by decide +kernel
theorem d_Mo_plan_196 : decode b_Mo_plan 196 = .ok (.lastore, 1) := by decide +kernel
theorem d_Mo_plan_197 : decode b_Mo_plan 197 = .ok (.lload 5, 2) := by decide +kernel
theorem d_Mo_plan_199 : decode b_Mo_plan 199 = .ok (.aload_n 0, 1) := by decide +kernel
theorem d_Mo_plan_200 : decode b_Mo_plan 200 = .ok (.getfield 19, 3) := by decide +kernel
theorem d_Mo_plan_203 : decode b_Mo_plan 203 = .ok (.iload 12, 2) := by decide +kernel
theorem d_Mo_plan_205 : decode b_Mo_plan 205 = .ok (.laload, 1) := by decide +kernel
theorem d_Mo_plan_206 : decode b_Mo_plan 206 = .ok (.lsub, 1) := by decide +kernel
theorem d_Mo_plan_207 : decode b_Mo_plan 207 = .ok (.lstore 5, 2) := by decide +kernel
theorem d_Mo_plan_209 : decode b_Mo_plan 209 = .ok (.lload 7, 2) := by decide +kernel
theorem d_Mo_plan_211 : decode b_Mo_plan 211 = .ok (.aload_n 0, 1) := by decide +kernel
theorem d_Mo_plan_212 : decode b_Mo_plan 212 = .ok (.getfield 19, 3) := by decide +kernel
theorem d_Mo_plan_215 : decode b_Mo_plan 215 = .ok (.iload 12, 2) := by decide +kernel
theorem d_Mo_plan_217 : decode b_Mo_plan 217 = .ok (.laload, 1) := by decide +kernel
theorem d_Mo_plan_218 : decode b_Mo_plan 218 = .ok (.iload 10, 2) := by decide +kernel
theorem d_Mo_plan_220 : decode b_Mo_plan 220 = .ok (.i2l, 1) := by decide +kernel
theorem d_Mo_plan_221 : decode b_Mo_plan 221 = .ok (.lmul, 1) := by decide +kernel
theorem d_Mo_plan_222 : decode b_Mo_plan 222 = .ok (.ladd, 1) := by decide +kernel
theorem d_Mo_plan_223 : decode b_Mo_plan 223 = .ok (.lstore 7, 2) := by decide +kernel
theorem d_Mo_plan_225 : decode b_Mo_plan 225 = .ok (.iinc 12 1, 3) := by decide +kernel
theorem d_Mo_plan_228 : decode b_Mo_plan 228 = .ok (.goto (-89), 3) := by decide +kernel
theorem d_Mo_plan_231 : decode b_Mo_plan 231 = .ok (.iinc 10 1, 3) := by decide +kernel
theorem d_Mo_plan_234 : decode b_Mo_plan 234 = .ok (.goto (-158), 3) := by decide +kernel
theorem d_Mo_plan_237 : decode b_Mo_plan 237 = .ok (.aload_n 0, 1) := by decide +kernel
theorem d_Mo_plan_238 : decode b_Mo_plan 238 = .ok (.lload 5, 2) := by decide +kernel
theorem d_Mo_plan_240 : decode b_Mo_plan 240 = .ok (.putfield 117, 3) := by decide +kernel
theorem d_Mo_plan_243 : decode b_Mo_plan 243 = .ok (.lload 5, 2) := by decide +kernel
theorem d_Mo_plan_245 : decode b_Mo_plan 245 = .ok (.lconst 0, 1) := by decide +kernel
theorem d_Mo_plan_246 : decode b_Mo_plan 246 = .ok (.lcmp, 1) := by decide +kernel
theorem d_Mo_plan_247 : decode b_Mo_plan 247 = .ok (.ifCond .le 7, 3) := by decide +kernel
theorem d_Mo_plan_250 : decode b_Mo_plan 250 = .ok (.iconst (-1), 1) := by decide +kernel
theorem d_Mo_plan_251 : decode b_Mo_plan 251 = .ok (.goto 6, 3) := by decide +kernel
theorem d_Mo_plan_254 : decode b_Mo_plan 254 = .ok (.lload 7, 2) := by decide +kernel
theorem d_Mo_plan_256 : decode b_Mo_plan 256 = .ok (.l2i, 1) := by decide +kernel
theorem d_Mo_plan_257 : decode b_Mo_plan 257 = .ok (.ireturn, 1) := by decide +kernel
theorem d_Mo_short0_0 : decode b_Mo_short0 0 = .ok (.aload_n 0, 1) := by decide +kernel
theorem d_Mo_short0_1 : decode b_Mo_short0 1 = .ok (.iconst 0, 1) := by decide +kernel
theorem d_Mo_short0_2 : decode b_Mo_short0 2 = .ok (.putfield 26, 3) := by decide +kernel
theorem d_Mo_short0_5 : decode b_Mo_short0 5 = .ok (.aload_n 0, 1) := by decide +kernel
theorem d_Mo_short0_6 : decode b_Mo_short0 6 = .ok (.getfield 117, 3) := by decide +kernel
theorem d_Mo_short0_9 : decode b_Mo_short0 9 = .ok (.lreturn, 1) := by decide +kernel
theorem d_Mo_price_0 : decode b_Mo_price 0 = .ok (.aload_n 0, 1) := by decide +kernel
theorem d_Mo_price_1 : decode b_Mo_price 1 = .ok (.iconst 0, 1) := by decide +kernel
theorem d_Mo_price_2 : decode b_Mo_price 2 = .ok (.putfield 26, 3) := by decide +kernel
theorem d_Mo_price_5 : decode b_Mo_price 5 = .ok (.lload_n 1, 1) := by decide +kernel
theorem d_Mo_price_6 : decode b_Mo_price 6 = .ok (.lconst 0, 1) := by decide +kernel
theorem d_Mo_price_7 : decode b_Mo_price 7 = .ok (.lcmp, 1) := by decide +kernel
theorem d_Mo_price_8 : decode b_Mo_price 8 = .ok (.ifCond .lt 41, 3) := by decide +kernel
theorem d_Mo_price_11 : decode b_Mo_price 11 = .ok (.lload_n 1, 1) := by decide +kernel
theorem d_Mo_price_12 : decode b_Mo_price 12 = .ok (.ldc2_w 120, 3) := by decide +kernel
end
section
theorem d_Mo_price_15 : decode b_Mo_price 15 = .ok (.lcmp, 1) := by decide +kernel
theorem d_Mo_price_16 : decode b_Mo_price 16 = .ok (.ifCond .gt 33, 3) := by decide +kernel
theorem d_Mo_price_19 : decode b_Mo_price 19 = .ok (.lload_n 3, 1) := by decide +kernel
theorem d_Mo_price_20 : decode b_Mo_price 20 = .ok (.lload_n 1, 1) := by decide +kernel
theorem d_Mo_price_21 : decode b_Mo_price 21 = .ok (.lcmp, 1) := by decide +kernel
theorem d_Mo_price_22 : decode b_Mo_price 22 = .ok (.ifCond .le 27, 3) := by decide +kernel
theorem d_Mo_price_25 : decode b_Mo_price 25 = .ok (.lload_n 3, 1) := by decide +kernel
theorem d_Mo_price_26 : decode b_Mo_price 26 = .ok (.ldc2_w 111, 3) := by decide +kernel
theorem d_Mo_price_29 : decode b_Mo_price 29 = .ok (.lcmp, 1) := by decide +kernel
theorem d_Mo_price_30 : decode b_Mo_price 30 = .ok (.ifCond .gt 19, 3) := by decide +kernel
theorem d_Mo_price_33 : decode b_Mo_price 33 = .ok (.lload 5, 2) := by decide +kernel
theorem d_Mo_price_35 : decode b_Mo_price 35 = .ok (.lconst 0, 1) := by decide +kernel
theorem d_Mo_price_36 : decode b_Mo_price 36 = .ok (.lcmp, 1) := by decide +kernel
theorem d_Mo_price_37 : decode b_Mo_price 37 = .ok (.ifCond .lt 12, 3) := by decide +kernel
theorem d_Mo_price_40 : decode b_Mo_price 40 = .ok (.lload 5, 2) := by decide +kernel
theorem d_Mo_price_42 : decode b_Mo_price 42 = .ok (.ldc2_w 33, 3) := by decide +kernel
theorem d_Mo_price_45 : decode b_Mo_price 45 = .ok (.lcmp, 1) := by decide +kernel
theorem d_Mo_price_46 : decode b_Mo_price 46 = .ok (.ifCond .le 6, 3) := by decide +kernel
theorem d_Mo_price_49 : decode b_Mo_price 49 = .ok (.bipush (-2), 2) := by decide +kernel
theorem d_Mo_price_51 : decode b_Mo_price 51 = .ok (.ireturn, 1) := by decide +kernel
theorem d_Mo_price_52 : decode b_Mo_price 52 = .ok (.aload_n 0, 1) := by decide +kernel
theorem d_Mo_price_53 : decode b_Mo_price 53 = .ok (.getfield 108, 3) := by decide +kernel
theorem d_Mo_price_56 : decode b_Mo_price 56 = .ok (.bipush 20, 2) := by decide +kernel
theorem d_Mo_price_58 : decode b_Mo_price 58 = .ok (.if_icmp .ne 6, 3) := by decide +kernel
theorem d_Mo_price_61 : decode b_Mo_price 61 = .ok (.bipush (-4), 2) := by decide +kernel
theorem d_Mo_price_63 : decode b_Mo_price 63 = .ok (.ireturn, 1) := by decide +kernel
theorem d_Mo_price_64 : decode b_Mo_price 64 = .ok (.aload_n 0, 1) := by decide +kernel
theorem d_Mo_price_65 : decode b_Mo_price 65 = .ok (.getfield 7, 3) := by decide +kernel
theorem d_Mo_price_68 : decode b_Mo_price 68 = .ok (.aload_n 0, 1) := by decide +kernel
theorem d_Mo_price_69 : decode b_Mo_price 69 = .ok (.getfield 108, 3) := by decide +kernel
theorem d_Mo_price_72 : decode b_Mo_price 72 = .ok (.lload_n 1, 1) := by decide +kernel
theorem d_Mo_price_73 : decode b_Mo_price 73 = .ok (.l2i, 1) := by decide +kernel
theorem d_Mo_price_74 : decode b_Mo_price 74 = .ok (.iastore, 1) := by decide +kernel
theorem d_Mo_price_75 : decode b_Mo_price 75 = .ok (.aload_n 0, 1) := by decide +kernel
theorem d_Mo_price_76 : decode b_Mo_price 76 = .ok (.getfield 13, 3) := by decide +kernel
theorem d_Mo_price_79 : decode b_Mo_price 79 = .ok (.aload_n 0, 1) := by decide +kernel
theorem d_Mo_price_80 : decode b_Mo_price 80 = .ok (.getfield 108, 3) := by decide +kernel
theorem d_Mo_price_83 : decode b_Mo_price 83 = .ok (.lload_n 3, 1) := by decide +kernel
theorem d_Mo_price_84 : decode b_Mo_price 84 = .ok (.l2i, 1) := by decide +kernel
theorem d_Mo_price_85 : decode b_Mo_price 85 = .ok (.iastore, 1) := by decide +kernel
theorem d_Mo_price_86 : decode b_Mo_price 86 = .ok (.aload_n 0, 1) := by decide +kernel
theorem d_Mo_price_87 : decode b_Mo_price 87 = .ok (.getfield 16, 3) := by decide +kernel
theorem d_Mo_price_90 : decode b_Mo_price 90 = .ok (.aload_n 0, 1) := by decide +kernel
theorem d_Mo_price_91 : decode b_Mo_price 91 = .ok (.getfield 108, 3) := by decide +kernel
theorem d_Mo_price_94 : decode b_Mo_price 94 = .ok (.lload 5, 2) := by decide +kernel
theorem d_Mo_price_96 : decode b_Mo_price 96 = .ok (.l2i, 1) := by decide +kernel
theorem d_Mo_price_97 : decode b_Mo_price 97 = .ok (.iastore, 1) := by decide +kernel
theorem d_Mo_price_98 : decode b_Mo_price 98 = .ok (.aload_n 0, 1) := by decide +kernel
theorem d_Mo_price_99 : decode b_Mo_price 99 = .ok (.dup, 1) := by decide +kernel
theorem d_Mo_price_100 : decode b_Mo_price 100 = .ok (.getfield 108, 3) := by decide +kernel
theorem d_Mo_price_103 : decode b_Mo_price 103 = .ok (.iconst 1, 1) := by decide +kernel
theorem d_Mo_price_104 : decode b_Mo_price 104 = .ok (.iadd, 1) := by decide +kernel
theorem d_Mo_price_105 : decode b_Mo_price 105 = .ok (.putfield 108, 3) := by decide +kernel
theorem d_Mo_price_108 : decode b_Mo_price 108 = .ok (.aload_n 0, 1) := by decide +kernel
theorem d_Mo_price_109 : decode b_Mo_price 109 = .ok (.getfield 108, 3) := by decide +kernel
theorem d_Mo_price_112 : decode b_Mo_price 112 = .ok (.ireturn, 1) := by decide +kernel
theorem d_Mo_planned_0 : decode b_Mo_planned 0 = .ok (.aload_n 0, 1) := by decide +kernel
theorem d_Mo_planned_1 : decode b_Mo_planned 1 = .ok (.iconst 0, 1) := by decide +kernel
theorem d_Mo_planned_2 : decode b_Mo_planned 2 = .ok (.putfield 26, 3) := by decide +kernel
theorem d_Mo_planned_5 : decode b_Mo_planned 5 = .ok (.lload_n 1, 1) := by decide +kernel
theorem d_Mo_planned_6 : decode b_Mo_planned 6 = .ok (.lconst 0, 1) := by decide +kernel
theorem d_Mo_planned_7 : decode b_Mo_planned 7 = .ok (.lcmp, 1) := by decide +kernel
theorem d_Mo_planned_8 : decode b_Mo_planned 8 = .ok (.ifCond .lt 11, 3) := by decide +kernel
theorem d_Mo_planned_11 : decode b_Mo_planned 11 = .ok (.lload_n 1, 1) := by decide +kernel
theorem d_Mo_planned_12 : decode b_Mo_planned 12 = .ok (.ldc2_w 120, 3) := by decide +kernel
theorem d_Mo_planned_15 : decode b_Mo_planned 15 = .ok (.lcmp, 1) := by decide +kernel
theorem d_Mo_planned_16 : decode b_Mo_planned 16 = .ok (.ifCond .le 7, 3) := by decide +kernel
theorem d_Mo_planned_19 : decode b_Mo_planned 19 = .ok (.lconst 0, 1) := by decide +kernel
theorem d_Mo_planned_20 : decode b_Mo_planned 20 = .ok (.goto 10, 3) := by decide +kernel
theorem d_Mo_planned_23 : decode b_Mo_planned 23 = .ok (.aload_n 0, 1) := by decide +kernel
theorem d_Mo_planned_24 : decode b_Mo_planned 24 = .ok (.getfield 19, 3) := by decide +kernel
theorem d_Mo_planned_27 : decode b_Mo_planned 27 = .ok (.lload_n 1, 1) := by decide +kernel
theorem d_Mo_planned_28 : decode b_Mo_planned 28 = .ok (.l2i, 1) := by decide +kernel
theorem d_Mo_planned_29 : decode b_Mo_planned 29 = .ok (.laload, 1) := by decide +kernel
theorem d_Mo_planned_30 : decode b_Mo_planned 30 = .ok (.lreturn, 1) := by decide +kernel
theorem d_Mo_stop_0 : decode b_Mo_stop 0 = .ok (.aload_n 0, 1) := by decide +kernel
theorem d_Mo_stop_1 : decode b_Mo_stop 1 = .ok (.iconst 0, 1) := by decide +kernel
theorem d_Mo_stop_2 : decode b_Mo_stop 2 = .ok (.putfield 26, 3) := by decide +kernel
theorem d_Mo_stop_5 : decode b_Mo_stop 5 = .ok (.iload_n 1, 1) := by decide +kernel
theorem d_Mo_stop_6 : decode b_Mo_stop 6 = .ok (.ifCond .lt 8, 3) := by decide +kernel
theorem d_Mo_stop_9 : decode b_Mo_stop 9 = .ok (.iload_n 1, 1) := by decide +kernel
theorem d_Mo_stop_10 : decode b_Mo_stop 10 = .ok (.iconst 1, 1) := by decide +kernel
theorem d_Mo_stop_11 : decode b_Mo_stop 11 = .ok (.if_icmp .le 5, 3) := by decide +kernel
theorem d_Mo_stop_14 : decode b_Mo_stop 14 = .ok (.iconst (-1), 1) := by decide +kernel
theorem d_Mo_stop_15 : decode b_Mo_stop 15 = .ok (.ireturn, 1) := by decide +kernel
theorem d_Mo_stop_16 : decode b_Mo_stop 16 = .ok (.aload_n 0, 1) := by decide +kernel
theorem d_Mo_stop_17 : decode b_Mo_stop 17 = .ok (.lload_n 2, 1) := by decide +kernel
theorem d_Mo_stop_18 : decode b_Mo_stop 18 = .ok (.invokevirtual 87, 3) := by decide +kernel
theorem d_Mo_stop_21 : decode b_Mo_stop 21 = .ok (.ifCond .ne 6, 3) := by decide +kernel
theorem d_Mo_stop_24 : decode b_Mo_stop 24 = .ok (.bipush (-2), 2) := by decide +kernel
theorem d_Mo_stop_26 : decode b_Mo_stop 26 = .ok (.ireturn, 1) := by decide +kernel
theorem d_Mo_stop_27 : decode b_Mo_stop 27 = .ok (.aload_n 0, 1) := by decide +kernel
theorem d_Mo_stop_28 : decode b_Mo_stop 28 = .ok (.getfield 52, 3) := by decide +kernel
theorem d_Mo_stop_31 : decode b_Mo_stop 31 = .ok (.bipush 7, 2) := by decide +kernel
theorem d_Mo_stop_33 : decode b_Mo_stop 33 = .ok (.if_icmp .eq 6, 3) := by decide +kernel
theorem d_Mo_stop_36 : decode b_Mo_stop 36 = .ok (.bipush (-3), 2) := by decide +kernel
theorem d_Mo_stop_38 : decode b_Mo_stop 38 = .ok (.ireturn, 1) := by decide +kernel
theorem d_Mo_stop_39 : decode b_Mo_stop 39 = .ok (.aload_n 0, 1) := by decide +kernel
theorem d_Mo_stop_40 : decode b_Mo_stop 40 = .ok (.lload_n 2, 1) := by decide +kernel
theorem d_Mo_stop_41 : decode b_Mo_stop 41 = .ok (.putfield 59, 3) := by decide +kernel
theorem d_Mo_stop_44 : decode b_Mo_stop 44 = .ok (.aload_n 0, 1) := by decide +kernel
theorem d_Mo_stop_45 : decode b_Mo_stop 45 = .ok (.iload_n 1, 1) := by decide +kernel
theorem d_Mo_stop_46 : decode b_Mo_stop 46 = .ok (.ifCond .ne 8, 3) := by decide +kernel
theorem d_Mo_stop_49 : decode b_Mo_stop 49 = .ok (.bipush 8, 2) := by decide +kernel
theorem d_Mo_stop_51 : decode b_Mo_stop 51 = .ok (.goto 4, 3) := by decide +kernel
theorem d_Mo_stop_54 : decode b_Mo_stop 54 = .ok (.iconst 0, 1) := by decide +kernel
theorem d_Mo_stop_55 : decode b_Mo_stop 55 = .ok (.putfield 52, 3) := by decide +kernel
theorem d_Mo_stop_58 : decode b_Mo_stop 58 = .ok (.ldc2_w 33, 3) := by decide +kernel
theorem d_Mo_stop_61 : decode b_Mo_stop 61 = .ok (.aload_n 0, 1) := by decide +kernel
theorem d_Mo_stop_62 : decode b_Mo_stop 62 = .ok (.getfield 98, 3) := by decide +kernel
theorem d_Mo_stop_65 : decode b_Mo_stop 65 = .ok (.ldc2_w 122, 3) := by decide +kernel
theorem d_Mo_stop_68 : decode b_Mo_stop 68 = .ok (.ldiv, 1) := by decide +kernel
theorem d_Mo_stop_69 : decode b_Mo_stop 69 = .ok (.lmul, 1) := by decide +kernel
theorem d_Mo_stop_70 : decode b_Mo_stop 70 = .ok (.lstore 4, 2) := by decide +kernel
theorem d_Mo_stop_72 : decode b_Mo_stop 72 = .ok (.iload_n 1, 1) := by decide +kernel
theorem d_Mo_stop_73 : decode b_Mo_stop 73 = .ok (.iconst 1, 1) := by decide +kernel
theorem d_Mo_stop_74 : decode b_Mo_stop 74 = .ok (.if_icmp .eq 12, 3) := by decide +kernel
theorem d_Mo_stop_77 : decode b_Mo_stop 77 = .ok (.lload 4, 2) := by decide +kernel
theorem d_Mo_stop_79 : decode b_Mo_stop 79 = .ok (.ldc2_w 69, 3) := by decide +kernel
theorem d_Mo_stop_82 : decode b_Mo_stop 82 = .ok (.lcmp, 1) := by decide +kernel
theorem d_Mo_stop_83 : decode b_Mo_stop 83 = .ok (.ifCond .ge 9, 3) := by decide +kernel
theorem d_Mo_stop_86 : decode b_Mo_stop 86 = .ok (.sipush 5000, 3) := by decide +kernel
theorem d_Mo_stop_89 : decode b_Mo_stop 89 = .ok (.goto 6, 3) := by decide +kernel
theorem d_Mo_stop_92 : decode b_Mo_stop 92 = .ok (.lload 4, 2) := by decide +kernel
theorem d_Mo_stop_94 : decode b_Mo_stop 94 = .ok (.l2i, 1) := by decide +kernel
theorem d_Mo_stop_95 : decode b_Mo_stop 95 = .ok (.ireturn, 1) := by decide +kernel
theorem d_Mo_car_0 : decode b_Mo_car 0 = .ok (.aload_n 0, 1) := by decide +kernel
theorem d_Mo_car_1 : decode b_Mo_car 1 = .ok (.iconst 0, 1) := by decide +kernel
theorem d_Mo_car_2 : decode b_Mo_car 2 = .ok (.putfield 26, 3) := by decide +kernel
theorem d_Mo_car_5 : decode b_Mo_car 5 = .ok (.iload_n 1, 1) := by decide +kernel
theorem d_Mo_car_6 : decode b_Mo_car 6 = .ok (.ifCond .lt 10, 3) := by decide +kernel
theorem d_Mo_car_9 : decode b_Mo_car 9 = .ok (.iload_n 1, 1) := by decide +kernel
theorem d_Mo_car_10 : decode b_Mo_car 10 = .ok (.sipush 1000, 3) := by decide +kernel
theorem d_Mo_car_13 : decode b_Mo_car 13 = .ok (.if_icmp .le 6, 3) := by decide +kernel
theorem d_Mo_car_16 : decode b_Mo_car 16 = .ok (.bipush (-2), 2) := by decide +kernel
theorem d_Mo_car_18 : decode b_Mo_car 18 = .ok (.ireturn, 1) := by decide +kernel
theorem d_Mo_car_19 : decode b_Mo_car 19 = .ok (.aload_n 0, 1) := by decide +kernel
theorem d_Mo_car_20 : decode b_Mo_car 20 = .ok (.getfield 124, 3) := by decide +kernel
theorem d_Mo_car_23 : decode b_Mo_car 23 = .ok (.bipush 10, 2) := by decide +kernel
theorem d_Mo_car_25 : decode b_Mo_car 25 = .ok (.if_icmp .ne 6, 3) := by decide +kernel
theorem d_Mo_car_28 : decode b_Mo_car 28 = .ok (.bipush (-4), 2) := by decide +kernel
theorem d_Mo_car_30 : decode b_Mo_car 30 = .ok (.ireturn, 1) := by decide +kernel
theorem d_Mo_car_31 : decode b_Mo_car 31 = .ok (.aload_n 0, 1) := by decide +kernel
theorem d_Mo_car_32 : decode b_Mo_car 32 = .ok (.dup, 1) := by decide +kernel
theorem d_Mo_car_33 : decode b_Mo_car 33 = .ok (.getfield 124, 3) := by decide +kernel
theorem d_Mo_car_36 : decode b_Mo_car 36 = .ok (.iconst 1, 1) := by decide +kernel
theorem d_Mo_car_37 : decode b_Mo_car 37 = .ok (.iadd, 1) := by decide +kernel
theorem d_Mo_car_38 : decode b_Mo_car 38 = .ok (.putfield 124, 3) := by decide +kernel
theorem d_Mo_car_41 : decode b_Mo_car 41 = .ok (.aload_n 0, 1) := by decide +kernel
theorem d_Mo_car_42 : decode b_Mo_car 42 = .ok (.getfield 23, 3) := by decide +kernel
theorem d_Mo_car_45 : decode b_Mo_car 45 = .ok (.aload_n 0, 1) := by decide +kernel
theorem d_Mo_car_46 : decode b_Mo_car 46 = .ok (.getfield 124, 3) := by decide +kernel
theorem d_Mo_car_49 : decode b_Mo_car 49 = .ok (.iload_n 1, 1) := by decide +kernel
theorem d_Mo_car_50 : decode b_Mo_car 50 = .ok (.iastore, 1) := by decide +kernel
theorem d_Mo_car_51 : decode b_Mo_car 51 = .ok (.aload_n 0, 1) := by decide +kernel
theorem d_Mo_car_52 : decode b_Mo_car 52 = .ok (.getfield 124, 3) := by decide +kernel
theorem d_Mo_car_55 : decode b_Mo_car 55 = .ok (.ireturn, 1) := by decide +kernel
theorem d_Mo_share_0 : decode b_Mo_share 0 = .ok (.aload_n 0, 1) := by decide +kernel
theorem d_Mo_share_1 : decode b_Mo_share 1 = .ok (.iconst 0, 1) := by decide +kernel
theorem d_Mo_share_2 : decode b_Mo_share 2 = .ok (.putfield 26, 3) := by decide +kernel
end
section
theorem d_Mo_share_5 : decode b_Mo_share 5 = .ok (.iload_n 1, 1) := by decide +kernel
theorem d_Mo_share_6 : decode b_Mo_share 6 = .ok (.iconst 1, 1) := by decide +kernel
theorem d_Mo_share_7 : decode b_Mo_share 7 = .ok (.if_icmp .lt 11, 3) := by decide +kernel
theorem d_Mo_share_10 : decode b_Mo_share 10 = .ok (.iload_n 1, 1) := by decide +kernel
theorem d_Mo_share_11 : decode b_Mo_share 11 = .ok (.aload_n 0, 1) := by decide +kernel
theorem d_Mo_share_12 : decode b_Mo_share 12 = .ok (.getfield 124, 3) := by decide +kernel
theorem d_Mo_share_15 : decode b_Mo_share 15 = .ok (.if_icmp .le 7, 3) := by decide +kernel
theorem d_Mo_share_18 : decode b_Mo_share 18 = .ok (.ldc2_w 127, 3) := by decide +kernel
theorem d_Mo_share_21 : decode b_Mo_share 21 = .ok (.lreturn, 1) := by decide +kernel
theorem d_Mo_share_22 : decode b_Mo_share 22 = .ok (.lload_n 2, 1) := by decide +kernel
theorem d_Mo_share_23 : decode b_Mo_share 23 = .ok (.lconst 0, 1) := by decide +kernel
theorem d_Mo_share_24 : decode b_Mo_share 24 = .ok (.lcmp, 1) := by decide +kernel
theorem d_Mo_share_25 : decode b_Mo_share 25 = .ok (.ifCond .lt 11, 3) := by decide +kernel
theorem d_Mo_share_28 : decode b_Mo_share 28 = .ok (.lload_n 2, 1) := by decide +kernel
theorem d_Mo_share_29 : decode b_Mo_share 29 = .ok (.ldc2_w 129, 3) := by decide +kernel
theorem d_Mo_share_32 : decode b_Mo_share 32 = .ok (.lcmp, 1) := by decide +kernel
theorem d_Mo_share_33 : decode b_Mo_share 33 = .ok (.ifCond .le 7, 3) := by decide +kernel
theorem d_Mo_share_36 : decode b_Mo_share 36 = .ok (.ldc2_w 131, 3) := by decide +kernel
theorem d_Mo_share_39 : decode b_Mo_share 39 = .ok (.lreturn, 1) := by decide +kernel
theorem d_Mo_share_40 : decode b_Mo_share 40 = .ok (.lconst 0, 1) := by decide +kernel
theorem d_Mo_share_41 : decode b_Mo_share 41 = .ok (.lstore 5, 2) := by decide +kernel
theorem d_Mo_share_43 : decode b_Mo_share 43 = .ok (.iconst 1, 1) := by decide +kernel
theorem d_Mo_share_44 : decode b_Mo_share 44 = .ok (.istore 7, 2) := by decide +kernel
theorem d_Mo_share_46 : decode b_Mo_share 46 = .ok (.iload 7, 2) := by decide +kernel
theorem d_Mo_share_48 : decode b_Mo_share 48 = .ok (.aload_n 0, 1) := by decide +kernel
theorem d_Mo_share_49 : decode b_Mo_share 49 = .ok (.getfield 124, 3) := by decide +kernel
theorem d_Mo_share_52 : decode b_Mo_share 52 = .ok (.if_icmp .gt 22, 3) := by decide +kernel
theorem d_Mo_share_55 : decode b_Mo_share 55 = .ok (.lload 5, 2) := by decide +kernel
theorem d_Mo_share_57 : decode b_Mo_share 57 = .ok (.aload_n 0, 1) := by decide +kernel
theorem d_Mo_share_58 : decode b_Mo_share 58 = .ok (.getfield 23, 3) := by decide +kernel
theorem d_Mo_share_61 : decode b_Mo_share 61 = .ok (.iload 7, 2) := by decide +kernel
theorem d_Mo_share_63 : decode b_Mo_share 63 = .ok (.iaload, 1) := by decide +kernel
theorem d_Mo_share_64 : decode b_Mo_share 64 = .ok (.i2l, 1) := by decide +kernel
theorem d_Mo_share_65 : decode b_Mo_share 65 = .ok (.ladd, 1) := by decide +kernel
theorem d_Mo_share_66 : decode b_Mo_share 66 = .ok (.lstore 5, 2) := by decide +kernel
theorem d_Mo_share_68 : decode b_Mo_share 68 = .ok (.iinc 7 1, 3) := by decide +kernel
theorem d_Mo_share_71 : decode b_Mo_share 71 = .ok (.goto (-25), 3) := by decide +kernel
theorem d_Mo_share_74 : decode b_Mo_share 74 = .ok (.aload_n 0, 1) := by decide +kernel
theorem d_Mo_share_75 : decode b_Mo_share 75 = .ok (.lload 5, 2) := by decide +kernel
theorem d_Mo_share_77 : decode b_Mo_share 77 = .ok (.lconst 0, 1) := by decide +kernel
theorem d_Mo_share_78 : decode b_Mo_share 78 = .ok (.lcmp, 1) := by decide +kernel
theorem d_Mo_share_79 : decode b_Mo_share 79 = .ok (.ifCond .ne 7, 3) := by decide +kernel
theorem d_Mo_share_82 : decode b_Mo_share 82 = .ok (.iconst 1, 1) := by decide +kernel
theorem d_Mo_share_83 : decode b_Mo_share 83 = .ok (.goto 4, 3) := by decide +kernel
theorem d_Mo_share_86 : decode b_Mo_share 86 = .ok (.iconst 0, 1) := by decide +kernel
theorem d_Mo_share_87 : decode b_Mo_share 87 = .ok (.putfield 26, 3) := by decide +kernel
theorem d_Mo_share_90 : decode b_Mo_share 90 = .ok (.aload_n 0, 1) := by decide +kernel
theorem d_Mo_share_91 : decode b_Mo_share 91 = .ok (.getfield 26, 3) := by decide +kernel
theorem d_Mo_share_94 : decode b_Mo_share 94 = .ok (.ifCond .le 5, 3) := by decide +kernel
theorem d_Mo_share_97 : decode b_Mo_share 97 = .ok (.lconst 0, 1) := by decide +kernel
theorem d_Mo_share_98 : decode b_Mo_share 98 = .ok (.lreturn, 1) := by decide +kernel
theorem d_Mo_share_99 : decode b_Mo_share 99 = .ok (.lload_n 2, 1) := by decide +kernel
theorem d_Mo_share_100 : decode b_Mo_share 100 = .ok (.aload_n 0, 1) := by decide +kernel
theorem d_Mo_share_101 : decode b_Mo_share 101 = .ok (.getfield 23, 3) := by decide +kernel
theorem d_Mo_share_104 : decode b_Mo_share 104 = .ok (.iload_n 1, 1) := by decide +kernel
theorem d_Mo_share_105 : decode b_Mo_share 105 = .ok (.iaload, 1) := by decide +kernel
theorem d_Mo_share_106 : decode b_Mo_share 106 = .ok (.i2l, 1) := by decide +kernel
theorem d_Mo_share_107 : decode b_Mo_share 107 = .ok (.lmul, 1) := by decide +kernel
theorem d_Mo_share_108 : decode b_Mo_share 108 = .ok (.lstore 7, 2) := by decide +kernel
theorem d_Mo_share_110 : decode b_Mo_share 110 = .ok (.lload 5, 2) := by decide +kernel
theorem d_Mo_share_112 : decode b_Mo_share 112 = .ok (.lstore 9, 2) := by decide +kernel
theorem d_Mo_share_114 : decode b_Mo_share 114 = .ok (.lload 7, 2) := by decide +kernel
theorem d_Mo_share_116 : decode b_Mo_share 116 = .ok (.lstore 11, 2) := by decide +kernel
theorem d_Mo_share_118 : decode b_Mo_share 118 = .ok (.lload 11, 2) := by decide +kernel
theorem d_Mo_share_120 : decode b_Mo_share 120 = .ok (.lconst 0, 1) := by decide +kernel
theorem d_Mo_share_121 : decode b_Mo_share 121 = .ok (.lcmp, 1) := by decide +kernel
theorem d_Mo_share_122 : decode b_Mo_share 122 = .ok (.ifCond .le 21, 3) := by decide +kernel
theorem d_Mo_share_125 : decode b_Mo_share 125 = .ok (.lload 9, 2) := by decide +kernel
theorem d_Mo_share_127 : decode b_Mo_share 127 = .ok (.lload 11, 2) := by decide +kernel
theorem d_Mo_share_129 : decode b_Mo_share 129 = .ok (.lrem, 1) := by decide +kernel
theorem d_Mo_share_130 : decode b_Mo_share 130 = .ok (.lstore 13, 2) := by decide +kernel
theorem d_Mo_share_132 : decode b_Mo_share 132 = .ok (.lload 11, 2) := by decide +kernel
theorem d_Mo_share_134 : decode b_Mo_share 134 = .ok (.lstore 9, 2) := by decide +kernel
theorem d_Mo_share_136 : decode b_Mo_share 136 = .ok (.lload 13, 2) := by decide +kernel
theorem d_Mo_share_138 : decode b_Mo_share 138 = .ok (.lstore 11, 2) := by decide +kernel
theorem d_Mo_share_140 : decode b_Mo_share 140 = .ok (.goto (-22), 3) := by decide +kernel
theorem d_Mo_share_143 : decode b_Mo_share 143 = .ok (.iload 4, 2) := by decide +kernel
theorem d_Mo_share_145 : decode b_Mo_share 145 = .ok (.ifCond .ne 11, 3) := by decide +kernel
theorem d_Mo_share_148 : decode b_Mo_share 148 = .ok (.lload 7, 2) := by decide +kernel
theorem d_Mo_share_150 : decode b_Mo_share 150 = .ok (.lload 9, 2) := by decide +kernel
theorem d_Mo_share_152 : decode b_Mo_share 152 = .ok (.ldiv, 1) := by decide +kernel
theorem d_Mo_share_153 : decode b_Mo_share 153 = .ok (.goto 8, 3) := by decide +kernel
theorem d_Mo_share_156 : decode b_Mo_share 156 = .ok (.lload 5, 2) := by decide +kernel
theorem d_Mo_share_158 : decode b_Mo_share 158 = .ok (.lload 9, 2) := by decide +kernel
theorem d_Mo_share_160 : decode b_Mo_share 160 = .ok (.ldiv, 1) := by decide +kernel
theorem d_Mo_share_161 : decode b_Mo_share 161 = .ok (.lreturn, 1) := by decide +kernel
theorem d_Mo_lost_0 : decode b_Mo_lost 0 = .ok (.aload_n 0, 1) := by decide +kernel
theorem d_Mo_lost_1 : decode b_Mo_lost 1 = .ok (.iconst 0, 1) := by decide +kernel
theorem d_Mo_lost_2 : decode b_Mo_lost 2 = .ok (.putfield 26, 3) := by decide +kernel
theorem d_Mo_lost_5 : decode b_Mo_lost 5 = .ok (.aload_n 0, 1) := by decide +kernel
theorem d_Mo_lost_6 : decode b_Mo_lost 6 = .ok (.lload_n 1, 1) := by decide +kernel
theorem d_Mo_lost_7 : decode b_Mo_lost 7 = .ok (.invokevirtual 87, 3) := by decide +kernel
theorem d_Mo_lost_10 : decode b_Mo_lost 10 = .ok (.ifCond .ne 6, 3) := by decide +kernel
theorem d_Mo_lost_13 : decode b_Mo_lost 13 = .ok (.bipush (-2), 2) := by decide +kernel
theorem d_Mo_lost_15 : decode b_Mo_lost 15 = .ok (.ireturn, 1) := by decide +kernel
theorem d_Mo_lost_16 : decode b_Mo_lost 16 = .ok (.aload_n 0, 1) := by decide +kernel
theorem d_Mo_lost_17 : decode b_Mo_lost 17 = .ok (.lload_n 1, 1) := by decide +kernel
theorem d_Mo_lost_18 : decode b_Mo_lost 18 = .ok (.putfield 59, 3) := by decide +kernel
theorem d_Mo_lost_21 : decode b_Mo_lost 21 = .ok (.aload_n 0, 1) := by decide +kernel
theorem d_Mo_lost_22 : decode b_Mo_lost 22 = .ok (.getfield 52, 3) := by decide +kernel
theorem d_Mo_lost_25 : decode b_Mo_lost 25 = .ok (.istore_n 3, 1) := by decide +kernel
theorem d_Mo_lost_26 : decode b_Mo_lost 26 = .ok (.aload_n 0, 1) := by decide +kernel
theorem d_Mo_lost_27 : decode b_Mo_lost 27 = .ok (.iconst 0, 1) := by decide +kernel
theorem d_Mo_lost_28 : decode b_Mo_lost 28 = .ok (.putfield 52, 3) := by decide +kernel
theorem d_Mo_lost_31 : decode b_Mo_lost 31 = .ok (.iload_n 3, 1) := by decide +kernel
theorem d_Mo_lost_32 : decode b_Mo_lost 32 = .ok (.ireturn, 1) := by decide +kernel
theorem d_Mo_state_0 : decode b_Mo_state 0 = .ok (.aload_n 0, 1) := by decide +kernel
theorem d_Mo_state_1 : decode b_Mo_state 1 = .ok (.iconst 0, 1) := by decide +kernel
theorem d_Mo_state_2 : decode b_Mo_state 2 = .ok (.putfield 26, 3) := by decide +kernel
theorem d_Mo_state_5 : decode b_Mo_state 5 = .ok (.aload_n 0, 1) := by decide +kernel
theorem d_Mo_state_6 : decode b_Mo_state 6 = .ok (.getfield 52, 3) := by decide +kernel
theorem d_Mo_state_9 : decode b_Mo_state 9 = .ok (.ireturn, 1) := by decide +kernel
end
section
set_option maxHeartbeats 4000000 in
set_option maxRecDepth 100000 in
theorem c_X_isWithin (l : Launch) (dC : Nat → ClassId) (dI : Nat → Nat → Nat) (sz : Nat) (p0 : Int64) (p1 : Int64) (p2 : Int64) : Met l y_X_isWithin w_X_isWithin ({ frames := 0, cells := 0, slots := 0, locals := 0 }) (cPre dC dI [.long p0, .long p1, .long p2] sz [] []) (va_Qi (fun (r : Int32) (u : Unit) => r = bi (p1 ≤ p0 ∧ p0 ≤ p2)) (fun (u : Unit) (t : State) => cB dC dI (va_A [] sz) [] [] t) (va_A [] sz)) 0 0 (va_A [] sz) := by
  refine Met.ofW (cc := b_X_isWithin) (maxL := 6) (ret := (some .boolean)) (by decide) rfl ?_
  intro p e s m args below meth c s₁ B hml hv
  obtain ⟨rfl, hsz, hN, hP, hK, hD0⟩ := hv
  have hx := B.exec
  have hb := B.bytes
  have hr := B.returns
  have hts := atoms_spec (ws := w_X_isWithin) B.pre
  have hB := big_of hts
  have hown : s.vm.findClass R_X = some m.cls := findClass_of_methodNamed B.named
  have hlocks := B.notSynchronized
  subst hsz
  have hD := hD0.self (sz := s.heap.size)
  generalize hAe : va_A [] s.heap.size = A at hD ⊢
  have hA : ∀ q : Nat, s.heap.size ≤ q → A q := fun q h => by rw [← hAe]; exact Or.inr h
  have hS : va_S A s.heap s.heap [] := va_S.rf
  have hP : va_P (dC, dI) classes [] s.heap := hP
  have hl := lv_entry ([.long p0, .long p1, .long p2]) (n := 6) (Nat.le_of_ble_eq_true rfl)
  rw [lg_entry_eq]
  generalize (lg_sl ([.long p0, .long p1, .long p2]) ++ List.replicate (6 - (lg_sl ([.long p0, .long p1, .long p2])).length) Slot.unset).toArray = ls at hl ⊢
  have hl : lv_has ls 6 [(0, .long p0), (2, .long p1), (4, .long p2)] := hl
  refine lv_lload_n hx hb d_X_isWithin_0 rfl (lv_at hl 0 rfl) ?_
  refine lv_lload_n hx hb d_X_isWithin_1 rfl (lv_at hl 1 rfl) ?_
  refine W.lcmp hx hb d_X_isWithin_2 ?_
  refine lv_if_lt (tgt := 17) hx hb d_X_isWithin_3 (by decide) (fun c_3 => ?_) (fun c_3 => ?_)
  · have c_3 := (lg_cmp_lt _ _).mp c_3
    refine lv_iconst (v := 0) hx hb d_X_isWithin_17 (by decide) ?_
    have hP9 := hP.sub (ws' := []) [] rfl
    have hD9 := hD.sub (ws' := []) [] (by decide) rfl
    have hK9 := hK.sub (tys' := []) [] rfl
    exact W.zret (v := 0) (ty := .boolean) hx hb hr (rfl) (fun t ht hW => ⟨⟨0, (), rfl, (bi_f (fun h => absurd h.1 (Int64.not_le.mpr c_3))).symm, by rw [ht]; exact hP9, va_K.moved hW.alike hK9, hD9⟩, hS.F ht⟩) hS.2.2 d_X_isWithin_18
  · have c_3 := mt (lg_cmp_lt _ _).mpr c_3
    refine lv_lload_n hx hb d_X_isWithin_6 rfl (lv_at hl 0 rfl) ?_
    refine lv_lload hx hb d_X_isWithin_7 (lv_at hl 2 rfl) ?_
    refine W.lcmp hx hb d_X_isWithin_9 ?_
    refine lv_if_gt (tgt := 17) hx hb d_X_isWithin_10 (by decide) (fun c_10 => ?_) (fun c_10 => ?_)
    · have c_10 := (lg_cmp_gt _ _).mp c_10
      refine lv_iconst (v := 0) hx hb d_X_isWithin_17 (by decide) ?_
      have hP9 := hP.sub (ws' := []) [] rfl
      have hD9 := hD.sub (ws' := []) [] (by decide) rfl
      have hK9 := hK.sub (tys' := []) [] rfl
      exact W.zret (v := 0) (ty := .boolean) hx hb hr (rfl) (fun t ht hW => ⟨⟨0, (), rfl, (bi_f (fun h => absurd h.2 (Int64.not_le.mpr c_10))).symm, by rw [ht]; exact hP9, va_K.moved hW.alike hK9, hD9⟩, hS.F ht⟩) hS.2.2 d_X_isWithin_18
    · have c_10 := mt (lg_cmp_gt _ _).mpr c_10
      refine lv_iconst (v := 1) hx hb d_X_isWithin_13 (by decide) ?_
      refine lv_goto (tgt := 18) hx hb d_X_isWithin_14 (by decide) ?_
      have hP9 := hP.sub (ws' := []) [] rfl
      have hD9 := hD.sub (ws' := []) [] (by decide) rfl
      have hK9 := hK.sub (tys' := []) [] rfl
      exact W.zret (v := 1) (ty := .boolean) hx hb hr (rfl) (fun t ht hW => ⟨⟨1, (), rfl, (bi_t ⟨Int64.not_lt.mp c_3, Int64.not_lt.mp c_10⟩).symm, by rw [ht]; exact hP9, va_K.moved hW.alike hK9, hD9⟩, hS.F ht⟩) hS.2.2 d_X_isWithin_18
end
section
set_option maxHeartbeats 4000000 in
set_option maxRecDepth 100000 in
theorem c_Ck_init (l : Launch) (dC : Nat → ClassId) (dI : Nat → Nat → Nat) (h0 : Nat) (sz : Nat) (told : Int64) : Met l y_Ck_init w_Ck_init ({ frames := 1, cells := 0, slots := 0, locals := 20 }) (cPre dC dI [.ref h0] sz [] [(h0, .inr (0, [.long told]))]) (va_Qv (fun (u : Int64) => True) (fun (u : Int64) (t : State) => cB dC dI (va_A [(h0, .inr (0, [.long told]))] sz) [] [(h0, .inr (0, [.long u]))] t) (va_A [(h0, .inr (0, [.long told]))] sz)) 0 0 (va_A [(h0, .inr (0, [.long told]))] sz) := by
  refine Met.ofW (cc := b_Ck_init) (maxL := 1) (ret := none) (by decide) rfl ?_
  intro p e s m args below meth c s₁ B hml hv
  obtain ⟨rfl, hsz, hN, hP, hK, hD0⟩ := hv
  have hx := B.exec
  have hb := B.bytes
  have hr := B.returns
  have hts := atoms_spec (ws := w_Ck_init) B.pre
  have hB := big_of hts
  have hown : s.vm.findClass R_Ck = some m.cls := findClass_of_methodNamed B.named
  have hlocks := B.notSynchronized
  have hin : meth.name = "<init>" := (name_of_methodNamed B.named B.method).1
  subst hsz
  have hD := hD0.self (sz := s.heap.size)
  generalize hAe : va_A [(h0, .inr (0, [.long told]))] s.heap.size = A at hD ⊢
  have hA : ∀ q : Nat, s.heap.size ≤ q → A q := fun q h => by rw [← hAe]; exact Or.inr h
  have hS : va_S A s.heap s.heap [] := va_S.rf
  have hP : va_P (dC, dI) classes [(h0, .inr (0, [.long told]))] s.heap := hP
  have hl := lv_entry ([.ref h0]) (n := 1) (Nat.le_of_ble_eq_true rfl)
  rw [lg_entry_eq]
  generalize (lg_sl ([.ref h0]) ++ List.replicate (1 - (lg_sl ([.ref h0])).length) Slot.unset).toArray = ls at hl ⊢
  have hl : lv_has ls 1 [(0, .ref h0)] := hl
  refine lv_aload_n hx hb d_Ck_init_0 rfl (lv_at hl 0 rfl) ?_
  refine W.objInit hx hb hown (hB _ kb_0) (hB _ kb_1) (hB _ kb_2) rfl (by rw [hml]; exact hl.1) rfl d_Ck_init_1 (Nat.le_of_ble_eq_true rfl) (Nat.le_of_ble_eq_true rfl) ?_
  refine W.eq (g2 := F0 m 4 ls []) rfl ?_
  refine lv_aload_n hx hb d_Ck_init_4 rfl (lv_at hl 0 rfl) ?_
  refine lv_ldc2 (v := (-9223372036854775808)) hx hb hown (hB _ kb_3) d_Ck_init_5 ?_
  refine va_put (D := (dC, dI)) (ci := 0) (v := .long (-9223372036854775808)) (ty := .long) (C := R_Ck) (T := F_Ck) (N := 1) hx hb hB inC_Ck t_Ck t_Ck_ok n_Ck hown hK hP hD hS 0 rfl rfl 0 (by decide) (hB _ kb_4) (fun _ h9 => h9) rfl (by decide +kernel) rfl rfl (Nat.le_of_ble_eq_true rfl) d_Ck_init_8 (fun H locs hP hD hS => ?_)
  have hP : va_P (dC, dI) classes [(h0, .inr (0, [.long (-9223372036854775808)]))] H := hP
  have hD : va_D A [(h0, .inr (0, [.long (-9223372036854775808)]))] := hD
  have hP9 := hP.sub (ws' := [(h0, .inr (0, [.long (-9223372036854775808)]))]) [0] rfl
  have hD9 := hD.sub (ws' := [(h0, .inr (0, [.long (-9223372036854775808)]))]) [0] (by decide) rfl
  have hK9 := hK.sub (tys' := []) [] rfl
  exact W.vret hx hb hr (fun t ht hW => ⟨⟨((-9223372036854775808)), rfl, trivial, by rw [ht]; exact hP9, va_K.moved hW.alike hK9, hD9⟩, hS.F ht⟩) hS.2.2 d_Ck_init_11
set_option maxHeartbeats 4000000 in
set_option maxRecDepth 100000 in
theorem c_Ck_canTell (l : Launch) (dC : Nat → ClassId) (dI : Nat → Nat → Nat) (h0 : Nat) (sz : Nat) (told : Int64) (p0 : Int64) : Met l y_Ck_canTell w_Ck_canTell ({ frames := 1, cells := 0, slots := 0, locals := 25 }) (cPre dC dI [.ref h0, .long p0] sz [] [(h0, .inr (0, [.long told]))]) (va_Qi (fun (r : Int32) (u : Unit) => r = bi (told ≤ p0 ∧ p0 ≤ 1125899906842624)) (fun (u : Unit) (t : State) => cB dC dI (va_A [(h0, .inr (0, [.long told]))] sz) [] [(h0, .inr (0, [.long told]))] t) (va_A [(h0, .inr (0, [.long told]))] sz)) 0 0 (va_A [(h0, .inr (0, [.long told]))] sz) := by
  refine Met.ofW (cc := b_Ck_canTell) (maxL := 3) (ret := (some .boolean)) (by decide) rfl ?_
  intro p e s m args below meth c s₁ B hml hv
  obtain ⟨rfl, hsz, hN, hP, hK, hD0⟩ := hv
  have hx := B.exec
  have hb := B.bytes
  have hr := B.returns
  have hts := atoms_spec (ws := w_Ck_canTell) B.pre
  have hB := big_of hts
  have hown : s.vm.findClass R_Ck = some m.cls := findClass_of_methodNamed B.named
  have hlocks := B.notSynchronized
  subst hsz
  have hD := hD0.self (sz := s.heap.size)
  generalize hAe : va_A [(h0, .inr (0, [.long told]))] s.heap.size = A at hD ⊢
  have hA : ∀ q : Nat, s.heap.size ≤ q → A q := fun q h => by rw [← hAe]; exact Or.inr h
  have hS : va_S A s.heap s.heap [] := va_S.rf
  have hP : va_P (dC, dI) classes [(h0, .inr (0, [.long told]))] s.heap := hP
  have hl := lv_entry ([.ref h0, .long p0]) (n := 3) (Nat.le_of_ble_eq_true rfl)
  rw [lg_entry_eq]
  generalize (lg_sl ([.ref h0, .long p0]) ++ List.replicate (3 - (lg_sl ([.ref h0, .long p0])).length) Slot.unset).toArray = ls at hl ⊢
  have hl : lv_has ls 3 [(0, .ref h0), (1, .long p0)] := hl
  refine lv_lload_n hx hb d_Ck_canTell_0 rfl (lv_at hl 1 rfl) ?_
  refine lv_aload_n hx hb d_Ck_canTell_1 rfl (lv_at hl 0 rfl) ?_
  refine va_get (D := (dC, dI)) (ci := 0) (v := .long told) (C := R_Ck) (T := F_Ck) (N := 1) hx hb hB inC_Ck hown hK hP 0 rfl rfl 0 (by decide) (hB _ kb_4) (fun _ h9 => h9) rfl d_Ck_canTell_2 ?_
  refine lv_ldc2 (v := 1125899906842624) hx hb hown (hB _ kb_5) d_Ck_canTell_5 ?_
  refine kc_i (va_runSN (As := [.long p0, .long told, .long 1125899906842624]) (rest := []) ⟨hx, hb, hml, hown, hts⟩ (c_X_isWithin l dC dI  s.heap.size  p0 told 1125899906842624 ) ⟨va_cnB 3 hts (gin kb_6) rfl rfl rfl (hN _ kn_0) (hB _ kb_7) (by decide +kernel) ⟨Nat.le_of_ble_eq_true rfl, Nat.le_of_ble_eq_true rfl⟩, (hB _ kb_8), trivial⟩ (preS (wc := []) hK hN hP hD [] rfl rfl (by decide) [] rfl) rfl rfl hl.1 rfl (lv_room (Nat.le_of_ble_eq_true rfl)) d_Ck_canTell_8 ⟨Nat.le_of_ble_eq_true rfl, Nat.le_of_ble_eq_true rfl⟩) hP hD hS hA [] [0] (wr := [(h0, .inr (0, [.long told]))]) rfl rfl (by decide) (by decide) (fun r_8 u_8 H locs hw_8 hP hD hK1 hS => ?_)
  have hw_8 : r_8 = bi (told ≤ p0 ∧ p0 ≤ 1125899906842624) := hw_8
  have hP : va_P (dC, dI) classes [(h0, .inr (0, [.long told]))] H := hP
  have hD : va_D A [(h0, .inr (0, [.long told]))] := hD
  have hP9 := hP.sub (ws' := [(h0, .inr (0, [.long told]))]) [0] rfl
  have hD9 := hD.sub (ws' := [(h0, .inr (0, [.long told]))]) [0] (by decide) rfl
  have hK9 := hK.sub (tys' := []) [] rfl
  exact W.zret (v := r_8) (ty := .boolean) hx hb hr (nar_bi hw_8) (fun t ht hW => ⟨⟨r_8, (), rfl, hw_8, by rw [ht]; exact hP9, va_K.moved hW.alike hK9, hD9⟩, hS.F ht⟩) hS.2.2 d_Ck_canTell_11
set_option maxHeartbeats 4000000 in
set_option maxRecDepth 100000 in
theorem c_Ck_tell (l : Launch) (dC : Nat → ClassId) (dI : Nat → Nat → Nat) (h0 : Nat) (sz : Nat) (told : Int64) (p0 : Int64) : Met l y_Ck_tell w_Ck_tell ({ frames := 0, cells := 0, slots := 0, locals := 0 }) (cPre dC dI [.ref h0, .long p0] sz [] [(h0, .inr (0, [.long told]))]) (va_Qv (fun (u : Int64) => u = p0) (fun (u : Int64) (t : State) => cB dC dI (va_A [(h0, .inr (0, [.long told]))] sz) [] [(h0, .inr (0, [.long u]))] t) (va_A [(h0, .inr (0, [.long told]))] sz)) 0 0 (va_A [(h0, .inr (0, [.long told]))] sz) := by
  refine Met.ofW (cc := b_Ck_tell) (maxL := 3) (ret := none) (by decide) rfl ?_
  intro p e s m args below meth c s₁ B hml hv
  obtain ⟨rfl, hsz, hN, hP, hK, hD0⟩ := hv
  have hx := B.exec
  have hb := B.bytes
  have hr := B.returns
  have hts := atoms_spec (ws := w_Ck_tell) B.pre
  have hB := big_of hts
  have hown : s.vm.findClass R_Ck = some m.cls := findClass_of_methodNamed B.named
  have hlocks := B.notSynchronized
  subst hsz
  have hD := hD0.self (sz := s.heap.size)
  generalize hAe : va_A [(h0, .inr (0, [.long told]))] s.heap.size = A at hD ⊢
  have hA : ∀ q : Nat, s.heap.size ≤ q → A q := fun q h => by rw [← hAe]; exact Or.inr h
  have hS : va_S A s.heap s.heap [] := va_S.rf
  have hP : va_P (dC, dI) classes [(h0, .inr (0, [.long told]))] s.heap := hP
  have hl := lv_entry ([.ref h0, .long p0]) (n := 3) (Nat.le_of_ble_eq_true rfl)
  rw [lg_entry_eq]
  generalize (lg_sl ([.ref h0, .long p0]) ++ List.replicate (3 - (lg_sl ([.ref h0, .long p0])).length) Slot.unset).toArray = ls at hl ⊢
  have hl : lv_has ls 3 [(0, .ref h0), (1, .long p0)] := hl
  refine lv_aload_n hx hb d_Ck_tell_0 rfl (lv_at hl 0 rfl) ?_
  refine lv_lload_n hx hb d_Ck_tell_1 rfl (lv_at hl 1 rfl) ?_
  refine va_put (D := (dC, dI)) (ci := 0) (v := .long p0) (ty := .long) (C := R_Ck) (T := F_Ck) (N := 1) hx hb hB inC_Ck t_Ck t_Ck_ok n_Ck hown hK hP hD hS 0 rfl rfl 0 (by decide) (hB _ kb_4) (fun _ h9 => h9) rfl (by decide +kernel) rfl rfl (Nat.le_of_ble_eq_true rfl) d_Ck_tell_2 (fun H locs hP hD hS => ?_)
  have hP : va_P (dC, dI) classes [(h0, .inr (0, [.long p0]))] H := hP
  have hD : va_D A [(h0, .inr (0, [.long p0]))] := hD
  have hP9 := hP.sub (ws' := [(h0, .inr (0, [.long p0]))]) [0] rfl
  have hD9 := hD.sub (ws' := [(h0, .inr (0, [.long p0]))]) [0] (by decide) rfl
  have hK9 := hK.sub (tys' := []) [] rfl
  exact W.vret hx hb hr (fun t ht hW => ⟨⟨(p0), rfl, rfl, by rw [ht]; exact hP9, va_K.moved hW.alike hK9, hD9⟩, hS.F ht⟩) hS.2.2 d_Ck_tell_5
set_option maxHeartbeats 4000000 in
set_option maxRecDepth 100000 in
theorem c_Pi_init (l : Launch) (dC : Nat → ClassId) (dI : Nat → Nat → Nat) (h0 : Nat) (sz : Nat) (lv : Int32) (th : Int64) : Met l y_Pi_init w_Pi_init ({ frames := 1, cells := 0, slots := 0, locals := 20 }) (cPre dC dI [.ref h0] sz [] [(h0, .inr (1, [.int lv, .long th]))]) (va_Qv (fun (u : Int32 × Int64) => u.1 = 0 ∧ u.2 = 0) (fun (u : Int32 × Int64) (t : State) => cB dC dI (va_A [(h0, .inr (1, [.int lv, .long th]))] sz) [] [(h0, .inr (1, [.int u.1, .long u.2]))] t) (va_A [(h0, .inr (1, [.int lv, .long th]))] sz)) 0 0 (va_A [(h0, .inr (1, [.int lv, .long th]))] sz) := by
  refine Met.ofW (cc := b_Pi_init) (maxL := 1) (ret := none) (by decide) rfl ?_
  intro p e s m args below meth c s₁ B hml hv
  obtain ⟨rfl, hsz, hN, hP, hK, hD0⟩ := hv
  have hx := B.exec
  have hb := B.bytes
  have hr := B.returns
  have hts := atoms_spec (ws := w_Pi_init) B.pre
  have hB := big_of hts
  have hown : s.vm.findClass R_Pi = some m.cls := findClass_of_methodNamed B.named
  have hlocks := B.notSynchronized
  have hin : meth.name = "<init>" := (name_of_methodNamed B.named B.method).1
  subst hsz
  have hD := hD0.self (sz := s.heap.size)
  generalize hAe : va_A [(h0, .inr (1, [.int lv, .long th]))] s.heap.size = A at hD ⊢
  have hA : ∀ q : Nat, s.heap.size ≤ q → A q := fun q h => by rw [← hAe]; exact Or.inr h
  have hS : va_S A s.heap s.heap [] := va_S.rf
  have hP : va_P (dC, dI) classes [(h0, .inr (1, [.int lv, .long th]))] s.heap := hP
  have hl := lv_entry ([.ref h0]) (n := 1) (Nat.le_of_ble_eq_true rfl)
  rw [lg_entry_eq]
  generalize (lg_sl ([.ref h0]) ++ List.replicate (1 - (lg_sl ([.ref h0])).length) Slot.unset).toArray = ls at hl ⊢
  have hl : lv_has ls 1 [(0, .ref h0)] := hl
  refine lv_aload_n hx hb d_Pi_init_0 rfl (lv_at hl 0 rfl) ?_
  refine W.objInit hx hb hown (hB _ kb_9) (hB _ kb_1) (hB _ kb_2) rfl (by rw [hml]; exact hl.1) rfl d_Pi_init_1 (Nat.le_of_ble_eq_true rfl) (Nat.le_of_ble_eq_true rfl) ?_
  refine W.eq (g2 := F0 m 4 ls []) rfl ?_
  refine lv_aload_n hx hb d_Pi_init_4 rfl (lv_at hl 0 rfl) ?_
  refine lv_iconst (v := 0) hx hb d_Pi_init_5 (by decide) ?_
  refine va_put (D := (dC, dI)) (ci := 1) (v := .int 0) (ty := .int) (C := R_Pi) (T := F_Pi) (N := 2) hx hb hB inC_Pi t_Pi t_Pi_ok n_Pi hown hK hP hD hS 0 rfl rfl 0 (by decide) (hB _ kb_10) (fun _ h9 => h9) rfl (by decide +kernel) rfl rfl (Nat.le_of_ble_eq_true rfl) d_Pi_init_6 (fun H locs hP hD hS => ?_)
  have hP : va_P (dC, dI) classes [(h0, .inr (1, [.int 0, .long th]))] H := hP
  have hD : va_D A [(h0, .inr (1, [.int 0, .long th]))] := hD
  refine lv_aload_n hx hb d_Pi_init_9 rfl (lv_at hl 0 rfl) ?_
  refine lv_lconst (v := 0) hx hb d_Pi_init_10 (by decide) ?_
  refine va_put (D := (dC, dI)) (ci := 1) (v := .long 0) (ty := .long) (C := R_Pi) (T := F_Pi) (N := 2) hx hb hB inC_Pi t_Pi t_Pi_ok n_Pi hown hK hP hD hS 0 rfl rfl 1 (by decide) (hB _ kb_11) (fun _ h9 => h9) rfl (by decide +kernel) rfl rfl (Nat.le_of_ble_eq_true rfl) d_Pi_init_11 (fun H locs hP hD hS => ?_)
  have hP : va_P (dC, dI) classes [(h0, .inr (1, [.int 0, .long 0]))] H := hP
  have hD : va_D A [(h0, .inr (1, [.int 0, .long 0]))] := hD
  have hP9 := hP.sub (ws' := [(h0, .inr (1, [.int 0, .long 0]))]) [0] rfl
  have hD9 := hD.sub (ws' := [(h0, .inr (1, [.int 0, .long 0]))]) [0] (by decide) rfl
  have hK9 := hK.sub (tys' := []) [] rfl
  exact W.vret hx hb hr (fun t ht hW => ⟨⟨(0, 0), rfl, ⟨rfl, rfl⟩, by rw [ht]; exact hP9, va_K.moved hW.alike hK9, hD9⟩, hS.F ht⟩) hS.2.2 d_Pi_init_14
set_option maxHeartbeats 4000000 in
set_option maxRecDepth 100000 in
theorem c_Pi_levelOf (l : Launch) (dC : Nat → ClassId) (dI : Nat → Nat → Nat) (sz : Nat) (p0 : Int64) : Met l y_Pi_levelOf w_Pi_levelOf ({ frames := 0, cells := 0, slots := 0, locals := 0 }) (cPre dC dI [.long p0] sz [] []) (va_Qi (fun (r : Int32) (u : Unit) => r = lev p0) (fun (u : Unit) (t : State) => cB dC dI (va_A [] sz) [] [] t) (va_A [] sz)) 0 0 (va_A [] sz) := by
  refine Met.ofW (cc := b_Pi_levelOf) (maxL := 2) (ret := (some .int)) (by decide) rfl ?_
  intro p e s m args below meth c s₁ B hml hv
  obtain ⟨rfl, hsz, hN, hP, hK, hD0⟩ := hv
  have hx := B.exec
  have hb := B.bytes
  have hr := B.returns
  have hts := atoms_spec (ws := w_Pi_levelOf) B.pre
  have hB := big_of hts
  have hown : s.vm.findClass R_Pi = some m.cls := findClass_of_methodNamed B.named
  have hlocks := B.notSynchronized
  subst hsz
  have hD := hD0.self (sz := s.heap.size)
  generalize hAe : va_A [] s.heap.size = A at hD ⊢
  have hA : ∀ q : Nat, s.heap.size ≤ q → A q := fun q h => by rw [← hAe]; exact Or.inr h
  have hS : va_S A s.heap s.heap [] := va_S.rf
  have hP : va_P (dC, dI) classes [] s.heap := hP
  have hl := lv_entry ([.long p0]) (n := 2) (Nat.le_of_ble_eq_true rfl)
  rw [lg_entry_eq]
  generalize (lg_sl ([.long p0]) ++ List.replicate (2 - (lg_sl ([.long p0])).length) Slot.unset).toArray = ls at hl ⊢
  have hl : lv_has ls 2 [(0, .long p0)] := hl
  refine lv_lload_n hx hb d_Pi_levelOf_0 rfl (lv_at hl 0 rfl) ?_
  refine lv_ldc2 (v := 12) hx hb hown (hB _ kb_12) d_Pi_levelOf_1 ?_
  refine W.lcmp hx hb d_Pi_levelOf_4 ?_
  refine lv_if_ne (tgt := 10) hx hb d_Pi_levelOf_5 (by decide) (fun c_5 => ?_) (fun c_5 => ?_)
  · have c_5 := mt (lg_cmp_eq _ _).mpr c_5
    refine lv_lload_n hx hb d_Pi_levelOf_10 rfl (lv_at hl 0 rfl) ?_
    refine lv_ldc2 (v := 9) hx hb hown (hB _ kb_13) d_Pi_levelOf_11 ?_
    refine W.lcmp hx hb d_Pi_levelOf_14 ?_
    refine lv_if_ne (tgt := 20) hx hb d_Pi_levelOf_15 (by decide) (fun c_15 => ?_) (fun c_15 => ?_)
    · have c_15 := mt (lg_cmp_eq _ _).mpr c_15
      refine lv_lload_n hx hb d_Pi_levelOf_20 rfl (lv_at hl 0 rfl) ?_
      refine lv_ldc2 (v := 6) hx hb hown (hB _ kb_14) d_Pi_levelOf_21 ?_
      refine W.lcmp hx hb d_Pi_levelOf_24 ?_
      refine lv_if_ne (tgt := 30) hx hb d_Pi_levelOf_25 (by decide) (fun c_25 => ?_) (fun c_25 => ?_)
      · have c_25 := mt (lg_cmp_eq _ _).mpr c_25
        refine lv_lload_n hx hb d_Pi_levelOf_30 rfl (lv_at hl 0 rfl) ?_
        refine lv_ldc2 (v := 3) hx hb hown (hB _ kb_15) d_Pi_levelOf_31 ?_
        refine W.lcmp hx hb d_Pi_levelOf_34 ?_
        refine lv_if_ne (tgt := 40) hx hb d_Pi_levelOf_35 (by decide) (fun c_35 => ?_) (fun c_35 => ?_)
        · have c_35 := mt (lg_cmp_eq _ _).mpr c_35
          refine lv_lload_n hx hb d_Pi_levelOf_40 rfl (lv_at hl 0 rfl) ?_
          refine lv_lconst (v := 0) hx hb d_Pi_levelOf_41 (by decide) ?_
          refine W.lcmp hx hb d_Pi_levelOf_42 ?_
          refine lv_if_ne (tgt := 48) hx hb d_Pi_levelOf_43 (by decide) (fun c_43 => ?_) (fun c_43 => ?_)
          · have c_43 := mt (lg_cmp_eq _ _).mpr c_43
            refine lv_lload_n hx hb d_Pi_levelOf_48 rfl (lv_at hl 0 rfl) ?_
            refine lv_ldc2 (v := (-12)) hx hb hown (hB _ kb_16) d_Pi_levelOf_49 ?_
            refine W.lcmp hx hb d_Pi_levelOf_52 ?_
            refine lv_if_ne (tgt := 60) hx hb d_Pi_levelOf_53 (by decide) (fun c_53 => ?_) (fun c_53 => ?_)
            · have c_53 := mt (lg_cmp_eq _ _).mpr c_53
              refine lv_bipush (v := 6) hx hb d_Pi_levelOf_60 (by decide) ?_
              have hP9 := hP.sub (ws' := []) [] rfl
              have hD9 := hD.sub (ws' := []) [] (by decide) rfl
              have hK9 := hK.sub (tys' := []) [] rfl
              exact W.iret (v := 6) hx hb hr (fun t ht hW => ⟨⟨6, (), rfl, by rw [lev, if_neg c_5, if_neg c_15, if_neg c_25, if_neg c_35, if_neg c_43, if_neg c_53], by rw [ht]; exact hP9, va_K.moved hW.alike hK9, hD9⟩, hS.F ht⟩) hS.2.2 d_Pi_levelOf_62
            · have c_53 := (lg_cmp_eq _ _).mp c_53
              refine lv_iconst (v := 5) hx hb d_Pi_levelOf_56 (by decide) ?_
              refine lv_goto (tgt := 62) hx hb d_Pi_levelOf_57 (by decide) ?_
              have hP9 := hP.sub (ws' := []) [] rfl
              have hD9 := hD.sub (ws' := []) [] (by decide) rfl
              have hK9 := hK.sub (tys' := []) [] rfl
              exact W.iret (v := 5) hx hb hr (fun t ht hW => ⟨⟨5, (), rfl, by rw [lev, if_neg c_5, if_neg c_15, if_neg c_25, if_neg c_35, if_neg c_43, if_pos c_53], by rw [ht]; exact hP9, va_K.moved hW.alike hK9, hD9⟩, hS.F ht⟩) hS.2.2 d_Pi_levelOf_62
          · have c_43 := (lg_cmp_eq _ _).mp c_43
            refine lv_iconst (v := 4) hx hb d_Pi_levelOf_46 (by decide) ?_
            have hP9 := hP.sub (ws' := []) [] rfl
            have hD9 := hD.sub (ws' := []) [] (by decide) rfl
            have hK9 := hK.sub (tys' := []) [] rfl
            exact W.iret (v := 4) hx hb hr (fun t ht hW => ⟨⟨4, (), rfl, by rw [lev, if_neg c_5, if_neg c_15, if_neg c_25, if_neg c_35, if_pos c_43], by rw [ht]; exact hP9, va_K.moved hW.alike hK9, hD9⟩, hS.F ht⟩) hS.2.2 d_Pi_levelOf_47
        · have c_35 := (lg_cmp_eq _ _).mp c_35
          refine lv_iconst (v := 3) hx hb d_Pi_levelOf_38 (by decide) ?_
          have hP9 := hP.sub (ws' := []) [] rfl
          have hD9 := hD.sub (ws' := []) [] (by decide) rfl
          have hK9 := hK.sub (tys' := []) [] rfl
          exact W.iret (v := 3) hx hb hr (fun t ht hW => ⟨⟨3, (), rfl, by rw [lev, if_neg c_5, if_neg c_15, if_neg c_25, if_pos c_35], by rw [ht]; exact hP9, va_K.moved hW.alike hK9, hD9⟩, hS.F ht⟩) hS.2.2 d_Pi_levelOf_39
      · have c_25 := (lg_cmp_eq _ _).mp c_25
        refine lv_iconst (v := 2) hx hb d_Pi_levelOf_28 (by decide) ?_
        have hP9 := hP.sub (ws' := []) [] rfl
        have hD9 := hD.sub (ws' := []) [] (by decide) rfl
        have hK9 := hK.sub (tys' := []) [] rfl
        exact W.iret (v := 2) hx hb hr (fun t ht hW => ⟨⟨2, (), rfl, by rw [lev, if_neg c_5, if_neg c_15, if_pos c_25], by rw [ht]; exact hP9, va_K.moved hW.alike hK9, hD9⟩, hS.F ht⟩) hS.2.2 d_Pi_levelOf_29
    · have c_15 := (lg_cmp_eq _ _).mp c_15
      refine lv_iconst (v := 1) hx hb d_Pi_levelOf_18 (by decide) ?_
      have hP9 := hP.sub (ws' := []) [] rfl
      have hD9 := hD.sub (ws' := []) [] (by decide) rfl
      have hK9 := hK.sub (tys' := []) [] rfl
      exact W.iret (v := 1) hx hb hr (fun t ht hW => ⟨⟨1, (), rfl, by rw [lev, if_neg c_5, if_pos c_15], by rw [ht]; exact hP9, va_K.moved hW.alike hK9, hD9⟩, hS.F ht⟩) hS.2.2 d_Pi_levelOf_19
  · have c_5 := (lg_cmp_eq _ _).mp c_5
    refine lv_iconst (v := 0) hx hb d_Pi_levelOf_8 (by decide) ?_
    have hP9 := hP.sub (ws' := []) [] rfl
    have hD9 := hD.sub (ws' := []) [] (by decide) rfl
    have hK9 := hK.sub (tys' := []) [] rfl
    exact W.iret (v := 0) hx hb hr (fun t ht hW => ⟨⟨0, (), rfl, by rw [lev, if_pos c_5], by rw [ht]; exact hP9, va_K.moved hW.alike hK9, hD9⟩, hS.F ht⟩) hS.2.2 d_Pi_levelOf_9
set_option maxHeartbeats 4000000 in
set_option maxRecDepth 100000 in
theorem c_Pi_tenthsFor (l : Launch) (dC : Nat → ClassId) (dI : Nat → Nat → Nat) (sz : Nat) (p0 : Int32) : Met l y_Pi_tenthsFor w_Pi_tenthsFor ({ frames := 0, cells := 0, slots := 0, locals := 0 }) (cPre dC dI [.int p0] sz [] []) (va_Qi (fun (r : Int32) (u : Unit) => r = tf p0) (fun (u : Unit) (t : State) => cB dC dI (va_A [] sz) [] [] t) (va_A [] sz)) 0 0 (va_A [] sz) := by
  refine Met.ofW (cc := b_Pi_tenthsFor) (maxL := 1) (ret := (some .int)) (by decide) rfl ?_
  intro p e s m args below meth c s₁ B hml hv
  obtain ⟨rfl, hsz, hN, hP, hK, hD0⟩ := hv
  have hx := B.exec
  have hb := B.bytes
  have hr := B.returns
  have hts := atoms_spec (ws := w_Pi_tenthsFor) B.pre
  have hB := big_of hts
  have hown : s.vm.findClass R_Pi = some m.cls := findClass_of_methodNamed B.named
  have hlocks := B.notSynchronized
  subst hsz
  have hD := hD0.self (sz := s.heap.size)
  generalize hAe : va_A [] s.heap.size = A at hD ⊢
  have hA : ∀ q : Nat, s.heap.size ≤ q → A q := fun q h => by rw [← hAe]; exact Or.inr h
  have hS : va_S A s.heap s.heap [] := va_S.rf
  have hP : va_P (dC, dI) classes [] s.heap := hP
  have hl := lv_entry ([.int p0]) (n := 1) (Nat.le_of_ble_eq_true rfl)
  rw [lg_entry_eq]
  generalize (lg_sl ([.int p0]) ++ List.replicate (1 - (lg_sl ([.int p0])).length) Slot.unset).toArray = ls at hl ⊢
  have hl : lv_has ls 1 [(0, .int p0)] := hl
  refine lv_iload_n hx hb d_Pi_tenthsFor_0 rfl (lv_at hl 0 rfl) ?_
  refine lv_bipush (v := 80) hx hb d_Pi_tenthsFor_1 (by decide) ?_
  refine lv_icmp_lt (tgt := 13) hx hb d_Pi_tenthsFor_3 (by decide) (fun c_3 => ?_) (fun c_3 => ?_)
  · skip
    refine lv_iconst (v := 0) hx hb d_Pi_tenthsFor_13 (by decide) ?_
    have hP9 := hP.sub (ws' := []) [] rfl
    have hD9 := hD.sub (ws' := []) [] (by decide) rfl
    have hK9 := hK.sub (tys' := []) [] rfl
    exact W.iret (v := 0) hx hb hr (fun t ht hW => ⟨⟨0, (), rfl, by rw [tf, if_pos (Or.inl c_3)], by rw [ht]; exact hP9, va_K.moved hW.alike hK9, hD9⟩, hS.F ht⟩) hS.2.2 d_Pi_tenthsFor_14
  · skip
    refine lv_iload_n hx hb d_Pi_tenthsFor_6 rfl (lv_at hl 0 rfl) ?_
    refine lv_sipush (v := 970) hx hb d_Pi_tenthsFor_7 (by decide) ?_
    refine lv_icmp_le (tgt := 15) hx hb d_Pi_tenthsFor_10 (by decide) (fun c_10 => ?_) (fun c_10 => ?_)
    · skip
      refine lv_iload_n hx hb d_Pi_tenthsFor_15 rfl (lv_at hl 0 rfl) ?_
      refine lv_bipush (v := 100) hx hb d_Pi_tenthsFor_16 (by decide) ?_
      refine lv_icmp_ge (tgt := 24) hx hb d_Pi_tenthsFor_18 (by decide) (fun c_18 => ?_) (fun c_18 => ?_)
      · skip
        refine lv_iload_n hx hb d_Pi_tenthsFor_24 rfl (lv_at hl 0 rfl) ?_
        refine lv_sipush (v := 850) hx hb d_Pi_tenthsFor_25 (by decide) ?_
        refine lv_icmp_gt (tgt := 39) hx hb d_Pi_tenthsFor_28 (by decide) (fun c_28 => ?_) (fun c_28 => ?_)
        · skip
          refine lv_iload_n hx hb d_Pi_tenthsFor_39 rfl (lv_at hl 0 rfl) ?_
          refine lv_sipush (v := 960) hx hb d_Pi_tenthsFor_40 (by decide) ?_
          refine lv_icmp_gt (tgt := 60) hx hb d_Pi_tenthsFor_43 (by decide) (fun c_43 => ?_) (fun c_43 => ?_)
          · skip
            refine lv_sipush (v := 800) hx hb d_Pi_tenthsFor_60 (by decide) ?_
            have hP9 := hP.sub (ws' := []) [] rfl
            have hD9 := hD.sub (ws' := []) [] (by decide) rfl
            have hK9 := hK.sub (tys' := []) [] rfl
            exact W.iret (v := 800) hx hb hr (fun t ht hW => ⟨⟨800, (), rfl, by rw [tf, if_neg (fun h => h.elim c_3 (Int32.not_lt.mpr c_10)), if_neg (Int32.not_lt.mpr c_18), if_neg (Int32.not_le.mpr c_28), if_neg (Int32.not_le.mpr c_43)], by rw [ht]; exact hP9, va_K.moved hW.alike hK9, hD9⟩, hS.F ht⟩) hS.2.2 d_Pi_tenthsFor_63
          · skip
            refine lv_bipush (v := 25) hx hb d_Pi_tenthsFor_46 (by decide) ?_
            refine lv_iload_n hx hb d_Pi_tenthsFor_48 rfl (lv_at hl 0 rfl) ?_
            refine lv_sipush (v := 640) hx hb d_Pi_tenthsFor_49 (by decide) ?_
            refine lv_isub hx hb d_Pi_tenthsFor_52 ?_
            refine lv_topi (fun x_52 ex_52 => ?_)
            refine lv_imul hx hb d_Pi_tenthsFor_53 ?_
            refine lv_topi (fun x_53 ex_53 => ?_)
            refine lv_bipush (v := 10) hx hb d_Pi_tenthsFor_54 (by decide) ?_
            refine lv_idiv hx hb d_Pi_tenthsFor_56 (by decide) ?_
            refine lv_topi (fun x_56 ex_56 => ?_)
            refine lv_goto (tgt := 63) hx hb d_Pi_tenthsFor_57 (by decide) ?_
            have hP9 := hP.sub (ws' := []) [] rfl
            have hD9 := hD.sub (ws' := []) [] (by decide) rfl
            have hK9 := hK.sub (tys' := []) [] rfl
            exact W.iret (v := x_56) hx hb hr (fun t ht hW => ⟨⟨x_56, (), rfl, by rw [tf, if_neg (fun h => h.elim c_3 (Int32.not_lt.mpr c_10)), if_neg (Int32.not_lt.mpr c_18), if_neg (Int32.not_le.mpr c_28), if_pos (Int32.not_lt.mp c_43), ex_56, ex_53, ex_52], by rw [ht]; exact hP9, va_K.moved hW.alike hK9, hD9⟩, hS.F ht⟩) hS.2.2 d_Pi_tenthsFor_63
        · skip
          refine lv_bipush (v := 6) hx hb d_Pi_tenthsFor_31 (by decide) ?_
          refine lv_iload_n hx hb d_Pi_tenthsFor_33 rfl (lv_at hl 0 rfl) ?_
          refine lv_imul hx hb d_Pi_tenthsFor_34 ?_
          refine lv_topi (fun x_34 ex_34 => ?_)
          refine lv_bipush (v := 10) hx hb d_Pi_tenthsFor_35 (by decide) ?_
          refine lv_idiv hx hb d_Pi_tenthsFor_37 (by decide) ?_
          refine lv_topi (fun x_37 ex_37 => ?_)
          have hP9 := hP.sub (ws' := []) [] rfl
          have hD9 := hD.sub (ws' := []) [] (by decide) rfl
          have hK9 := hK.sub (tys' := []) [] rfl
          exact W.iret (v := x_37) hx hb hr (fun t ht hW => ⟨⟨x_37, (), rfl, by rw [tf, if_neg (fun h => h.elim c_3 (Int32.not_lt.mpr c_10)), if_neg (Int32.not_lt.mpr c_18), if_pos (Int32.not_lt.mp c_28), ex_37, ex_34], by rw [ht]; exact hP9, va_K.moved hW.alike hK9, hD9⟩, hS.F ht⟩) hS.2.2 d_Pi_tenthsFor_38
      · skip
        refine lv_bipush (v := 60) hx hb d_Pi_tenthsFor_21 (by decide) ?_
        have hP9 := hP.sub (ws' := []) [] rfl
        have hD9 := hD.sub (ws' := []) [] (by decide) rfl
        have hK9 := hK.sub (tys' := []) [] rfl
        exact W.iret (v := 60) hx hb hr (fun t ht hW => ⟨⟨60, (), rfl, by rw [tf, if_neg (fun h => h.elim c_3 (Int32.not_lt.mpr c_10)), if_pos (Int32.not_le.mp c_18)], by rw [ht]; exact hP9, va_K.moved hW.alike hK9, hD9⟩, hS.F ht⟩) hS.2.2 d_Pi_tenthsFor_23
    · skip
      refine lv_iconst (v := 0) hx hb d_Pi_tenthsFor_13 (by decide) ?_
      have hP9 := hP.sub (ws' := []) [] rfl
      have hD9 := hD.sub (ws' := []) [] (by decide) rfl
      have hK9 := hK.sub (tys' := []) [] rfl
      exact W.iret (v := 0) hx hb hr (fun t ht hW => ⟨⟨0, (), rfl, by rw [tf, if_pos (Or.inr (Int32.not_le.mp c_10))], by rw [ht]; exact hP9, va_K.moved hW.alike hK9, hD9⟩, hS.F ht⟩) hS.2.2 d_Pi_tenthsFor_14
set_option maxHeartbeats 4000000 in
set_option maxRecDepth 100000 in
theorem c_Pi_set (l : Launch) (dC : Nat → ClassId) (dI : Nat → Nat → Nat) (h0 : Nat) (sz : Nat) (lv : Int32) (th : Int64) (p0 : Int64) (p1 : Int64) : Met l y_Pi_set w_Pi_set ({ frames := 1, cells := 0, slots := 0, locals := 25 }) (cPre dC dI [.ref h0, .long p0, .long p1] sz [] [(h0, .inr (1, [.int lv, .long th]))]) (va_Qv (fun (u : Int32 × Int64) => u.1 = lvl p0 p1 ∧ u.2 = p0) (fun (u : Int32 × Int64) (t : State) => cB dC dI (va_A [(h0, .inr (1, [.int lv, .long th]))] sz) [] [(h0, .inr (1, [.int u.1, .long u.2]))] t) (va_A [(h0, .inr (1, [.int lv, .long th]))] sz)) 0 0 (va_A [(h0, .inr (1, [.int lv, .long th]))] sz) := by
  refine Met.ofW (cc := b_Pi_set) (maxL := 5) (ret := none) (by decide) rfl ?_
  intro p e s m args below meth c s₁ B hml hv
  obtain ⟨rfl, hsz, hN, hP, hK, hD0⟩ := hv
  have hx := B.exec
  have hb := B.bytes
  have hr := B.returns
  have hts := atoms_spec (ws := w_Pi_set) B.pre
  have hB := big_of hts
  have hown : s.vm.findClass R_Pi = some m.cls := findClass_of_methodNamed B.named
  have hlocks := B.notSynchronized
  subst hsz
  have hD := hD0.self (sz := s.heap.size)
  generalize hAe : va_A [(h0, .inr (1, [.int lv, .long th]))] s.heap.size = A at hD ⊢
  have hA : ∀ q : Nat, s.heap.size ≤ q → A q := fun q h => by rw [← hAe]; exact Or.inr h
  have hS : va_S A s.heap s.heap [] := va_S.rf
  have hP : va_P (dC, dI) classes [(h0, .inr (1, [.int lv, .long th]))] s.heap := hP
  have hl := lv_entry ([.ref h0, .long p0, .long p1]) (n := 5) (Nat.le_of_ble_eq_true rfl)
  rw [lg_entry_eq]
  generalize (lg_sl ([.ref h0, .long p0, .long p1]) ++ List.replicate (5 - (lg_sl ([.ref h0, .long p0, .long p1])).length) Slot.unset).toArray = ls at hl ⊢
  have hl : lv_has ls 5 [(0, .ref h0), (1, .long p0), (3, .long p1)] := hl
  refine lv_aload_n hx hb d_Pi_set_0 rfl (lv_at hl 0 rfl) ?_
  refine lv_lload_n hx hb d_Pi_set_1 rfl (lv_at hl 1 rfl) ?_
  refine va_put (D := (dC, dI)) (ci := 1) (v := .long p0) (ty := .long) (C := R_Pi) (T := F_Pi) (N := 2) hx hb hB inC_Pi t_Pi t_Pi_ok n_Pi hown hK hP hD hS 0 rfl rfl 1 (by decide) (hB _ kb_11) (fun _ h9 => h9) rfl (by decide +kernel) rfl rfl (Nat.le_of_ble_eq_true rfl) d_Pi_set_2 (fun H locs hP hD hS => ?_)
  have hP : va_P (dC, dI) classes [(h0, .inr (1, [.int lv, .long p0]))] H := hP
  have hD : va_D A [(h0, .inr (1, [.int lv, .long p0]))] := hD
  refine lv_aload_n hx hb d_Pi_set_5 rfl (lv_at hl 0 rfl) ?_
  refine lv_lload_n hx hb d_Pi_set_6 rfl (lv_at hl 1 rfl) ?_
  refine lv_lconst (v := 0) hx hb d_Pi_set_7 (by decide) ?_
  refine lv_ldc2 (v := 1000) hx hb hown (hB _ kb_17) d_Pi_set_8 ?_
  refine kc_i (va_runSN (As := [.long p0, .long 0, .long 1000]) (rest := [.ref h0]) ⟨hx, hb, hml, hown, hts⟩ (c_X_isWithin l dC dI  H.size  p0 0 1000 ) ⟨va_cnB 3 hts (gin kb_6) rfl rfl rfl (hN _ kn_1) (hB _ kb_7) (by decide +kernel) ⟨Nat.le_of_ble_eq_true rfl, Nat.le_of_ble_eq_true rfl⟩, (hB _ kb_8), trivial⟩ (preS (wc := []) hK hN hP hD [] rfl rfl (by decide) [] rfl) rfl rfl hl.1 rfl (lv_room (Nat.le_of_ble_eq_true rfl)) d_Pi_set_11 ⟨Nat.le_of_ble_eq_true rfl, Nat.le_of_ble_eq_true rfl⟩) hP hD hS hA [] [0] (wr := [(h0, .inr (1, [.int lv, .long p0]))]) rfl rfl (by decide) (by decide) (fun r_11 u_11 H locs hw_11 hP hD hK1 hS => ?_)
  have hw_11 : r_11 = bi (0 ≤ p0 ∧ p0 ≤ 1000) := hw_11
  have hP : va_P (dC, dI) classes [(h0, .inr (1, [.int lv, .long p0]))] H := hP
  have hD : va_D A [(h0, .inr (1, [.int lv, .long p0]))] := hD
  refine lv_if_eq (tgt := 24) hx hb d_Pi_set_14 (by decide) (fun c_14 => ?_) (fun c_14 => ?_)
  · have c_14 := bi_n (hw_11.symm.trans c_14)
    refine lv_bipush (v := 6) hx hb d_Pi_set_24 (by decide) ?_
    refine va_put (D := (dC, dI)) (ci := 1) (v := .int 6) (ty := .int) (C := R_Pi) (T := F_Pi) (N := 2) hx hb hB inC_Pi t_Pi t_Pi_ok n_Pi hown hK hP hD hS 0 rfl rfl 0 (by decide) (hB _ kb_10) (fun _ h9 => h9) rfl (by decide +kernel) rfl rfl (Nat.le_of_ble_eq_true rfl) d_Pi_set_26 (fun H locs hP hD hS => ?_)
    have hP : va_P (dC, dI) classes [(h0, .inr (1, [.int 6, .long p0]))] H := hP
    have hD : va_D A [(h0, .inr (1, [.int 6, .long p0]))] := hD
    have hP9 := hP.sub (ws' := [(h0, .inr (1, [.int 6, .long p0]))]) [0] rfl
    have hD9 := hD.sub (ws' := [(h0, .inr (1, [.int 6, .long p0]))]) [0] (by decide) rfl
    have hK9 := hK.sub (tys' := []) [] rfl
    exact W.vret hx hb hr (fun t ht hW => ⟨⟨(6, p0), rfl, ⟨(if_neg c_14).symm, rfl⟩, by rw [ht]; exact hP9, va_K.moved hW.alike hK9, hD9⟩, hS.F ht⟩) hS.2.2 d_Pi_set_29
  · have c_14 := bi_y hw_11 c_14
    refine lv_lload_n hx hb d_Pi_set_17 rfl (lv_at hl 2 rfl) ?_
    refine kc_i (va_runS (As := [.long p1]) (rest := [.ref h0]) ⟨hx, hb, hml, hown, hts⟩ (c_Pi_levelOf l dC dI  H.size  p1 ) (cwS 1 hts (ginS kb_19 kb_20 kb_21 kb_18) rfl rfl rfl (by decide +kernel) ⟨Nat.le_of_ble_eq_true rfl, Nat.le_of_ble_eq_true rfl⟩) (preS (wc := []) hK hN hP hD [] rfl rfl (by decide) [] rfl) rfl rfl hl.1 rfl (lv_room (Nat.le_of_ble_eq_true rfl)) d_Pi_set_18 ⟨Nat.le_of_ble_eq_true rfl, Nat.le_of_ble_eq_true rfl⟩) hP hD hS hA [] [0] (wr := [(h0, .inr (1, [.int lv, .long p0]))]) rfl rfl (by decide) (by decide) (fun r_18 u_18 H locs hw_18 hP hD hK1 hS => ?_)
    have hw_18 : r_18 = lev p1 := hw_18
    have hP : va_P (dC, dI) classes [(h0, .inr (1, [.int lv, .long p0]))] H := hP
    have hD : va_D A [(h0, .inr (1, [.int lv, .long p0]))] := hD
    refine lv_goto (tgt := 26) hx hb d_Pi_set_21 (by decide) ?_
    refine va_put (D := (dC, dI)) (ci := 1) (v := .int r_18) (ty := .int) (C := R_Pi) (T := F_Pi) (N := 2) hx hb hB inC_Pi t_Pi t_Pi_ok n_Pi hown hK hP hD hS 0 rfl rfl 0 (by decide) (hB _ kb_10) (fun _ h9 => h9) rfl (by decide +kernel) rfl rfl (Nat.le_of_ble_eq_true rfl) d_Pi_set_26 (fun H locs hP hD hS => ?_)
    have hP : va_P (dC, dI) classes [(h0, .inr (1, [.int r_18, .long p0]))] H := hP
    have hD : va_D A [(h0, .inr (1, [.int r_18, .long p0]))] := hD
    have hP9 := hP.sub (ws' := [(h0, .inr (1, [.int r_18, .long p0]))]) [0] rfl
    have hD9 := hD.sub (ws' := [(h0, .inr (1, [.int r_18, .long p0]))]) [0] (by decide) rfl
    have hK9 := hK.sub (tys' := []) [] rfl
    exact W.vret hx hb hr (fun t ht hW => ⟨⟨(r_18, p0), rfl, ⟨hw_18.trans (if_pos c_14).symm, rfl⟩, by rw [ht]; exact hP9, va_K.moved hW.alike hK9, hD9⟩, hS.F ht⟩) hS.2.2 d_Pi_set_29
set_option maxHeartbeats 4000000 in
set_option maxRecDepth 100000 in
theorem c_Pi_isConnected (l : Launch) (dC : Nat → ClassId) (dI : Nat → Nat → Nat) (h0 : Nat) (sz : Nat) (lv : Int32) (th : Int64) : Met l y_Pi_isConnected w_Pi_isConnected ({ frames := 0, cells := 0, slots := 0, locals := 0 }) (cPre dC dI [.ref h0] sz [] [(h0, .inr (1, [.int lv, .long th]))]) (va_Qi (fun (r : Int32) (u : Unit) => r = bi (1 ≤ lv ∧ lv ≤ 3)) (fun (u : Unit) (t : State) => cB dC dI (va_A [(h0, .inr (1, [.int lv, .long th]))] sz) [] [(h0, .inr (1, [.int lv, .long th]))] t) (va_A [(h0, .inr (1, [.int lv, .long th]))] sz)) 0 0 (va_A [(h0, .inr (1, [.int lv, .long th]))] sz) := by
  refine Met.ofW (cc := b_Pi_isConnected) (maxL := 1) (ret := (some .boolean)) (by decide) rfl ?_
  intro p e s m args below meth c s₁ B hml hv
  obtain ⟨rfl, hsz, hN, hP, hK, hD0⟩ := hv
  have hx := B.exec
  have hb := B.bytes
  have hr := B.returns
  have hts := atoms_spec (ws := w_Pi_isConnected) B.pre
  have hB := big_of hts
  have hown : s.vm.findClass R_Pi = some m.cls := findClass_of_methodNamed B.named
  have hlocks := B.notSynchronized
  subst hsz
  have hD := hD0.self (sz := s.heap.size)
  generalize hAe : va_A [(h0, .inr (1, [.int lv, .long th]))] s.heap.size = A at hD ⊢
  have hA : ∀ q : Nat, s.heap.size ≤ q → A q := fun q h => by rw [← hAe]; exact Or.inr h
  have hS : va_S A s.heap s.heap [] := va_S.rf
  have hP : va_P (dC, dI) classes [(h0, .inr (1, [.int lv, .long th]))] s.heap := hP
  have hl := lv_entry ([.ref h0]) (n := 1) (Nat.le_of_ble_eq_true rfl)
  rw [lg_entry_eq]
  generalize (lg_sl ([.ref h0]) ++ List.replicate (1 - (lg_sl ([.ref h0])).length) Slot.unset).toArray = ls at hl ⊢
  have hl : lv_has ls 1 [(0, .ref h0)] := hl
  refine lv_aload_n hx hb d_Pi_isConnected_0 rfl (lv_at hl 0 rfl) ?_
  refine va_get (D := (dC, dI)) (ci := 1) (v := .int lv) (C := R_Pi) (T := F_Pi) (N := 2) hx hb hB inC_Pi hown hK hP 0 rfl rfl 0 (by decide) (hB _ kb_10) (fun _ h9 => h9) rfl d_Pi_isConnected_1 ?_
  refine lv_iconst (v := 1) hx hb d_Pi_isConnected_4 (by decide) ?_
  refine lv_icmp_lt (tgt := 20) hx hb d_Pi_isConnected_5 (by decide) (fun c_5 => ?_) (fun c_5 => ?_)
  · skip
    refine lv_iconst (v := 0) hx hb d_Pi_isConnected_20 (by decide) ?_
    have hP9 := hP.sub (ws' := [(h0, .inr (1, [.int lv, .long th]))]) [0] rfl
    have hD9 := hD.sub (ws' := [(h0, .inr (1, [.int lv, .long th]))]) [0] (by decide) rfl
    have hK9 := hK.sub (tys' := []) [] rfl
    exact W.zret (v := 0) (ty := .boolean) hx hb hr (rfl) (fun t ht hW => ⟨⟨0, (), rfl, (bi_f (fun h => absurd h.1 (Int32.not_le.mpr c_5))).symm, by rw [ht]; exact hP9, va_K.moved hW.alike hK9, hD9⟩, hS.F ht⟩) hS.2.2 d_Pi_isConnected_21
  · skip
    refine lv_aload_n hx hb d_Pi_isConnected_8 rfl (lv_at hl 0 rfl) ?_
    refine va_get (D := (dC, dI)) (ci := 1) (v := .int lv) (C := R_Pi) (T := F_Pi) (N := 2) hx hb hB inC_Pi hown hK hP 0 rfl rfl 0 (by decide) (hB _ kb_10) (fun _ h9 => h9) rfl d_Pi_isConnected_9 ?_
    refine lv_iconst (v := 3) hx hb d_Pi_isConnected_12 (by decide) ?_
    refine lv_icmp_gt (tgt := 20) hx hb d_Pi_isConnected_13 (by decide) (fun c_13 => ?_) (fun c_13 => ?_)
    · skip
      refine lv_iconst (v := 0) hx hb d_Pi_isConnected_20 (by decide) ?_
      have hP9 := hP.sub (ws' := [(h0, .inr (1, [.int lv, .long th]))]) [0] rfl
      have hD9 := hD.sub (ws' := [(h0, .inr (1, [.int lv, .long th]))]) [0] (by decide) rfl
      have hK9 := hK.sub (tys' := []) [] rfl
      exact W.zret (v := 0) (ty := .boolean) hx hb hr (rfl) (fun t ht hW => ⟨⟨0, (), rfl, (bi_f (fun h => absurd h.2 (Int32.not_le.mpr c_13))).symm, by rw [ht]; exact hP9, va_K.moved hW.alike hK9, hD9⟩, hS.F ht⟩) hS.2.2 d_Pi_isConnected_21
    · skip
      refine lv_iconst (v := 1) hx hb d_Pi_isConnected_16 (by decide) ?_
      refine lv_goto (tgt := 21) hx hb d_Pi_isConnected_17 (by decide) ?_
      have hP9 := hP.sub (ws' := [(h0, .inr (1, [.int lv, .long th]))]) [0] rfl
      have hD9 := hD.sub (ws' := [(h0, .inr (1, [.int lv, .long th]))]) [0] (by decide) rfl
      have hK9 := hK.sub (tys' := []) [] rfl
      exact W.zret (v := 1) (ty := .boolean) hx hb hr (rfl) (fun t ht hW => ⟨⟨1, (), rfl, (bi_t ⟨Int32.not_lt.mp c_5, Int32.not_lt.mp c_13⟩).symm, by rw [ht]; exact hP9, va_K.moved hW.alike hK9, hD9⟩, hS.F ht⟩) hS.2.2 d_Pi_isConnected_21
set_option maxHeartbeats 4000000 in
set_option maxRecDepth 100000 in
theorem c_Pi_isDigital (l : Launch) (dC : Nat → ClassId) (dI : Nat → Nat → Nat) (h0 : Nat) (sz : Nat) (lv : Int32) (th : Int64) : Met l y_Pi_isDigital w_Pi_isDigital ({ frames := 1, cells := 0, slots := 0, locals := 25 }) (cPre dC dI [.ref h0] sz [] [(h0, .inr (1, [.int lv, .long th]))]) (va_Qi (fun (r : Int32) (u : Unit) => True) (fun (u : Unit) (t : State) => cB dC dI (va_A [(h0, .inr (1, [.int lv, .long th]))] sz) [] [(h0, .inr (1, [.int lv, .long th]))] t) (va_A [(h0, .inr (1, [.int lv, .long th]))] sz)) 0 0 (va_A [(h0, .inr (1, [.int lv, .long th]))] sz) := by
  refine Met.ofW (cc := b_Pi_isDigital) (maxL := 1) (ret := (some .boolean)) (by decide) rfl ?_
  intro p e s m args below meth c s₁ B hml hv
  obtain ⟨rfl, hsz, hN, hP, hK, hD0⟩ := hv
  have hx := B.exec
  have hb := B.bytes
  have hr := B.returns
  have hts := atoms_spec (ws := w_Pi_isDigital) B.pre
  have hB := big_of hts
  have hown : s.vm.findClass R_Pi = some m.cls := findClass_of_methodNamed B.named
  have hlocks := B.notSynchronized
  subst hsz
  have hD := hD0.self (sz := s.heap.size)
  generalize hAe : va_A [(h0, .inr (1, [.int lv, .long th]))] s.heap.size = A at hD ⊢
  have hA : ∀ q : Nat, s.heap.size ≤ q → A q := fun q h => by rw [← hAe]; exact Or.inr h
  have hS : va_S A s.heap s.heap [] := va_S.rf
  have hP : va_P (dC, dI) classes [(h0, .inr (1, [.int lv, .long th]))] s.heap := hP
  have hl := lv_entry ([.ref h0]) (n := 1) (Nat.le_of_ble_eq_true rfl)
  rw [lg_entry_eq]
  generalize (lg_sl ([.ref h0]) ++ List.replicate (1 - (lg_sl ([.ref h0])).length) Slot.unset).toArray = ls at hl ⊢
  have hl : lv_has ls 1 [(0, .ref h0)] := hl
  refine lv_aload_n hx hb d_Pi_isDigital_0 rfl (lv_at hl 0 rfl) ?_
  refine kc_i (va_runV (As := []) (rest := []) ⟨hx, hb, hml, hown, hts⟩ (c_Pi_isConnected l dC dI h0 s.heap.size lv th  ) (cwV 0 hts (ginV kb_23 kb_24 kb_25 kb_21 kb_22) rfl rfl rfl (by decide +kernel) ⟨Nat.le_of_ble_eq_true rfl, Nat.le_of_ble_eq_true rfl⟩) (preV (ci := 1) (wc := [(h0, .inr (1, [.int lv, .long th]))]) hK hN hP hD [0] rfl rfl (by decide) [] rfl rfl rfl) rfl rfl hl.1 rfl (lv_room (Nat.le_of_ble_eq_true rfl)) d_Pi_isDigital_1 ⟨Nat.le_of_ble_eq_true rfl, Nat.le_of_ble_eq_true rfl⟩) hP hD hS hA [0] [] (wr := []) rfl rfl (by decide) (by decide) (fun r_1 u_1 H locs hw_1 hP hD hK1 hS => ?_)
  have hw_1 : r_1 = bi (1 ≤ lv ∧ lv ≤ 3) := hw_1
  have hP : va_P (dC, dI) classes [(h0, .inr (1, [.int lv, .long th]))] H := hP
  have hD : va_D A [(h0, .inr (1, [.int lv, .long th]))] := hD
  refine lv_if_eq (tgt := 27) hx hb d_Pi_isDigital_4 (by decide) (fun c_4 => ?_) (fun c_4 => ?_)
  · have c_4 := bi_n (hw_1.symm.trans c_4)
    refine lv_iconst (v := 0) hx hb d_Pi_isDigital_27 (by decide) ?_
    have hP9 := hP.sub (ws' := [(h0, .inr (1, [.int lv, .long th]))]) [0] rfl
    have hD9 := hD.sub (ws' := [(h0, .inr (1, [.int lv, .long th]))]) [0] (by decide) rfl
    have hK9 := hK.sub (tys' := []) [] rfl
    exact W.zret (v := 0) (ty := .boolean) hx hb hr (rfl) (fun t ht hW => ⟨⟨0, (), rfl, trivial, by rw [ht]; exact hP9, va_K.moved hW.alike hK9, hD9⟩, hS.F ht⟩) hS.2.2 d_Pi_isDigital_28
  · have c_4 := bi_y hw_1 c_4
    refine lv_aload_n hx hb d_Pi_isDigital_7 rfl (lv_at hl 0 rfl) ?_
    refine va_get (D := (dC, dI)) (ci := 1) (v := .long th) (C := R_Pi) (T := F_Pi) (N := 2) hx hb hB inC_Pi hown hK hP 0 rfl rfl 1 (by decide) (hB _ kb_11) (fun _ h9 => h9) rfl d_Pi_isDigital_8 ?_
    refine lv_ldc2 (v := 30) hx hb hown (hB _ kb_26) d_Pi_isDigital_11 ?_
    refine lv_ldc2 (v := 70) hx hb hown (hB _ kb_27) d_Pi_isDigital_14 ?_
    refine kc_i (va_runSN (As := [.long th, .long 30, .long 70]) (rest := []) ⟨hx, hb, hml, hown, hts⟩ (c_X_isWithin l dC dI  H.size  th 30 70 ) ⟨va_cnB 3 hts (gin kb_6) rfl rfl rfl (hN _ kn_1) (hB _ kb_7) (by decide +kernel) ⟨Nat.le_of_ble_eq_true rfl, Nat.le_of_ble_eq_true rfl⟩, (hB _ kb_8), trivial⟩ (preS (wc := []) hK hN hP hD [] rfl rfl (by decide) [] rfl) rfl rfl hl.1 rfl (lv_room (Nat.le_of_ble_eq_true rfl)) d_Pi_isDigital_17 ⟨Nat.le_of_ble_eq_true rfl, Nat.le_of_ble_eq_true rfl⟩) hP hD hS hA [] [0] (wr := [(h0, .inr (1, [.int lv, .long th]))]) rfl rfl (by decide) (by decide) (fun r_17 u_17 H locs hw_17 hP hD hK1 hS => ?_)
    have hw_17 : r_17 = bi (30 ≤ th ∧ th ≤ 70) := hw_17
    have hP : va_P (dC, dI) classes [(h0, .inr (1, [.int lv, .long th]))] H := hP
    have hD : va_D A [(h0, .inr (1, [.int lv, .long th]))] := hD
    refine lv_if_eq (tgt := 27) hx hb d_Pi_isDigital_20 (by decide) (fun c_20 => ?_) (fun c_20 => ?_)
    · have c_20 := bi_n (hw_17.symm.trans c_20)
      refine lv_iconst (v := 0) hx hb d_Pi_isDigital_27 (by decide) ?_
      have hP9 := hP.sub (ws' := [(h0, .inr (1, [.int lv, .long th]))]) [0] rfl
      have hD9 := hD.sub (ws' := [(h0, .inr (1, [.int lv, .long th]))]) [0] (by decide) rfl
      have hK9 := hK.sub (tys' := []) [] rfl
      exact W.zret (v := 0) (ty := .boolean) hx hb hr (rfl) (fun t ht hW => ⟨⟨0, (), rfl, trivial, by rw [ht]; exact hP9, va_K.moved hW.alike hK9, hD9⟩, hS.F ht⟩) hS.2.2 d_Pi_isDigital_28
    · have c_20 := bi_y hw_17 c_20
      refine lv_iconst (v := 1) hx hb d_Pi_isDigital_23 (by decide) ?_
      refine lv_goto (tgt := 28) hx hb d_Pi_isDigital_24 (by decide) ?_
      have hP9 := hP.sub (ws' := [(h0, .inr (1, [.int lv, .long th]))]) [0] rfl
      have hD9 := hD.sub (ws' := [(h0, .inr (1, [.int lv, .long th]))]) [0] (by decide) rfl
      have hK9 := hK.sub (tys' := []) [] rfl
      exact W.zret (v := 1) (ty := .boolean) hx hb hr (rfl) (fun t ht hW => ⟨⟨1, (), rfl, trivial, by rw [ht]; exact hP9, va_K.moved hW.alike hK9, hD9⟩, hS.F ht⟩) hS.2.2 d_Pi_isDigital_28
set_option maxHeartbeats 4000000 in
set_option maxRecDepth 100000 in
theorem c_Pi_tenthsOfAmpere (l : Launch) (dC : Nat → ClassId) (dI : Nat → Nat → Nat) (h0 : Nat) (sz : Nat) (lv : Int32) (th : Int64) : Met l y_Pi_tenthsOfAmpere w_Pi_tenthsOfAmpere ({ frames := 1, cells := 0, slots := 0, locals := 20 }) (cPre dC dI [.ref h0] sz [] [(h0, .inr (1, [.int lv, .long th]))]) (va_Qi (fun (r : Int32) (u : Unit) => r = ten lv th) (fun (u : Unit) (t : State) => cB dC dI (va_A [(h0, .inr (1, [.int lv, .long th]))] sz) [] [(h0, .inr (1, [.int lv, .long th]))] t) (va_A [(h0, .inr (1, [.int lv, .long th]))] sz)) 0 0 (va_A [(h0, .inr (1, [.int lv, .long th]))] sz) := by
  refine Met.ofW (cc := b_Pi_tenthsOfAmpere) (maxL := 1) (ret := (some .int)) (by decide) rfl ?_
  intro p e s m args below meth c s₁ B hml hv
  obtain ⟨rfl, hsz, hN, hP, hK, hD0⟩ := hv
  have hx := B.exec
  have hb := B.bytes
  have hr := B.returns
  have hts := atoms_spec (ws := w_Pi_tenthsOfAmpere) B.pre
  have hB := big_of hts
  have hown : s.vm.findClass R_Pi = some m.cls := findClass_of_methodNamed B.named
  have hlocks := B.notSynchronized
  subst hsz
  have hD := hD0.self (sz := s.heap.size)
  generalize hAe : va_A [(h0, .inr (1, [.int lv, .long th]))] s.heap.size = A at hD ⊢
  have hA : ∀ q : Nat, s.heap.size ≤ q → A q := fun q h => by rw [← hAe]; exact Or.inr h
  have hS : va_S A s.heap s.heap [] := va_S.rf
  have hP : va_P (dC, dI) classes [(h0, .inr (1, [.int lv, .long th]))] s.heap := hP
  have hl := lv_entry ([.ref h0]) (n := 1) (Nat.le_of_ble_eq_true rfl)
  rw [lg_entry_eq]
  generalize (lg_sl ([.ref h0]) ++ List.replicate (1 - (lg_sl ([.ref h0])).length) Slot.unset).toArray = ls at hl ⊢
  have hl : lv_has ls 1 [(0, .ref h0)] := hl
  refine lv_aload_n hx hb d_Pi_tenthsOfAmpere_0 rfl (lv_at hl 0 rfl) ?_
  refine kc_i (va_runV (As := []) (rest := []) ⟨hx, hb, hml, hown, hts⟩ (c_Pi_isConnected l dC dI h0 s.heap.size lv th  ) (cwV 0 hts (ginV kb_23 kb_24 kb_25 kb_21 kb_22) rfl rfl rfl (by decide +kernel) ⟨Nat.le_of_ble_eq_true rfl, Nat.le_of_ble_eq_true rfl⟩) (preV (ci := 1) (wc := [(h0, .inr (1, [.int lv, .long th]))]) hK hN hP hD [0] rfl rfl (by decide) [] rfl rfl rfl) rfl rfl hl.1 rfl (lv_room (Nat.le_of_ble_eq_true rfl)) d_Pi_tenthsOfAmpere_1 ⟨Nat.le_of_ble_eq_true rfl, Nat.le_of_ble_eq_true rfl⟩) hP hD hS hA [0] [] (wr := []) rfl rfl (by decide) (by decide) (fun r_1 u_1 H locs hw_1 hP hD hK1 hS => ?_)
  have hw_1 : r_1 = bi (1 ≤ lv ∧ lv ≤ 3) := hw_1
  have hP : va_P (dC, dI) classes [(h0, .inr (1, [.int lv, .long th]))] H := hP
  have hD : va_D A [(h0, .inr (1, [.int lv, .long th]))] := hD
  refine lv_if_eq (tgt := 18) hx hb d_Pi_tenthsOfAmpere_4 (by decide) (fun c_4 => ?_) (fun c_4 => ?_)
  · have c_4 := bi_n (hw_1.symm.trans c_4)
    refine lv_iconst (v := 0) hx hb d_Pi_tenthsOfAmpere_18 (by decide) ?_
    have hP9 := hP.sub (ws' := [(h0, .inr (1, [.int lv, .long th]))]) [0] rfl
    have hD9 := hD.sub (ws' := [(h0, .inr (1, [.int lv, .long th]))]) [0] (by decide) rfl
    have hK9 := hK.sub (tys' := []) [] rfl
    exact W.iret (v := 0) hx hb hr (fun t ht hW => ⟨⟨0, (), rfl, (if_neg c_4).symm, by rw [ht]; exact hP9, va_K.moved hW.alike hK9, hD9⟩, hS.F ht⟩) hS.2.2 d_Pi_tenthsOfAmpere_19
  · have c_4 := bi_y hw_1 c_4
    refine lv_aload_n hx hb d_Pi_tenthsOfAmpere_7 rfl (lv_at hl 0 rfl) ?_
    refine va_get (D := (dC, dI)) (ci := 1) (v := .long th) (C := R_Pi) (T := F_Pi) (N := 2) hx hb hB inC_Pi hown hK hP 0 rfl rfl 1 (by decide) (hB _ kb_11) (fun _ h9 => h9) rfl d_Pi_tenthsOfAmpere_8 ?_
    refine lv_l2i hx hb d_Pi_tenthsOfAmpere_11 rfl ?_
    refine lv_topi (fun x_11 ex_11 => ?_)
    refine kc_i (va_runS (As := [.int x_11]) (rest := []) ⟨hx, hb, hml, hown, hts⟩ (c_Pi_tenthsFor l dC dI  H.size  x_11 ) (cwS 1 hts (ginS kb_29 kb_30 kb_21 kb_28) rfl rfl rfl (by decide +kernel) ⟨Nat.le_of_ble_eq_true rfl, Nat.le_of_ble_eq_true rfl⟩) (preS (wc := []) hK hN hP hD [] rfl rfl (by decide) [] rfl) rfl rfl hl.1 rfl (lv_room (Nat.le_of_ble_eq_true rfl)) d_Pi_tenthsOfAmpere_12 ⟨Nat.le_of_ble_eq_true rfl, Nat.le_of_ble_eq_true rfl⟩) hP hD hS hA [] [0] (wr := [(h0, .inr (1, [.int lv, .long th]))]) rfl rfl (by decide) (by decide) (fun r_12 u_12 H locs hw_12 hP hD hK1 hS => ?_)
    have hw_12 : r_12 = tf x_11 := hw_12
    have hP : va_P (dC, dI) classes [(h0, .inr (1, [.int lv, .long th]))] H := hP
    have hD : va_D A [(h0, .inr (1, [.int lv, .long th]))] := hD
    refine lv_goto (tgt := 19) hx hb d_Pi_tenthsOfAmpere_15 (by decide) ?_
    have hP9 := hP.sub (ws' := [(h0, .inr (1, [.int lv, .long th]))]) [0] rfl
    have hD9 := hD.sub (ws' := [(h0, .inr (1, [.int lv, .long th]))]) [0] (by decide) rfl
    have hK9 := hK.sub (tys' := []) [] rfl
    exact W.iret (v := r_12) hx hb hr (fun t ht hW => ⟨⟨r_12, (), rfl, (hw_12.trans (by rw [ex_11])).trans (if_pos c_4).symm, by rw [ht]; exact hP9, va_K.moved hW.alike hK9, hD9⟩, hS.F ht⟩) hS.2.2 d_Pi_tenthsOfAmpere_19
end
section
set_option maxHeartbeats 4000000 in
set_option maxRecDepth 100000 in
theorem c_Ta_init (l : Launch) (dC : Nat → ClassId) (dI : Nat → Nat → Nat) (h0 : Nat) (sz : Nat) (ph : Int32) (di : Int32) (lm : Int64) (cu : Int64) (la : Int64) (en : Int64) : Met l y_Ta_init w_Ta_init ({ frames := 1, cells := 0, slots := 0, locals := 20 }) (cPre dC dI [.ref h0] sz [] [(h0, .inr (2, [.int ph, .int di, .long lm, .long cu, .long la, .long en]))]) (va_Qv (fun (u : Int32 × Int32 × Int64 × Int64 × Int64 × Int64) => True) (fun (u : Int32 × Int32 × Int64 × Int64 × Int64 × Int64) (t : State) => cB dC dI (va_A [(h0, .inr (2, [.int ph, .int di, .long lm, .long cu, .long la, .long en]))] sz) [] [(h0, .inr (2, [.int u.1, .int u.2.1, .long u.2.2.1, .long u.2.2.2.1, .long u.2.2.2.2.1, .long u.2.2.2.2.2]))] t) (va_A [(h0, .inr (2, [.int ph, .int di, .long lm, .long cu, .long la, .long en]))] sz)) 0 0 (va_A [(h0, .inr (2, [.int ph, .int di, .long lm, .long cu, .long la, .long en]))] sz) := by
  refine Met.ofW (cc := b_Ta_init) (maxL := 1) (ret := none) (by decide) rfl ?_
  intro p e s m args below meth c s₁ B hml hv
  obtain ⟨rfl, hsz, hN, hP, hK, hD0⟩ := hv
  have hx := B.exec
  have hb := B.bytes
  have hr := B.returns
  have hts := atoms_spec (ws := w_Ta_init) B.pre
  have hB := big_of hts
  have hown : s.vm.findClass R_Ta = some m.cls := findClass_of_methodNamed B.named
  have hlocks := B.notSynchronized
  have hin : meth.name = "<init>" := (name_of_methodNamed B.named B.method).1
  subst hsz
  have hD := hD0.self (sz := s.heap.size)
  generalize hAe : va_A [(h0, .inr (2, [.int ph, .int di, .long lm, .long cu, .long la, .long en]))] s.heap.size = A at hD ⊢
  have hA : ∀ q : Nat, s.heap.size ≤ q → A q := fun q h => by rw [← hAe]; exact Or.inr h
  have hS : va_S A s.heap s.heap [] := va_S.rf
  have hP : va_P (dC, dI) classes [(h0, .inr (2, [.int ph, .int di, .long lm, .long cu, .long la, .long en]))] s.heap := hP
  have hl := lv_entry ([.ref h0]) (n := 1) (Nat.le_of_ble_eq_true rfl)
  rw [lg_entry_eq]
  generalize (lg_sl ([.ref h0]) ++ List.replicate (1 - (lg_sl ([.ref h0])).length) Slot.unset).toArray = ls at hl ⊢
  have hl : lv_has ls 1 [(0, .ref h0)] := hl
  refine lv_aload_n hx hb d_Ta_init_0 rfl (lv_at hl 0 rfl) ?_
  refine W.objInit hx hb hown (hB _ kb_31) (hB _ kb_1) (hB _ kb_2) rfl (by rw [hml]; exact hl.1) rfl d_Ta_init_1 (Nat.le_of_ble_eq_true rfl) (Nat.le_of_ble_eq_true rfl) ?_
  refine W.eq (g2 := F0 m 4 ls []) rfl ?_
  refine lv_aload_n hx hb d_Ta_init_4 rfl (lv_at hl 0 rfl) ?_
  refine lv_iconst (v := 0) hx hb d_Ta_init_5 (by decide) ?_
  refine va_put (D := (dC, dI)) (ci := 2) (v := .int 0) (ty := .int) (C := R_Ta) (T := F_Ta) (N := 6) hx hb hB inC_Ta t_Ta t_Ta_ok n_Ta hown hK hP hD hS 0 rfl rfl 0 (by decide) (hB _ kb_32) (fun _ h9 => h9) rfl (by decide +kernel) rfl rfl (Nat.le_of_ble_eq_true rfl) d_Ta_init_6 (fun H locs hP hD hS => ?_)
  have hP : va_P (dC, dI) classes [(h0, .inr (2, [.int 0, .int di, .long lm, .long cu, .long la, .long en]))] H := hP
  have hD : va_D A [(h0, .inr (2, [.int 0, .int di, .long lm, .long cu, .long la, .long en]))] := hD
  refine lv_aload_n hx hb d_Ta_init_9 rfl (lv_at hl 0 rfl) ?_
  refine lv_iconst (v := 0) hx hb d_Ta_init_10 (by decide) ?_
  refine va_put (D := (dC, dI)) (ci := 2) (v := .int 0) (ty := .boolean) (C := R_Ta) (T := F_Ta) (N := 6) hx hb hB inC_Ta t_Ta t_Ta_ok n_Ta hown hK hP hD hS 0 rfl rfl 1 (by decide) (hB _ kb_33) (fun _ h9 => h9) rfl (by decide +kernel) rfl rfl (Nat.le_of_ble_eq_true rfl) d_Ta_init_11 (fun H locs hP hD hS => ?_)
  have hP : va_P (dC, dI) classes [(h0, .inr (2, [.int 0, .int 0, .long lm, .long cu, .long la, .long en]))] H := hP
  have hD : va_D A [(h0, .inr (2, [.int 0, .int 0, .long lm, .long cu, .long la, .long en]))] := hD
  refine lv_aload_n hx hb d_Ta_init_14 rfl (lv_at hl 0 rfl) ?_
  refine lv_lconst (v := 0) hx hb d_Ta_init_15 (by decide) ?_
  refine va_put (D := (dC, dI)) (ci := 2) (v := .long 0) (ty := .long) (C := R_Ta) (T := F_Ta) (N := 6) hx hb hB inC_Ta t_Ta t_Ta_ok n_Ta hown hK hP hD hS 0 rfl rfl 2 (by decide) (hB _ kb_34) (fun _ h9 => h9) rfl (by decide +kernel) rfl rfl (Nat.le_of_ble_eq_true rfl) d_Ta_init_16 (fun H locs hP hD hS => ?_)
  have hP : va_P (dC, dI) classes [(h0, .inr (2, [.int 0, .int 0, .long 0, .long cu, .long la, .long en]))] H := hP
  have hD : va_D A [(h0, .inr (2, [.int 0, .int 0, .long 0, .long cu, .long la, .long en]))] := hD
  refine lv_aload_n hx hb d_Ta_init_19 rfl (lv_at hl 0 rfl) ?_
  refine lv_lconst (v := 0) hx hb d_Ta_init_20 (by decide) ?_
  refine va_put (D := (dC, dI)) (ci := 2) (v := .long 0) (ty := .long) (C := R_Ta) (T := F_Ta) (N := 6) hx hb hB inC_Ta t_Ta t_Ta_ok n_Ta hown hK hP hD hS 0 rfl rfl 3 (by decide) (hB _ kb_35) (fun _ h9 => h9) rfl (by decide +kernel) rfl rfl (Nat.le_of_ble_eq_true rfl) d_Ta_init_21 (fun H locs hP hD hS => ?_)
  have hP : va_P (dC, dI) classes [(h0, .inr (2, [.int 0, .int 0, .long 0, .long 0, .long la, .long en]))] H := hP
  have hD : va_D A [(h0, .inr (2, [.int 0, .int 0, .long 0, .long 0, .long la, .long en]))] := hD
  refine lv_aload_n hx hb d_Ta_init_24 rfl (lv_at hl 0 rfl) ?_
  refine lv_lconst (v := 0) hx hb d_Ta_init_25 (by decide) ?_
  refine va_put (D := (dC, dI)) (ci := 2) (v := .long 0) (ty := .long) (C := R_Ta) (T := F_Ta) (N := 6) hx hb hB inC_Ta t_Ta t_Ta_ok n_Ta hown hK hP hD hS 0 rfl rfl 4 (by decide) (hB _ kb_36) (fun _ h9 => h9) rfl (by decide +kernel) rfl rfl (Nat.le_of_ble_eq_true rfl) d_Ta_init_26 (fun H locs hP hD hS => ?_)
  have hP : va_P (dC, dI) classes [(h0, .inr (2, [.int 0, .int 0, .long 0, .long 0, .long 0, .long en]))] H := hP
  have hD : va_D A [(h0, .inr (2, [.int 0, .int 0, .long 0, .long 0, .long 0, .long en]))] := hD
  refine lv_aload_n hx hb d_Ta_init_29 rfl (lv_at hl 0 rfl) ?_
  refine lv_lconst (v := 0) hx hb d_Ta_init_30 (by decide) ?_
  refine va_put (D := (dC, dI)) (ci := 2) (v := .long 0) (ty := .long) (C := R_Ta) (T := F_Ta) (N := 6) hx hb hB inC_Ta t_Ta t_Ta_ok n_Ta hown hK hP hD hS 0 rfl rfl 5 (by decide) (hB _ kb_37) (fun _ h9 => h9) rfl (by decide +kernel) rfl rfl (Nat.le_of_ble_eq_true rfl) d_Ta_init_31 (fun H locs hP hD hS => ?_)
  have hP : va_P (dC, dI) classes [(h0, .inr (2, [.int 0, .int 0, .long 0, .long 0, .long 0, .long 0]))] H := hP
  have hD : va_D A [(h0, .inr (2, [.int 0, .int 0, .long 0, .long 0, .long 0, .long 0]))] := hD
  have hP9 := hP.sub (ws' := [(h0, .inr (2, [.int 0, .int 0, .long 0, .long 0, .long 0, .long 0]))]) [0] rfl
  have hD9 := hD.sub (ws' := [(h0, .inr (2, [.int 0, .int 0, .long 0, .long 0, .long 0, .long 0]))]) [0] (by decide) rfl
  have hK9 := hK.sub (tys' := []) [] rfl
  exact W.vret hx hb hr (fun t ht hW => ⟨⟨(0, 0, 0, 0, 0, 0), rfl, trivial, by rw [ht]; exact hP9, va_K.moved hW.alike hK9, hD9⟩, hS.F ht⟩) hS.2.2 d_Ta_init_34
set_option maxHeartbeats 4000000 in
set_option maxRecDepth 100000 in
theorem c_Ta_isOn (l : Launch) (dC : Nat → ClassId) (dI : Nat → Nat → Nat) (h0 : Nat) (sz : Nat) (ph : Int32) (di : Int32) (lm : Int64) (cu : Int64) (la : Int64) (en : Int64) : Met l y_Ta_isOn w_Ta_isOn ({ frames := 0, cells := 0, slots := 0, locals := 0 }) (cPre dC dI [.ref h0] sz [] [(h0, .inr (2, [.int ph, .int di, .long lm, .long cu, .long la, .long en]))]) (va_Qi (fun (r : Int32) (u : Unit) => True) (fun (u : Unit) (t : State) => cB dC dI (va_A [(h0, .inr (2, [.int ph, .int di, .long lm, .long cu, .long la, .long en]))] sz) [] [(h0, .inr (2, [.int ph, .int di, .long lm, .long cu, .long la, .long en]))] t) (va_A [(h0, .inr (2, [.int ph, .int di, .long lm, .long cu, .long la, .long en]))] sz)) 0 0 (va_A [(h0, .inr (2, [.int ph, .int di, .long lm, .long cu, .long la, .long en]))] sz) := by
  refine Met.ofW (cc := b_Ta_isOn) (maxL := 1) (ret := (some .boolean)) (by decide) rfl ?_
  intro p e s m args below meth c s₁ B hml hv
  obtain ⟨rfl, hsz, hN, hP, hK, hD0⟩ := hv
  have hx := B.exec
  have hb := B.bytes
  have hr := B.returns
  have hts := atoms_spec (ws := w_Ta_isOn) B.pre
  have hB := big_of hts
  have hown : s.vm.findClass R_Ta = some m.cls := findClass_of_methodNamed B.named
  have hlocks := B.notSynchronized
  subst hsz
  have hD := hD0.self (sz := s.heap.size)
  generalize hAe : va_A [(h0, .inr (2, [.int ph, .int di, .long lm, .long cu, .long la, .long en]))] s.heap.size = A at hD ⊢
  have hA : ∀ q : Nat, s.heap.size ≤ q → A q := fun q h => by rw [← hAe]; exact Or.inr h
  have hS : va_S A s.heap s.heap [] := va_S.rf
  have hP : va_P (dC, dI) classes [(h0, .inr (2, [.int ph, .int di, .long lm, .long cu, .long la, .long en]))] s.heap := hP
  have hl := lv_entry ([.ref h0]) (n := 1) (Nat.le_of_ble_eq_true rfl)
  rw [lg_entry_eq]
  generalize (lg_sl ([.ref h0]) ++ List.replicate (1 - (lg_sl ([.ref h0])).length) Slot.unset).toArray = ls at hl ⊢
  have hl : lv_has ls 1 [(0, .ref h0)] := hl
  refine lv_aload_n hx hb d_Ta_isOn_0 rfl (lv_at hl 0 rfl) ?_
  refine va_get (D := (dC, dI)) (ci := 2) (v := .int ph) (C := R_Ta) (T := F_Ta) (N := 6) hx hb hB inC_Ta hown hK hP 0 rfl rfl 0 (by decide) (hB _ kb_32) (fun _ h9 => h9) rfl d_Ta_isOn_1 ?_
  refine lv_if_eq (tgt := 11) hx hb d_Ta_isOn_4 (by decide) (fun c_4 => ?_) (fun c_4 => ?_)
  · skip
    refine lv_iconst (v := 0) hx hb d_Ta_isOn_11 (by decide) ?_
    have hP9 := hP.sub (ws' := [(h0, .inr (2, [.int ph, .int di, .long lm, .long cu, .long la, .long en]))]) [0] rfl
    have hD9 := hD.sub (ws' := [(h0, .inr (2, [.int ph, .int di, .long lm, .long cu, .long la, .long en]))]) [0] (by decide) rfl
    have hK9 := hK.sub (tys' := []) [] rfl
    exact W.zret (v := 0) (ty := .boolean) hx hb hr (rfl) (fun t ht hW => ⟨⟨0, (), rfl, trivial, by rw [ht]; exact hP9, va_K.moved hW.alike hK9, hD9⟩, hS.F ht⟩) hS.2.2 d_Ta_isOn_12
  · skip
    refine lv_iconst (v := 1) hx hb d_Ta_isOn_7 (by decide) ?_
    refine lv_goto (tgt := 12) hx hb d_Ta_isOn_8 (by decide) ?_
    have hP9 := hP.sub (ws' := [(h0, .inr (2, [.int ph, .int di, .long lm, .long cu, .long la, .long en]))]) [0] rfl
    have hD9 := hD.sub (ws' := [(h0, .inr (2, [.int ph, .int di, .long lm, .long cu, .long la, .long en]))]) [0] (by decide) rfl
    have hK9 := hK.sub (tys' := []) [] rfl
    exact W.zret (v := 1) (ty := .boolean) hx hb hr (rfl) (fun t ht hW => ⟨⟨1, (), rfl, trivial, by rw [ht]; exact hP9, va_K.moved hW.alike hK9, hD9⟩, hS.F ht⟩) hS.2.2 d_Ta_isOn_12
set_option maxHeartbeats 4000000 in
set_option maxRecDepth 100000 in
theorem c_Ta_isCharging (l : Launch) (dC : Nat → ClassId) (dI : Nat → Nat → Nat) (h0 : Nat) (sz : Nat) (ph : Int32) (di : Int32) (lm : Int64) (cu : Int64) (la : Int64) (en : Int64) : Met l y_Ta_isCharging w_Ta_isCharging ({ frames := 0, cells := 0, slots := 0, locals := 0 }) (cPre dC dI [.ref h0] sz [] [(h0, .inr (2, [.int ph, .int di, .long lm, .long cu, .long la, .long en]))]) (va_Qi (fun (r : Int32) (u : Unit) => True) (fun (u : Unit) (t : State) => cB dC dI (va_A [(h0, .inr (2, [.int ph, .int di, .long lm, .long cu, .long la, .long en]))] sz) [] [(h0, .inr (2, [.int ph, .int di, .long lm, .long cu, .long la, .long en]))] t) (va_A [(h0, .inr (2, [.int ph, .int di, .long lm, .long cu, .long la, .long en]))] sz)) 0 0 (va_A [(h0, .inr (2, [.int ph, .int di, .long lm, .long cu, .long la, .long en]))] sz) := by
  refine Met.ofW (cc := b_Ta_isCharging) (maxL := 1) (ret := (some .boolean)) (by decide) rfl ?_
  intro p e s m args below meth c s₁ B hml hv
  obtain ⟨rfl, hsz, hN, hP, hK, hD0⟩ := hv
  have hx := B.exec
  have hb := B.bytes
  have hr := B.returns
  have hts := atoms_spec (ws := w_Ta_isCharging) B.pre
  have hB := big_of hts
  have hown : s.vm.findClass R_Ta = some m.cls := findClass_of_methodNamed B.named
  have hlocks := B.notSynchronized
  subst hsz
  have hD := hD0.self (sz := s.heap.size)
  generalize hAe : va_A [(h0, .inr (2, [.int ph, .int di, .long lm, .long cu, .long la, .long en]))] s.heap.size = A at hD ⊢
  have hA : ∀ q : Nat, s.heap.size ≤ q → A q := fun q h => by rw [← hAe]; exact Or.inr h
  have hS : va_S A s.heap s.heap [] := va_S.rf
  have hP : va_P (dC, dI) classes [(h0, .inr (2, [.int ph, .int di, .long lm, .long cu, .long la, .long en]))] s.heap := hP
  have hl := lv_entry ([.ref h0]) (n := 1) (Nat.le_of_ble_eq_true rfl)
  rw [lg_entry_eq]
  generalize (lg_sl ([.ref h0]) ++ List.replicate (1 - (lg_sl ([.ref h0])).length) Slot.unset).toArray = ls at hl ⊢
  have hl : lv_has ls 1 [(0, .ref h0)] := hl
  refine lv_aload_n hx hb d_Ta_isCharging_0 rfl (lv_at hl 0 rfl) ?_
  refine va_get (D := (dC, dI)) (ci := 2) (v := .int ph) (C := R_Ta) (T := F_Ta) (N := 6) hx hb hB inC_Ta hown hK hP 0 rfl rfl 0 (by decide) (hB _ kb_32) (fun _ h9 => h9) rfl d_Ta_isCharging_1 ?_
  refine lv_bipush (v := 7) hx hb d_Ta_isCharging_4 (by decide) ?_
  refine lv_icmp_ne (tgt := 13) hx hb d_Ta_isCharging_6 (by decide) (fun c_6 => ?_) (fun c_6 => ?_)
  · skip
    refine lv_iconst (v := 0) hx hb d_Ta_isCharging_13 (by decide) ?_
    have hP9 := hP.sub (ws' := [(h0, .inr (2, [.int ph, .int di, .long lm, .long cu, .long la, .long en]))]) [0] rfl
    have hD9 := hD.sub (ws' := [(h0, .inr (2, [.int ph, .int di, .long lm, .long cu, .long la, .long en]))]) [0] (by decide) rfl
    have hK9 := hK.sub (tys' := []) [] rfl
    exact W.zret (v := 0) (ty := .boolean) hx hb hr (rfl) (fun t ht hW => ⟨⟨0, (), rfl, trivial, by rw [ht]; exact hP9, va_K.moved hW.alike hK9, hD9⟩, hS.F ht⟩) hS.2.2 d_Ta_isCharging_14
  · skip
    refine lv_iconst (v := 1) hx hb d_Ta_isCharging_9 (by decide) ?_
    refine lv_goto (tgt := 14) hx hb d_Ta_isCharging_10 (by decide) ?_
    have hP9 := hP.sub (ws' := [(h0, .inr (2, [.int ph, .int di, .long lm, .long cu, .long la, .long en]))]) [0] rfl
    have hD9 := hD.sub (ws' := [(h0, .inr (2, [.int ph, .int di, .long lm, .long cu, .long la, .long en]))]) [0] (by decide) rfl
    have hK9 := hK.sub (tys' := []) [] rfl
    exact W.zret (v := 1) (ty := .boolean) hx hb hr (rfl) (fun t ht hW => ⟨⟨1, (), rfl, trivial, by rw [ht]; exact hP9, va_K.moved hW.alike hK9, hD9⟩, hS.F ht⟩) hS.2.2 d_Ta_isCharging_14
set_option maxHeartbeats 4000000 in
set_option maxRecDepth 100000 in
theorem c_Ta_end (l : Launch) (dC : Nat → ClassId) (dI : Nat → Nat → Nat) (h0 : Nat) (sz : Nat) (ph : Int32) (di : Int32) (lm : Int64) (cu : Int64) (la : Int64) (en : Int64) : Met l y_Ta_end w_Ta_end ({ frames := 0, cells := 0, slots := 0, locals := 0 }) (cPre dC dI [.ref h0] sz [] [(h0, .inr (2, [.int ph, .int di, .long lm, .long cu, .long la, .long en]))]) (va_Qv (fun (u : Int32) => True) (fun (u : Int32) (t : State) => cB dC dI (va_A [(h0, .inr (2, [.int ph, .int di, .long lm, .long cu, .long la, .long en]))] sz) [] [(h0, .inr (2, [.int u, .int di, .long lm, .long cu, .long la, .long en]))] t) (va_A [(h0, .inr (2, [.int ph, .int di, .long lm, .long cu, .long la, .long en]))] sz)) 0 0 (va_A [(h0, .inr (2, [.int ph, .int di, .long lm, .long cu, .long la, .long en]))] sz) := by
  refine Met.ofW (cc := b_Ta_end) (maxL := 1) (ret := none) (by decide) rfl ?_
  intro p e s m args below meth c s₁ B hml hv
  obtain ⟨rfl, hsz, hN, hP, hK, hD0⟩ := hv
  have hx := B.exec
  have hb := B.bytes
  have hr := B.returns
  have hts := atoms_spec (ws := w_Ta_end) B.pre
  have hB := big_of hts
  have hown : s.vm.findClass R_Ta = some m.cls := findClass_of_methodNamed B.named
  have hlocks := B.notSynchronized
  subst hsz
  have hD := hD0.self (sz := s.heap.size)
  generalize hAe : va_A [(h0, .inr (2, [.int ph, .int di, .long lm, .long cu, .long la, .long en]))] s.heap.size = A at hD ⊢
  have hA : ∀ q : Nat, s.heap.size ≤ q → A q := fun q h => by rw [← hAe]; exact Or.inr h
  have hS : va_S A s.heap s.heap [] := va_S.rf
  have hP : va_P (dC, dI) classes [(h0, .inr (2, [.int ph, .int di, .long lm, .long cu, .long la, .long en]))] s.heap := hP
  have hl := lv_entry ([.ref h0]) (n := 1) (Nat.le_of_ble_eq_true rfl)
  rw [lg_entry_eq]
  generalize (lg_sl ([.ref h0]) ++ List.replicate (1 - (lg_sl ([.ref h0])).length) Slot.unset).toArray = ls at hl ⊢
  have hl : lv_has ls 1 [(0, .ref h0)] := hl
  refine lv_aload_n hx hb d_Ta_end_0 rfl (lv_at hl 0 rfl) ?_
  refine lv_iconst (v := 0) hx hb d_Ta_end_1 (by decide) ?_
  refine va_put (D := (dC, dI)) (ci := 2) (v := .int 0) (ty := .int) (C := R_Ta) (T := F_Ta) (N := 6) hx hb hB inC_Ta t_Ta t_Ta_ok n_Ta hown hK hP hD hS 0 rfl rfl 0 (by decide) (hB _ kb_32) (fun _ h9 => h9) rfl (by decide +kernel) rfl rfl (Nat.le_of_ble_eq_true rfl) d_Ta_end_2 (fun H locs hP hD hS => ?_)
  have hP : va_P (dC, dI) classes [(h0, .inr (2, [.int 0, .int di, .long lm, .long cu, .long la, .long en]))] H := hP
  have hD : va_D A [(h0, .inr (2, [.int 0, .int di, .long lm, .long cu, .long la, .long en]))] := hD
  have hP9 := hP.sub (ws' := [(h0, .inr (2, [.int 0, .int di, .long lm, .long cu, .long la, .long en]))]) [0] rfl
  have hD9 := hD.sub (ws' := [(h0, .inr (2, [.int 0, .int di, .long lm, .long cu, .long la, .long en]))]) [0] (by decide) rfl
  have hK9 := hK.sub (tys' := []) [] rfl
  exact W.vret hx hb hr (fun t ht hW => ⟨⟨(0), rfl, trivial, by rw [ht]; exact hP9, va_K.moved hW.alike hK9, hD9⟩, hS.F ht⟩) hS.2.2 d_Ta_end_5
set_option maxHeartbeats 4000000 in
set_option maxRecDepth 100000 in
theorem c_Ta_runDown (l : Launch) (dC : Nat → ClassId) (dI : Nat → Nat → Nat) (h0 : Nat) (sz : Nat) (ph : Int32) (di : Int32) (lm : Int64) (cu : Int64) (la : Int64) (en : Int64) : Met l y_Ta_runDown w_Ta_runDown ({ frames := 1, cells := 0, slots := 0, locals := 23 }) (cPre dC dI [.ref h0] sz [] [(h0, .inr (2, [.int ph, .int di, .long lm, .long cu, .long la, .long en]))]) (va_Qi (fun (r : Int32) (u : Int32) => True) (fun (u : Int32) (t : State) => cB dC dI (va_A [(h0, .inr (2, [.int ph, .int di, .long lm, .long cu, .long la, .long en]))] sz) [] [(h0, .inr (2, [.int u, .int di, .long lm, .long cu, .long la, .long en]))] t) (va_A [(h0, .inr (2, [.int ph, .int di, .long lm, .long cu, .long la, .long en]))] sz)) 0 0 (va_A [(h0, .inr (2, [.int ph, .int di, .long lm, .long cu, .long la, .long en]))] sz) := by
  refine Met.ofW (cc := b_Ta_runDown) (maxL := 2) (ret := (some .int)) (by decide) rfl ?_
  intro p e s m args below meth c s₁ B hml hv
  obtain ⟨rfl, hsz, hN, hP, hK, hD0⟩ := hv
  have hx := B.exec
  have hb := B.bytes
  have hr := B.returns
  have hts := atoms_spec (ws := w_Ta_runDown) B.pre
  have hB := big_of hts
  have hown : s.vm.findClass R_Ta = some m.cls := findClass_of_methodNamed B.named
  have hlocks := B.notSynchronized
  subst hsz
  have hD := hD0.self (sz := s.heap.size)
  generalize hAe : va_A [(h0, .inr (2, [.int ph, .int di, .long lm, .long cu, .long la, .long en]))] s.heap.size = A at hD ⊢
  have hA : ∀ q : Nat, s.heap.size ≤ q → A q := fun q h => by rw [← hAe]; exact Or.inr h
  have hS : va_S A s.heap s.heap [] := va_S.rf
  have hP : va_P (dC, dI) classes [(h0, .inr (2, [.int ph, .int di, .long lm, .long cu, .long la, .long en]))] s.heap := hP
  have hl := lv_entry ([.ref h0]) (n := 2) (Nat.le_of_ble_eq_true rfl)
  rw [lg_entry_eq]
  generalize (lg_sl ([.ref h0]) ++ List.replicate (2 - (lg_sl ([.ref h0])).length) Slot.unset).toArray = ls at hl ⊢
  have hl : lv_has ls 2 [(0, .ref h0)] := hl
  refine lv_aload_n hx hb d_Ta_runDown_0 rfl (lv_at hl 0 rfl) ?_
  refine lv_bipush (v := 8) hx hb d_Ta_runDown_1 (by decide) ?_
  refine va_put (D := (dC, dI)) (ci := 2) (v := .int 8) (ty := .int) (C := R_Ta) (T := F_Ta) (N := 6) hx hb hB inC_Ta t_Ta t_Ta_ok n_Ta hown hK hP hD hS 0 rfl rfl 0 (by decide) (hB _ kb_32) (fun _ h9 => h9) rfl (by decide +kernel) rfl rfl (Nat.le_of_ble_eq_true rfl) d_Ta_runDown_3 (fun H locs hP hD hS => ?_)
  have hP : va_P (dC, dI) classes [(h0, .inr (2, [.int 8, .int di, .long lm, .long cu, .long la, .long en]))] H := hP
  have hD : va_D A [(h0, .inr (2, [.int 8, .int di, .long lm, .long cu, .long la, .long en]))] := hD
  refine lv_aload_n hx hb d_Ta_runDown_6 rfl (lv_at hl 0 rfl) ?_
  refine va_get (D := (dC, dI)) (ci := 2) (v := .long cu) (C := R_Ta) (T := F_Ta) (N := 6) hx hb hB inC_Ta hown hK hP 0 rfl rfl 3 (by decide) (hB _ kb_35) (fun _ h9 => h9) rfl d_Ta_runDown_7 ?_
  refine lv_ldc2 (v := 10) hx hb hown (hB _ kb_38) d_Ta_runDown_10 ?_
  refine lv_ldiv hx hb d_Ta_runDown_13 (by decide) ?_
  refine lv_topl (fun x_13 ex_13 => ?_)
  refine lv_l2i hx hb d_Ta_runDown_14 rfl ?_
  refine lv_topi (fun x_14 ex_14 => ?_)
  refine lv_istore_n (lv' := [(1, .int x_14), (0, .ref h0)]) hx hb d_Ta_runDown_15 rfl hl (by decide) rfl (fun ls hl => ?_)
  refine lv_sipush (v := 5000) hx hb d_Ta_runDown_16 (by decide) ?_
  refine lv_sipush (v := 1000) hx hb d_Ta_runDown_19 (by decide) ?_
  refine lv_iload_n hx hb d_Ta_runDown_22 rfl (lv_at hl 0 rfl) ?_
  refine lv_imul hx hb d_Ta_runDown_23 ?_
  refine lv_topi (fun x_23 ex_23 => ?_)
  refine va_mmax hx hb (by rw [hml]; exact hl.1.symm) hown (hB _ kb_39) (hB _ kb_40) (hB _ kb_41) (hB _ kb_42) (Nat.le_of_ble_eq_true rfl) (Nat.le_of_ble_eq_true rfl) (Nat.le_of_ble_eq_true rfl) (Nat.le_of_ble_eq_true rfl) d_Ta_runDown_24 ?_
  refine lv_topi (fun x_24 ex_24 => ?_)
  have hP9 := hP.sub (ws' := [(h0, .inr (2, [.int 8, .int di, .long lm, .long cu, .long la, .long en]))]) [0] rfl
  have hD9 := hD.sub (ws' := [(h0, .inr (2, [.int 8, .int di, .long lm, .long cu, .long la, .long en]))]) [0] (by decide) rfl
  have hK9 := hK.sub (tys' := []) [] rfl
  exact W.iret (v := x_24) hx hb hr (fun t ht hW => ⟨⟨x_24, (8), rfl, trivial, by rw [ht]; exact hP9, va_K.moved hW.alike hK9, hD9⟩, hS.F ht⟩) hS.2.2 d_Ta_runDown_27
set_option maxHeartbeats 4000000 in
set_option maxRecDepth 100000 in
theorem c_Ta_breakOff (l : Launch) (dC : Nat → ClassId) (dI : Nat → Nat → Nat) (h0 : Nat) (sz : Nat) (ph : Int32) (di : Int32) (lm : Int64) (cu : Int64) (la : Int64) (en : Int64) : Met l y_Ta_breakOff w_Ta_breakOff ({ frames := 1, cells := 0, slots := 0, locals := 20 }) (cPre dC dI [.ref h0] sz [] [(h0, .inr (2, [.int ph, .int di, .long lm, .long cu, .long la, .long en]))]) (va_Qi (fun (r : Int32) (u : Int32) => True) (fun (u : Int32) (t : State) => cB dC dI (va_A [(h0, .inr (2, [.int ph, .int di, .long lm, .long cu, .long la, .long en]))] sz) [] [(h0, .inr (2, [.int u, .int di, .long lm, .long cu, .long la, .long en]))] t) (va_A [(h0, .inr (2, [.int ph, .int di, .long lm, .long cu, .long la, .long en]))] sz)) 0 0 (va_A [(h0, .inr (2, [.int ph, .int di, .long lm, .long cu, .long la, .long en]))] sz) := by
  refine Met.ofW (cc := b_Ta_breakOff) (maxL := 1) (ret := (some .int)) (by decide) rfl ?_
  intro p e s m args below meth c s₁ B hml hv
  obtain ⟨rfl, hsz, hN, hP, hK, hD0⟩ := hv
  have hx := B.exec
  have hb := B.bytes
  have hr := B.returns
  have hts := atoms_spec (ws := w_Ta_breakOff) B.pre
  have hB := big_of hts
  have hown : s.vm.findClass R_Ta = some m.cls := findClass_of_methodNamed B.named
  have hlocks := B.notSynchronized
  subst hsz
  have hD := hD0.self (sz := s.heap.size)
  generalize hAe : va_A [(h0, .inr (2, [.int ph, .int di, .long lm, .long cu, .long la, .long en]))] s.heap.size = A at hD ⊢
  have hA : ∀ q : Nat, s.heap.size ≤ q → A q := fun q h => by rw [← hAe]; exact Or.inr h
  have hS : va_S A s.heap s.heap [] := va_S.rf
  have hP : va_P (dC, dI) classes [(h0, .inr (2, [.int ph, .int di, .long lm, .long cu, .long la, .long en]))] s.heap := hP
  have hl := lv_entry ([.ref h0]) (n := 1) (Nat.le_of_ble_eq_true rfl)
  rw [lg_entry_eq]
  generalize (lg_sl ([.ref h0]) ++ List.replicate (1 - (lg_sl ([.ref h0])).length) Slot.unset).toArray = ls at hl ⊢
  have hl : lv_has ls 1 [(0, .ref h0)] := hl
  refine lv_aload_n hx hb d_Ta_breakOff_0 rfl (lv_at hl 0 rfl) ?_
  refine kc_v (va_runV (As := []) (rest := []) ⟨hx, hb, hml, hown, hts⟩ (c_Ta_end l dC dI h0 s.heap.size ph di lm cu la en  ) (cwV 0 hts (ginV kb_44 kb_45 kb_46 kb_47 kb_43) rfl rfl rfl (by decide +kernel) ⟨Nat.le_of_ble_eq_true rfl, Nat.le_of_ble_eq_true rfl⟩) (preV (ci := 2) (wc := [(h0, .inr (2, [.int ph, .int di, .long lm, .long cu, .long la, .long en]))]) hK hN hP hD [0] rfl rfl (by decide) [] rfl rfl rfl) rfl rfl hl.1 rfl (lv_room (Nat.le_of_ble_eq_true rfl)) d_Ta_breakOff_1 ⟨Nat.le_of_ble_eq_true rfl, Nat.le_of_ble_eq_true rfl⟩) hP hD hS hA [0] [] (wr := []) rfl rfl (by decide) (by decide) (fun u_1 H locs hw_1 hP hD hK1 hS => ?_)
  obtain ⟨ph2_1, rfl⟩ : ∃ z, z = u_1 := ⟨_, rfl⟩
  have hw_1 : True := hw_1
  have hP : va_P (dC, dI) classes [(h0, .inr (2, [.int ph2_1, .int di, .long lm, .long cu, .long la, .long en]))] H := hP
  have hD : va_D A [(h0, .inr (2, [.int ph2_1, .int di, .long lm, .long cu, .long la, .long en]))] := hD
  refine lv_sipush (v := 5000) hx hb d_Ta_breakOff_4 (by decide) ?_
  have hP9 := hP.sub (ws' := [(h0, .inr (2, [.int ph2_1, .int di, .long lm, .long cu, .long la, .long en]))]) [0] rfl
  have hD9 := hD.sub (ws' := [(h0, .inr (2, [.int ph2_1, .int di, .long lm, .long cu, .long la, .long en]))]) [0] (by decide) rfl
  have hK9 := hK.sub (tys' := []) [] rfl
  exact W.iret (v := 5000) hx hb hr (fun t ht hW => ⟨⟨5000, (ph2_1), rfl, trivial, by rw [ht]; exact hP9, va_K.moved hW.alike hK9, hD9⟩, hS.F ht⟩) hS.2.2 d_Ta_breakOff_7
set_option maxHeartbeats 4000000 in
set_option maxRecDepth 100000 in
theorem c_Ta_wholeEnergy (l : Launch) (dC : Nat → ClassId) (dI : Nat → Nat → Nat) (h0 : Nat) (sz : Nat) (ph : Int32) (di : Int32) (lm : Int64) (cu : Int64) (la : Int64) (en : Int64) : Met l y_Ta_wholeEnergy w_Ta_wholeEnergy ({ frames := 0, cells := 0, slots := 0, locals := 0 }) (cPre dC dI [.ref h0] sz [] [(h0, .inr (2, [.int ph, .int di, .long lm, .long cu, .long la, .long en]))]) (va_Ql (fun (r : Int64) (u : Unit) => True) (fun (u : Unit) (t : State) => cB dC dI (va_A [(h0, .inr (2, [.int ph, .int di, .long lm, .long cu, .long la, .long en]))] sz) [] [(h0, .inr (2, [.int ph, .int di, .long lm, .long cu, .long la, .long en]))] t) (va_A [(h0, .inr (2, [.int ph, .int di, .long lm, .long cu, .long la, .long en]))] sz)) 0 0 (va_A [(h0, .inr (2, [.int ph, .int di, .long lm, .long cu, .long la, .long en]))] sz) := by
  refine Met.ofW (cc := b_Ta_wholeEnergy) (maxL := 1) (ret := (some .long)) (by decide) rfl ?_
  intro p e s m args below meth c s₁ B hml hv
  obtain ⟨rfl, hsz, hN, hP, hK, hD0⟩ := hv
  have hx := B.exec
  have hb := B.bytes
  have hr := B.returns
  have hts := atoms_spec (ws := w_Ta_wholeEnergy) B.pre
  have hB := big_of hts
  have hown : s.vm.findClass R_Ta = some m.cls := findClass_of_methodNamed B.named
  have hlocks := B.notSynchronized
  subst hsz
  have hD := hD0.self (sz := s.heap.size)
  generalize hAe : va_A [(h0, .inr (2, [.int ph, .int di, .long lm, .long cu, .long la, .long en]))] s.heap.size = A at hD ⊢
  have hA : ∀ q : Nat, s.heap.size ≤ q → A q := fun q h => by rw [← hAe]; exact Or.inr h
  have hS : va_S A s.heap s.heap [] := va_S.rf
  have hP : va_P (dC, dI) classes [(h0, .inr (2, [.int ph, .int di, .long lm, .long cu, .long la, .long en]))] s.heap := hP
  have hl := lv_entry ([.ref h0]) (n := 1) (Nat.le_of_ble_eq_true rfl)
  rw [lg_entry_eq]
  generalize (lg_sl ([.ref h0]) ++ List.replicate (1 - (lg_sl ([.ref h0])).length) Slot.unset).toArray = ls at hl ⊢
  have hl : lv_has ls 1 [(0, .ref h0)] := hl
  refine lv_aload_n hx hb d_Ta_wholeEnergy_0 rfl (lv_at hl 0 rfl) ?_
  refine va_get (D := (dC, dI)) (ci := 2) (v := .long en) (C := R_Ta) (T := F_Ta) (N := 6) hx hb hB inC_Ta hown hK hP 0 rfl rfl 5 (by decide) (hB _ kb_37) (fun _ h9 => h9) rfl d_Ta_wholeEnergy_1 ?_
  refine lv_ldc2 (v := 36000) hx hb hown (hB _ kb_48) d_Ta_wholeEnergy_4 ?_
  refine lv_ldiv hx hb d_Ta_wholeEnergy_7 (by decide) ?_
  refine lv_topl (fun x_7 ex_7 => ?_)
  have hP9 := hP.sub (ws' := [(h0, .inr (2, [.int ph, .int di, .long lm, .long cu, .long la, .long en]))]) [0] rfl
  have hD9 := hD.sub (ws' := [(h0, .inr (2, [.int ph, .int di, .long lm, .long cu, .long la, .long en]))]) [0] (by decide) rfl
  have hK9 := hK.sub (tys' := []) [] rfl
  exact W.lret (v := x_7) hx hb hr (fun t ht hW => ⟨⟨x_7, (), rfl, trivial, by rw [ht]; exact hP9, va_K.moved hW.alike hK9, hD9⟩, hS.F ht⟩) hS.2.2 d_Ta_wholeEnergy_8
set_option maxHeartbeats 4000000 in
set_option maxRecDepth 100000 in
theorem c_Ta_isLate (l : Launch) (dC : Nat → ClassId) (dI : Nat → Nat → Nat) (h0 : Nat) (sz : Nat) (ph : Int32) (di : Int32) (lm : Int64) (cu : Int64) (la : Int64) (en : Int64) (p0 : Int64) : Met l y_Ta_isLate w_Ta_isLate ({ frames := 1, cells := 0, slots := 0, locals := 20 }) (cPre dC dI [.ref h0, .long p0] sz [] [(h0, .inr (2, [.int ph, .int di, .long lm, .long cu, .long la, .long en]))]) (va_Qi (fun (r : Int32) (u : Unit) => True) (fun (u : Unit) (t : State) => cB dC dI (va_A [(h0, .inr (2, [.int ph, .int di, .long lm, .long cu, .long la, .long en]))] sz) [] [(h0, .inr (2, [.int ph, .int di, .long lm, .long cu, .long la, .long en]))] t) (va_A [(h0, .inr (2, [.int ph, .int di, .long lm, .long cu, .long la, .long en]))] sz)) 0 0 (va_A [(h0, .inr (2, [.int ph, .int di, .long lm, .long cu, .long la, .long en]))] sz) := by
  refine Met.ofW (cc := b_Ta_isLate) (maxL := 3) (ret := (some .boolean)) (by decide) rfl ?_
  intro p e s m args below meth c s₁ B hml hv
  obtain ⟨rfl, hsz, hN, hP, hK, hD0⟩ := hv
  have hx := B.exec
  have hb := B.bytes
  have hr := B.returns
  have hts := atoms_spec (ws := w_Ta_isLate) B.pre
  have hB := big_of hts
  have hown : s.vm.findClass R_Ta = some m.cls := findClass_of_methodNamed B.named
  have hlocks := B.notSynchronized
  subst hsz
  have hD := hD0.self (sz := s.heap.size)
  generalize hAe : va_A [(h0, .inr (2, [.int ph, .int di, .long lm, .long cu, .long la, .long en]))] s.heap.size = A at hD ⊢
  have hA : ∀ q : Nat, s.heap.size ≤ q → A q := fun q h => by rw [← hAe]; exact Or.inr h
  have hS : va_S A s.heap s.heap [] := va_S.rf
  have hP : va_P (dC, dI) classes [(h0, .inr (2, [.int ph, .int di, .long lm, .long cu, .long la, .long en]))] s.heap := hP
  have hl := lv_entry ([.ref h0, .long p0]) (n := 3) (Nat.le_of_ble_eq_true rfl)
  rw [lg_entry_eq]
  generalize (lg_sl ([.ref h0, .long p0]) ++ List.replicate (3 - (lg_sl ([.ref h0, .long p0])).length) Slot.unset).toArray = ls at hl ⊢
  have hl : lv_has ls 3 [(0, .ref h0), (1, .long p0)] := hl
  refine lv_aload_n hx hb d_Ta_isLate_0 rfl (lv_at hl 0 rfl) ?_
  refine kc_i (va_runV (As := []) (rest := []) ⟨hx, hb, hml, hown, hts⟩ (c_Ta_isOn l dC dI h0 s.heap.size ph di lm cu la en  ) (cwV 0 hts (ginV kb_50 kb_51 kb_52 kb_47 kb_49) rfl rfl rfl (by decide +kernel) ⟨Nat.le_of_ble_eq_true rfl, Nat.le_of_ble_eq_true rfl⟩) (preV (ci := 2) (wc := [(h0, .inr (2, [.int ph, .int di, .long lm, .long cu, .long la, .long en]))]) hK hN hP hD [0] rfl rfl (by decide) [] rfl rfl rfl) rfl rfl hl.1 rfl (lv_room (Nat.le_of_ble_eq_true rfl)) d_Ta_isLate_1 ⟨Nat.le_of_ble_eq_true rfl, Nat.le_of_ble_eq_true rfl⟩) hP hD hS hA [0] [] (wr := []) rfl rfl (by decide) (by decide) (fun r_1 u_1 H locs hw_1 hP hD hK1 hS => ?_)
  have hw_1 : True := hw_1
  have hP : va_P (dC, dI) classes [(h0, .inr (2, [.int ph, .int di, .long lm, .long cu, .long la, .long en]))] H := hP
  have hD : va_D A [(h0, .inr (2, [.int ph, .int di, .long lm, .long cu, .long la, .long en]))] := hD
  refine lv_if_eq (tgt := 24) hx hb d_Ta_isLate_4 (by decide) (fun c_4 => ?_) (fun c_4 => ?_)
  · skip
    refine lv_iconst (v := 0) hx hb d_Ta_isLate_24 (by decide) ?_
    have hP9 := hP.sub (ws' := [(h0, .inr (2, [.int ph, .int di, .long lm, .long cu, .long la, .long en]))]) [0] rfl
    have hD9 := hD.sub (ws' := [(h0, .inr (2, [.int ph, .int di, .long lm, .long cu, .long la, .long en]))]) [0] (by decide) rfl
    have hK9 := hK.sub (tys' := []) [] rfl
    exact W.zret (v := 0) (ty := .boolean) hx hb hr (rfl) (fun t ht hW => ⟨⟨0, (), rfl, trivial, by rw [ht]; exact hP9, va_K.moved hW.alike hK9, hD9⟩, hS.F ht⟩) hS.2.2 d_Ta_isLate_25
  · skip
    refine lv_lload_n hx hb d_Ta_isLate_7 rfl (lv_at hl 1 rfl) ?_
    refine lv_aload_n hx hb d_Ta_isLate_8 rfl (lv_at hl 0 rfl) ?_
    refine va_get (D := (dC, dI)) (ci := 2) (v := .long la) (C := R_Ta) (T := F_Ta) (N := 6) hx hb hB inC_Ta hown hK hP 0 rfl rfl 4 (by decide) (hB _ kb_36) (fun _ h9 => h9) rfl d_Ta_isLate_9 ?_
    refine lv_ldc2 (v := 5000) hx hb hown (hB _ kb_53) d_Ta_isLate_12 ?_
    refine lv_ladd hx hb d_Ta_isLate_15 ?_
    refine lv_topl (fun x_15 ex_15 => ?_)
    refine W.lcmp hx hb d_Ta_isLate_16 ?_
    refine lv_if_le (tgt := 24) hx hb d_Ta_isLate_17 (by decide) (fun c_17 => ?_) (fun c_17 => ?_)
    · have c_17 := (lg_cmp_le _ _).mp c_17
      refine lv_iconst (v := 0) hx hb d_Ta_isLate_24 (by decide) ?_
      have hP9 := hP.sub (ws' := [(h0, .inr (2, [.int ph, .int di, .long lm, .long cu, .long la, .long en]))]) [0] rfl
      have hD9 := hD.sub (ws' := [(h0, .inr (2, [.int ph, .int di, .long lm, .long cu, .long la, .long en]))]) [0] (by decide) rfl
      have hK9 := hK.sub (tys' := []) [] rfl
      exact W.zret (v := 0) (ty := .boolean) hx hb hr (rfl) (fun t ht hW => ⟨⟨0, (), rfl, trivial, by rw [ht]; exact hP9, va_K.moved hW.alike hK9, hD9⟩, hS.F ht⟩) hS.2.2 d_Ta_isLate_25
    · have c_17 := mt (lg_cmp_le _ _).mpr c_17
      refine lv_iconst (v := 1) hx hb d_Ta_isLate_20 (by decide) ?_
      refine lv_goto (tgt := 25) hx hb d_Ta_isLate_21 (by decide) ?_
      have hP9 := hP.sub (ws' := [(h0, .inr (2, [.int ph, .int di, .long lm, .long cu, .long la, .long en]))]) [0] rfl
      have hD9 := hD.sub (ws' := [(h0, .inr (2, [.int ph, .int di, .long lm, .long cu, .long la, .long en]))]) [0] (by decide) rfl
      have hK9 := hK.sub (tys' := []) [] rfl
      exact W.zret (v := 1) (ty := .boolean) hx hb hr (rfl) (fun t ht hW => ⟨⟨1, (), rfl, trivial, by rw [ht]; exact hP9, va_K.moved hW.alike hK9, hD9⟩, hS.F ht⟩) hS.2.2 d_Ta_isLate_25
set_option maxHeartbeats 4000000 in
set_option maxRecDepth 100000 in
theorem c_Ta_phaseAtVolts (l : Launch) (dC : Nat → ClassId) (dI : Nat → Nat → Nat) (sz : Nat) (p0 : Int64) : Met l y_Ta_phaseAtVolts w_Ta_phaseAtVolts ({ frames := 1, cells := 0, slots := 0, locals := 25 }) (cPre dC dI [.long p0] sz [] []) (va_Qi (fun (r : Int32) (u : Unit) => True) (fun (u : Unit) (t : State) => cB dC dI (va_A [] sz) [] [] t) (va_A [] sz)) 0 0 (va_A [] sz) := by
  refine Met.ofW (cc := b_Ta_phaseAtVolts) (maxL := 2) (ret := (some .int)) (by decide) rfl ?_
  intro p e s m args below meth c s₁ B hml hv
  obtain ⟨rfl, hsz, hN, hP, hK, hD0⟩ := hv
  have hx := B.exec
  have hb := B.bytes
  have hr := B.returns
  have hts := atoms_spec (ws := w_Ta_phaseAtVolts) B.pre
  have hB := big_of hts
  have hown : s.vm.findClass R_Ta = some m.cls := findClass_of_methodNamed B.named
  have hlocks := B.notSynchronized
  subst hsz
  have hD := hD0.self (sz := s.heap.size)
  generalize hAe : va_A [] s.heap.size = A at hD ⊢
  have hA : ∀ q : Nat, s.heap.size ≤ q → A q := fun q h => by rw [← hAe]; exact Or.inr h
  have hS : va_S A s.heap s.heap [] := va_S.rf
  have hP : va_P (dC, dI) classes [] s.heap := hP
  have hl := lv_entry ([.long p0]) (n := 2) (Nat.le_of_ble_eq_true rfl)
  rw [lg_entry_eq]
  generalize (lg_sl ([.long p0]) ++ List.replicate (2 - (lg_sl ([.long p0])).length) Slot.unset).toArray = ls at hl ⊢
  have hl : lv_has ls 2 [(0, .long p0)] := hl
  refine lv_lload_n hx hb d_Ta_phaseAtVolts_0 rfl (lv_at hl 0 rfl) ?_
  refine lv_ldc2 (v := 380) hx hb hown (hB _ kb_54) d_Ta_phaseAtVolts_1 ?_
  refine lv_ldc2 (v := 420) hx hb hown (hB _ kb_55) d_Ta_phaseAtVolts_4 ?_
  refine kc_i (va_runSN (As := [.long p0, .long 380, .long 420]) (rest := []) ⟨hx, hb, hml, hown, hts⟩ (c_X_isWithin l dC dI  s.heap.size  p0 380 420 ) ⟨va_cnB 3 hts (gin kb_6) rfl rfl rfl (hN _ kn_2) (hB _ kb_7) (by decide +kernel) ⟨Nat.le_of_ble_eq_true rfl, Nat.le_of_ble_eq_true rfl⟩, (hB _ kb_8), trivial⟩ (preS (wc := []) hK hN hP hD [] rfl rfl (by decide) [] rfl) rfl rfl hl.1 rfl (lv_room (Nat.le_of_ble_eq_true rfl)) d_Ta_phaseAtVolts_7 ⟨Nat.le_of_ble_eq_true rfl, Nat.le_of_ble_eq_true rfl⟩) hP hD hS hA [] [] (wr := []) rfl rfl (by decide) (by decide) (fun r_7 u_7 H locs hw_7 hP hD hK1 hS => ?_)
  have hw_7 : r_7 = bi (380 ≤ p0 ∧ p0 ≤ 420) := hw_7
  have hP : va_P (dC, dI) classes [] H := hP
  have hD : va_D A [] := hD
  refine lv_if_eq (tgt := 18) hx hb d_Ta_phaseAtVolts_10 (by decide) (fun c_10 => ?_) (fun c_10 => ?_)
  · have c_10 := bi_n (hw_7.symm.trans c_10)
    refine lv_iconst (v := 5) hx hb d_Ta_phaseAtVolts_18 (by decide) ?_
    have hP9 := hP.sub (ws' := []) [] rfl
    have hD9 := hD.sub (ws' := []) [] (by decide) rfl
    have hK9 := hK.sub (tys' := []) [] rfl
    exact W.iret (v := 5) hx hb hr (fun t ht hW => ⟨⟨5, (), rfl, trivial, by rw [ht]; exact hP9, va_K.moved hW.alike hK9, hD9⟩, hS.F ht⟩) hS.2.2 d_Ta_phaseAtVolts_19
  · have c_10 := bi_y hw_7 c_10
    refine lv_bipush (v := 6) hx hb d_Ta_phaseAtVolts_13 (by decide) ?_
    refine lv_goto (tgt := 19) hx hb d_Ta_phaseAtVolts_15 (by decide) ?_
    have hP9 := hP.sub (ws' := []) [] rfl
    have hD9 := hD.sub (ws' := []) [] (by decide) rfl
    have hK9 := hK.sub (tys' := []) [] rfl
    exact W.iret (v := 6) hx hb hr (fun t ht hW => ⟨⟨6, (), rfl, trivial, by rw [ht]; exact hP9, va_K.moved hW.alike hK9, hD9⟩, hS.F ht⟩) hS.2.2 d_Ta_phaseAtVolts_19
set_option maxHeartbeats 4000000 in
set_option maxRecDepth 100000 in
theorem c_Ta_isLimit (l : Launch) (dC : Nat → ClassId) (dI : Nat → Nat → Nat) (sz : Nat) (p0 : Int64) : Met l y_Ta_isLimit w_Ta_isLimit ({ frames := 1, cells := 0, slots := 0, locals := 25 }) (cPre dC dI [.long p0] sz [] []) (va_Qi (fun (r : Int32) (u : Unit) => r = bi (1 ≤ p0 ∧ p0 ≤ 5000)) (fun (u : Unit) (t : State) => cB dC dI (va_A [] sz) [] [] t) (va_A [] sz)) 0 0 (va_A [] sz) := by
  refine Met.ofW (cc := b_Ta_isLimit) (maxL := 2) (ret := (some .boolean)) (by decide) rfl ?_
  intro p e s m args below meth c s₁ B hml hv
  obtain ⟨rfl, hsz, hN, hP, hK, hD0⟩ := hv
  have hx := B.exec
  have hb := B.bytes
  have hr := B.returns
  have hts := atoms_spec (ws := w_Ta_isLimit) B.pre
  have hB := big_of hts
  have hown : s.vm.findClass R_Ta = some m.cls := findClass_of_methodNamed B.named
  have hlocks := B.notSynchronized
  subst hsz
  have hD := hD0.self (sz := s.heap.size)
  generalize hAe : va_A [] s.heap.size = A at hD ⊢
  have hA : ∀ q : Nat, s.heap.size ≤ q → A q := fun q h => by rw [← hAe]; exact Or.inr h
  have hS : va_S A s.heap s.heap [] := va_S.rf
  have hP : va_P (dC, dI) classes [] s.heap := hP
  have hl := lv_entry ([.long p0]) (n := 2) (Nat.le_of_ble_eq_true rfl)
  rw [lg_entry_eq]
  generalize (lg_sl ([.long p0]) ++ List.replicate (2 - (lg_sl ([.long p0])).length) Slot.unset).toArray = ls at hl ⊢
  have hl : lv_has ls 2 [(0, .long p0)] := hl
  refine lv_lload_n hx hb d_Ta_isLimit_0 rfl (lv_at hl 0 rfl) ?_
  refine lv_lconst (v := 1) hx hb d_Ta_isLimit_1 (by decide) ?_
  refine lv_ldc2 (v := 5000) hx hb hown (hB _ kb_53) d_Ta_isLimit_2 ?_
  refine kc_i (va_runSN (As := [.long p0, .long 1, .long 5000]) (rest := []) ⟨hx, hb, hml, hown, hts⟩ (c_X_isWithin l dC dI  s.heap.size  p0 1 5000 ) ⟨va_cnB 3 hts (gin kb_6) rfl rfl rfl (hN _ kn_2) (hB _ kb_7) (by decide +kernel) ⟨Nat.le_of_ble_eq_true rfl, Nat.le_of_ble_eq_true rfl⟩, (hB _ kb_8), trivial⟩ (preS (wc := []) hK hN hP hD [] rfl rfl (by decide) [] rfl) rfl rfl hl.1 rfl (lv_room (Nat.le_of_ble_eq_true rfl)) d_Ta_isLimit_5 ⟨Nat.le_of_ble_eq_true rfl, Nat.le_of_ble_eq_true rfl⟩) hP hD hS hA [] [] (wr := []) rfl rfl (by decide) (by decide) (fun r_5 u_5 H locs hw_5 hP hD hK1 hS => ?_)
  have hw_5 : r_5 = bi (1 ≤ p0 ∧ p0 ≤ 5000) := hw_5
  have hP : va_P (dC, dI) classes [] H := hP
  have hD : va_D A [] := hD
  have hP9 := hP.sub (ws' := []) [] rfl
  have hD9 := hD.sub (ws' := []) [] (by decide) rfl
  have hK9 := hK.sub (tys' := []) [] rfl
  exact W.zret (v := r_5) (ty := .boolean) hx hb hr (nar_bi hw_5) (fun t ht hW => ⟨⟨r_5, (), rfl, hw_5, by rw [ht]; exact hP9, va_K.moved hW.alike hK9, hD9⟩, hS.F ht⟩) hS.2.2 d_Ta_isLimit_8
set_option maxHeartbeats 4000000 in
set_option maxRecDepth 100000 in
theorem c_Ta_phaseAfter (l : Launch) (dC : Nat → ClassId) (dI : Nat → Nat → Nat) (h0 : Nat) (sz : Nat) (ph : Int32) (di : Int32) (lm : Int64) (cu : Int64) (la : Int64) (en : Int64) (p0 : Int32) (p1 : Int64) (p2 : Int32) : Met l y_Ta_phaseAfter w_Ta_phaseAfter ({ frames := 2, cells := 0, slots := 0, locals := 46 }) (cPre dC dI [.ref h0, .int p0, .long p1, .int p2] sz [] [(h0, .inr (2, [.int ph, .int di, .long lm, .long cu, .long la, .long en]))]) (va_Qi (fun (r : Int32) (u : Unit) => True) (fun (u : Unit) (t : State) => cB dC dI (va_A [(h0, .inr (2, [.int ph, .int di, .long lm, .long cu, .long la, .long en]))] sz) [] [(h0, .inr (2, [.int ph, .int di, .long lm, .long cu, .long la, .long en]))] t) (va_A [(h0, .inr (2, [.int ph, .int di, .long lm, .long cu, .long la, .long en]))] sz)) 0 0 (va_A [(h0, .inr (2, [.int ph, .int di, .long lm, .long cu, .long la, .long en]))] sz) := by
  refine Met.ofW (cc := b_Ta_phaseAfter) (maxL := 5) (ret := (some .int)) (by decide) rfl ?_
  intro p e s m args below meth c s₁ B hml hv
  obtain ⟨rfl, hsz, hN, hP, hK, hD0⟩ := hv
  have hx := B.exec
  have hb := B.bytes
  have hr := B.returns
  have hts := atoms_spec (ws := w_Ta_phaseAfter) B.pre
  have hB := big_of hts
  have hown : s.vm.findClass R_Ta = some m.cls := findClass_of_methodNamed B.named
  have hlocks := B.notSynchronized
  subst hsz
  have hD := hD0.self (sz := s.heap.size)
  generalize hAe : va_A [(h0, .inr (2, [.int ph, .int di, .long lm, .long cu, .long la, .long en]))] s.heap.size = A at hD ⊢
  have hA : ∀ q : Nat, s.heap.size ≤ q → A q := fun q h => by rw [← hAe]; exact Or.inr h
  have hS : va_S A s.heap s.heap [] := va_S.rf
  have hP : va_P (dC, dI) classes [(h0, .inr (2, [.int ph, .int di, .long lm, .long cu, .long la, .long en]))] s.heap := hP
  have hl := lv_entry ([.ref h0, .int p0, .long p1, .int p2]) (n := 5) (Nat.le_of_ble_eq_true rfl)
  rw [lg_entry_eq]
  generalize (lg_sl ([.ref h0, .int p0, .long p1, .int p2]) ++ List.replicate (5 - (lg_sl ([.ref h0, .int p0, .long p1, .int p2])).length) Slot.unset).toArray = ls at hl ⊢
  have hl : lv_has ls 5 [(0, .ref h0), (1, .int p0), (2, .long p1), (4, .int p2)] := hl
  refine lv_iload_n hx hb d_Ta_phaseAfter_0 rfl (lv_at hl 1 rfl) ?_
  rcases swx 0 10 p0 with c_1 | c_1
  · refine lv_tableOut (tgt := 298) hx hb d_Ta_phaseAfter_1 (by omega) (by decide) ?_
    refine lv_iconst (v := (-1)) hx hb d_Ta_phaseAfter_298 (by decide) ?_
    have hP9 := hP.sub (ws' := [(h0, .inr (2, [.int ph, .int di, .long lm, .long cu, .long la, .long en]))]) [0] rfl
    have hD9 := hD.sub (ws' := [(h0, .inr (2, [.int ph, .int di, .long lm, .long cu, .long la, .long en]))]) [0] (by decide) rfl
    have hK9 := hK.sub (tys' := []) [] rfl
    exact W.iret (v := (-1)) hx hb hr (fun t ht hW => ⟨⟨(-1), (), rfl, trivial, by rw [ht]; exact hP9, va_K.moved hW.alike hK9, hD9⟩, hS.F ht⟩) hS.2.2 d_Ta_phaseAfter_299
  · obtain ⟨j_1, hj_1⟩ : ∃ j : Nat, p0.toInt = 0 + (j : Int) ∧ j < 11 := ⟨(p0.toInt - 0).toNat, by omega, by omega⟩
    rcases (show j_1 = 0 ∨ j_1 = 1 ∨ j_1 = 2 ∨ j_1 = 3 ∨ j_1 = 4 ∨ j_1 = 5 ∨ j_1 = 6 ∨ j_1 = 7 ∨ j_1 = 8 ∨ j_1 = 9 ∨ j_1 = 10 by omega) with h_1 | h_1 | h_1 | h_1 | h_1 | h_1 | h_1 | h_1 | h_1 | h_1 | h_1
    · have t_1 : p0.toInt = 0 := by omega
      have i_1 : p0 = 0 := Int32.toInt_inj.mp (t_1.trans (by decide))
      refine lv_tableIn (tgt := 60) hx hb d_Ta_phaseAfter_1 (by omega) (by omega) (by rw [t_1]; rfl) (by decide) ?_
      refine lv_aload_n hx hb d_Ta_phaseAfter_60 rfl (lv_at hl 0 rfl) ?_
      refine va_get (D := (dC, dI)) (ci := 2) (v := .int ph) (C := R_Ta) (T := F_Ta) (N := 6) hx hb hB inC_Ta hown hK hP 0 rfl rfl 0 (by decide) (hB _ kb_32) (fun _ h9 => h9) rfl d_Ta_phaseAfter_61 ?_
      refine lv_if_ne (tgt := 76) hx hb d_Ta_phaseAfter_64 (by decide) (fun c_64 => ?_) (fun c_64 => ?_)
      · skip
        refine lv_iconst (v := (-1)) hx hb d_Ta_phaseAfter_76 (by decide) ?_
        have hP9 := hP.sub (ws' := [(h0, .inr (2, [.int ph, .int di, .long lm, .long cu, .long la, .long en]))]) [0] rfl
        have hD9 := hD.sub (ws' := [(h0, .inr (2, [.int ph, .int di, .long lm, .long cu, .long la, .long en]))]) [0] (by decide) rfl
        have hK9 := hK.sub (tys' := []) [] rfl
        exact W.iret (v := (-1)) hx hb hr (fun t ht hW => ⟨⟨(-1), (), rfl, trivial, by rw [ht]; exact hP9, va_K.moved hW.alike hK9, hD9⟩, hS.F ht⟩) hS.2.2 d_Ta_phaseAfter_77
      · skip
        refine lv_iload hx hb d_Ta_phaseAfter_67 (lv_at hl 3 rfl) ?_
        refine lv_if_eq (tgt := 76) hx hb d_Ta_phaseAfter_69 (by decide) (fun c_69 => ?_) (fun c_69 => ?_)
        · skip
          refine lv_iconst (v := (-1)) hx hb d_Ta_phaseAfter_76 (by decide) ?_
          have hP9 := hP.sub (ws' := [(h0, .inr (2, [.int ph, .int di, .long lm, .long cu, .long la, .long en]))]) [0] rfl
          have hD9 := hD.sub (ws' := [(h0, .inr (2, [.int ph, .int di, .long lm, .long cu, .long la, .long en]))]) [0] (by decide) rfl
          have hK9 := hK.sub (tys' := []) [] rfl
          exact W.iret (v := (-1)) hx hb hr (fun t ht hW => ⟨⟨(-1), (), rfl, trivial, by rw [ht]; exact hP9, va_K.moved hW.alike hK9, hD9⟩, hS.F ht⟩) hS.2.2 d_Ta_phaseAfter_77
        · skip
          refine lv_iconst (v := 1) hx hb d_Ta_phaseAfter_72 (by decide) ?_
          refine lv_goto (tgt := 77) hx hb d_Ta_phaseAfter_73 (by decide) ?_
          have hP9 := hP.sub (ws' := [(h0, .inr (2, [.int ph, .int di, .long lm, .long cu, .long la, .long en]))]) [0] rfl
          have hD9 := hD.sub (ws' := [(h0, .inr (2, [.int ph, .int di, .long lm, .long cu, .long la, .long en]))]) [0] (by decide) rfl
          have hK9 := hK.sub (tys' := []) [] rfl
          exact W.iret (v := 1) hx hb hr (fun t ht hW => ⟨⟨1, (), rfl, trivial, by rw [ht]; exact hP9, va_K.moved hW.alike hK9, hD9⟩, hS.F ht⟩) hS.2.2 d_Ta_phaseAfter_77
    · have t_1 : p0.toInt = 1 := by omega
      have i_1 : p0 = 1 := Int32.toInt_inj.mp (t_1.trans (by decide))
      refine lv_tableIn (tgt := 78) hx hb d_Ta_phaseAfter_1 (by omega) (by omega) (by rw [t_1]; rfl) (by decide) ?_
      refine lv_aload_n hx hb d_Ta_phaseAfter_78 rfl (lv_at hl 0 rfl) ?_
      refine va_get (D := (dC, dI)) (ci := 2) (v := .int ph) (C := R_Ta) (T := F_Ta) (N := 6) hx hb hB inC_Ta hown hK hP 0 rfl rfl 0 (by decide) (hB _ kb_32) (fun _ h9 => h9) rfl d_Ta_phaseAfter_79 ?_
      refine lv_iconst (v := 1) hx hb d_Ta_phaseAfter_82 (by decide) ?_
      refine lv_icmp_ne (tgt := 102) hx hb d_Ta_phaseAfter_83 (by decide) (fun c_83 => ?_) (fun c_83 => ?_)
      · skip
        refine lv_iconst (v := (-1)) hx hb d_Ta_phaseAfter_102 (by decide) ?_
        have hP9 := hP.sub (ws' := [(h0, .inr (2, [.int ph, .int di, .long lm, .long cu, .long la, .long en]))]) [0] rfl
        have hD9 := hD.sub (ws' := [(h0, .inr (2, [.int ph, .int di, .long lm, .long cu, .long la, .long en]))]) [0] (by decide) rfl
        have hK9 := hK.sub (tys' := []) [] rfl
        exact W.iret (v := (-1)) hx hb hr (fun t ht hW => ⟨⟨(-1), (), rfl, trivial, by rw [ht]; exact hP9, va_K.moved hW.alike hK9, hD9⟩, hS.F ht⟩) hS.2.2 d_Ta_phaseAfter_103
      · skip
        refine lv_lload_n hx hb d_Ta_phaseAfter_86 rfl (lv_at hl 2 rfl) ?_
        refine lv_lconst (v := 0) hx hb d_Ta_phaseAfter_87 (by decide) ?_
        refine W.lcmp hx hb d_Ta_phaseAfter_88 ?_
        refine lv_if_eq (tgt := 98) hx hb d_Ta_phaseAfter_89 (by decide) (fun c_89 => ?_) (fun c_89 => ?_)
        · have c_89 := (lg_cmp_eq _ _).mp c_89
          refine lv_iconst (v := 2) hx hb d_Ta_phaseAfter_98 (by decide) ?_
          refine lv_goto (tgt := 103) hx hb d_Ta_phaseAfter_99 (by decide) ?_
          have hP9 := hP.sub (ws' := [(h0, .inr (2, [.int ph, .int di, .long lm, .long cu, .long la, .long en]))]) [0] rfl
          have hD9 := hD.sub (ws' := [(h0, .inr (2, [.int ph, .int di, .long lm, .long cu, .long la, .long en]))]) [0] (by decide) rfl
          have hK9 := hK.sub (tys' := []) [] rfl
          exact W.iret (v := 2) hx hb hr (fun t ht hW => ⟨⟨2, (), rfl, trivial, by rw [ht]; exact hP9, va_K.moved hW.alike hK9, hD9⟩, hS.F ht⟩) hS.2.2 d_Ta_phaseAfter_103
        · have c_89 := mt (lg_cmp_eq _ _).mpr c_89
          refine lv_lload_n hx hb d_Ta_phaseAfter_92 rfl (lv_at hl 2 rfl) ?_
          refine lv_lconst (v := 1) hx hb d_Ta_phaseAfter_93 (by decide) ?_
          refine W.lcmp hx hb d_Ta_phaseAfter_94 ?_
          refine lv_if_ne (tgt := 102) hx hb d_Ta_phaseAfter_95 (by decide) (fun c_95 => ?_) (fun c_95 => ?_)
          · have c_95 := mt (lg_cmp_eq _ _).mpr c_95
            refine lv_iconst (v := (-1)) hx hb d_Ta_phaseAfter_102 (by decide) ?_
            have hP9 := hP.sub (ws' := [(h0, .inr (2, [.int ph, .int di, .long lm, .long cu, .long la, .long en]))]) [0] rfl
            have hD9 := hD.sub (ws' := [(h0, .inr (2, [.int ph, .int di, .long lm, .long cu, .long la, .long en]))]) [0] (by decide) rfl
            have hK9 := hK.sub (tys' := []) [] rfl
            exact W.iret (v := (-1)) hx hb hr (fun t ht hW => ⟨⟨(-1), (), rfl, trivial, by rw [ht]; exact hP9, va_K.moved hW.alike hK9, hD9⟩, hS.F ht⟩) hS.2.2 d_Ta_phaseAfter_103
          · have c_95 := (lg_cmp_eq _ _).mp c_95
            refine lv_iconst (v := 2) hx hb d_Ta_phaseAfter_98 (by decide) ?_
            refine lv_goto (tgt := 103) hx hb d_Ta_phaseAfter_99 (by decide) ?_
            have hP9 := hP.sub (ws' := [(h0, .inr (2, [.int ph, .int di, .long lm, .long cu, .long la, .long en]))]) [0] rfl
            have hD9 := hD.sub (ws' := [(h0, .inr (2, [.int ph, .int di, .long lm, .long cu, .long la, .long en]))]) [0] (by decide) rfl
            have hK9 := hK.sub (tys' := []) [] rfl
            exact W.iret (v := 2) hx hb hr (fun t ht hW => ⟨⟨2, (), rfl, trivial, by rw [ht]; exact hP9, va_K.moved hW.alike hK9, hD9⟩, hS.F ht⟩) hS.2.2 d_Ta_phaseAfter_103
    · have t_1 : p0.toInt = 2 := by omega
      have i_1 : p0 = 2 := Int32.toInt_inj.mp (t_1.trans (by decide))
      refine lv_tableIn (tgt := 104) hx hb d_Ta_phaseAfter_1 (by omega) (by omega) (by rw [t_1]; rfl) (by decide) ?_
      refine lv_aload_n hx hb d_Ta_phaseAfter_104 rfl (lv_at hl 0 rfl) ?_
      refine va_get (D := (dC, dI)) (ci := 2) (v := .int ph) (C := R_Ta) (T := F_Ta) (N := 6) hx hb hB inC_Ta hown hK hP 0 rfl rfl 0 (by decide) (hB _ kb_32) (fun _ h9 => h9) rfl d_Ta_phaseAfter_105 ?_
      refine lv_iconst (v := 2) hx hb d_Ta_phaseAfter_108 (by decide) ?_
      refine lv_icmp_ne (tgt := 122) hx hb d_Ta_phaseAfter_109 (by decide) (fun c_109 => ?_) (fun c_109 => ?_)
      · skip
        refine lv_iconst (v := (-1)) hx hb d_Ta_phaseAfter_122 (by decide) ?_
        have hP9 := hP.sub (ws' := [(h0, .inr (2, [.int ph, .int di, .long lm, .long cu, .long la, .long en]))]) [0] rfl
        have hD9 := hD.sub (ws' := [(h0, .inr (2, [.int ph, .int di, .long lm, .long cu, .long la, .long en]))]) [0] (by decide) rfl
        have hK9 := hK.sub (tys' := []) [] rfl
        exact W.iret (v := (-1)) hx hb hr (fun t ht hW => ⟨⟨(-1), (), rfl, trivial, by rw [ht]; exact hP9, va_K.moved hW.alike hK9, hD9⟩, hS.F ht⟩) hS.2.2 d_Ta_phaseAfter_123
      · skip
        refine lv_lload_n hx hb d_Ta_phaseAfter_112 rfl (lv_at hl 2 rfl) ?_
        refine lv_lconst (v := 1) hx hb d_Ta_phaseAfter_113 (by decide) ?_
        refine W.lcmp hx hb d_Ta_phaseAfter_114 ?_
        refine lv_if_ne (tgt := 122) hx hb d_Ta_phaseAfter_115 (by decide) (fun c_115 => ?_) (fun c_115 => ?_)
        · have c_115 := mt (lg_cmp_eq _ _).mpr c_115
          refine lv_iconst (v := (-1)) hx hb d_Ta_phaseAfter_122 (by decide) ?_
          have hP9 := hP.sub (ws' := [(h0, .inr (2, [.int ph, .int di, .long lm, .long cu, .long la, .long en]))]) [0] rfl
          have hD9 := hD.sub (ws' := [(h0, .inr (2, [.int ph, .int di, .long lm, .long cu, .long la, .long en]))]) [0] (by decide) rfl
          have hK9 := hK.sub (tys' := []) [] rfl
          exact W.iret (v := (-1)) hx hb hr (fun t ht hW => ⟨⟨(-1), (), rfl, trivial, by rw [ht]; exact hP9, va_K.moved hW.alike hK9, hD9⟩, hS.F ht⟩) hS.2.2 d_Ta_phaseAfter_123
        · have c_115 := (lg_cmp_eq _ _).mp c_115
          refine lv_iconst (v := 3) hx hb d_Ta_phaseAfter_118 (by decide) ?_
          refine lv_goto (tgt := 123) hx hb d_Ta_phaseAfter_119 (by decide) ?_
          have hP9 := hP.sub (ws' := [(h0, .inr (2, [.int ph, .int di, .long lm, .long cu, .long la, .long en]))]) [0] rfl
          have hD9 := hD.sub (ws' := [(h0, .inr (2, [.int ph, .int di, .long lm, .long cu, .long la, .long en]))]) [0] (by decide) rfl
          have hK9 := hK.sub (tys' := []) [] rfl
          exact W.iret (v := 3) hx hb hr (fun t ht hW => ⟨⟨3, (), rfl, trivial, by rw [ht]; exact hP9, va_K.moved hW.alike hK9, hD9⟩, hS.F ht⟩) hS.2.2 d_Ta_phaseAfter_123
    · have t_1 : p0.toInt = 3 := by omega
      have i_1 : p0 = 3 := Int32.toInt_inj.mp (t_1.trans (by decide))
      refine lv_tableIn (tgt := 124) hx hb d_Ta_phaseAfter_1 (by omega) (by omega) (by rw [t_1]; rfl) (by decide) ?_
      refine lv_aload_n hx hb d_Ta_phaseAfter_124 rfl (lv_at hl 0 rfl) ?_
      refine va_get (D := (dC, dI)) (ci := 2) (v := .int ph) (C := R_Ta) (T := F_Ta) (N := 6) hx hb hB inC_Ta hown hK hP 0 rfl rfl 0 (by decide) (hB _ kb_32) (fun _ h9 => h9) rfl d_Ta_phaseAfter_125 ?_
      refine lv_iconst (v := 3) hx hb d_Ta_phaseAfter_128 (by decide) ?_
      refine lv_icmp_ne (tgt := 143) hx hb d_Ta_phaseAfter_129 (by decide) (fun c_129 => ?_) (fun c_129 => ?_)
      · skip
        refine lv_iconst (v := (-1)) hx hb d_Ta_phaseAfter_143 (by decide) ?_
        have hP9 := hP.sub (ws' := [(h0, .inr (2, [.int ph, .int di, .long lm, .long cu, .long la, .long en]))]) [0] rfl
        have hD9 := hD.sub (ws' := [(h0, .inr (2, [.int ph, .int di, .long lm, .long cu, .long la, .long en]))]) [0] (by decide) rfl
        have hK9 := hK.sub (tys' := []) [] rfl
        exact W.iret (v := (-1)) hx hb hr (fun t ht hW => ⟨⟨(-1), (), rfl, trivial, by rw [ht]; exact hP9, va_K.moved hW.alike hK9, hD9⟩, hS.F ht⟩) hS.2.2 d_Ta_phaseAfter_144
      · skip
        refine lv_lload_n hx hb d_Ta_phaseAfter_132 rfl (lv_at hl 2 rfl) ?_
        refine kc_i (va_runS (As := [.long p1]) (rest := []) ⟨hx, hb, hml, hown, hts⟩ (c_Ta_isLimit l dC dI  s.heap.size  p1 ) (cwS 1 hts (ginS kb_57 kb_58 kb_47 kb_56) rfl rfl rfl (by decide +kernel) ⟨Nat.le_of_ble_eq_true rfl, Nat.le_of_ble_eq_true rfl⟩) (preS (wc := []) hK hN hP hD [] rfl rfl (by decide) [] rfl) rfl rfl hl.1 rfl (lv_room (Nat.le_of_ble_eq_true rfl)) d_Ta_phaseAfter_133 ⟨Nat.le_of_ble_eq_true rfl, Nat.le_of_ble_eq_true rfl⟩) hP hD hS hA [] [0] (wr := [(h0, .inr (2, [.int ph, .int di, .long lm, .long cu, .long la, .long en]))]) rfl rfl (by decide) (by decide) (fun r_133 u_133 H locs hw_133 hP hD hK1 hS => ?_)
        have hw_133 : r_133 = bi (1 ≤ p1 ∧ p1 ≤ 5000) := hw_133
        have hP : va_P (dC, dI) classes [(h0, .inr (2, [.int ph, .int di, .long lm, .long cu, .long la, .long en]))] H := hP
        have hD : va_D A [(h0, .inr (2, [.int ph, .int di, .long lm, .long cu, .long la, .long en]))] := hD
        refine lv_if_eq (tgt := 143) hx hb d_Ta_phaseAfter_136 (by decide) (fun c_136 => ?_) (fun c_136 => ?_)
        · have c_136 := bi_n (hw_133.symm.trans c_136)
          refine lv_iconst (v := (-1)) hx hb d_Ta_phaseAfter_143 (by decide) ?_
          have hP9 := hP.sub (ws' := [(h0, .inr (2, [.int ph, .int di, .long lm, .long cu, .long la, .long en]))]) [0] rfl
          have hD9 := hD.sub (ws' := [(h0, .inr (2, [.int ph, .int di, .long lm, .long cu, .long la, .long en]))]) [0] (by decide) rfl
          have hK9 := hK.sub (tys' := []) [] rfl
          exact W.iret (v := (-1)) hx hb hr (fun t ht hW => ⟨⟨(-1), (), rfl, trivial, by rw [ht]; exact hP9, va_K.moved hW.alike hK9, hD9⟩, hS.F ht⟩) hS.2.2 d_Ta_phaseAfter_144
        · have c_136 := bi_y hw_133 c_136
          refine lv_iconst (v := 4) hx hb d_Ta_phaseAfter_139 (by decide) ?_
          refine lv_goto (tgt := 144) hx hb d_Ta_phaseAfter_140 (by decide) ?_
          have hP9 := hP.sub (ws' := [(h0, .inr (2, [.int ph, .int di, .long lm, .long cu, .long la, .long en]))]) [0] rfl
          have hD9 := hD.sub (ws' := [(h0, .inr (2, [.int ph, .int di, .long lm, .long cu, .long la, .long en]))]) [0] (by decide) rfl
          have hK9 := hK.sub (tys' := []) [] rfl
          exact W.iret (v := 4) hx hb hr (fun t ht hW => ⟨⟨4, (), rfl, trivial, by rw [ht]; exact hP9, va_K.moved hW.alike hK9, hD9⟩, hS.F ht⟩) hS.2.2 d_Ta_phaseAfter_144
    · have t_1 : p0.toInt = 4 := by omega
      have i_1 : p0 = 4 := Int32.toInt_inj.mp (t_1.trans (by decide))
      refine lv_tableIn (tgt := 145) hx hb d_Ta_phaseAfter_1 (by omega) (by omega) (by rw [t_1]; rfl) (by decide) ?_
      refine lv_aload_n hx hb d_Ta_phaseAfter_145 rfl (lv_at hl 0 rfl) ?_
      refine va_get (D := (dC, dI)) (ci := 2) (v := .int ph) (C := R_Ta) (T := F_Ta) (N := 6) hx hb hB inC_Ta hown hK hP 0 rfl rfl 0 (by decide) (hB _ kb_32) (fun _ h9 => h9) rfl d_Ta_phaseAfter_146 ?_
      refine lv_iconst (v := 4) hx hb d_Ta_phaseAfter_149 (by decide) ?_
      refine lv_icmp_ne (tgt := 172) hx hb d_Ta_phaseAfter_150 (by decide) (fun c_150 => ?_) (fun c_150 => ?_)
      · skip
        refine lv_iconst (v := (-1)) hx hb d_Ta_phaseAfter_172 (by decide) ?_
        have hP9 := hP.sub (ws' := [(h0, .inr (2, [.int ph, .int di, .long lm, .long cu, .long la, .long en]))]) [0] rfl
        have hD9 := hD.sub (ws' := [(h0, .inr (2, [.int ph, .int di, .long lm, .long cu, .long la, .long en]))]) [0] (by decide) rfl
        have hK9 := hK.sub (tys' := []) [] rfl
        exact W.iret (v := (-1)) hx hb hr (fun t ht hW => ⟨⟨(-1), (), rfl, trivial, by rw [ht]; exact hP9, va_K.moved hW.alike hK9, hD9⟩, hS.F ht⟩) hS.2.2 d_Ta_phaseAfter_173
      · skip
        refine lv_aload_n hx hb d_Ta_phaseAfter_153 rfl (lv_at hl 0 rfl) ?_
        refine va_get (D := (dC, dI)) (ci := 2) (v := .int di) (C := R_Ta) (T := F_Ta) (N := 6) hx hb hB inC_Ta hown hK hP 0 rfl rfl 1 (by decide) (hB _ kb_33) (fun _ h9 => h9) rfl d_Ta_phaseAfter_154 ?_
        refine lv_if_eq (tgt := 172) hx hb d_Ta_phaseAfter_157 (by decide) (fun c_157 => ?_) (fun c_157 => ?_)
        · skip
          refine lv_iconst (v := (-1)) hx hb d_Ta_phaseAfter_172 (by decide) ?_
          have hP9 := hP.sub (ws' := [(h0, .inr (2, [.int ph, .int di, .long lm, .long cu, .long la, .long en]))]) [0] rfl
          have hD9 := hD.sub (ws' := [(h0, .inr (2, [.int ph, .int di, .long lm, .long cu, .long la, .long en]))]) [0] (by decide) rfl
          have hK9 := hK.sub (tys' := []) [] rfl
          exact W.iret (v := (-1)) hx hb hr (fun t ht hW => ⟨⟨(-1), (), rfl, trivial, by rw [ht]; exact hP9, va_K.moved hW.alike hK9, hD9⟩, hS.F ht⟩) hS.2.2 d_Ta_phaseAfter_173
        · skip
          refine lv_lload_n hx hb d_Ta_phaseAfter_160 rfl (lv_at hl 2 rfl) ?_
          refine lv_ldc2 (v := 100) hx hb hown (hB _ kb_59) d_Ta_phaseAfter_161 ?_
          refine W.lcmp hx hb d_Ta_phaseAfter_164 ?_
          refine lv_if_lt (tgt := 172) hx hb d_Ta_phaseAfter_165 (by decide) (fun c_165 => ?_) (fun c_165 => ?_)
          · have c_165 := (lg_cmp_lt _ _).mp c_165
            refine lv_iconst (v := (-1)) hx hb d_Ta_phaseAfter_172 (by decide) ?_
            have hP9 := hP.sub (ws' := [(h0, .inr (2, [.int ph, .int di, .long lm, .long cu, .long la, .long en]))]) [0] rfl
            have hD9 := hD.sub (ws' := [(h0, .inr (2, [.int ph, .int di, .long lm, .long cu, .long la, .long en]))]) [0] (by decide) rfl
            have hK9 := hK.sub (tys' := []) [] rfl
            exact W.iret (v := (-1)) hx hb hr (fun t ht hW => ⟨⟨(-1), (), rfl, trivial, by rw [ht]; exact hP9, va_K.moved hW.alike hK9, hD9⟩, hS.F ht⟩) hS.2.2 d_Ta_phaseAfter_173
          · have c_165 := mt (lg_cmp_lt _ _).mpr c_165
            refine lv_iconst (v := 5) hx hb d_Ta_phaseAfter_168 (by decide) ?_
            refine lv_goto (tgt := 173) hx hb d_Ta_phaseAfter_169 (by decide) ?_
            have hP9 := hP.sub (ws' := [(h0, .inr (2, [.int ph, .int di, .long lm, .long cu, .long la, .long en]))]) [0] rfl
            have hD9 := hD.sub (ws' := [(h0, .inr (2, [.int ph, .int di, .long lm, .long cu, .long la, .long en]))]) [0] (by decide) rfl
            have hK9 := hK.sub (tys' := []) [] rfl
            exact W.iret (v := 5) hx hb hr (fun t ht hW => ⟨⟨5, (), rfl, trivial, by rw [ht]; exact hP9, va_K.moved hW.alike hK9, hD9⟩, hS.F ht⟩) hS.2.2 d_Ta_phaseAfter_173
    · have t_1 : p0.toInt = 5 := by omega
      have i_1 : p0 = 5 := Int32.toInt_inj.mp (t_1.trans (by decide))
      refine lv_tableIn (tgt := 174) hx hb d_Ta_phaseAfter_1 (by omega) (by omega) (by rw [t_1]; rfl) (by decide) ?_
      refine lv_aload_n hx hb d_Ta_phaseAfter_174 rfl (lv_at hl 0 rfl) ?_
      refine va_get (D := (dC, dI)) (ci := 2) (v := .int ph) (C := R_Ta) (T := F_Ta) (N := 6) hx hb hB inC_Ta hown hK hP 0 rfl rfl 0 (by decide) (hB _ kb_32) (fun _ h9 => h9) rfl d_Ta_phaseAfter_175 ?_
      refine lv_iconst (v := 5) hx hb d_Ta_phaseAfter_178 (by decide) ?_
      refine lv_icmp_ne (tgt := 189) hx hb d_Ta_phaseAfter_179 (by decide) (fun c_179 => ?_) (fun c_179 => ?_)
      · skip
        refine lv_iconst (v := (-1)) hx hb d_Ta_phaseAfter_189 (by decide) ?_
        have hP9 := hP.sub (ws' := [(h0, .inr (2, [.int ph, .int di, .long lm, .long cu, .long la, .long en]))]) [0] rfl
        have hD9 := hD.sub (ws' := [(h0, .inr (2, [.int ph, .int di, .long lm, .long cu, .long la, .long en]))]) [0] (by decide) rfl
        have hK9 := hK.sub (tys' := []) [] rfl
        exact W.iret (v := (-1)) hx hb hr (fun t ht hW => ⟨⟨(-1), (), rfl, trivial, by rw [ht]; exact hP9, va_K.moved hW.alike hK9, hD9⟩, hS.F ht⟩) hS.2.2 d_Ta_phaseAfter_190
      · skip
        refine lv_lload_n hx hb d_Ta_phaseAfter_182 rfl (lv_at hl 2 rfl) ?_
        refine kc_i (va_runS (As := [.long p1]) (rest := []) ⟨hx, hb, hml, hown, hts⟩ (c_Ta_phaseAtVolts l dC dI  s.heap.size  p1 ) (cwS 1 hts (ginS kb_61 kb_62 kb_47 kb_60) rfl rfl rfl (by decide +kernel) ⟨Nat.le_of_ble_eq_true rfl, Nat.le_of_ble_eq_true rfl⟩) (preS (wc := []) hK hN hP hD [] rfl rfl (by decide) [] rfl) rfl rfl hl.1 rfl (lv_room (Nat.le_of_ble_eq_true rfl)) d_Ta_phaseAfter_183 ⟨Nat.le_of_ble_eq_true rfl, Nat.le_of_ble_eq_true rfl⟩) hP hD hS hA [] [0] (wr := [(h0, .inr (2, [.int ph, .int di, .long lm, .long cu, .long la, .long en]))]) rfl rfl (by decide) (by decide) (fun r_183 u_183 H locs hw_183 hP hD hK1 hS => ?_)
        have hw_183 : True := hw_183
        have hP : va_P (dC, dI) classes [(h0, .inr (2, [.int ph, .int di, .long lm, .long cu, .long la, .long en]))] H := hP
        have hD : va_D A [(h0, .inr (2, [.int ph, .int di, .long lm, .long cu, .long la, .long en]))] := hD
        refine lv_goto (tgt := 190) hx hb d_Ta_phaseAfter_186 (by decide) ?_
        have hP9 := hP.sub (ws' := [(h0, .inr (2, [.int ph, .int di, .long lm, .long cu, .long la, .long en]))]) [0] rfl
        have hD9 := hD.sub (ws' := [(h0, .inr (2, [.int ph, .int di, .long lm, .long cu, .long la, .long en]))]) [0] (by decide) rfl
        have hK9 := hK.sub (tys' := []) [] rfl
        exact W.iret (v := r_183) hx hb hr (fun t ht hW => ⟨⟨r_183, (), rfl, trivial, by rw [ht]; exact hP9, va_K.moved hW.alike hK9, hD9⟩, hS.F ht⟩) hS.2.2 d_Ta_phaseAfter_190
    · have t_1 : p0.toInt = 6 := by omega
      have i_1 : p0 = 6 := Int32.toInt_inj.mp (t_1.trans (by decide))
      refine lv_tableIn (tgt := 191) hx hb d_Ta_phaseAfter_1 (by omega) (by omega) (by rw [t_1]; rfl) (by decide) ?_
      refine lv_aload_n hx hb d_Ta_phaseAfter_191 rfl (lv_at hl 0 rfl) ?_
      refine va_get (D := (dC, dI)) (ci := 2) (v := .int ph) (C := R_Ta) (T := F_Ta) (N := 6) hx hb hB inC_Ta hown hK hP 0 rfl rfl 0 (by decide) (hB _ kb_32) (fun _ h9 => h9) rfl d_Ta_phaseAfter_192 ?_
      refine lv_iconst (v := 4) hx hb d_Ta_phaseAfter_195 (by decide) ?_
      refine lv_icmp_ne (tgt := 206) hx hb d_Ta_phaseAfter_196 (by decide) (fun c_196 => ?_) (fun c_196 => ?_)
      · skip
        refine lv_aload_n hx hb d_Ta_phaseAfter_206 rfl (lv_at hl 0 rfl) ?_
        refine va_get (D := (dC, dI)) (ci := 2) (v := .int ph) (C := R_Ta) (T := F_Ta) (N := 6) hx hb hB inC_Ta hown hK hP 0 rfl rfl 0 (by decide) (hB _ kb_32) (fun _ h9 => h9) rfl d_Ta_phaseAfter_207 ?_
        refine lv_bipush (v := 6) hx hb d_Ta_phaseAfter_210 (by decide) ?_
        refine lv_icmp_ne (tgt := 220) hx hb d_Ta_phaseAfter_212 (by decide) (fun c_212 => ?_) (fun c_212 => ?_)
        · skip
          refine lv_iconst (v := (-1)) hx hb d_Ta_phaseAfter_220 (by decide) ?_
          have hP9 := hP.sub (ws' := [(h0, .inr (2, [.int ph, .int di, .long lm, .long cu, .long la, .long en]))]) [0] rfl
          have hD9 := hD.sub (ws' := [(h0, .inr (2, [.int ph, .int di, .long lm, .long cu, .long la, .long en]))]) [0] (by decide) rfl
          have hK9 := hK.sub (tys' := []) [] rfl
          exact W.iret (v := (-1)) hx hb hr (fun t ht hW => ⟨⟨(-1), (), rfl, trivial, by rw [ht]; exact hP9, va_K.moved hW.alike hK9, hD9⟩, hS.F ht⟩) hS.2.2 d_Ta_phaseAfter_221
        · skip
          refine lv_bipush (v := 7) hx hb d_Ta_phaseAfter_215 (by decide) ?_
          refine lv_goto (tgt := 221) hx hb d_Ta_phaseAfter_217 (by decide) ?_
          have hP9 := hP.sub (ws' := [(h0, .inr (2, [.int ph, .int di, .long lm, .long cu, .long la, .long en]))]) [0] rfl
          have hD9 := hD.sub (ws' := [(h0, .inr (2, [.int ph, .int di, .long lm, .long cu, .long la, .long en]))]) [0] (by decide) rfl
          have hK9 := hK.sub (tys' := []) [] rfl
          exact W.iret (v := 7) hx hb hr (fun t ht hW => ⟨⟨7, (), rfl, trivial, by rw [ht]; exact hP9, va_K.moved hW.alike hK9, hD9⟩, hS.F ht⟩) hS.2.2 d_Ta_phaseAfter_221
      · skip
        refine lv_aload_n hx hb d_Ta_phaseAfter_199 rfl (lv_at hl 0 rfl) ?_
        refine va_get (D := (dC, dI)) (ci := 2) (v := .int di) (C := R_Ta) (T := F_Ta) (N := 6) hx hb hB inC_Ta hown hK hP 0 rfl rfl 1 (by decide) (hB _ kb_33) (fun _ h9 => h9) rfl d_Ta_phaseAfter_200 ?_
        refine lv_if_eq (tgt := 215) hx hb d_Ta_phaseAfter_203 (by decide) (fun c_203 => ?_) (fun c_203 => ?_)
        · skip
          refine lv_bipush (v := 7) hx hb d_Ta_phaseAfter_215 (by decide) ?_
          refine lv_goto (tgt := 221) hx hb d_Ta_phaseAfter_217 (by decide) ?_
          have hP9 := hP.sub (ws' := [(h0, .inr (2, [.int ph, .int di, .long lm, .long cu, .long la, .long en]))]) [0] rfl
          have hD9 := hD.sub (ws' := [(h0, .inr (2, [.int ph, .int di, .long lm, .long cu, .long la, .long en]))]) [0] (by decide) rfl
          have hK9 := hK.sub (tys' := []) [] rfl
          exact W.iret (v := 7) hx hb hr (fun t ht hW => ⟨⟨7, (), rfl, trivial, by rw [ht]; exact hP9, va_K.moved hW.alike hK9, hD9⟩, hS.F ht⟩) hS.2.2 d_Ta_phaseAfter_221
        · skip
          refine lv_aload_n hx hb d_Ta_phaseAfter_206 rfl (lv_at hl 0 rfl) ?_
          refine va_get (D := (dC, dI)) (ci := 2) (v := .int ph) (C := R_Ta) (T := F_Ta) (N := 6) hx hb hB inC_Ta hown hK hP 0 rfl rfl 0 (by decide) (hB _ kb_32) (fun _ h9 => h9) rfl d_Ta_phaseAfter_207 ?_
          refine lv_bipush (v := 6) hx hb d_Ta_phaseAfter_210 (by decide) ?_
          refine lv_icmp_ne (tgt := 220) hx hb d_Ta_phaseAfter_212 (by decide) (fun c_212 => ?_) (fun c_212 => ?_)
          · skip
            refine lv_iconst (v := (-1)) hx hb d_Ta_phaseAfter_220 (by decide) ?_
            have hP9 := hP.sub (ws' := [(h0, .inr (2, [.int ph, .int di, .long lm, .long cu, .long la, .long en]))]) [0] rfl
            have hD9 := hD.sub (ws' := [(h0, .inr (2, [.int ph, .int di, .long lm, .long cu, .long la, .long en]))]) [0] (by decide) rfl
            have hK9 := hK.sub (tys' := []) [] rfl
            exact W.iret (v := (-1)) hx hb hr (fun t ht hW => ⟨⟨(-1), (), rfl, trivial, by rw [ht]; exact hP9, va_K.moved hW.alike hK9, hD9⟩, hS.F ht⟩) hS.2.2 d_Ta_phaseAfter_221
          · skip
            refine lv_bipush (v := 7) hx hb d_Ta_phaseAfter_215 (by decide) ?_
            refine lv_goto (tgt := 221) hx hb d_Ta_phaseAfter_217 (by decide) ?_
            have hP9 := hP.sub (ws' := [(h0, .inr (2, [.int ph, .int di, .long lm, .long cu, .long la, .long en]))]) [0] rfl
            have hD9 := hD.sub (ws' := [(h0, .inr (2, [.int ph, .int di, .long lm, .long cu, .long la, .long en]))]) [0] (by decide) rfl
            have hK9 := hK.sub (tys' := []) [] rfl
            exact W.iret (v := 7) hx hb hr (fun t ht hW => ⟨⟨7, (), rfl, trivial, by rw [ht]; exact hP9, va_K.moved hW.alike hK9, hD9⟩, hS.F ht⟩) hS.2.2 d_Ta_phaseAfter_221
    · have t_1 : p0.toInt = 7 := by omega
      have i_1 : p0 = 7 := Int32.toInt_inj.mp (t_1.trans (by decide))
      refine lv_tableIn (tgt := 222) hx hb d_Ta_phaseAfter_1 (by omega) (by omega) (by rw [t_1]; rfl) (by decide) ?_
      refine lv_aload_n hx hb d_Ta_phaseAfter_222 rfl (lv_at hl 0 rfl) ?_
      refine kc_i (va_runV (As := []) (rest := []) ⟨hx, hb, hml, hown, hts⟩ (c_Ta_isCharging l dC dI h0 s.heap.size ph di lm cu la en  ) (cwV 0 hts (ginV kb_64 kb_65 kb_66 kb_47 kb_63) rfl rfl rfl (by decide +kernel) ⟨Nat.le_of_ble_eq_true rfl, Nat.le_of_ble_eq_true rfl⟩) (preV (ci := 2) (wc := [(h0, .inr (2, [.int ph, .int di, .long lm, .long cu, .long la, .long en]))]) hK hN hP hD [0] rfl rfl (by decide) [] rfl rfl rfl) rfl rfl hl.1 rfl (lv_room (Nat.le_of_ble_eq_true rfl)) d_Ta_phaseAfter_223 ⟨Nat.le_of_ble_eq_true rfl, Nat.le_of_ble_eq_true rfl⟩) hP hD hS hA [0] [] (wr := []) rfl rfl (by decide) (by decide) (fun r_223 u_223 H locs hw_223 hP hD hK1 hS => ?_)
      have hw_223 : True := hw_223
      have hP : va_P (dC, dI) classes [(h0, .inr (2, [.int ph, .int di, .long lm, .long cu, .long la, .long en]))] H := hP
      have hD : va_D A [(h0, .inr (2, [.int ph, .int di, .long lm, .long cu, .long la, .long en]))] := hD
      refine lv_if_eq (tgt := 246) hx hb d_Ta_phaseAfter_226 (by decide) (fun c_226 => ?_) (fun c_226 => ?_)
      · skip
        refine lv_iconst (v := (-1)) hx hb d_Ta_phaseAfter_246 (by decide) ?_
        have hP9 := hP.sub (ws' := [(h0, .inr (2, [.int ph, .int di, .long lm, .long cu, .long la, .long en]))]) [0] rfl
        have hD9 := hD.sub (ws' := [(h0, .inr (2, [.int ph, .int di, .long lm, .long cu, .long la, .long en]))]) [0] (by decide) rfl
        have hK9 := hK.sub (tys' := []) [] rfl
        exact W.iret (v := (-1)) hx hb hr (fun t ht hW => ⟨⟨(-1), (), rfl, trivial, by rw [ht]; exact hP9, va_K.moved hW.alike hK9, hD9⟩, hS.F ht⟩) hS.2.2 d_Ta_phaseAfter_247
      · skip
        refine lv_lload_n hx hb d_Ta_phaseAfter_229 rfl (lv_at hl 2 rfl) ?_
        refine lv_lconst (v := 0) hx hb d_Ta_phaseAfter_230 (by decide) ?_
        refine lv_aload_n hx hb d_Ta_phaseAfter_231 rfl (lv_at hl 0 rfl) ?_
        refine va_get (D := (dC, dI)) (ci := 2) (v := .long lm) (C := R_Ta) (T := F_Ta) (N := 6) hx hb hB inC_Ta hown hK hP 0 rfl rfl 2 (by decide) (hB _ kb_34) (fun _ h9 => h9) rfl d_Ta_phaseAfter_232 ?_
        refine kc_i (va_runSN (As := [.long p1, .long 0, .long lm]) (rest := []) ⟨hx, hb, hml, hown, hts⟩ (c_X_isWithin l dC dI  H.size  p1 0 lm ) ⟨va_cnB 3 hts (gin kb_6) rfl rfl rfl (hN _ kn_2) (hB _ kb_7) (by decide +kernel) ⟨Nat.le_of_ble_eq_true rfl, Nat.le_of_ble_eq_true rfl⟩, (hB _ kb_8), trivial⟩ (preS (wc := []) hK hN hP hD [] rfl rfl (by decide) [] rfl) rfl rfl hl.1 rfl (lv_room (Nat.le_of_ble_eq_true rfl)) d_Ta_phaseAfter_235 ⟨Nat.le_of_ble_eq_true rfl, Nat.le_of_ble_eq_true rfl⟩) hP hD hS hA [] [0] (wr := [(h0, .inr (2, [.int ph, .int di, .long lm, .long cu, .long la, .long en]))]) rfl rfl (by decide) (by decide) (fun r_235 u_235 H locs hw_235 hP hD hK1 hS => ?_)
        have hw_235 : r_235 = bi (0 ≤ p1 ∧ p1 ≤ lm) := hw_235
        have hP : va_P (dC, dI) classes [(h0, .inr (2, [.int ph, .int di, .long lm, .long cu, .long la, .long en]))] H := hP
        have hD : va_D A [(h0, .inr (2, [.int ph, .int di, .long lm, .long cu, .long la, .long en]))] := hD
        refine lv_if_eq (tgt := 246) hx hb d_Ta_phaseAfter_238 (by decide) (fun c_238 => ?_) (fun c_238 => ?_)
        · have c_238 := bi_n (hw_235.symm.trans c_238)
          refine lv_iconst (v := (-1)) hx hb d_Ta_phaseAfter_246 (by decide) ?_
          have hP9 := hP.sub (ws' := [(h0, .inr (2, [.int ph, .int di, .long lm, .long cu, .long la, .long en]))]) [0] rfl
          have hD9 := hD.sub (ws' := [(h0, .inr (2, [.int ph, .int di, .long lm, .long cu, .long la, .long en]))]) [0] (by decide) rfl
          have hK9 := hK.sub (tys' := []) [] rfl
          exact W.iret (v := (-1)) hx hb hr (fun t ht hW => ⟨⟨(-1), (), rfl, trivial, by rw [ht]; exact hP9, va_K.moved hW.alike hK9, hD9⟩, hS.F ht⟩) hS.2.2 d_Ta_phaseAfter_247
        · have c_238 := bi_y hw_235 c_238
          refine lv_bipush (v := 7) hx hb d_Ta_phaseAfter_241 (by decide) ?_
          refine lv_goto (tgt := 247) hx hb d_Ta_phaseAfter_243 (by decide) ?_
          have hP9 := hP.sub (ws' := [(h0, .inr (2, [.int ph, .int di, .long lm, .long cu, .long la, .long en]))]) [0] rfl
          have hD9 := hD.sub (ws' := [(h0, .inr (2, [.int ph, .int di, .long lm, .long cu, .long la, .long en]))]) [0] (by decide) rfl
          have hK9 := hK.sub (tys' := []) [] rfl
          exact W.iret (v := 7) hx hb hr (fun t ht hW => ⟨⟨7, (), rfl, trivial, by rw [ht]; exact hP9, va_K.moved hW.alike hK9, hD9⟩, hS.F ht⟩) hS.2.2 d_Ta_phaseAfter_247
    · have t_1 : p0.toInt = 8 := by omega
      have i_1 : p0 = 8 := Int32.toInt_inj.mp (t_1.trans (by decide))
      refine lv_tableIn (tgt := 248) hx hb d_Ta_phaseAfter_1 (by omega) (by omega) (by rw [t_1]; rfl) (by decide) ?_
      refine lv_aload_n hx hb d_Ta_phaseAfter_248 rfl (lv_at hl 0 rfl) ?_
      refine kc_i (va_runV (As := []) (rest := []) ⟨hx, hb, hml, hown, hts⟩ (c_Ta_isCharging l dC dI h0 s.heap.size ph di lm cu la en  ) (cwV 0 hts (ginV kb_64 kb_65 kb_66 kb_47 kb_63) rfl rfl rfl (by decide +kernel) ⟨Nat.le_of_ble_eq_true rfl, Nat.le_of_ble_eq_true rfl⟩) (preV (ci := 2) (wc := [(h0, .inr (2, [.int ph, .int di, .long lm, .long cu, .long la, .long en]))]) hK hN hP hD [0] rfl rfl (by decide) [] rfl rfl rfl) rfl rfl hl.1 rfl (lv_room (Nat.le_of_ble_eq_true rfl)) d_Ta_phaseAfter_249 ⟨Nat.le_of_ble_eq_true rfl, Nat.le_of_ble_eq_true rfl⟩) hP hD hS hA [0] [] (wr := []) rfl rfl (by decide) (by decide) (fun r_249 u_249 H locs hw_249 hP hD hK1 hS => ?_)
      have hw_249 : True := hw_249
      have hP : va_P (dC, dI) classes [(h0, .inr (2, [.int ph, .int di, .long lm, .long cu, .long la, .long en]))] H := hP
      have hD : va_D A [(h0, .inr (2, [.int ph, .int di, .long lm, .long cu, .long la, .long en]))] := hD
      refine lv_if_eq (tgt := 267) hx hb d_Ta_phaseAfter_252 (by decide) (fun c_252 => ?_) (fun c_252 => ?_)
      · skip
        refine lv_iconst (v := (-1)) hx hb d_Ta_phaseAfter_267 (by decide) ?_
        have hP9 := hP.sub (ws' := [(h0, .inr (2, [.int ph, .int di, .long lm, .long cu, .long la, .long en]))]) [0] rfl
        have hD9 := hD.sub (ws' := [(h0, .inr (2, [.int ph, .int di, .long lm, .long cu, .long la, .long en]))]) [0] (by decide) rfl
        have hK9 := hK.sub (tys' := []) [] rfl
        exact W.iret (v := (-1)) hx hb hr (fun t ht hW => ⟨⟨(-1), (), rfl, trivial, by rw [ht]; exact hP9, va_K.moved hW.alike hK9, hD9⟩, hS.F ht⟩) hS.2.2 d_Ta_phaseAfter_268
      · skip
        refine lv_lload_n hx hb d_Ta_phaseAfter_255 rfl (lv_at hl 2 rfl) ?_
        refine kc_i (va_runS (As := [.long p1]) (rest := []) ⟨hx, hb, hml, hown, hts⟩ (c_Ta_isLimit l dC dI  H.size  p1 ) (cwS 1 hts (ginS kb_57 kb_58 kb_47 kb_56) rfl rfl rfl (by decide +kernel) ⟨Nat.le_of_ble_eq_true rfl, Nat.le_of_ble_eq_true rfl⟩) (preS (wc := []) hK hN hP hD [] rfl rfl (by decide) [] rfl) rfl rfl hl.1 rfl (lv_room (Nat.le_of_ble_eq_true rfl)) d_Ta_phaseAfter_256 ⟨Nat.le_of_ble_eq_true rfl, Nat.le_of_ble_eq_true rfl⟩) hP hD hS hA [] [0] (wr := [(h0, .inr (2, [.int ph, .int di, .long lm, .long cu, .long la, .long en]))]) rfl rfl (by decide) (by decide) (fun r_256 u_256 H locs hw_256 hP hD hK1 hS => ?_)
        have hw_256 : r_256 = bi (1 ≤ p1 ∧ p1 ≤ 5000) := hw_256
        have hP : va_P (dC, dI) classes [(h0, .inr (2, [.int ph, .int di, .long lm, .long cu, .long la, .long en]))] H := hP
        have hD : va_D A [(h0, .inr (2, [.int ph, .int di, .long lm, .long cu, .long la, .long en]))] := hD
        refine lv_if_eq (tgt := 267) hx hb d_Ta_phaseAfter_259 (by decide) (fun c_259 => ?_) (fun c_259 => ?_)
        · have c_259 := bi_n (hw_256.symm.trans c_259)
          refine lv_iconst (v := (-1)) hx hb d_Ta_phaseAfter_267 (by decide) ?_
          have hP9 := hP.sub (ws' := [(h0, .inr (2, [.int ph, .int di, .long lm, .long cu, .long la, .long en]))]) [0] rfl
          have hD9 := hD.sub (ws' := [(h0, .inr (2, [.int ph, .int di, .long lm, .long cu, .long la, .long en]))]) [0] (by decide) rfl
          have hK9 := hK.sub (tys' := []) [] rfl
          exact W.iret (v := (-1)) hx hb hr (fun t ht hW => ⟨⟨(-1), (), rfl, trivial, by rw [ht]; exact hP9, va_K.moved hW.alike hK9, hD9⟩, hS.F ht⟩) hS.2.2 d_Ta_phaseAfter_268
        · have c_259 := bi_y hw_256 c_259
          refine lv_bipush (v := 7) hx hb d_Ta_phaseAfter_262 (by decide) ?_
          refine lv_goto (tgt := 268) hx hb d_Ta_phaseAfter_264 (by decide) ?_
          have hP9 := hP.sub (ws' := [(h0, .inr (2, [.int ph, .int di, .long lm, .long cu, .long la, .long en]))]) [0] rfl
          have hD9 := hD.sub (ws' := [(h0, .inr (2, [.int ph, .int di, .long lm, .long cu, .long la, .long en]))]) [0] (by decide) rfl
          have hK9 := hK.sub (tys' := []) [] rfl
          exact W.iret (v := 7) hx hb hr (fun t ht hW => ⟨⟨7, (), rfl, trivial, by rw [ht]; exact hP9, va_K.moved hW.alike hK9, hD9⟩, hS.F ht⟩) hS.2.2 d_Ta_phaseAfter_268
    · have t_1 : p0.toInt = 9 := by omega
      have i_1 : p0 = 9 := Int32.toInt_inj.mp (t_1.trans (by decide))
      refine lv_tableIn (tgt := 269) hx hb d_Ta_phaseAfter_1 (by omega) (by omega) (by rw [t_1]; rfl) (by decide) ?_
      refine lv_aload_n hx hb d_Ta_phaseAfter_269 rfl (lv_at hl 0 rfl) ?_
      refine kc_i (va_runV (As := []) (rest := []) ⟨hx, hb, hml, hown, hts⟩ (c_Ta_isCharging l dC dI h0 s.heap.size ph di lm cu la en  ) (cwV 0 hts (ginV kb_64 kb_65 kb_66 kb_47 kb_63) rfl rfl rfl (by decide +kernel) ⟨Nat.le_of_ble_eq_true rfl, Nat.le_of_ble_eq_true rfl⟩) (preV (ci := 2) (wc := [(h0, .inr (2, [.int ph, .int di, .long lm, .long cu, .long la, .long en]))]) hK hN hP hD [0] rfl rfl (by decide) [] rfl rfl rfl) rfl rfl hl.1 rfl (lv_room (Nat.le_of_ble_eq_true rfl)) d_Ta_phaseAfter_270 ⟨Nat.le_of_ble_eq_true rfl, Nat.le_of_ble_eq_true rfl⟩) hP hD hS hA [0] [] (wr := []) rfl rfl (by decide) (by decide) (fun r_270 u_270 H locs hw_270 hP hD hK1 hS => ?_)
      have hw_270 : True := hw_270
      have hP : va_P (dC, dI) classes [(h0, .inr (2, [.int ph, .int di, .long lm, .long cu, .long la, .long en]))] H := hP
      have hD : va_D A [(h0, .inr (2, [.int ph, .int di, .long lm, .long cu, .long la, .long en]))] := hD
      refine lv_if_eq (tgt := 281) hx hb d_Ta_phaseAfter_273 (by decide) (fun c_273 => ?_) (fun c_273 => ?_)
      · skip
        refine lv_iconst (v := (-1)) hx hb d_Ta_phaseAfter_281 (by decide) ?_
        have hP9 := hP.sub (ws' := [(h0, .inr (2, [.int ph, .int di, .long lm, .long cu, .long la, .long en]))]) [0] rfl
        have hD9 := hD.sub (ws' := [(h0, .inr (2, [.int ph, .int di, .long lm, .long cu, .long la, .long en]))]) [0] (by decide) rfl
        have hK9 := hK.sub (tys' := []) [] rfl
        exact W.iret (v := (-1)) hx hb hr (fun t ht hW => ⟨⟨(-1), (), rfl, trivial, by rw [ht]; exact hP9, va_K.moved hW.alike hK9, hD9⟩, hS.F ht⟩) hS.2.2 d_Ta_phaseAfter_282
      · skip
        refine lv_bipush (v := 8) hx hb d_Ta_phaseAfter_276 (by decide) ?_
        refine lv_goto (tgt := 282) hx hb d_Ta_phaseAfter_278 (by decide) ?_
        have hP9 := hP.sub (ws' := [(h0, .inr (2, [.int ph, .int di, .long lm, .long cu, .long la, .long en]))]) [0] rfl
        have hD9 := hD.sub (ws' := [(h0, .inr (2, [.int ph, .int di, .long lm, .long cu, .long la, .long en]))]) [0] (by decide) rfl
        have hK9 := hK.sub (tys' := []) [] rfl
        exact W.iret (v := 8) hx hb hr (fun t ht hW => ⟨⟨8, (), rfl, trivial, by rw [ht]; exact hP9, va_K.moved hW.alike hK9, hD9⟩, hS.F ht⟩) hS.2.2 d_Ta_phaseAfter_282
    · have t_1 : p0.toInt = 10 := by omega
      have i_1 : p0 = 10 := Int32.toInt_inj.mp (t_1.trans (by decide))
      refine lv_tableIn (tgt := 283) hx hb d_Ta_phaseAfter_1 (by omega) (by omega) (by rw [t_1]; rfl) (by decide) ?_
      refine lv_aload_n hx hb d_Ta_phaseAfter_283 rfl (lv_at hl 0 rfl) ?_
      refine va_get (D := (dC, dI)) (ci := 2) (v := .int ph) (C := R_Ta) (T := F_Ta) (N := 6) hx hb hB inC_Ta hown hK hP 0 rfl rfl 0 (by decide) (hB _ kb_32) (fun _ h9 => h9) rfl d_Ta_phaseAfter_284 ?_
      refine lv_bipush (v := 8) hx hb d_Ta_phaseAfter_287 (by decide) ?_
      refine lv_icmp_ne (tgt := 296) hx hb d_Ta_phaseAfter_289 (by decide) (fun c_289 => ?_) (fun c_289 => ?_)
      · skip
        refine lv_iconst (v := (-1)) hx hb d_Ta_phaseAfter_296 (by decide) ?_
        have hP9 := hP.sub (ws' := [(h0, .inr (2, [.int ph, .int di, .long lm, .long cu, .long la, .long en]))]) [0] rfl
        have hD9 := hD.sub (ws' := [(h0, .inr (2, [.int ph, .int di, .long lm, .long cu, .long la, .long en]))]) [0] (by decide) rfl
        have hK9 := hK.sub (tys' := []) [] rfl
        exact W.iret (v := (-1)) hx hb hr (fun t ht hW => ⟨⟨(-1), (), rfl, trivial, by rw [ht]; exact hP9, va_K.moved hW.alike hK9, hD9⟩, hS.F ht⟩) hS.2.2 d_Ta_phaseAfter_297
      · skip
        refine lv_iconst (v := 0) hx hb d_Ta_phaseAfter_292 (by decide) ?_
        refine lv_goto (tgt := 297) hx hb d_Ta_phaseAfter_293 (by decide) ?_
        have hP9 := hP.sub (ws' := [(h0, .inr (2, [.int ph, .int di, .long lm, .long cu, .long la, .long en]))]) [0] rfl
        have hD9 := hD.sub (ws' := [(h0, .inr (2, [.int ph, .int di, .long lm, .long cu, .long la, .long en]))]) [0] (by decide) rfl
        have hK9 := hK.sub (tys' := []) [] rfl
        exact W.iret (v := 0) hx hb hr (fun t ht hW => ⟨⟨0, (), rfl, trivial, by rw [ht]; exact hP9, va_K.moved hW.alike hK9, hD9⟩, hS.F ht⟩) hS.2.2 d_Ta_phaseAfter_297
set_option maxHeartbeats 4000000 in
set_option maxRecDepth 100000 in
theorem c_Ta_keep (l : Launch) (dC : Nat → ClassId) (dI : Nat → Nat → Nat) (h0 : Nat) (sz : Nat) (ph : Int32) (di : Int32) (lm : Int64) (cu : Int64) (la : Int64) (en : Int64) (p0 : Int32) (p1 : Int64) (p2 : Int64) : Met l y_Ta_keep w_Ta_keep ({ frames := 0, cells := 0, slots := 0, locals := 0 }) (cPre dC dI [.ref h0, .int p0, .long p1, .long p2] sz [] [(h0, .inr (2, [.int ph, .int di, .long lm, .long cu, .long la, .long en]))]) (va_Qv (fun (u : Int32 × Int64 × Int64 × Int64 × Int64) => True) (fun (u : Int32 × Int64 × Int64 × Int64 × Int64) (t : State) => cB dC dI (va_A [(h0, .inr (2, [.int ph, .int di, .long lm, .long cu, .long la, .long en]))] sz) [] [(h0, .inr (2, [.int ph, .int u.1, .long u.2.1, .long u.2.2.1, .long u.2.2.2.1, .long u.2.2.2.2]))] t) (va_A [(h0, .inr (2, [.int ph, .int di, .long lm, .long cu, .long la, .long en]))] sz)) 0 0 (va_A [(h0, .inr (2, [.int ph, .int di, .long lm, .long cu, .long la, .long en]))] sz) := by
  refine Met.ofW (cc := b_Ta_keep) (maxL := 6) (ret := none) (by decide) rfl ?_
  intro p e s m args below meth c s₁ B hml hv
  obtain ⟨rfl, hsz, hN, hP, hK, hD0⟩ := hv
  have hx := B.exec
  have hb := B.bytes
  have hr := B.returns
  have hts := atoms_spec (ws := w_Ta_keep) B.pre
  have hB := big_of hts
  have hown : s.vm.findClass R_Ta = some m.cls := findClass_of_methodNamed B.named
  have hlocks := B.notSynchronized
  subst hsz
  have hD := hD0.self (sz := s.heap.size)
  generalize hAe : va_A [(h0, .inr (2, [.int ph, .int di, .long lm, .long cu, .long la, .long en]))] s.heap.size = A at hD ⊢
  have hA : ∀ q : Nat, s.heap.size ≤ q → A q := fun q h => by rw [← hAe]; exact Or.inr h
  have hS : va_S A s.heap s.heap [] := va_S.rf
  have hP : va_P (dC, dI) classes [(h0, .inr (2, [.int ph, .int di, .long lm, .long cu, .long la, .long en]))] s.heap := hP
  have hl := lv_entry ([.ref h0, .int p0, .long p1, .long p2]) (n := 6) (Nat.le_of_ble_eq_true rfl)
  rw [lg_entry_eq]
  generalize (lg_sl ([.ref h0, .int p0, .long p1, .long p2]) ++ List.replicate (6 - (lg_sl ([.ref h0, .int p0, .long p1, .long p2])).length) Slot.unset).toArray = ls at hl ⊢
  have hl : lv_has ls 6 [(0, .ref h0), (1, .int p0), (2, .long p1), (4, .long p2)] := hl
  have cut : ∀ n : Nat, (∀ (dix : Int32) (lmx : Int64) (cux : Int64) (enx : Int64) (H : Heap) (locs : List Loc) (ls : Array Slot), 0 < n → va_P (dC, dI) classes [(h0, .inr (2, [.int ph, .int dix, .long lmx, .long cux, .long la, .long enx]))] H → va_D A [(h0, .inr (2, [.int ph, .int dix, .long lmx, .long cux, .long la, .long enx]))] → va_S A s.heap H locs → lv_has ls 6 [(0, .ref h0), (1, .int p0), (2, .long p1), (4, .long p2)] → W p l e (headSpec w_Ta_keep ({ frames := 0, cells := 0, slots := 0, locals := 0 })).room s m (List.toArray [.ref h0, .int p0, .long p1, .long p2]) below meth c H locs 0 0 (MQ below (va_Qv (fun (u : Int32 × Int64 × Int64 × Int64 × Int64) => True) (fun (u : Int32 × Int64 × Int64 × Int64 × Int64) (t : State) => cB dC dI A [] [(h0, .inr (2, [.int ph, .int u.1, .long u.2.1, .long u.2.2.1, .long u.2.2.2.1, .long u.2.2.2.2]))] t) A) (List.toArray [.ref h0, .int p0, .long p1, .long p2]) s 0 0 A) (F0 m 83 ls [])) := by
    intro n
    induction n with
    | zero => intros; omega
    | succ n ih =>
      intro dix lmx cux enx H locs ls  hmu hP hD hS hl
      refine lv_aload_n hx hb d_Ta_keep_83 rfl (lv_at hl 0 rfl) ?_
      refine lv_lload hx hb d_Ta_keep_84 (lv_at hl 3 rfl) ?_
      refine va_put (D := (dC, dI)) (ci := 2) (v := .long p2) (ty := .long) (C := R_Ta) (T := F_Ta) (N := 6) hx hb hB inC_Ta t_Ta t_Ta_ok n_Ta hown hK hP hD hS 0 rfl rfl 4 (by decide) (hB _ kb_36) (fun _ h9 => h9) rfl (by decide +kernel) rfl rfl (Nat.le_of_ble_eq_true rfl) d_Ta_keep_86 (fun H locs hP hD hS => ?_)
      have hP : va_P (dC, dI) classes [(h0, .inr (2, [.int ph, .int dix, .long lmx, .long cux, .long p2, .long enx]))] H := hP
      have hD : va_D A [(h0, .inr (2, [.int ph, .int dix, .long lmx, .long cux, .long p2, .long enx]))] := hD
      have hP9 := hP.sub (ws' := [(h0, .inr (2, [.int ph, .int dix, .long lmx, .long cux, .long p2, .long enx]))]) [0] rfl
      have hD9 := hD.sub (ws' := [(h0, .inr (2, [.int ph, .int dix, .long lmx, .long cux, .long p2, .long enx]))]) [0] (by decide) rfl
      have hK9 := hK.sub (tys' := []) [] rfl
      exact W.vret hx hb hr (fun t ht hW => ⟨⟨(dix, lmx, cux, p2, enx), rfl, trivial, by rw [ht]; exact hP9, va_K.moved hW.alike hK9, hD9⟩, hS.F ht⟩) hS.2.2 d_Ta_keep_89
  refine lv_iload_n hx hb d_Ta_keep_0 rfl (lv_at hl 1 rfl) ?_
  refine lv_if_ne (tgt := 12) hx hb d_Ta_keep_1 (by decide) (fun c_1 => ?_) (fun c_1 => ?_)
  · skip
    refine lv_iload_n hx hb d_Ta_keep_12 rfl (lv_at hl 1 rfl) ?_
    refine lv_iconst (v := 1) hx hb d_Ta_keep_13 (by decide) ?_
    refine lv_icmp_ne (tgt := 35) hx hb d_Ta_keep_14 (by decide) (fun c_14 => ?_) (fun c_14 => ?_)
    · skip
      refine lv_iload_n hx hb d_Ta_keep_35 rfl (lv_at hl 1 rfl) ?_
      refine lv_iconst (v := 3) hx hb d_Ta_keep_36 (by decide) ?_
      refine lv_icmp_eq (tgt := 46) hx hb d_Ta_keep_37 (by decide) (fun c_37 => ?_) (fun c_37 => ?_)
      · skip
        refine lv_aload_n hx hb d_Ta_keep_46 rfl (lv_at hl 0 rfl) ?_
        refine lv_lload_n hx hb d_Ta_keep_47 rfl (lv_at hl 2 rfl) ?_
        refine va_put (D := (dC, dI)) (ci := 2) (v := .long p1) (ty := .long) (C := R_Ta) (T := F_Ta) (N := 6) hx hb hB inC_Ta t_Ta t_Ta_ok n_Ta hown hK hP hD hS 0 rfl rfl 2 (by decide) (hB _ kb_34) (fun _ h9 => h9) rfl (by decide +kernel) rfl rfl (Nat.le_of_ble_eq_true rfl) d_Ta_keep_48 (fun H locs hP hD hS => ?_)
        have hP : va_P (dC, dI) classes [(h0, .inr (2, [.int ph, .int di, .long p1, .long cu, .long la, .long en]))] H := hP
        have hD : va_D A [(h0, .inr (2, [.int ph, .int di, .long p1, .long cu, .long la, .long en]))] := hD
        refine lv_goto (tgt := 83) hx hb d_Ta_keep_51 (by decide) ?_
        exact (cut 1) di p1 cu en _ _ _  (by omega) (hP.sub [0] rfl) (hD.sub [0] (by decide) rfl) hS (lv_sub hl [0, 1, 2, 3] rfl)
      · skip
        refine lv_iload_n hx hb d_Ta_keep_40 rfl (lv_at hl 1 rfl) ?_
        refine lv_bipush (v := 8) hx hb d_Ta_keep_41 (by decide) ?_
        refine lv_icmp_ne (tgt := 54) hx hb d_Ta_keep_43 (by decide) (fun c_43 => ?_) (fun c_43 => ?_)
        · skip
          refine lv_iload_n hx hb d_Ta_keep_54 rfl (lv_at hl 1 rfl) ?_
          refine lv_bipush (v := 7) hx hb d_Ta_keep_55 (by decide) ?_
          refine lv_icmp_ne (tgt := 83) hx hb d_Ta_keep_57 (by decide) (fun c_57 => ?_) (fun c_57 => ?_)
          · skip
            exact (cut 1) di lm cu en _ _ _  (by omega) (hP.sub [0] rfl) (hD.sub [0] (by decide) rfl) hS (lv_sub hl [0, 1, 2, 3] rfl)
          · skip
            refine lv_aload_n hx hb d_Ta_keep_60 rfl (lv_at hl 0 rfl) ?_
            refine lv_dup hx hb d_Ta_keep_61 rfl ?_
            refine va_get (D := (dC, dI)) (ci := 2) (v := .long en) (C := R_Ta) (T := F_Ta) (N := 6) hx hb hB inC_Ta hown hK hP 0 rfl rfl 5 (by decide) (hB _ kb_37) (fun _ h9 => h9) rfl d_Ta_keep_62 ?_
            refine lv_lload_n hx hb d_Ta_keep_65 rfl (lv_at hl 2 rfl) ?_
            refine lv_lload hx hb d_Ta_keep_66 (lv_at hl 3 rfl) ?_
            refine lv_aload_n hx hb d_Ta_keep_68 rfl (lv_at hl 0 rfl) ?_
            refine va_get (D := (dC, dI)) (ci := 2) (v := .long la) (C := R_Ta) (T := F_Ta) (N := 6) hx hb hB inC_Ta hown hK hP 0 rfl rfl 4 (by decide) (hB _ kb_36) (fun _ h9 => h9) rfl d_Ta_keep_69 ?_
            refine lv_lsub hx hb d_Ta_keep_72 ?_
            refine lv_topl (fun x_72 ex_72 => ?_)
            refine lv_lmul hx hb d_Ta_keep_73 ?_
            refine lv_topl (fun x_73 ex_73 => ?_)
            refine lv_ladd hx hb d_Ta_keep_74 ?_
            refine lv_topl (fun x_74 ex_74 => ?_)
            refine va_put (D := (dC, dI)) (ci := 2) (v := .long x_74) (ty := .long) (C := R_Ta) (T := F_Ta) (N := 6) hx hb hB inC_Ta t_Ta t_Ta_ok n_Ta hown hK hP hD hS 0 rfl rfl 5 (by decide) (hB _ kb_37) (fun _ h9 => h9) rfl (by decide +kernel) rfl rfl (Nat.le_of_ble_eq_true rfl) d_Ta_keep_75 (fun H locs hP hD hS => ?_)
            have hP : va_P (dC, dI) classes [(h0, .inr (2, [.int ph, .int di, .long lm, .long cu, .long la, .long x_74]))] H := hP
            have hD : va_D A [(h0, .inr (2, [.int ph, .int di, .long lm, .long cu, .long la, .long x_74]))] := hD
            refine lv_aload_n hx hb d_Ta_keep_78 rfl (lv_at hl 0 rfl) ?_
            refine lv_lload_n hx hb d_Ta_keep_79 rfl (lv_at hl 2 rfl) ?_
            refine va_put (D := (dC, dI)) (ci := 2) (v := .long p1) (ty := .long) (C := R_Ta) (T := F_Ta) (N := 6) hx hb hB inC_Ta t_Ta t_Ta_ok n_Ta hown hK hP hD hS 0 rfl rfl 3 (by decide) (hB _ kb_35) (fun _ h9 => h9) rfl (by decide +kernel) rfl rfl (Nat.le_of_ble_eq_true rfl) d_Ta_keep_80 (fun H locs hP hD hS => ?_)
            have hP : va_P (dC, dI) classes [(h0, .inr (2, [.int ph, .int di, .long lm, .long p1, .long la, .long x_74]))] H := hP
            have hD : va_D A [(h0, .inr (2, [.int ph, .int di, .long lm, .long p1, .long la, .long x_74]))] := hD
            exact (cut 1) di lm p1 x_74 _ _ _  (by omega) (hP.sub [0] rfl) (hD.sub [0] (by decide) rfl) hS (lv_sub hl [0, 1, 2, 3] rfl)
        · skip
          refine lv_aload_n hx hb d_Ta_keep_46 rfl (lv_at hl 0 rfl) ?_
          refine lv_lload_n hx hb d_Ta_keep_47 rfl (lv_at hl 2 rfl) ?_
          refine va_put (D := (dC, dI)) (ci := 2) (v := .long p1) (ty := .long) (C := R_Ta) (T := F_Ta) (N := 6) hx hb hB inC_Ta t_Ta t_Ta_ok n_Ta hown hK hP hD hS 0 rfl rfl 2 (by decide) (hB _ kb_34) (fun _ h9 => h9) rfl (by decide +kernel) rfl rfl (Nat.le_of_ble_eq_true rfl) d_Ta_keep_48 (fun H locs hP hD hS => ?_)
          have hP : va_P (dC, dI) classes [(h0, .inr (2, [.int ph, .int di, .long p1, .long cu, .long la, .long en]))] H := hP
          have hD : va_D A [(h0, .inr (2, [.int ph, .int di, .long p1, .long cu, .long la, .long en]))] := hD
          refine lv_goto (tgt := 83) hx hb d_Ta_keep_51 (by decide) ?_
          exact (cut 1) di p1 cu en _ _ _  (by omega) (hP.sub [0] rfl) (hD.sub [0] (by decide) rfl) hS (lv_sub hl [0, 1, 2, 3] rfl)
    · skip
      refine lv_aload_n hx hb d_Ta_keep_17 rfl (lv_at hl 0 rfl) ?_
      refine lv_lload_n hx hb d_Ta_keep_18 rfl (lv_at hl 2 rfl) ?_
      refine lv_lconst (v := 1) hx hb d_Ta_keep_19 (by decide) ?_
      refine W.lcmp hx hb d_Ta_keep_20 ?_
      refine lv_if_ne (tgt := 28) hx hb d_Ta_keep_21 (by decide) (fun c_21 => ?_) (fun c_21 => ?_)
      · have c_21 := mt (lg_cmp_eq _ _).mpr c_21
        refine lv_iconst (v := 0) hx hb d_Ta_keep_28 (by decide) ?_
        refine va_put (D := (dC, dI)) (ci := 2) (v := .int 0) (ty := .boolean) (C := R_Ta) (T := F_Ta) (N := 6) hx hb hB inC_Ta t_Ta t_Ta_ok n_Ta hown hK hP hD hS 0 rfl rfl 1 (by decide) (hB _ kb_33) (fun _ h9 => h9) rfl (by decide +kernel) rfl rfl (Nat.le_of_ble_eq_true rfl) d_Ta_keep_29 (fun H locs hP hD hS => ?_)
        have hP : va_P (dC, dI) classes [(h0, .inr (2, [.int ph, .int 0, .long lm, .long cu, .long la, .long en]))] H := hP
        have hD : va_D A [(h0, .inr (2, [.int ph, .int 0, .long lm, .long cu, .long la, .long en]))] := hD
        refine lv_goto (tgt := 83) hx hb d_Ta_keep_32 (by decide) ?_
        exact (cut 1) 0 lm cu en _ _ _  (by omega) (hP.sub [0] rfl) (hD.sub [0] (by decide) rfl) hS (lv_sub hl [0, 1, 2, 3] rfl)
      · have c_21 := (lg_cmp_eq _ _).mp c_21
        refine lv_iconst (v := 1) hx hb d_Ta_keep_24 (by decide) ?_
        refine lv_goto (tgt := 29) hx hb d_Ta_keep_25 (by decide) ?_
        refine va_put (D := (dC, dI)) (ci := 2) (v := .int 1) (ty := .boolean) (C := R_Ta) (T := F_Ta) (N := 6) hx hb hB inC_Ta t_Ta t_Ta_ok n_Ta hown hK hP hD hS 0 rfl rfl 1 (by decide) (hB _ kb_33) (fun _ h9 => h9) rfl (by decide +kernel) rfl rfl (Nat.le_of_ble_eq_true rfl) d_Ta_keep_29 (fun H locs hP hD hS => ?_)
        have hP : va_P (dC, dI) classes [(h0, .inr (2, [.int ph, .int 1, .long lm, .long cu, .long la, .long en]))] H := hP
        have hD : va_D A [(h0, .inr (2, [.int ph, .int 1, .long lm, .long cu, .long la, .long en]))] := hD
        refine lv_goto (tgt := 83) hx hb d_Ta_keep_32 (by decide) ?_
        exact (cut 1) 1 lm cu en _ _ _  (by omega) (hP.sub [0] rfl) (hD.sub [0] (by decide) rfl) hS (lv_sub hl [0, 1, 2, 3] rfl)
  · skip
    refine lv_aload_n hx hb d_Ta_keep_4 rfl (lv_at hl 0 rfl) ?_
    refine lv_lconst (v := 0) hx hb d_Ta_keep_5 (by decide) ?_
    refine va_put (D := (dC, dI)) (ci := 2) (v := .long 0) (ty := .long) (C := R_Ta) (T := F_Ta) (N := 6) hx hb hB inC_Ta t_Ta t_Ta_ok n_Ta hown hK hP hD hS 0 rfl rfl 3 (by decide) (hB _ kb_35) (fun _ h9 => h9) rfl (by decide +kernel) rfl rfl (Nat.le_of_ble_eq_true rfl) d_Ta_keep_6 (fun H locs hP hD hS => ?_)
    have hP : va_P (dC, dI) classes [(h0, .inr (2, [.int ph, .int di, .long lm, .long 0, .long la, .long en]))] H := hP
    have hD : va_D A [(h0, .inr (2, [.int ph, .int di, .long lm, .long 0, .long la, .long en]))] := hD
    refine lv_goto (tgt := 83) hx hb d_Ta_keep_9 (by decide) ?_
    exact (cut 1) di lm 0 en _ _ _  (by omega) (hP.sub [0] rfl) (hD.sub [0] (by decide) rfl) hS (lv_sub hl [0, 1, 2, 3] rfl)
set_option maxHeartbeats 4000000 in
set_option maxRecDepth 100000 in
theorem c_Ta_take (l : Launch) (dC : Nat → ClassId) (dI : Nat → Nat → Nat) (h0 : Nat) (sz : Nat) (ph : Int32) (di : Int32) (lm : Int64) (cu : Int64) (la : Int64) (en : Int64) (p0 : Int32) (p1 : Int64) (p2 : Int64) (p3 : Int32) : Met l y_Ta_take w_Ta_take ({ frames := 3, cells := 0, slots := 0, locals := 70 }) (cPre dC dI [.ref h0, .int p0, .long p1, .long p2, .int p3] sz [] [(h0, .inr (2, [.int ph, .int di, .long lm, .long cu, .long la, .long en]))]) (va_Qi (fun (r : Int32) (u : Int32 × Int32 × Int64 × Int64 × Int64 × Int64) => True) (fun (u : Int32 × Int32 × Int64 × Int64 × Int64 × Int64) (t : State) => cB dC dI (va_A [(h0, .inr (2, [.int ph, .int di, .long lm, .long cu, .long la, .long en]))] sz) [] [(h0, .inr (2, [.int u.1, .int u.2.1, .long u.2.2.1, .long u.2.2.2.1, .long u.2.2.2.2.1, .long u.2.2.2.2.2]))] t) (va_A [(h0, .inr (2, [.int ph, .int di, .long lm, .long cu, .long la, .long en]))] sz)) 0 0 (va_A [(h0, .inr (2, [.int ph, .int di, .long lm, .long cu, .long la, .long en]))] sz) := by
  refine Met.ofW (cc := b_Ta_take) (maxL := 8) (ret := (some .boolean)) (by decide) rfl ?_
  intro p e s m args below meth c s₁ B hml hv
  obtain ⟨rfl, hsz, hN, hP, hK, hD0⟩ := hv
  have hx := B.exec
  have hb := B.bytes
  have hr := B.returns
  have hts := atoms_spec (ws := w_Ta_take) B.pre
  have hB := big_of hts
  have hown : s.vm.findClass R_Ta = some m.cls := findClass_of_methodNamed B.named
  have hlocks := B.notSynchronized
  subst hsz
  have hD := hD0.self (sz := s.heap.size)
  generalize hAe : va_A [(h0, .inr (2, [.int ph, .int di, .long lm, .long cu, .long la, .long en]))] s.heap.size = A at hD ⊢
  have hA : ∀ q : Nat, s.heap.size ≤ q → A q := fun q h => by rw [← hAe]; exact Or.inr h
  have hS : va_S A s.heap s.heap [] := va_S.rf
  have hP : va_P (dC, dI) classes [(h0, .inr (2, [.int ph, .int di, .long lm, .long cu, .long la, .long en]))] s.heap := hP
  have hl := lv_entry ([.ref h0, .int p0, .long p1, .long p2, .int p3]) (n := 8) (Nat.le_of_ble_eq_true rfl)
  rw [lg_entry_eq]
  generalize (lg_sl ([.ref h0, .int p0, .long p1, .long p2, .int p3]) ++ List.replicate (8 - (lg_sl ([.ref h0, .int p0, .long p1, .long p2, .int p3])).length) Slot.unset).toArray = ls at hl ⊢
  have hl : lv_has ls 8 [(0, .ref h0), (1, .int p0), (2, .long p1), (4, .long p2), (6, .int p3)] := hl
  refine lv_aload_n hx hb d_Ta_take_0 rfl (lv_at hl 0 rfl) ?_
  refine lv_lload hx hb d_Ta_take_1 (lv_at hl 3 rfl) ?_
  refine kc_i (va_runV (As := [.long p2]) (rest := []) ⟨hx, hb, hml, hown, hts⟩ (c_Ta_isLate l dC dI h0 s.heap.size ph di lm cu la en p2 ) (cwV 1 hts (ginV kb_68 kb_69 kb_70 kb_47 kb_67) rfl rfl rfl (by decide +kernel) ⟨Nat.le_of_ble_eq_true rfl, Nat.le_of_ble_eq_true rfl⟩) (preV (ci := 2) (wc := [(h0, .inr (2, [.int ph, .int di, .long lm, .long cu, .long la, .long en]))]) hK hN hP hD [0] rfl rfl (by decide) [] rfl rfl rfl) rfl rfl hl.1 rfl (lv_room (Nat.le_of_ble_eq_true rfl)) d_Ta_take_3 ⟨Nat.le_of_ble_eq_true rfl, Nat.le_of_ble_eq_true rfl⟩) hP hD hS hA [0] [] (wr := []) rfl rfl (by decide) (by decide) (fun r_3 u_3 H locs hw_3 hP hD hK1 hS => ?_)
  have hw_3 : True := hw_3
  have hP : va_P (dC, dI) classes [(h0, .inr (2, [.int ph, .int di, .long lm, .long cu, .long la, .long en]))] H := hP
  have hD : va_D A [(h0, .inr (2, [.int ph, .int di, .long lm, .long cu, .long la, .long en]))] := hD
  refine lv_if_eq (tgt := 13) hx hb d_Ta_take_6 (by decide) (fun c_6 => ?_) (fun c_6 => ?_)
  · skip
    refine lv_aload_n hx hb d_Ta_take_13 rfl (lv_at hl 0 rfl) ?_
    refine lv_iload_n hx hb d_Ta_take_14 rfl (lv_at hl 1 rfl) ?_
    refine lv_lload_n hx hb d_Ta_take_15 rfl (lv_at hl 2 rfl) ?_
    refine lv_iload hx hb d_Ta_take_16 (lv_at hl 4 rfl) ?_
    refine kc_i (va_runV (As := [.int p0, .long p1, .int p3]) (rest := []) ⟨hx, hb, hml, hown, hts⟩ (c_Ta_phaseAfter l dC dI h0 H.size ph di lm cu la en p0 p1 p3 ) (cwV 3 hts (ginV kb_72 kb_73 kb_74 kb_47 kb_71) rfl rfl rfl (by decide +kernel) ⟨Nat.le_of_ble_eq_true rfl, Nat.le_of_ble_eq_true rfl⟩) (preV (ci := 2) (wc := [(h0, .inr (2, [.int ph, .int di, .long lm, .long cu, .long la, .long en]))]) hK hN hP hD [0] rfl rfl (by decide) [] rfl rfl rfl) rfl rfl hl.1 rfl (lv_room (Nat.le_of_ble_eq_true rfl)) d_Ta_take_18 ⟨Nat.le_of_ble_eq_true rfl, Nat.le_of_ble_eq_true rfl⟩) hP hD hS hA [0] [] (wr := []) rfl rfl (by decide) (by decide) (fun r_18 u_18 H locs hw_18 hP hD hK1 hS => ?_)
    have hw_18 : True := hw_18
    have hP : va_P (dC, dI) classes [(h0, .inr (2, [.int ph, .int di, .long lm, .long cu, .long la, .long en]))] H := hP
    have hD : va_D A [(h0, .inr (2, [.int ph, .int di, .long lm, .long cu, .long la, .long en]))] := hD
    refine lv_istore (lv' := [(7, .int r_18), (0, .ref h0), (1, .int p0), (2, .long p1), (4, .long p2), (6, .int p3)]) hx hb d_Ta_take_21 hl (by decide) rfl (fun ls hl => ?_)
    refine lv_iload hx hb d_Ta_take_23 (lv_at hl 0 rfl) ?_
    refine lv_iconst (v := (-1)) hx hb d_Ta_take_25 (by decide) ?_
    refine lv_icmp_ne (tgt := 35) hx hb d_Ta_take_26 (by decide) (fun c_26 => ?_) (fun c_26 => ?_)
    · skip
      refine lv_aload_n hx hb d_Ta_take_35 rfl (lv_at hl 1 rfl) ?_
      refine lv_iload_n hx hb d_Ta_take_36 rfl (lv_at hl 2 rfl) ?_
      refine lv_lload_n hx hb d_Ta_take_37 rfl (lv_at hl 3 rfl) ?_
      refine lv_lload hx hb d_Ta_take_38 (lv_at hl 4 rfl) ?_
      refine kc_v (va_runV (As := [.int p0, .long p1, .long p2]) (rest := []) ⟨hx, hb, hml, hown, hts⟩ (c_Ta_keep l dC dI h0 H.size ph di lm cu la en p0 p1 p2 ) (cwV 3 hts (ginV kb_76 kb_77 kb_78 kb_47 kb_75) rfl rfl rfl (by decide +kernel) ⟨Nat.le_of_ble_eq_true rfl, Nat.le_of_ble_eq_true rfl⟩) (preV (ci := 2) (wc := [(h0, .inr (2, [.int ph, .int di, .long lm, .long cu, .long la, .long en]))]) hK hN hP hD [0] rfl rfl (by decide) [] rfl rfl rfl) rfl rfl hl.1 rfl (lv_room (Nat.le_of_ble_eq_true rfl)) d_Ta_take_40 ⟨Nat.le_of_ble_eq_true rfl, Nat.le_of_ble_eq_true rfl⟩) hP hD hS hA [0] [] (wr := []) rfl rfl (by decide) (by decide) (fun u_40 H locs hw_40 hP hD hK1 hS => ?_)
      obtain ⟨di2_40, lm2_40, cu2_40, la2_40, en2_40⟩ := u_40
      have hw_40 : True := hw_40
      have hP : va_P (dC, dI) classes [(h0, .inr (2, [.int ph, .int di2_40, .long lm2_40, .long cu2_40, .long la2_40, .long en2_40]))] H := hP
      have hD : va_D A [(h0, .inr (2, [.int ph, .int di2_40, .long lm2_40, .long cu2_40, .long la2_40, .long en2_40]))] := hD
      refine lv_aload_n hx hb d_Ta_take_43 rfl (lv_at hl 1 rfl) ?_
      refine lv_iload hx hb d_Ta_take_44 (lv_at hl 0 rfl) ?_
      refine va_put (D := (dC, dI)) (ci := 2) (v := .int r_18) (ty := .int) (C := R_Ta) (T := F_Ta) (N := 6) hx hb hB inC_Ta t_Ta t_Ta_ok n_Ta hown hK hP hD hS 0 rfl rfl 0 (by decide) (hB _ kb_32) (fun _ h9 => h9) rfl (by decide +kernel) rfl rfl (Nat.le_of_ble_eq_true rfl) d_Ta_take_46 (fun H locs hP hD hS => ?_)
      have hP : va_P (dC, dI) classes [(h0, .inr (2, [.int r_18, .int di2_40, .long lm2_40, .long cu2_40, .long la2_40, .long en2_40]))] H := hP
      have hD : va_D A [(h0, .inr (2, [.int r_18, .int di2_40, .long lm2_40, .long cu2_40, .long la2_40, .long en2_40]))] := hD
      refine lv_iconst (v := 1) hx hb d_Ta_take_49 (by decide) ?_
      have hP9 := hP.sub (ws' := [(h0, .inr (2, [.int r_18, .int di2_40, .long lm2_40, .long cu2_40, .long la2_40, .long en2_40]))]) [0] rfl
      have hD9 := hD.sub (ws' := [(h0, .inr (2, [.int r_18, .int di2_40, .long lm2_40, .long cu2_40, .long la2_40, .long en2_40]))]) [0] (by decide) rfl
      have hK9 := hK.sub (tys' := []) [] rfl
      exact W.zret (v := 1) (ty := .boolean) hx hb hr (rfl) (fun t ht hW => ⟨⟨1, (r_18, di2_40, lm2_40, cu2_40, la2_40, en2_40), rfl, trivial, by rw [ht]; exact hP9, va_K.moved hW.alike hK9, hD9⟩, hS.F ht⟩) hS.2.2 d_Ta_take_50
    · skip
      refine lv_aload_n hx hb d_Ta_take_29 rfl (lv_at hl 1 rfl) ?_
      refine kc_v (va_runV (As := []) (rest := []) ⟨hx, hb, hml, hown, hts⟩ (c_Ta_end l dC dI h0 H.size ph di lm cu la en  ) (cwV 0 hts (ginV kb_44 kb_45 kb_46 kb_47 kb_43) rfl rfl rfl (by decide +kernel) ⟨Nat.le_of_ble_eq_true rfl, Nat.le_of_ble_eq_true rfl⟩) (preV (ci := 2) (wc := [(h0, .inr (2, [.int ph, .int di, .long lm, .long cu, .long la, .long en]))]) hK hN hP hD [0] rfl rfl (by decide) [] rfl rfl rfl) rfl rfl hl.1 rfl (lv_room (Nat.le_of_ble_eq_true rfl)) d_Ta_take_30 ⟨Nat.le_of_ble_eq_true rfl, Nat.le_of_ble_eq_true rfl⟩) hP hD hS hA [0] [] (wr := []) rfl rfl (by decide) (by decide) (fun u_30 H locs hw_30 hP hD hK1 hS => ?_)
      obtain ⟨ph2_30, rfl⟩ : ∃ z, z = u_30 := ⟨_, rfl⟩
      have hw_30 : True := hw_30
      have hP : va_P (dC, dI) classes [(h0, .inr (2, [.int ph2_30, .int di, .long lm, .long cu, .long la, .long en]))] H := hP
      have hD : va_D A [(h0, .inr (2, [.int ph2_30, .int di, .long lm, .long cu, .long la, .long en]))] := hD
      refine lv_iconst (v := 0) hx hb d_Ta_take_33 (by decide) ?_
      have hP9 := hP.sub (ws' := [(h0, .inr (2, [.int ph2_30, .int di, .long lm, .long cu, .long la, .long en]))]) [0] rfl
      have hD9 := hD.sub (ws' := [(h0, .inr (2, [.int ph2_30, .int di, .long lm, .long cu, .long la, .long en]))]) [0] (by decide) rfl
      have hK9 := hK.sub (tys' := []) [] rfl
      exact W.zret (v := 0) (ty := .boolean) hx hb hr (rfl) (fun t ht hW => ⟨⟨0, (ph2_30, di, lm, cu, la, en), rfl, trivial, by rw [ht]; exact hP9, va_K.moved hW.alike hK9, hD9⟩, hS.F ht⟩) hS.2.2 d_Ta_take_34
  · skip
    refine lv_iconst (v := (-1)) hx hb d_Ta_take_9 (by decide) ?_
    refine lv_goto (tgt := 21) hx hb d_Ta_take_10 (by decide) ?_
    refine lv_istore (lv' := [(7, .int (-1)), (0, .ref h0), (1, .int p0), (2, .long p1), (4, .long p2), (6, .int p3)]) hx hb d_Ta_take_21 hl (by decide) rfl (fun ls hl => ?_)
    refine lv_iload hx hb d_Ta_take_23 (lv_at hl 0 rfl) ?_
    refine lv_iconst (v := (-1)) hx hb d_Ta_take_25 (by decide) ?_
    refine lv_icmp_ne (tgt := 35) hx hb d_Ta_take_26 (by decide) (fun c_26 => absurd c_26 (by decide)) (fun _ => ?_)
    refine lv_aload_n hx hb d_Ta_take_29 rfl (lv_at hl 1 rfl) ?_
    refine kc_v (va_runV (As := []) (rest := []) ⟨hx, hb, hml, hown, hts⟩ (c_Ta_end l dC dI h0 H.size ph di lm cu la en  ) (cwV 0 hts (ginV kb_44 kb_45 kb_46 kb_47 kb_43) rfl rfl rfl (by decide +kernel) ⟨Nat.le_of_ble_eq_true rfl, Nat.le_of_ble_eq_true rfl⟩) (preV (ci := 2) (wc := [(h0, .inr (2, [.int ph, .int di, .long lm, .long cu, .long la, .long en]))]) hK hN hP hD [0] rfl rfl (by decide) [] rfl rfl rfl) rfl rfl hl.1 rfl (lv_room (Nat.le_of_ble_eq_true rfl)) d_Ta_take_30 ⟨Nat.le_of_ble_eq_true rfl, Nat.le_of_ble_eq_true rfl⟩) hP hD hS hA [0] [] (wr := []) rfl rfl (by decide) (by decide) (fun u_30 H locs hw_30 hP hD hK1 hS => ?_)
    obtain ⟨ph2_30, rfl⟩ : ∃ z, z = u_30 := ⟨_, rfl⟩
    have hw_30 : True := hw_30
    have hP : va_P (dC, dI) classes [(h0, .inr (2, [.int ph2_30, .int di, .long lm, .long cu, .long la, .long en]))] H := hP
    have hD : va_D A [(h0, .inr (2, [.int ph2_30, .int di, .long lm, .long cu, .long la, .long en]))] := hD
    refine lv_iconst (v := 0) hx hb d_Ta_take_33 (by decide) ?_
    have hP9 := hP.sub (ws' := [(h0, .inr (2, [.int ph2_30, .int di, .long lm, .long cu, .long la, .long en]))]) [0] rfl
    have hD9 := hD.sub (ws' := [(h0, .inr (2, [.int ph2_30, .int di, .long lm, .long cu, .long la, .long en]))]) [0] (by decide) rfl
    have hK9 := hK.sub (tys' := []) [] rfl
    exact W.zret (v := 0) (ty := .boolean) hx hb hr (rfl) (fun t ht hW => ⟨⟨0, (ph2_30, di, lm, cu, la, en), rfl, trivial, by rw [ht]; exact hP9, va_K.moved hW.alike hK9, hD9⟩, hS.F ht⟩) hS.2.2 d_Ta_take_34
end
section
set_option maxHeartbeats 4000000 in
set_option maxRecDepth 100000 in
theorem c_Tf_isPrice (l : Launch) (dC : Nat → ClassId) (dI : Nat → Nat → Nat) (sz : Nat) (p0 : Int32) : Met l y_Tf_isPrice w_Tf_isPrice ({ frames := 0, cells := 0, slots := 0, locals := 0 }) (cPre dC dI [.int p0] sz [] []) (va_Qi (fun (r : Int32) (u : Unit) => r = bi (0 ≤ p0 ∧ p0 ≤ 1000)) (fun (u : Unit) (t : State) => cB dC dI (va_A [] sz) [] [] t) (va_A [] sz)) 0 0 (va_A [] sz) := by
  refine Met.ofW (cc := b_Tf_isPrice) (maxL := 1) (ret := (some .boolean)) (by decide) rfl ?_
  intro p e s m args below meth c s₁ B hml hv
  obtain ⟨rfl, hsz, hN, hP, hK, hD0⟩ := hv
  have hx := B.exec
  have hb := B.bytes
  have hr := B.returns
  have hts := atoms_spec (ws := w_Tf_isPrice) B.pre
  have hB := big_of hts
  have hown : s.vm.findClass R_Tf = some m.cls := findClass_of_methodNamed B.named
  have hlocks := B.notSynchronized
  subst hsz
  have hD := hD0.self (sz := s.heap.size)
  generalize hAe : va_A [] s.heap.size = A at hD ⊢
  have hA : ∀ q : Nat, s.heap.size ≤ q → A q := fun q h => by rw [← hAe]; exact Or.inr h
  have hS : va_S A s.heap s.heap [] := va_S.rf
  have hP : va_P (dC, dI) classes [] s.heap := hP
  have hl := lv_entry ([.int p0]) (n := 1) (Nat.le_of_ble_eq_true rfl)
  rw [lg_entry_eq]
  generalize (lg_sl ([.int p0]) ++ List.replicate (1 - (lg_sl ([.int p0])).length) Slot.unset).toArray = ls at hl ⊢
  have hl : lv_has ls 1 [(0, .int p0)] := hl
  refine lv_iload_n hx hb d_Tf_isPrice_0 rfl (lv_at hl 0 rfl) ?_
  refine lv_if_lt (tgt := 15) hx hb d_Tf_isPrice_1 (by decide) (fun c_1 => ?_) (fun c_1 => ?_)
  · skip
    refine lv_iconst (v := 0) hx hb d_Tf_isPrice_15 (by decide) ?_
    have hP9 := hP.sub (ws' := []) [] rfl
    have hD9 := hD.sub (ws' := []) [] (by decide) rfl
    have hK9 := hK.sub (tys' := []) [] rfl
    exact W.zret (v := 0) (ty := .boolean) hx hb hr (rfl) (fun t ht hW => ⟨⟨0, (), rfl, (bi_f (fun h => absurd h.1 (Int32.not_le.mpr c_1))).symm, by rw [ht]; exact hP9, va_K.moved hW.alike hK9, hD9⟩, hS.F ht⟩) hS.2.2 d_Tf_isPrice_16
  · skip
    refine lv_iload_n hx hb d_Tf_isPrice_4 rfl (lv_at hl 0 rfl) ?_
    refine lv_sipush (v := 1000) hx hb d_Tf_isPrice_5 (by decide) ?_
    refine lv_icmp_gt (tgt := 15) hx hb d_Tf_isPrice_8 (by decide) (fun c_8 => ?_) (fun c_8 => ?_)
    · skip
      refine lv_iconst (v := 0) hx hb d_Tf_isPrice_15 (by decide) ?_
      have hP9 := hP.sub (ws' := []) [] rfl
      have hD9 := hD.sub (ws' := []) [] (by decide) rfl
      have hK9 := hK.sub (tys' := []) [] rfl
      exact W.zret (v := 0) (ty := .boolean) hx hb hr (rfl) (fun t ht hW => ⟨⟨0, (), rfl, (bi_f (fun h => absurd h.2 (Int32.not_le.mpr c_8))).symm, by rw [ht]; exact hP9, va_K.moved hW.alike hK9, hD9⟩, hS.F ht⟩) hS.2.2 d_Tf_isPrice_16
    · skip
      refine lv_iconst (v := 1) hx hb d_Tf_isPrice_11 (by decide) ?_
      refine lv_goto (tgt := 16) hx hb d_Tf_isPrice_12 (by decide) ?_
      have hP9 := hP.sub (ws' := []) [] rfl
      have hD9 := hD.sub (ws' := []) [] (by decide) rfl
      have hK9 := hK.sub (tys' := []) [] rfl
      exact W.zret (v := 1) (ty := .boolean) hx hb hr (rfl) (fun t ht hW => ⟨⟨1, (), rfl, (bi_t ⟨Int32.not_lt.mp c_1, Int32.not_lt.mp c_8⟩).symm, by rw [ht]; exact hP9, va_K.moved hW.alike hK9, hD9⟩, hS.F ht⟩) hS.2.2 d_Tf_isPrice_16
set_option maxHeartbeats 4000000 in
set_option maxRecDepth 100000 in
theorem c_Tf_isFull (l : Launch) (dC : Nat → ClassId) (dI : Nat → Nat → Nat) (h0 : Nat) (a1 : Nat) (a2 : Nat) (a3 : Nat) (sz : Nat) (sp : Int32) (lk : Int64) : Met l y_Tf_isFull w_Tf_isFull ({ frames := 0, cells := 0, slots := 0, locals := 0 }) (cPre dC dI [.ref h0] sz [] [(h0, .inr (3, [.ref a1, .ref a2, .ref a3, .int sp, .long lk]))]) (va_Qi (fun (r : Int32) (u : Unit) => r = bi (20 ≤ sp)) (fun (u : Unit) (t : State) => cB dC dI (va_A [(h0, .inr (3, [.ref a1, .ref a2, .ref a3, .int sp, .long lk]))] sz) [] [(h0, .inr (3, [.ref a1, .ref a2, .ref a3, .int sp, .long lk]))] t) (va_A [(h0, .inr (3, [.ref a1, .ref a2, .ref a3, .int sp, .long lk]))] sz)) 0 0 (va_A [(h0, .inr (3, [.ref a1, .ref a2, .ref a3, .int sp, .long lk]))] sz) := by
  refine Met.ofW (cc := b_Tf_isFull) (maxL := 1) (ret := (some .boolean)) (by decide) rfl ?_
  intro p e s m args below meth c s₁ B hml hv
  obtain ⟨rfl, hsz, hN, hP, hK, hD0⟩ := hv
  have hx := B.exec
  have hb := B.bytes
  have hr := B.returns
  have hts := atoms_spec (ws := w_Tf_isFull) B.pre
  have hB := big_of hts
  have hown : s.vm.findClass R_Tf = some m.cls := findClass_of_methodNamed B.named
  have hlocks := B.notSynchronized
  subst hsz
  have hD := hD0.self (sz := s.heap.size)
  generalize hAe : va_A [(h0, .inr (3, [.ref a1, .ref a2, .ref a3, .int sp, .long lk]))] s.heap.size = A at hD ⊢
  have hA : ∀ q : Nat, s.heap.size ≤ q → A q := fun q h => by rw [← hAe]; exact Or.inr h
  have hS : va_S A s.heap s.heap [] := va_S.rf
  have hP : va_P (dC, dI) classes [(h0, .inr (3, [.ref a1, .ref a2, .ref a3, .int sp, .long lk]))] s.heap := hP
  have hl := lv_entry ([.ref h0]) (n := 1) (Nat.le_of_ble_eq_true rfl)
  rw [lg_entry_eq]
  generalize (lg_sl ([.ref h0]) ++ List.replicate (1 - (lg_sl ([.ref h0])).length) Slot.unset).toArray = ls at hl ⊢
  have hl : lv_has ls 1 [(0, .ref h0)] := hl
  refine lv_aload_n hx hb d_Tf_isFull_0 rfl (lv_at hl 0 rfl) ?_
  refine va_get (D := (dC, dI)) (ci := 3) (v := .int sp) (C := R_Tf) (T := F_Tf) (N := 5) hx hb hB inC_Tf hown hK hP 0 rfl rfl 3 (by decide) (hB _ kb_79) (fun _ h9 => h9) rfl d_Tf_isFull_1 ?_
  refine lv_bipush (v := 20) hx hb d_Tf_isFull_4 (by decide) ?_
  refine lv_icmp_lt (tgt := 13) hx hb d_Tf_isFull_6 (by decide) (fun c_6 => ?_) (fun c_6 => ?_)
  · skip
    refine lv_iconst (v := 0) hx hb d_Tf_isFull_13 (by decide) ?_
    have hP9 := hP.sub (ws' := [(h0, .inr (3, [.ref a1, .ref a2, .ref a3, .int sp, .long lk]))]) [0] rfl
    have hD9 := hD.sub (ws' := [(h0, .inr (3, [.ref a1, .ref a2, .ref a3, .int sp, .long lk]))]) [0] (by decide) rfl
    have hK9 := hK.sub (tys' := []) [] rfl
    exact W.zret (v := 0) (ty := .boolean) hx hb hr (rfl) (fun t ht hW => ⟨⟨0, (), rfl, (bi_f (Int32.not_le.mpr c_6)).symm, by rw [ht]; exact hP9, va_K.moved hW.alike hK9, hD9⟩, hS.F ht⟩) hS.2.2 d_Tf_isFull_14
  · skip
    refine lv_iconst (v := 1) hx hb d_Tf_isFull_9 (by decide) ?_
    refine lv_goto (tgt := 14) hx hb d_Tf_isFull_10 (by decide) ?_
    have hP9 := hP.sub (ws' := [(h0, .inr (3, [.ref a1, .ref a2, .ref a3, .int sp, .long lk]))]) [0] rfl
    have hD9 := hD.sub (ws' := [(h0, .inr (3, [.ref a1, .ref a2, .ref a3, .int sp, .long lk]))]) [0] (by decide) rfl
    have hK9 := hK.sub (tys' := []) [] rfl
    exact W.zret (v := 1) (ty := .boolean) hx hb hr (rfl) (fun t ht hW => ⟨⟨1, (), rfl, (bi_t (Int32.not_lt.mp c_6)).symm, by rw [ht]; exact hP9, va_K.moved hW.alike hK9, hD9⟩, hS.F ht⟩) hS.2.2 d_Tf_isFull_14
set_option maxHeartbeats 4000000 in
set_option maxRecDepth 100000 in
theorem c_Tf_addSpan (l : Launch) (dC : Nat → ClassId) (dI : Nat → Nat → Nat) (h0 : Nat) (a1 : Nat) (a2 : Nat) (a3 : Nat) (e1 : ClassId) (sz : Nat) (sp : Int32) (lk : Int64) (f1 : Nat → Int32) (p0 : Int32) (p1 : Int32) (p2 : Int32) : Met l y_Tf_addSpan w_Tf_addSpan ({ frames := 1, cells := 0, slots := 0, locals := 23 }) (cPre dC dI [.ref h0, .int p0, .int p1, .int p2] sz [(e1, .int)] [(h0, .inr (3, [.ref a1, .ref a2, .ref a3, .int sp, .long lk])), (a1, .inl (e1, 1440, .inl f1))]) (va_Qi (fun (r : Int32) (u : Int32 × (Nat → Int32)) => r = sp + 1 ∧ u.1 = sp + 1) (fun (u : Int32 × (Nat → Int32)) (t : State) => cB dC dI (va_A [(h0, .inr (3, [.ref a1, .ref a2, .ref a3, .int sp, .long lk])), (a1, .inl (e1, 1440, .inl f1))] sz) [(e1, .int)] [(h0, .inr (3, [.ref a1, .ref a2, .ref a3, .int u.1, .long lk])), (a1, .inl (e1, 1440, .inl (u.2)))] t) (va_A [(h0, .inr (3, [.ref a1, .ref a2, .ref a3, .int sp, .long lk])), (a1, .inl (e1, 1440, .inl f1))] sz)) 0 0 (va_A [(h0, .inr (3, [.ref a1, .ref a2, .ref a3, .int sp, .long lk])), (a1, .inl (e1, 1440, .inl f1))] sz) := by
  refine Met.ofW (cc := b_Tf_addSpan) (maxL := 5) (ret := (some .int)) (by decide) rfl ?_
  intro p e s m args below meth c s₁ B hml hv
  obtain ⟨rfl, hsz, hN, hP, hK, hD0⟩ := hv
  have hx := B.exec
  have hb := B.bytes
  have hr := B.returns
  have hts := atoms_spec (ws := w_Tf_addSpan) B.pre
  have hB := big_of hts
  have hown : s.vm.findClass R_Tf = some m.cls := findClass_of_methodNamed B.named
  have hlocks := B.notSynchronized
  subst hsz
  have hD := hD0.self (sz := s.heap.size)
  generalize hAe : va_A [(h0, .inr (3, [.ref a1, .ref a2, .ref a3, .int sp, .long lk])), (a1, .inl (e1, 1440, .inl f1))] s.heap.size = A at hD ⊢
  have hA : ∀ q : Nat, s.heap.size ≤ q → A q := fun q h => by rw [← hAe]; exact Or.inr h
  have hS : va_S A s.heap s.heap [] := va_S.rf
  have hP : va_P (dC, dI) classes [(h0, .inr (3, [.ref a1, .ref a2, .ref a3, .int sp, .long lk])), (a1, .inl (e1, 1440, .inl f1))] s.heap := hP
  have hl := lv_entry ([.ref h0, .int p0, .int p1, .int p2]) (n := 5) (Nat.le_of_ble_eq_true rfl)
  rw [lg_entry_eq]
  generalize (lg_sl ([.ref h0, .int p0, .int p1, .int p2]) ++ List.replicate (5 - (lg_sl ([.ref h0, .int p0, .int p1, .int p2])).length) Slot.unset).toArray = ls at hl ⊢
  have hl : lv_has ls 5 [(0, .ref h0), (1, .int p0), (2, .int p1), (3, .int p2)] := hl
  have cut : ∀ n : Nat, (∀ (i : Int32) (g : Nat → Int32) (H : Heap) (locs : List Loc) (ls : Array Slot), 0 ≤ i → (1440 - i.toInt).toNat < n → va_P (dC, dI) classes [(h0, .inr (3, [.ref a1, .ref a2, .ref a3, .int sp, .long lk])), (a1, .inl (e1, 1440, .inl g))] H → va_D A [(h0, .inr (3, [.ref a1, .ref a2, .ref a3, .int sp, .long lk])), (a1, .inl (e1, 1440, .inl g))] → va_S A s.heap H locs → lv_has ls 5 [(0, .ref h0), (1, .int p0), (2, .int p1), (3, .int p2), (4, .int i)] → W p l e (headSpec w_Tf_addSpan ({ frames := 1, cells := 0, slots := 0, locals := 23 })).room s m (List.toArray [.ref h0, .int p0, .int p1, .int p2]) below meth c H locs 0 0 (MQ below (va_Qi (fun (r : Int32) (u : Int32 × (Nat → Int32)) => r = sp + 1 ∧ u.1 = sp + 1) (fun (u : Int32 × (Nat → Int32)) (t : State) => cB dC dI A [(e1, .int)] [(h0, .inr (3, [.ref a1, .ref a2, .ref a3, .int u.1, .long lk])), (a1, .inl (e1, 1440, .inl (u.2)))] t) A) (List.toArray [.ref h0, .int p0, .int p1, .int p2]) s 0 0 A) (F0 m 7 ls [])) := by
    intro n
    induction n with
    | zero => intros; omega
    | succ n ih =>
      intro i g H locs ls h_i hmu hP hD hS hl
      refine lv_iload hx hb d_Tf_addSpan_7 (lv_at hl 4 rfl) ?_
      refine lv_iload_n hx hb d_Tf_addSpan_9 rfl (lv_at hl 2 rfl) ?_
      refine lv_icmp_ge (tgt := 35) hx hb d_Tf_addSpan_10 (by decide) (fun c_10 => ?_) (fun c_10 => ?_)
      · skip
        refine lv_aload_n hx hb d_Tf_addSpan_35 rfl (lv_at hl 0 rfl) ?_
        refine lv_dup hx hb d_Tf_addSpan_36 rfl ?_
        refine va_get (D := (dC, dI)) (ci := 3) (v := .int sp) (C := R_Tf) (T := F_Tf) (N := 5) hx hb hB inC_Tf hown hK hP 0 rfl rfl 3 (by decide) (hB _ kb_79) (fun _ h9 => h9) rfl d_Tf_addSpan_37 ?_
        refine lv_iconst (v := 1) hx hb d_Tf_addSpan_40 (by decide) ?_
        refine lv_iadd hx hb d_Tf_addSpan_41 ?_
        refine lv_topi (fun x_41 ex_41 => ?_)
        refine va_put (D := (dC, dI)) (ci := 3) (v := .int x_41) (ty := .int) (C := R_Tf) (T := F_Tf) (N := 5) hx hb hB inC_Tf t_Tf t_Tf_ok n_Tf hown hK hP hD hS 0 rfl rfl 3 (by decide) (hB _ kb_79) (fun _ h9 => h9) rfl (by decide +kernel) rfl rfl (Nat.le_of_ble_eq_true rfl) d_Tf_addSpan_42 (fun H locs hP hD hS => ?_)
        have hP : va_P (dC, dI) classes [(h0, .inr (3, [.ref a1, .ref a2, .ref a3, .int x_41, .long lk])), (a1, .inl (e1, 1440, .inl g))] H := hP
        have hD : va_D A [(h0, .inr (3, [.ref a1, .ref a2, .ref a3, .int x_41, .long lk])), (a1, .inl (e1, 1440, .inl g))] := hD
        refine lv_aload_n hx hb d_Tf_addSpan_45 rfl (lv_at hl 0 rfl) ?_
        refine va_get (D := (dC, dI)) (ci := 3) (v := .int x_41) (C := R_Tf) (T := F_Tf) (N := 5) hx hb hB inC_Tf hown hK hP 0 rfl rfl 3 (by decide) (hB _ kb_79) (fun _ h9 => h9) rfl d_Tf_addSpan_46 ?_
        have hP9 := hP.sub (ws' := [(h0, .inr (3, [.ref a1, .ref a2, .ref a3, .int x_41, .long lk])), (a1, .inl (e1, 1440, .inl g))]) [0, 1] rfl
        have hD9 := hD.sub (ws' := [(h0, .inr (3, [.ref a1, .ref a2, .ref a3, .int x_41, .long lk])), (a1, .inl (e1, 1440, .inl g))]) [0, 1] (by decide) rfl
        have hK9 := hK.sub (tys' := [(e1, .int)]) [0] rfl
        exact W.iret (v := x_41) hx hb hr (fun t ht hW => ⟨⟨x_41, (x_41, g), rfl, ⟨ex_41, ex_41⟩, by rw [ht]; exact hP9, va_K.moved hW.alike hK9, hD9⟩, hS.F ht⟩) hS.2.2 d_Tf_addSpan_49
      · skip
        refine lv_iload hx hb d_Tf_addSpan_13 (lv_at hl 4 rfl) ?_
        refine lv_sipush (v := 1440) hx hb d_Tf_addSpan_15 (by decide) ?_
        refine lv_icmp_ge (tgt := 35) hx hb d_Tf_addSpan_18 (by decide) (fun c_18 => ?_) (fun c_18 => ?_)
        · skip
          refine lv_aload_n hx hb d_Tf_addSpan_35 rfl (lv_at hl 0 rfl) ?_
          refine lv_dup hx hb d_Tf_addSpan_36 rfl ?_
          refine va_get (D := (dC, dI)) (ci := 3) (v := .int sp) (C := R_Tf) (T := F_Tf) (N := 5) hx hb hB inC_Tf hown hK hP 0 rfl rfl 3 (by decide) (hB _ kb_79) (fun _ h9 => h9) rfl d_Tf_addSpan_37 ?_
          refine lv_iconst (v := 1) hx hb d_Tf_addSpan_40 (by decide) ?_
          refine lv_iadd hx hb d_Tf_addSpan_41 ?_
          refine lv_topi (fun x_41 ex_41 => ?_)
          refine va_put (D := (dC, dI)) (ci := 3) (v := .int x_41) (ty := .int) (C := R_Tf) (T := F_Tf) (N := 5) hx hb hB inC_Tf t_Tf t_Tf_ok n_Tf hown hK hP hD hS 0 rfl rfl 3 (by decide) (hB _ kb_79) (fun _ h9 => h9) rfl (by decide +kernel) rfl rfl (Nat.le_of_ble_eq_true rfl) d_Tf_addSpan_42 (fun H locs hP hD hS => ?_)
          have hP : va_P (dC, dI) classes [(h0, .inr (3, [.ref a1, .ref a2, .ref a3, .int x_41, .long lk])), (a1, .inl (e1, 1440, .inl g))] H := hP
          have hD : va_D A [(h0, .inr (3, [.ref a1, .ref a2, .ref a3, .int x_41, .long lk])), (a1, .inl (e1, 1440, .inl g))] := hD
          refine lv_aload_n hx hb d_Tf_addSpan_45 rfl (lv_at hl 0 rfl) ?_
          refine va_get (D := (dC, dI)) (ci := 3) (v := .int x_41) (C := R_Tf) (T := F_Tf) (N := 5) hx hb hB inC_Tf hown hK hP 0 rfl rfl 3 (by decide) (hB _ kb_79) (fun _ h9 => h9) rfl d_Tf_addSpan_46 ?_
          have hP9 := hP.sub (ws' := [(h0, .inr (3, [.ref a1, .ref a2, .ref a3, .int x_41, .long lk])), (a1, .inl (e1, 1440, .inl g))]) [0, 1] rfl
          have hD9 := hD.sub (ws' := [(h0, .inr (3, [.ref a1, .ref a2, .ref a3, .int x_41, .long lk])), (a1, .inl (e1, 1440, .inl g))]) [0, 1] (by decide) rfl
          have hK9 := hK.sub (tys' := [(e1, .int)]) [0] rfl
          exact W.iret (v := x_41) hx hb hr (fun t ht hW => ⟨⟨x_41, (x_41, g), rfl, ⟨ex_41, ex_41⟩, by rw [ht]; exact hP9, va_K.moved hW.alike hK9, hD9⟩, hS.F ht⟩) hS.2.2 d_Tf_addSpan_49
        · skip
          refine lv_aload_n hx hb d_Tf_addSpan_21 rfl (lv_at hl 0 rfl) ?_
          refine va_get (D := (dC, dI)) (ci := 3) (v := .ref a1) (C := R_Tf) (T := F_Tf) (N := 5) hx hb hB inC_Tf hown hK hP 0 rfl rfl 0 (by decide) (hB _ kb_80) (fun _ h9 => h9) rfl d_Tf_addSpan_22 ?_
          refine lv_iload hx hb d_Tf_addSpan_25 (lv_at hl 4 rfl) ?_
          refine lv_iload_n hx hb d_Tf_addSpan_27 rfl (lv_at hl 3 rfl) ?_
          have h_28 : vp_in i 1440 := vinB 1440 h_i c_18 (by decide)
          refine va_iast hx hb hK hP hD hS 1 0 rfl rfl h_28 d_Tf_addSpan_28 (fun H locs hP hD hS => ?_)
          obtain ⟨f_28, ef_28⟩ : ∃ y, y = upd g i.toNatClampNeg p2 := ⟨_, rfl⟩
          rw [← ef_28] at hP hD
          have hP : va_P (dC, dI) classes [(h0, .inr (3, [.ref a1, .ref a2, .ref a3, .int sp, .long lk])), (a1, .inl (e1, 1440, .inl f_28))] H := hP
          have hD : va_D A [(h0, .inr (3, [.ref a1, .ref a2, .ref a3, .int sp, .long lk])), (a1, .inl (e1, 1440, .inl f_28))] := hD
          obtain ⟨x_29, ex_29⟩ : ∃ y : Int32, y = i + 1 := ⟨_, rfl⟩
          refine lv_iinc (v := x_29) (lv' := [(4, .int x_29), (0, .ref h0), (1, .int p0), (2, .int p1), (3, .int p2)]) hx hb d_Tf_addSpan_29 hl (k := 4) rfl (by rw [ex_29]; rfl) (by decide) rfl (fun ls hl => ?_)
          refine lv_goto (tgt := 7) hx hb d_Tf_addSpan_32 (by decide) ?_
          exact ih x_29 f_28 _ _ _ ((ii0 1440 h_i c_18 ex_29).1) (by have h9 := (ii0 1440 h_i c_18 ex_29).2; have h8 : (1440 : Int32).toInt = 1440 := (by decide); omega) (hP.sub [0, 1] rfl) (hD.sub [0, 1] (by decide) rfl) hS (lv_sub hl [1, 2, 3, 4, 0] rfl)
  refine lv_iconst (v := 0) hx hb d_Tf_addSpan_0 (by decide) ?_
  refine lv_iload_n hx hb d_Tf_addSpan_1 rfl (lv_at hl 1 rfl) ?_
  refine va_mmax hx hb (by rw [hml]; exact hl.1.symm) hown (hB _ kb_81) (hB _ kb_40) (hB _ kb_41) (hB _ kb_42) (Nat.le_of_ble_eq_true rfl) (Nat.le_of_ble_eq_true rfl) (Nat.le_of_ble_eq_true rfl) (Nat.le_of_ble_eq_true rfl) d_Tf_addSpan_2 ?_
  refine lv_topi (fun x_2 ex_2 => ?_)
  refine lv_istore (lv' := [(4, .int x_2), (0, .ref h0), (1, .int p0), (2, .int p1), (3, .int p2)]) hx hb d_Tf_addSpan_5 hl (by decide) rfl (fun ls hl => ?_)
  exact (cut 1441) x_2 f1 _ _ _ ((mx0 ex_2).1) (by have h9 := (mx0 ex_2).2; omega) (hP.sub [0, 1] rfl) (hD.sub [0, 1] (by decide) rfl) hS (lv_sub hl [1, 2, 3, 4, 0] rfl)
set_option maxHeartbeats 4000000 in
set_option maxRecDepth 100000 in
theorem c_Tf_unitsIn (l : Launch) (dC : Nat → ClassId) (dI : Nat → Nat → Nat) (h0 : Nat) (a1 : Nat) (a2 : Nat) (a3 : Nat) (e2 : ClassId) (sz : Nat) (sp : Int32) (lk : Int64) (f2 : Nat → Int32) (p0 : Int64) : Met l y_Tf_unitsIn w_Tf_unitsIn ({ frames := 0, cells := 0, slots := 0, locals := 0 }) (cPre dC dI [.ref h0, .long p0] sz [(e2, .int)] [(h0, .inr (3, [.ref a1, .ref a2, .ref a3, .int sp, .long lk])), (a2, .inl (e2, 1440, .inl f2))]) (va_Qi (fun (r : Int32) (u : Unit) => True) (fun (u : Unit) (t : State) => cB dC dI (va_A [(h0, .inr (3, [.ref a1, .ref a2, .ref a3, .int sp, .long lk])), (a2, .inl (e2, 1440, .inl f2))] sz) [(e2, .int)] [(h0, .inr (3, [.ref a1, .ref a2, .ref a3, .int sp, .long lk])), (a2, .inl (e2, 1440, .inl f2))] t) (va_A [(h0, .inr (3, [.ref a1, .ref a2, .ref a3, .int sp, .long lk])), (a2, .inl (e2, 1440, .inl f2))] sz)) 0 0 (va_A [(h0, .inr (3, [.ref a1, .ref a2, .ref a3, .int sp, .long lk])), (a2, .inl (e2, 1440, .inl f2))] sz) := by
  refine Met.ofW (cc := b_Tf_unitsIn) (maxL := 3) (ret := (some .int)) (by decide) rfl ?_
  intro p e s m args below meth c s₁ B hml hv
  obtain ⟨rfl, hsz, hN, hP, hK, hD0⟩ := hv
  have hx := B.exec
  have hb := B.bytes
  have hr := B.returns
  have hts := atoms_spec (ws := w_Tf_unitsIn) B.pre
  have hB := big_of hts
  have hown : s.vm.findClass R_Tf = some m.cls := findClass_of_methodNamed B.named
  have hlocks := B.notSynchronized
  subst hsz
  have hD := hD0.self (sz := s.heap.size)
  generalize hAe : va_A [(h0, .inr (3, [.ref a1, .ref a2, .ref a3, .int sp, .long lk])), (a2, .inl (e2, 1440, .inl f2))] s.heap.size = A at hD ⊢
  have hA : ∀ q : Nat, s.heap.size ≤ q → A q := fun q h => by rw [← hAe]; exact Or.inr h
  have hS : va_S A s.heap s.heap [] := va_S.rf
  have hP : va_P (dC, dI) classes [(h0, .inr (3, [.ref a1, .ref a2, .ref a3, .int sp, .long lk])), (a2, .inl (e2, 1440, .inl f2))] s.heap := hP
  have hl := lv_entry ([.ref h0, .long p0]) (n := 3) (Nat.le_of_ble_eq_true rfl)
  rw [lg_entry_eq]
  generalize (lg_sl ([.ref h0, .long p0]) ++ List.replicate (3 - (lg_sl ([.ref h0, .long p0])).length) Slot.unset).toArray = ls at hl ⊢
  have hl : lv_has ls 3 [(0, .ref h0), (1, .long p0)] := hl
  refine lv_lload_n hx hb d_Tf_unitsIn_0 rfl (lv_at hl 1 rfl) ?_
  refine lv_lconst (v := 0) hx hb d_Tf_unitsIn_1 (by decide) ?_
  refine W.lcmp hx hb d_Tf_unitsIn_2 ?_
  refine lv_if_lt (tgt := 24) hx hb d_Tf_unitsIn_3 (by decide) (fun c_3 => ?_) (fun c_3 => ?_)
  · have c_3 := (lg_cmp_lt _ _).mp c_3
    refine lv_iconst (v := 0) hx hb d_Tf_unitsIn_24 (by decide) ?_
    have hP9 := hP.sub (ws' := [(h0, .inr (3, [.ref a1, .ref a2, .ref a3, .int sp, .long lk])), (a2, .inl (e2, 1440, .inl f2))]) [0, 1] rfl
    have hD9 := hD.sub (ws' := [(h0, .inr (3, [.ref a1, .ref a2, .ref a3, .int sp, .long lk])), (a2, .inl (e2, 1440, .inl f2))]) [0, 1] (by decide) rfl
    have hK9 := hK.sub (tys' := [(e2, .int)]) [0] rfl
    exact W.iret (v := 0) hx hb hr (fun t ht hW => ⟨⟨0, (), rfl, trivial, by rw [ht]; exact hP9, va_K.moved hW.alike hK9, hD9⟩, hS.F ht⟩) hS.2.2 d_Tf_unitsIn_25
  · have c_3 := mt (lg_cmp_lt _ _).mpr c_3
    refine lv_lload_n hx hb d_Tf_unitsIn_6 rfl (lv_at hl 1 rfl) ?_
    refine lv_ldc2 (v := 1440) hx hb hown (hB _ kb_82) d_Tf_unitsIn_7 ?_
    refine W.lcmp hx hb d_Tf_unitsIn_10 ?_
    refine lv_if_ge (tgt := 24) hx hb d_Tf_unitsIn_11 (by decide) (fun c_11 => ?_) (fun c_11 => ?_)
    · have c_11 := (lg_cmp_ge _ _).mp c_11
      refine lv_iconst (v := 0) hx hb d_Tf_unitsIn_24 (by decide) ?_
      have hP9 := hP.sub (ws' := [(h0, .inr (3, [.ref a1, .ref a2, .ref a3, .int sp, .long lk])), (a2, .inl (e2, 1440, .inl f2))]) [0, 1] rfl
      have hD9 := hD.sub (ws' := [(h0, .inr (3, [.ref a1, .ref a2, .ref a3, .int sp, .long lk])), (a2, .inl (e2, 1440, .inl f2))]) [0, 1] (by decide) rfl
      have hK9 := hK.sub (tys' := [(e2, .int)]) [0] rfl
      exact W.iret (v := 0) hx hb hr (fun t ht hW => ⟨⟨0, (), rfl, trivial, by rw [ht]; exact hP9, va_K.moved hW.alike hK9, hD9⟩, hS.F ht⟩) hS.2.2 d_Tf_unitsIn_25
    · have c_11 := mt (lg_cmp_ge _ _).mpr c_11
      refine lv_aload_n hx hb d_Tf_unitsIn_14 rfl (lv_at hl 0 rfl) ?_
      refine va_get (D := (dC, dI)) (ci := 3) (v := .ref a2) (C := R_Tf) (T := F_Tf) (N := 5) hx hb hB inC_Tf hown hK hP 0 rfl rfl 1 (by decide) (hB _ kb_83) (fun _ h9 => h9) rfl d_Tf_unitsIn_15 ?_
      refine lv_lload_n hx hb d_Tf_unitsIn_18 rfl (lv_at hl 1 rfl) ?_
      refine lv_l2i hx hb d_Tf_unitsIn_19 rfl ?_
      refine lv_topi (fun x_19 ex_19 => ?_)
      have h_20 : vp_in x_19 1440 := vinL 0 c_3 (nle6 c_11 (by decide)) (by decide) ex_19
      refine va_iald hx hb hK hP 1 0 rfl rfl h_20 d_Tf_unitsIn_20 ?_
      refine lv_topi (fun x_20 ex_20 => ?_)
      refine lv_goto (tgt := 25) hx hb d_Tf_unitsIn_21 (by decide) ?_
      have hP9 := hP.sub (ws' := [(h0, .inr (3, [.ref a1, .ref a2, .ref a3, .int sp, .long lk])), (a2, .inl (e2, 1440, .inl f2))]) [0, 1] rfl
      have hD9 := hD.sub (ws' := [(h0, .inr (3, [.ref a1, .ref a2, .ref a3, .int sp, .long lk])), (a2, .inl (e2, 1440, .inl f2))]) [0, 1] (by decide) rfl
      have hK9 := hK.sub (tys' := [(e2, .int)]) [0] rfl
      exact W.iret (v := x_20) hx hb hr (fun t ht hW => ⟨⟨x_20, (), rfl, trivial, by rw [ht]; exact hP9, va_K.moved hW.alike hK9, hD9⟩, hS.F ht⟩) hS.2.2 d_Tf_unitsIn_25
set_option maxHeartbeats 4000000 in
set_option maxRecDepth 100000 in
theorem c_Tf_measureRoom (l : Launch) (dC : Nat → ClassId) (dI : Nat → Nat → Nat) (h0 : Nat) (a1 : Nat) (a2 : Nat) (a3 : Nat) (e1 : ClassId) (e3 : ClassId) (sz : Nat) (sp : Int32) (lk : Int64) (f1 : Nat → Int32) (f3 : Nat → Int64) (p0 : Int32) (p1 : Int32) : Met l y_Tf_measureRoom w_Tf_measureRoom ({ frames := 1, cells := 0, slots := 0, locals := 20 }) (cPre dC dI [.ref h0, .int p0, .int p1] sz [(e1, .int), (e3, .long)] [(h0, .inr (3, [.ref a1, .ref a2, .ref a3, .int sp, .long lk])), (a1, .inl (e1, 1440, .inl f1)), (a3, .inl (e3, 1001, .inr (.inl f3)))]) (va_Qv (fun (u : (Nat → Int64)) => True) (fun (u : (Nat → Int64)) (t : State) => cB dC dI (va_A [(h0, .inr (3, [.ref a1, .ref a2, .ref a3, .int sp, .long lk])), (a1, .inl (e1, 1440, .inl f1)), (a3, .inl (e3, 1001, .inr (.inl f3)))] sz) [(e1, .int), (e3, .long)] [(h0, .inr (3, [.ref a1, .ref a2, .ref a3, .int sp, .long lk])), (a1, .inl (e1, 1440, .inl f1)), (a3, .inl (e3, 1001, .inr (.inl u)))] t) (va_A [(h0, .inr (3, [.ref a1, .ref a2, .ref a3, .int sp, .long lk])), (a1, .inl (e1, 1440, .inl f1)), (a3, .inl (e3, 1001, .inr (.inl f3)))] sz)) 0 0 (va_A [(h0, .inr (3, [.ref a1, .ref a2, .ref a3, .int sp, .long lk])), (a1, .inl (e1, 1440, .inl f1)), (a3, .inl (e3, 1001, .inr (.inl f3)))] sz) := by
  refine Met.ofW (cc := b_Tf_measureRoom) (maxL := 5) (ret := none) (by decide) rfl ?_
  intro p e s m args below meth c s₁ B hml hv
  obtain ⟨rfl, hsz, hN, hP, hK, hD0⟩ := hv
  have hx := B.exec
  have hb := B.bytes
  have hr := B.returns
  have hts := atoms_spec (ws := w_Tf_measureRoom) B.pre
  have hB := big_of hts
  have hown : s.vm.findClass R_Tf = some m.cls := findClass_of_methodNamed B.named
  have hlocks := B.notSynchronized
  subst hsz
  have hD := hD0.self (sz := s.heap.size)
  generalize hAe : va_A [(h0, .inr (3, [.ref a1, .ref a2, .ref a3, .int sp, .long lk])), (a1, .inl (e1, 1440, .inl f1)), (a3, .inl (e3, 1001, .inr (.inl f3)))] s.heap.size = A at hD ⊢
  have hA : ∀ q : Nat, s.heap.size ≤ q → A q := fun q h => by rw [← hAe]; exact Or.inr h
  have hS : va_S A s.heap s.heap [] := va_S.rf
  have hP : va_P (dC, dI) classes [(h0, .inr (3, [.ref a1, .ref a2, .ref a3, .int sp, .long lk])), (a1, .inl (e1, 1440, .inl f1)), (a3, .inl (e3, 1001, .inr (.inl f3)))] s.heap := hP
  have hl := lv_entry ([.ref h0, .int p0, .int p1]) (n := 5) (Nat.le_of_ble_eq_true rfl)
  rw [lg_entry_eq]
  generalize (lg_sl ([.ref h0, .int p0, .int p1]) ++ List.replicate (5 - (lg_sl ([.ref h0, .int p0, .int p1])).length) Slot.unset).toArray = ls at hl ⊢
  have hl : lv_has ls 5 [(0, .ref h0), (1, .int p0), (2, .int p1)] := hl
  have cut : ∀ n : Nat, (∀ (i : Int32) (g : Nat → Int64) (H : Heap) (locs : List Loc) (ls : Array Slot), 0 ≤ i → (1001 - i.toInt).toNat + 2000 < n → va_P (dC, dI) classes [(h0, .inr (3, [.ref a1, .ref a2, .ref a3, .int sp, .long lk])), (a1, .inl (e1, 1440, .inl f1)), (a3, .inl (e3, 1001, .inr (.inl g)))] H → va_D A [(h0, .inr (3, [.ref a1, .ref a2, .ref a3, .int sp, .long lk])), (a1, .inl (e1, 1440, .inl f1)), (a3, .inl (e3, 1001, .inr (.inl g)))] → va_S A s.heap H locs → lv_has ls 5 [(0, .ref h0), (1, .int p0), (2, .int p1), (3, .int i)] → W p l e (headSpec w_Tf_measureRoom ({ frames := 1, cells := 0, slots := 0, locals := 20 })).room s m (List.toArray [.ref h0, .int p0, .int p1]) below meth c H locs 0 0 (MQ below (va_Qv (fun (u : (Nat → Int64)) => True) (fun (u : (Nat → Int64)) (t : State) => cB dC dI A [(e1, .int), (e3, .long)] [(h0, .inr (3, [.ref a1, .ref a2, .ref a3, .int sp, .long lk])), (a1, .inl (e1, 1440, .inl f1)), (a3, .inl (e3, 1001, .inr (.inl u)))] t) A) (List.toArray [.ref h0, .int p0, .int p1]) s 0 0 A) (F0 m 2 ls [])) ∧ (∀ (i : Int32) (g : Nat → Int64) (H : Heap) (locs : List Loc) (ls : Array Slot), 0 ≤ i → (1440 - i.toInt).toNat < n → va_P (dC, dI) classes [(h0, .inr (3, [.ref a1, .ref a2, .ref a3, .int sp, .long lk])), (a1, .inl (e1, 1440, .inl f1)), (a3, .inl (e3, 1001, .inr (.inl g)))] H → va_D A [(h0, .inr (3, [.ref a1, .ref a2, .ref a3, .int sp, .long lk])), (a1, .inl (e1, 1440, .inl f1)), (a3, .inl (e3, 1001, .inr (.inl g)))] → va_S A s.heap H locs → lv_has ls 5 [(0, .ref h0), (1, .int p0), (2, .int p1), (3, .int i)] → W p l e (headSpec w_Tf_measureRoom ({ frames := 1, cells := 0, slots := 0, locals := 20 })).room s m (List.toArray [.ref h0, .int p0, .int p1]) below meth c H locs 0 0 (MQ below (va_Qv (fun (u : (Nat → Int64)) => True) (fun (u : (Nat → Int64)) (t : State) => cB dC dI A [(e1, .int), (e3, .long)] [(h0, .inr (3, [.ref a1, .ref a2, .ref a3, .int sp, .long lk])), (a1, .inl (e1, 1440, .inl f1)), (a3, .inl (e3, 1001, .inr (.inl u)))] t) A) (List.toArray [.ref h0, .int p0, .int p1]) s 0 0 A) (F0 m 24 ls [])) := by
    intro n
    induction n with
    | zero => exact ⟨by intros; omega, by intros; omega⟩
    | succ n ih =>
      refine ⟨?_, ?_⟩
      · intro i g H locs ls h_i hmu hP hD hS hl
        refine lv_iload_n hx hb d_Tf_measureRoom_2 rfl (lv_at hl 3 rfl) ?_
        refine lv_sipush (v := 1000) hx hb d_Tf_measureRoom_3 (by decide) ?_
        refine lv_icmp_gt (tgt := 22) hx hb d_Tf_measureRoom_6 (by decide) (fun c_6 => ?_) (fun c_6 => ?_)
        · skip
          refine lv_iconst (v := 0) hx hb d_Tf_measureRoom_22 (by decide) ?_
          refine lv_istore_n (lv' := [(3, .int 0), (0, .ref h0), (1, .int p0), (2, .int p1)]) hx hb d_Tf_measureRoom_23 rfl hl (by decide) rfl (fun ls hl => ?_)
          exact ih.2 0 g _ _ _ (le0) (by have h8 : (0 : Int32).toInt = 0 := (by decide); omega) (hP.sub [0, 1, 2] rfl) (hD.sub [0, 1, 2] (by decide) rfl) hS (lv_sub hl [1, 2, 3, 0] rfl)
        · skip
          refine lv_aload_n hx hb d_Tf_measureRoom_9 rfl (lv_at hl 0 rfl) ?_
          refine va_get (D := (dC, dI)) (ci := 3) (v := .ref a3) (C := R_Tf) (T := F_Tf) (N := 5) hx hb hB inC_Tf hown hK hP 0 rfl rfl 2 (by decide) (hB _ kb_84) (fun _ h9 => h9) rfl d_Tf_measureRoom_10 ?_
          refine lv_iload_n hx hb d_Tf_measureRoom_13 rfl (lv_at hl 3 rfl) ?_
          refine lv_lconst (v := 0) hx hb d_Tf_measureRoom_14 (by decide) ?_
          have h_15 : vp_in i 1001 := vinC 1000 h_i c_6 (by decide)
          refine va_last hx hb hK hP hD hS 2 1 rfl rfl h_15 d_Tf_measureRoom_15 (fun H locs hP hD hS => ?_)
          obtain ⟨f_15, ef_15⟩ : ∃ y, y = vp_updL g i.toNatClampNeg 0 := ⟨_, rfl⟩
          rw [← ef_15] at hP hD
          have hP : va_P (dC, dI) classes [(h0, .inr (3, [.ref a1, .ref a2, .ref a3, .int sp, .long lk])), (a1, .inl (e1, 1440, .inl f1)), (a3, .inl (e3, 1001, .inr (.inl f_15)))] H := hP
          have hD : va_D A [(h0, .inr (3, [.ref a1, .ref a2, .ref a3, .int sp, .long lk])), (a1, .inl (e1, 1440, .inl f1)), (a3, .inl (e3, 1001, .inr (.inl f_15)))] := hD
          obtain ⟨x_16, ex_16⟩ : ∃ y : Int32, y = i + 1 := ⟨_, rfl⟩
          refine lv_iinc (v := x_16) (lv' := [(3, .int x_16), (0, .ref h0), (1, .int p0), (2, .int p1)]) hx hb d_Tf_measureRoom_16 hl (k := 3) rfl (by rw [ex_16]; rfl) (by decide) rfl (fun ls hl => ?_)
          refine lv_goto (tgt := 2) hx hb d_Tf_measureRoom_19 (by decide) ?_
          exact ih.1 x_16 f_15 _ _ _ ((ij0 1000 h_i c_6 (by decide) ex_16).1) (by have h9 := (ij0 1000 h_i c_6 (by decide) ex_16).2; have h8 : (1000 : Int32).toInt = 1000 := (by decide); omega) (hP.sub [0, 1, 2] rfl) (hD.sub [0, 1, 2] (by decide) rfl) hS (lv_sub hl [1, 2, 3, 0] rfl)
      · intro i g H locs ls h_i hmu hP hD hS hl
        refine lv_iload_n hx hb d_Tf_measureRoom_24 rfl (lv_at hl 3 rfl) ?_
        refine lv_iload_n hx hb d_Tf_measureRoom_25 rfl (lv_at hl 1 rfl) ?_
        refine lv_icmp_ge (tgt := 70) hx hb d_Tf_measureRoom_26 (by decide) (fun c_26 => ?_) (fun c_26 => ?_)
        · skip
          have hP9 := hP.sub (ws' := [(h0, .inr (3, [.ref a1, .ref a2, .ref a3, .int sp, .long lk])), (a1, .inl (e1, 1440, .inl f1)), (a3, .inl (e3, 1001, .inr (.inl g)))]) [0, 1, 2] rfl
          have hD9 := hD.sub (ws' := [(h0, .inr (3, [.ref a1, .ref a2, .ref a3, .int sp, .long lk])), (a1, .inl (e1, 1440, .inl f1)), (a3, .inl (e3, 1001, .inr (.inl g)))]) [0, 1, 2] (by decide) rfl
          have hK9 := hK.sub (tys' := [(e1, .int), (e3, .long)]) [0, 1] rfl
          exact W.vret hx hb hr (fun t ht hW => ⟨⟨(g), rfl, trivial, by rw [ht]; exact hP9, va_K.moved hW.alike hK9, hD9⟩, hS.F ht⟩) hS.2.2 d_Tf_measureRoom_70
        · skip
          refine lv_iload_n hx hb d_Tf_measureRoom_29 rfl (lv_at hl 3 rfl) ?_
          refine lv_sipush (v := 1440) hx hb d_Tf_measureRoom_30 (by decide) ?_
          refine lv_icmp_ge (tgt := 70) hx hb d_Tf_measureRoom_33 (by decide) (fun c_33 => ?_) (fun c_33 => ?_)
          · skip
            have hP9 := hP.sub (ws' := [(h0, .inr (3, [.ref a1, .ref a2, .ref a3, .int sp, .long lk])), (a1, .inl (e1, 1440, .inl f1)), (a3, .inl (e3, 1001, .inr (.inl g)))]) [0, 1, 2] rfl
            have hD9 := hD.sub (ws' := [(h0, .inr (3, [.ref a1, .ref a2, .ref a3, .int sp, .long lk])), (a1, .inl (e1, 1440, .inl f1)), (a3, .inl (e3, 1001, .inr (.inl g)))]) [0, 1, 2] (by decide) rfl
            have hK9 := hK.sub (tys' := [(e1, .int), (e3, .long)]) [0, 1] rfl
            exact W.vret hx hb hr (fun t ht hW => ⟨⟨(g), rfl, trivial, by rw [ht]; exact hP9, va_K.moved hW.alike hK9, hD9⟩, hS.F ht⟩) hS.2.2 d_Tf_measureRoom_70
          · skip
            refine lv_aload_n hx hb d_Tf_measureRoom_36 rfl (lv_at hl 0 rfl) ?_
            refine va_get (D := (dC, dI)) (ci := 3) (v := .ref a1) (C := R_Tf) (T := F_Tf) (N := 5) hx hb hB inC_Tf hown hK hP 0 rfl rfl 0 (by decide) (hB _ kb_80) (fun _ h9 => h9) rfl d_Tf_measureRoom_37 ?_
            refine lv_iload_n hx hb d_Tf_measureRoom_40 rfl (lv_at hl 3 rfl) ?_
            have h_41 : vp_in i 1440 := vinB 1440 h_i c_33 (by decide)
            refine va_iald hx hb hK hP 1 0 rfl rfl h_41 d_Tf_measureRoom_41 ?_
            refine lv_topi (fun x_41 ex_41 => ?_)
            refine lv_istore (lv' := [(4, .int x_41), (0, .ref h0), (1, .int p0), (2, .int p1), (3, .int i)]) hx hb d_Tf_measureRoom_42 hl (by decide) rfl (fun ls hl => ?_)
            refine lv_iload hx hb d_Tf_measureRoom_44 (lv_at hl 0 rfl) ?_
            refine kc_i (va_runS (As := [.int x_41]) (rest := []) ⟨hx, hb, hml, hown, hts⟩ (c_Tf_isPrice l dC dI  H.size  x_41 ) (cwS 1 hts (ginS kb_86 kb_87 kb_88 kb_85) rfl rfl rfl (by decide +kernel) ⟨Nat.le_of_ble_eq_true rfl, Nat.le_of_ble_eq_true rfl⟩) (preS (wc := []) hK hN hP hD [] rfl rfl (by decide) [] rfl) rfl rfl hl.1 rfl (lv_room (Nat.le_of_ble_eq_true rfl)) d_Tf_measureRoom_46 ⟨Nat.le_of_ble_eq_true rfl, Nat.le_of_ble_eq_true rfl⟩) hP hD hS hA [] [0, 1, 2] (wr := [(h0, .inr (3, [.ref a1, .ref a2, .ref a3, .int sp, .long lk])), (a1, .inl (e1, 1440, .inl f1)), (a3, .inl (e3, 1001, .inr (.inl g)))]) rfl rfl (by decide) (by decide) (fun r_46 u_46 H locs hw_46 hP hD hK1 hS => ?_)
            have hw_46 : r_46 = bi (0 ≤ x_41 ∧ x_41 ≤ 1000) := hw_46
            have hP : va_P (dC, dI) classes [(h0, .inr (3, [.ref a1, .ref a2, .ref a3, .int sp, .long lk])), (a1, .inl (e1, 1440, .inl f1)), (a3, .inl (e3, 1001, .inr (.inl g)))] H := hP
            have hD : va_D A [(h0, .inr (3, [.ref a1, .ref a2, .ref a3, .int sp, .long lk])), (a1, .inl (e1, 1440, .inl f1)), (a3, .inl (e3, 1001, .inr (.inl g)))] := hD
            refine lv_if_eq (tgt := 64) hx hb d_Tf_measureRoom_49 (by decide) (fun c_49 => ?_) (fun c_49 => ?_)
            · have c_49 := bi_n (hw_46.symm.trans c_49)
              obtain ⟨x_64, ex_64⟩ : ∃ y : Int32, y = i + 1 := ⟨_, rfl⟩
              refine lv_iinc (v := x_64) (lv' := [(3, .int x_64), (4, .int x_41), (0, .ref h0), (1, .int p0), (2, .int p1)]) hx hb d_Tf_measureRoom_64 hl (k := 4) rfl (by rw [ex_64]; rfl) (by decide) rfl (fun ls hl => ?_)
              refine lv_goto (tgt := 24) hx hb d_Tf_measureRoom_67 (by decide) ?_
              exact ih.2 x_64 g _ _ _ ((ii0 1440 h_i c_33 ex_64).1) (by have h9 := (ii0 1440 h_i c_33 ex_64).2; have h8 : (1440 : Int32).toInt = 1440 := (by decide); omega) (hP.sub [0, 1, 2] rfl) (hD.sub [0, 1, 2] (by decide) rfl) hS (lv_sub hl [2, 3, 4, 0] rfl)
            · have c_49 := bi_y hw_46 c_49
              refine lv_aload_n hx hb d_Tf_measureRoom_52 rfl (lv_at hl 1 rfl) ?_
              refine va_get (D := (dC, dI)) (ci := 3) (v := .ref a3) (C := R_Tf) (T := F_Tf) (N := 5) hx hb hB inC_Tf hown hK hP 0 rfl rfl 2 (by decide) (hB _ kb_84) (fun _ h9 => h9) rfl d_Tf_measureRoom_53 ?_
              refine lv_iload hx hb d_Tf_measureRoom_56 (lv_at hl 0 rfl) ?_
              refine lv_dup2_11 hx hb d_Tf_measureRoom_58 rfl rfl ?_
              have h_59 : vp_in x_41 1001 := vinC 1000 c_49.1 (Int32.not_lt.mpr c_49.2) (by decide)
              refine va_lald hx hb hK hP 2 1 rfl rfl h_59 d_Tf_measureRoom_59 ?_
              refine lv_topl (fun x_59 ex_59 => ?_)
              refine lv_iload_n hx hb d_Tf_measureRoom_60 rfl (lv_at hl 3 rfl) ?_
              refine lv_i2l hx hb d_Tf_measureRoom_61 rfl ?_
              refine lv_topl (fun x_61 ex_61 => ?_)
              refine lv_ladd hx hb d_Tf_measureRoom_62 ?_
              refine lv_topl (fun x_62 ex_62 => ?_)
              have h_63 : vp_in x_41 1001 := vinC 1000 c_49.1 (Int32.not_lt.mpr c_49.2) (by decide)
              refine va_last hx hb hK hP hD hS 2 1 rfl rfl h_63 d_Tf_measureRoom_63 (fun H locs hP hD hS => ?_)
              obtain ⟨f_63, ef_63⟩ : ∃ y, y = vp_updL g x_41.toNatClampNeg x_62 := ⟨_, rfl⟩
              rw [← ef_63] at hP hD
              have hP : va_P (dC, dI) classes [(h0, .inr (3, [.ref a1, .ref a2, .ref a3, .int sp, .long lk])), (a1, .inl (e1, 1440, .inl f1)), (a3, .inl (e3, 1001, .inr (.inl f_63)))] H := hP
              have hD : va_D A [(h0, .inr (3, [.ref a1, .ref a2, .ref a3, .int sp, .long lk])), (a1, .inl (e1, 1440, .inl f1)), (a3, .inl (e3, 1001, .inr (.inl f_63)))] := hD
              obtain ⟨x_64, ex_64⟩ : ∃ y : Int32, y = i + 1 := ⟨_, rfl⟩
              refine lv_iinc (v := x_64) (lv' := [(3, .int x_64), (4, .int x_41), (0, .ref h0), (1, .int p0), (2, .int p1)]) hx hb d_Tf_measureRoom_64 hl (k := 4) rfl (by rw [ex_64]; rfl) (by decide) rfl (fun ls hl => ?_)
              refine lv_goto (tgt := 24) hx hb d_Tf_measureRoom_67 (by decide) ?_
              exact ih.2 x_64 f_63 _ _ _ ((ii0 1440 h_i c_33 ex_64).1) (by have h9 := (ii0 1440 h_i c_33 ex_64).2; have h8 : (1440 : Int32).toInt = 1440 := (by decide); omega) (hP.sub [0, 1, 2] rfl) (hD.sub [0, 1, 2] (by decide) rfl) hS (lv_sub hl [2, 3, 4, 0] rfl)
  refine lv_iconst (v := 0) hx hb d_Tf_measureRoom_0 (by decide) ?_
  refine lv_istore_n (lv' := [(3, .int 0), (0, .ref h0), (1, .int p0), (2, .int p1)]) hx hb d_Tf_measureRoom_1 rfl hl (by decide) rfl (fun ls hl => ?_)
  exact (cut 3002).1 0 f3 _ _ _ (le0) (by decide) (hP.sub [0, 1, 2] rfl) (hD.sub [0, 1, 2] (by decide) rfl) hS (lv_sub hl [1, 2, 3, 0] rfl)
set_option maxHeartbeats 4000000 in
set_option maxRecDepth 100000 in
theorem c_Tf_buyCheapest (l : Launch) (dC : Nat → ClassId) (dI : Nat → Nat → Nat) (h0 : Nat) (a1 : Nat) (a2 : Nat) (a3 : Nat) (e3 : ClassId) (sz : Nat) (sp : Int32) (lk : Int64) (f3 : Nat → Int64) (p0 : Int64) : Met l y_Tf_buyCheapest w_Tf_buyCheapest ({ frames := 1, cells := 0, slots := 0, locals := 23 }) (cPre dC dI [.ref h0, .long p0] sz [(e3, .long)] [(h0, .inr (3, [.ref a1, .ref a2, .ref a3, .int sp, .long lk])), (a3, .inl (e3, 1001, .inr (.inl f3)))]) (va_Ql (fun (r : Int64) (u : Int64 × (Nat → Int64)) => True) (fun (u : Int64 × (Nat → Int64)) (t : State) => cB dC dI (va_A [(h0, .inr (3, [.ref a1, .ref a2, .ref a3, .int sp, .long lk])), (a3, .inl (e3, 1001, .inr (.inl f3)))] sz) [(e3, .long)] [(h0, .inr (3, [.ref a1, .ref a2, .ref a3, .int sp, .long u.1])), (a3, .inl (e3, 1001, .inr (.inl (u.2))))] t) (va_A [(h0, .inr (3, [.ref a1, .ref a2, .ref a3, .int sp, .long lk])), (a3, .inl (e3, 1001, .inr (.inl f3)))] sz)) 0 0 (va_A [(h0, .inr (3, [.ref a1, .ref a2, .ref a3, .int sp, .long lk])), (a3, .inl (e3, 1001, .inr (.inl f3)))] sz) := by
  refine Met.ofW (cc := b_Tf_buyCheapest) (maxL := 10) (ret := (some .long)) (by decide) rfl ?_
  intro p e s m args below meth c s₁ B hml hv
  obtain ⟨rfl, hsz, hN, hP, hK, hD0⟩ := hv
  have hx := B.exec
  have hb := B.bytes
  have hr := B.returns
  have hts := atoms_spec (ws := w_Tf_buyCheapest) B.pre
  have hB := big_of hts
  have hown : s.vm.findClass R_Tf = some m.cls := findClass_of_methodNamed B.named
  have hlocks := B.notSynchronized
  subst hsz
  have hD := hD0.self (sz := s.heap.size)
  generalize hAe : va_A [(h0, .inr (3, [.ref a1, .ref a2, .ref a3, .int sp, .long lk])), (a3, .inl (e3, 1001, .inr (.inl f3)))] s.heap.size = A at hD ⊢
  have hA : ∀ q : Nat, s.heap.size ≤ q → A q := fun q h => by rw [← hAe]; exact Or.inr h
  have hS : va_S A s.heap s.heap [] := va_S.rf
  have hP : va_P (dC, dI) classes [(h0, .inr (3, [.ref a1, .ref a2, .ref a3, .int sp, .long lk])), (a3, .inl (e3, 1001, .inr (.inl f3)))] s.heap := hP
  have hl := lv_entry ([.ref h0, .long p0]) (n := 10) (Nat.le_of_ble_eq_true rfl)
  rw [lg_entry_eq]
  generalize (lg_sl ([.ref h0, .long p0]) ++ List.replicate (10 - (lg_sl ([.ref h0, .long p0])).length) Slot.unset).toArray = ls at hl ⊢
  have hl : lv_has ls 10 [(0, .ref h0), (1, .long p0)] := hl
  have cut : ∀ n : Nat, (∀ (lf : Int64) (co : Int64) (i : Int32) (g : Nat → Int64) (H : Heap) (locs : List Loc) (ls : Array Slot), 0 ≤ i → (1001 - i.toInt).toNat < n → va_P (dC, dI) classes [(h0, .inr (3, [.ref a1, .ref a2, .ref a3, .int sp, .long lk])), (a3, .inl (e3, 1001, .inr (.inl g)))] H → va_D A [(h0, .inr (3, [.ref a1, .ref a2, .ref a3, .int sp, .long lk])), (a3, .inl (e3, 1001, .inr (.inl g)))] → va_S A s.heap H locs → lv_has ls 10 [(0, .ref h0), (1, .long p0), (3, .long lf), (5, .long co), (7, .int i)] → W p l e (headSpec w_Tf_buyCheapest ({ frames := 1, cells := 0, slots := 0, locals := 23 })).room s m (List.toArray [.ref h0, .long p0]) below meth c H locs 0 0 (MQ below (va_Ql (fun (r : Int64) (u : Int64 × (Nat → Int64)) => True) (fun (u : Int64 × (Nat → Int64)) (t : State) => cB dC dI A [(e3, .long)] [(h0, .inr (3, [.ref a1, .ref a2, .ref a3, .int sp, .long u.1])), (a3, .inl (e3, 1001, .inr (.inl (u.2))))] t) A) (List.toArray [.ref h0, .long p0]) s 0 0 A) (F0 m 8 ls [])) := by
    intro n
    induction n with
    | zero => intros; omega
    | succ n ih =>
      intro lf co i g H locs ls h_i hmu hP hD hS hl
      refine lv_iload hx hb d_Tf_buyCheapest_8 (lv_at hl 4 rfl) ?_
      refine lv_sipush (v := 1000) hx hb d_Tf_buyCheapest_10 (by decide) ?_
      refine lv_icmp_gt (tgt := 60) hx hb d_Tf_buyCheapest_13 (by decide) (fun c_13 => ?_) (fun c_13 => ?_)
      · skip
        refine lv_aload_n hx hb d_Tf_buyCheapest_60 rfl (lv_at hl 0 rfl) ?_
        refine lv_lload_n hx hb d_Tf_buyCheapest_61 rfl (lv_at hl 2 rfl) ?_
        refine va_put (D := (dC, dI)) (ci := 3) (v := .long lf) (ty := .long) (C := R_Tf) (T := F_Tf) (N := 5) hx hb hB inC_Tf t_Tf t_Tf_ok n_Tf hown hK hP hD hS 0 rfl rfl 4 (by decide) (hB _ kb_89) (fun _ h9 => h9) rfl (by decide +kernel) rfl rfl (Nat.le_of_ble_eq_true rfl) d_Tf_buyCheapest_62 (fun H locs hP hD hS => ?_)
        have hP : va_P (dC, dI) classes [(h0, .inr (3, [.ref a1, .ref a2, .ref a3, .int sp, .long lf])), (a3, .inl (e3, 1001, .inr (.inl g)))] H := hP
        have hD : va_D A [(h0, .inr (3, [.ref a1, .ref a2, .ref a3, .int sp, .long lf])), (a3, .inl (e3, 1001, .inr (.inl g)))] := hD
        refine lv_lload hx hb d_Tf_buyCheapest_65 (lv_at hl 3 rfl) ?_
        have hP9 := hP.sub (ws' := [(h0, .inr (3, [.ref a1, .ref a2, .ref a3, .int sp, .long lf])), (a3, .inl (e3, 1001, .inr (.inl g)))]) [0, 1] rfl
        have hD9 := hD.sub (ws' := [(h0, .inr (3, [.ref a1, .ref a2, .ref a3, .int sp, .long lf])), (a3, .inl (e3, 1001, .inr (.inl g)))]) [0, 1] (by decide) rfl
        have hK9 := hK.sub (tys' := [(e3, .long)]) [0] rfl
        exact W.lret (v := co) hx hb hr (fun t ht hW => ⟨⟨co, (lf, g), rfl, trivial, by rw [ht]; exact hP9, va_K.moved hW.alike hK9, hD9⟩, hS.F ht⟩) hS.2.2 d_Tf_buyCheapest_67
      · skip
        refine lv_lload_n hx hb d_Tf_buyCheapest_16 rfl (lv_at hl 2 rfl) ?_
        refine lv_aload_n hx hb d_Tf_buyCheapest_17 rfl (lv_at hl 0 rfl) ?_
        refine va_get (D := (dC, dI)) (ci := 3) (v := .ref a3) (C := R_Tf) (T := F_Tf) (N := 5) hx hb hB inC_Tf hown hK hP 0 rfl rfl 2 (by decide) (hB _ kb_84) (fun _ h9 => h9) rfl d_Tf_buyCheapest_18 ?_
        refine lv_iload hx hb d_Tf_buyCheapest_21 (lv_at hl 4 rfl) ?_
        have h_23 : vp_in i 1001 := vinC 1000 h_i c_13 (by decide)
        refine va_lald hx hb hK hP 1 0 rfl rfl h_23 d_Tf_buyCheapest_23 ?_
        refine lv_topl (fun x_23 ex_23 => ?_)
        refine va_mmin_long hx hb (by rw [hml]; exact hl.1.symm) hown (hB _ kb_90) (hB _ kb_91) (hB _ kb_41) (hB _ kb_92) (Nat.le_of_ble_eq_true rfl) (Nat.le_of_ble_eq_true rfl) (Nat.le_of_ble_eq_true rfl) (Nat.le_of_ble_eq_true rfl) d_Tf_buyCheapest_24 ?_
        refine lv_topl (fun x_24 ex_24 => ?_)
        refine lv_lstore (lv' := [(8, .long x_24), (0, .ref h0), (1, .long p0), (3, .long lf), (5, .long co), (7, .int i)]) hx hb d_Tf_buyCheapest_27 hl (by decide) rfl (fun ls hl => ?_)
        refine lv_aload_n hx hb d_Tf_buyCheapest_29 rfl (lv_at hl 1 rfl) ?_
        refine va_get (D := (dC, dI)) (ci := 3) (v := .ref a3) (C := R_Tf) (T := F_Tf) (N := 5) hx hb hB inC_Tf hown hK hP 0 rfl rfl 2 (by decide) (hB _ kb_84) (fun _ h9 => h9) rfl d_Tf_buyCheapest_30 ?_
        refine lv_iload hx hb d_Tf_buyCheapest_33 (lv_at hl 5 rfl) ?_
        refine lv_lload hx hb d_Tf_buyCheapest_35 (lv_at hl 0 rfl) ?_
        have h_37 : vp_in i 1001 := vinC 1000 h_i c_13 (by decide)
        refine va_last hx hb hK hP hD hS 1 0 rfl rfl h_37 d_Tf_buyCheapest_37 (fun H locs hP hD hS => ?_)
        obtain ⟨f_37, ef_37⟩ : ∃ y, y = vp_updL g i.toNatClampNeg x_24 := ⟨_, rfl⟩
        rw [← ef_37] at hP hD
        have hP : va_P (dC, dI) classes [(h0, .inr (3, [.ref a1, .ref a2, .ref a3, .int sp, .long lk])), (a3, .inl (e3, 1001, .inr (.inl f_37)))] H := hP
        have hD : va_D A [(h0, .inr (3, [.ref a1, .ref a2, .ref a3, .int sp, .long lk])), (a3, .inl (e3, 1001, .inr (.inl f_37)))] := hD
        refine lv_lload_n hx hb d_Tf_buyCheapest_38 rfl (lv_at hl 3 rfl) ?_
        refine lv_lload hx hb d_Tf_buyCheapest_39 (lv_at hl 0 rfl) ?_
        refine lv_lsub hx hb d_Tf_buyCheapest_41 ?_
        refine lv_topl (fun x_41 ex_41 => ?_)
        refine lv_lstore_n (lv' := [(3, .long x_41), (8, .long x_24), (0, .ref h0), (1, .long p0), (5, .long co), (7, .int i)]) hx hb d_Tf_buyCheapest_42 rfl hl (by decide) rfl (fun ls hl => ?_)
        refine lv_lload hx hb d_Tf_buyCheapest_43 (lv_at hl 4 rfl) ?_
        refine lv_lload hx hb d_Tf_buyCheapest_45 (lv_at hl 1 rfl) ?_
        refine lv_iload hx hb d_Tf_buyCheapest_47 (lv_at hl 5 rfl) ?_
        refine lv_i2l hx hb d_Tf_buyCheapest_49 rfl ?_
        refine lv_topl (fun x_49 ex_49 => ?_)
        refine lv_lmul hx hb d_Tf_buyCheapest_50 ?_
        refine lv_topl (fun x_50 ex_50 => ?_)
        refine lv_ladd hx hb d_Tf_buyCheapest_51 ?_
        refine lv_topl (fun x_51 ex_51 => ?_)
        refine lv_lstore (lv' := [(5, .long x_51), (3, .long x_41), (8, .long x_24), (0, .ref h0), (1, .long p0), (7, .int i)]) hx hb d_Tf_buyCheapest_52 hl (by decide) rfl (fun ls hl => ?_)
        obtain ⟨x_54, ex_54⟩ : ∃ y : Int32, y = i + 1 := ⟨_, rfl⟩
        refine lv_iinc (v := x_54) (lv' := [(7, .int x_54), (5, .long x_51), (3, .long x_41), (8, .long x_24), (0, .ref h0), (1, .long p0)]) hx hb d_Tf_buyCheapest_54 hl (k := 5) rfl (by rw [ex_54]; rfl) (by decide) rfl (fun ls hl => ?_)
        refine lv_goto (tgt := 8) hx hb d_Tf_buyCheapest_57 (by decide) ?_
        exact ih x_41 x_51 x_54 f_37 _ _ _ ((ij0 1000 h_i c_13 (by decide) ex_54).1) (by have h9 := (ij0 1000 h_i c_13 (by decide) ex_54).2; have h8 : (1000 : Int32).toInt = 1000 := (by decide); omega) (hP.sub [0, 1] rfl) (hD.sub [0, 1] (by decide) rfl) hS (lv_sub hl [4, 5, 2, 1, 0] rfl)
  refine lv_lload_n hx hb d_Tf_buyCheapest_0 rfl (lv_at hl 1 rfl) ?_
  refine lv_lstore_n (lv' := [(3, .long p0), (0, .ref h0), (1, .long p0)]) hx hb d_Tf_buyCheapest_1 rfl hl (by decide) rfl (fun ls hl => ?_)
  refine lv_lconst (v := 0) hx hb d_Tf_buyCheapest_2 (by decide) ?_
  refine lv_lstore (lv' := [(5, .long 0), (3, .long p0), (0, .ref h0), (1, .long p0)]) hx hb d_Tf_buyCheapest_3 hl (by decide) rfl (fun ls hl => ?_)
  refine lv_iconst (v := 0) hx hb d_Tf_buyCheapest_5 (by decide) ?_
  refine lv_istore (lv' := [(7, .int 0), (5, .long 0), (3, .long p0), (0, .ref h0), (1, .long p0)]) hx hb d_Tf_buyCheapest_6 hl (by decide) rfl (fun ls hl => ?_)
  exact (cut 1002) p0 0 0 f3 _ _ _ (le0) (by decide) (hP.sub [0, 1] rfl) (hD.sub [0, 1] (by decide) rfl) hS (lv_sub hl [3, 4, 2, 1, 0] rfl)
set_option maxHeartbeats 4000000 in
set_option maxRecDepth 100000 in
theorem c_Tf_spread (l : Launch) (dC : Nat → ClassId) (dI : Nat → Nat → Nat) (h0 : Nat) (a1 : Nat) (a2 : Nat) (a3 : Nat) (e1 : ClassId) (e2 : ClassId) (e3 : ClassId) (sz : Nat) (sp : Int32) (lk : Int64) (f1 : Nat → Int32) (f2 : Nat → Int32) (f3 : Nat → Int64) (p0 : Int32) (p1 : Int32) : Met l y_Tf_spread w_Tf_spread ({ frames := 1, cells := 0, slots := 0, locals := 23 }) (cPre dC dI [.ref h0, .int p0, .int p1] sz [(e1, .int), (e2, .int), (e3, .long)] [(h0, .inr (3, [.ref a1, .ref a2, .ref a3, .int sp, .long lk])), (a1, .inl (e1, 1440, .inl f1)), (a2, .inl (e2, 1440, .inl f2)), (a3, .inl (e3, 1001, .inr (.inl f3)))]) (va_Qv (fun (u : (Nat → Int32) × (Nat → Int64)) => True) (fun (u : (Nat → Int32) × (Nat → Int64)) (t : State) => cB dC dI (va_A [(h0, .inr (3, [.ref a1, .ref a2, .ref a3, .int sp, .long lk])), (a1, .inl (e1, 1440, .inl f1)), (a2, .inl (e2, 1440, .inl f2)), (a3, .inl (e3, 1001, .inr (.inl f3)))] sz) [(e1, .int), (e2, .int), (e3, .long)] [(h0, .inr (3, [.ref a1, .ref a2, .ref a3, .int sp, .long lk])), (a1, .inl (e1, 1440, .inl f1)), (a2, .inl (e2, 1440, .inl (u.1))), (a3, .inl (e3, 1001, .inr (.inl (u.2))))] t) (va_A [(h0, .inr (3, [.ref a1, .ref a2, .ref a3, .int sp, .long lk])), (a1, .inl (e1, 1440, .inl f1)), (a2, .inl (e2, 1440, .inl f2)), (a3, .inl (e3, 1001, .inr (.inl f3)))] sz)) 0 0 (va_A [(h0, .inr (3, [.ref a1, .ref a2, .ref a3, .int sp, .long lk])), (a1, .inl (e1, 1440, .inl f1)), (a2, .inl (e2, 1440, .inl f2)), (a3, .inl (e3, 1001, .inr (.inl f3)))] sz) := by
  refine Met.ofW (cc := b_Tf_spread) (maxL := 6) (ret := none) (by decide) rfl ?_
  intro p e s m args below meth c s₁ B hml hv
  obtain ⟨rfl, hsz, hN, hP, hK, hD0⟩ := hv
  have hx := B.exec
  have hb := B.bytes
  have hr := B.returns
  have hts := atoms_spec (ws := w_Tf_spread) B.pre
  have hB := big_of hts
  have hown : s.vm.findClass R_Tf = some m.cls := findClass_of_methodNamed B.named
  have hlocks := B.notSynchronized
  subst hsz
  have hD := hD0.self (sz := s.heap.size)
  generalize hAe : va_A [(h0, .inr (3, [.ref a1, .ref a2, .ref a3, .int sp, .long lk])), (a1, .inl (e1, 1440, .inl f1)), (a2, .inl (e2, 1440, .inl f2)), (a3, .inl (e3, 1001, .inr (.inl f3)))] s.heap.size = A at hD ⊢
  have hA : ∀ q : Nat, s.heap.size ≤ q → A q := fun q h => by rw [← hAe]; exact Or.inr h
  have hS : va_S A s.heap s.heap [] := va_S.rf
  have hP : va_P (dC, dI) classes [(h0, .inr (3, [.ref a1, .ref a2, .ref a3, .int sp, .long lk])), (a1, .inl (e1, 1440, .inl f1)), (a2, .inl (e2, 1440, .inl f2)), (a3, .inl (e3, 1001, .inr (.inl f3)))] s.heap := hP
  have hl := lv_entry ([.ref h0, .int p0, .int p1]) (n := 6) (Nat.le_of_ble_eq_true rfl)
  rw [lg_entry_eq]
  generalize (lg_sl ([.ref h0, .int p0, .int p1]) ++ List.replicate (6 - (lg_sl ([.ref h0, .int p0, .int p1])).length) Slot.unset).toArray = ls at hl ⊢
  have hl : lv_has ls 6 [(0, .ref h0), (1, .int p0), (2, .int p1)] := hl
  have cut : ∀ n : Nat, (∀ (i : Int32) (g : Nat → Int32) (gl : Nat → Int64) (H : Heap) (locs : List Loc) (ls : Array Slot), 0 ≤ i → (1440 - i.toInt).toNat < n → va_P (dC, dI) classes [(h0, .inr (3, [.ref a1, .ref a2, .ref a3, .int sp, .long lk])), (a1, .inl (e1, 1440, .inl f1)), (a2, .inl (e2, 1440, .inl g)), (a3, .inl (e3, 1001, .inr (.inl gl)))] H → va_D A [(h0, .inr (3, [.ref a1, .ref a2, .ref a3, .int sp, .long lk])), (a1, .inl (e1, 1440, .inl f1)), (a2, .inl (e2, 1440, .inl g)), (a3, .inl (e3, 1001, .inr (.inl gl)))] → va_S A s.heap H locs → lv_has ls 6 [(0, .ref h0), (1, .int p0), (2, .int p1), (3, .int i)] → W p l e (headSpec w_Tf_spread ({ frames := 1, cells := 0, slots := 0, locals := 23 })).room s m (List.toArray [.ref h0, .int p0, .int p1]) below meth c H locs 0 0 (MQ below (va_Qv (fun (u : (Nat → Int32) × (Nat → Int64)) => True) (fun (u : (Nat → Int32) × (Nat → Int64)) (t : State) => cB dC dI A [(e1, .int), (e2, .int), (e3, .long)] [(h0, .inr (3, [.ref a1, .ref a2, .ref a3, .int sp, .long lk])), (a1, .inl (e1, 1440, .inl f1)), (a2, .inl (e2, 1440, .inl (u.1))), (a3, .inl (e3, 1001, .inr (.inl (u.2))))] t) A) (List.toArray [.ref h0, .int p0, .int p1]) s 0 0 A) (F0 m 2 ls [])) := by
    intro n
    induction n with
    | zero => intros; omega
    | succ n ih =>
      intro i g gl H locs ls h_i hmu hP hD hS hl
      refine lv_iload_n hx hb d_Tf_spread_2 rfl (lv_at hl 3 rfl) ?_
      refine lv_sipush (v := 1440) hx hb d_Tf_spread_3 (by decide) ?_
      refine lv_icmp_ge (tgt := 75) hx hb d_Tf_spread_6 (by decide) (fun c_6 => ?_) (fun c_6 => ?_)
      · skip
        have hP9 := hP.sub (ws' := [(h0, .inr (3, [.ref a1, .ref a2, .ref a3, .int sp, .long lk])), (a1, .inl (e1, 1440, .inl f1)), (a2, .inl (e2, 1440, .inl g)), (a3, .inl (e3, 1001, .inr (.inl gl)))]) [0, 1, 2, 3] rfl
        have hD9 := hD.sub (ws' := [(h0, .inr (3, [.ref a1, .ref a2, .ref a3, .int sp, .long lk])), (a1, .inl (e1, 1440, .inl f1)), (a2, .inl (e2, 1440, .inl g)), (a3, .inl (e3, 1001, .inr (.inl gl)))]) [0, 1, 2, 3] (by decide) rfl
        have hK9 := hK.sub (tys' := [(e1, .int), (e2, .int), (e3, .long)]) [0, 1, 2] rfl
        exact W.vret hx hb hr (fun t ht hW => ⟨⟨(g, gl), rfl, trivial, by rw [ht]; exact hP9, va_K.moved hW.alike hK9, hD9⟩, hS.F ht⟩) hS.2.2 d_Tf_spread_75
      · skip
        refine lv_aload_n hx hb d_Tf_spread_9 rfl (lv_at hl 0 rfl) ?_
        refine va_get (D := (dC, dI)) (ci := 3) (v := .ref a1) (C := R_Tf) (T := F_Tf) (N := 5) hx hb hB inC_Tf hown hK hP 0 rfl rfl 0 (by decide) (hB _ kb_80) (fun _ h9 => h9) rfl d_Tf_spread_10 ?_
        refine lv_iload_n hx hb d_Tf_spread_13 rfl (lv_at hl 3 rfl) ?_
        have h_14 : vp_in i 1440 := vinB 1440 h_i c_6 (by decide)
        refine va_iald hx hb hK hP 1 0 rfl rfl h_14 d_Tf_spread_14 ?_
        refine lv_topi (fun x_14 ex_14 => ?_)
        refine lv_istore (lv' := [(4, .int x_14), (0, .ref h0), (1, .int p0), (2, .int p1), (3, .int i)]) hx hb d_Tf_spread_15 hl (by decide) rfl (fun ls hl => ?_)
        refine lv_iconst (v := 0) hx hb d_Tf_spread_17 (by decide) ?_
        refine lv_istore (lv' := [(5, .int 0), (4, .int x_14), (0, .ref h0), (1, .int p0), (2, .int p1), (3, .int i)]) hx hb d_Tf_spread_18 hl (by decide) rfl (fun ls hl => ?_)
        refine lv_iload_n hx hb d_Tf_spread_20 rfl (lv_at hl 5 rfl) ?_
        refine lv_iload_n hx hb d_Tf_spread_21 rfl (lv_at hl 3 rfl) ?_
        refine lv_icmp_ge (tgt := 61) hx hb d_Tf_spread_22 (by decide) (fun c_22 => ?_) (fun c_22 => ?_)
        · skip
          refine lv_aload_n hx hb d_Tf_spread_61 rfl (lv_at hl 2 rfl) ?_
          refine va_get (D := (dC, dI)) (ci := 3) (v := .ref a2) (C := R_Tf) (T := F_Tf) (N := 5) hx hb hB inC_Tf hown hK hP 0 rfl rfl 1 (by decide) (hB _ kb_83) (fun _ h9 => h9) rfl d_Tf_spread_62 ?_
          refine lv_iload_n hx hb d_Tf_spread_65 rfl (lv_at hl 5 rfl) ?_
          refine lv_iload hx hb d_Tf_spread_66 (lv_at hl 0 rfl) ?_
          have h_68 : vp_in i 1440 := vinB 1440 h_i c_6 (by decide)
          refine va_iast hx hb hK hP hD hS 2 1 rfl rfl h_68 d_Tf_spread_68 (fun H locs hP hD hS => ?_)
          obtain ⟨f_68, ef_68⟩ : ∃ y, y = upd g i.toNatClampNeg 0 := ⟨_, rfl⟩
          rw [← ef_68] at hP hD
          have hP : va_P (dC, dI) classes [(h0, .inr (3, [.ref a1, .ref a2, .ref a3, .int sp, .long lk])), (a1, .inl (e1, 1440, .inl f1)), (a2, .inl (e2, 1440, .inl f_68)), (a3, .inl (e3, 1001, .inr (.inl gl)))] H := hP
          have hD : va_D A [(h0, .inr (3, [.ref a1, .ref a2, .ref a3, .int sp, .long lk])), (a1, .inl (e1, 1440, .inl f1)), (a2, .inl (e2, 1440, .inl f_68)), (a3, .inl (e3, 1001, .inr (.inl gl)))] := hD
          obtain ⟨x_69, ex_69⟩ : ∃ y : Int32, y = i + 1 := ⟨_, rfl⟩
          refine lv_iinc (v := x_69) (lv' := [(3, .int x_69), (5, .int 0), (4, .int x_14), (0, .ref h0), (1, .int p0), (2, .int p1)]) hx hb d_Tf_spread_69 hl (k := 5) rfl (by rw [ex_69]; rfl) (by decide) rfl (fun ls hl => ?_)
          refine lv_goto (tgt := 2) hx hb d_Tf_spread_72 (by decide) ?_
          exact ih x_69 f_68 gl _ _ _ ((ii0 1440 h_i c_6 ex_69).1) (by have h9 := (ii0 1440 h_i c_6 ex_69).2; have h8 : (1440 : Int32).toInt = 1440 := (by decide); omega) (hP.sub [0, 1, 2, 3] rfl) (hD.sub [0, 1, 2, 3] (by decide) rfl) hS (lv_sub hl [3, 4, 5, 0] rfl)
        · skip
          refine lv_iload hx hb d_Tf_spread_25 (lv_at hl 1 rfl) ?_
          refine kc_i (va_runS (As := [.int x_14]) (rest := []) ⟨hx, hb, hml, hown, hts⟩ (c_Tf_isPrice l dC dI  H.size  x_14 ) (cwS 1 hts (ginS kb_86 kb_87 kb_88 kb_85) rfl rfl rfl (by decide +kernel) ⟨Nat.le_of_ble_eq_true rfl, Nat.le_of_ble_eq_true rfl⟩) (preS (wc := []) hK hN hP hD [] rfl rfl (by decide) [] rfl) rfl rfl hl.1 rfl (lv_room (Nat.le_of_ble_eq_true rfl)) d_Tf_spread_27 ⟨Nat.le_of_ble_eq_true rfl, Nat.le_of_ble_eq_true rfl⟩) hP hD hS hA [] [0, 1, 2, 3] (wr := [(h0, .inr (3, [.ref a1, .ref a2, .ref a3, .int sp, .long lk])), (a1, .inl (e1, 1440, .inl f1)), (a2, .inl (e2, 1440, .inl g)), (a3, .inl (e3, 1001, .inr (.inl gl)))]) rfl rfl (by decide) (by decide) (fun r_27 u_27 H locs hw_27 hP hD hK1 hS => ?_)
          have hw_27 : r_27 = bi (0 ≤ x_14 ∧ x_14 ≤ 1000) := hw_27
          have hP : va_P (dC, dI) classes [(h0, .inr (3, [.ref a1, .ref a2, .ref a3, .int sp, .long lk])), (a1, .inl (e1, 1440, .inl f1)), (a2, .inl (e2, 1440, .inl g)), (a3, .inl (e3, 1001, .inr (.inl gl)))] H := hP
          have hD : va_D A [(h0, .inr (3, [.ref a1, .ref a2, .ref a3, .int sp, .long lk])), (a1, .inl (e1, 1440, .inl f1)), (a2, .inl (e2, 1440, .inl g)), (a3, .inl (e3, 1001, .inr (.inl gl)))] := hD
          refine lv_if_eq (tgt := 61) hx hb d_Tf_spread_30 (by decide) (fun c_30 => ?_) (fun c_30 => ?_)
          · have c_30 := bi_n (hw_27.symm.trans c_30)
            refine lv_aload_n hx hb d_Tf_spread_61 rfl (lv_at hl 2 rfl) ?_
            refine va_get (D := (dC, dI)) (ci := 3) (v := .ref a2) (C := R_Tf) (T := F_Tf) (N := 5) hx hb hB inC_Tf hown hK hP 0 rfl rfl 1 (by decide) (hB _ kb_83) (fun _ h9 => h9) rfl d_Tf_spread_62 ?_
            refine lv_iload_n hx hb d_Tf_spread_65 rfl (lv_at hl 5 rfl) ?_
            refine lv_iload hx hb d_Tf_spread_66 (lv_at hl 0 rfl) ?_
            have h_68 : vp_in i 1440 := vinB 1440 h_i c_6 (by decide)
            refine va_iast hx hb hK hP hD hS 2 1 rfl rfl h_68 d_Tf_spread_68 (fun H locs hP hD hS => ?_)
            obtain ⟨f_68, ef_68⟩ : ∃ y, y = upd g i.toNatClampNeg 0 := ⟨_, rfl⟩
            rw [← ef_68] at hP hD
            have hP : va_P (dC, dI) classes [(h0, .inr (3, [.ref a1, .ref a2, .ref a3, .int sp, .long lk])), (a1, .inl (e1, 1440, .inl f1)), (a2, .inl (e2, 1440, .inl f_68)), (a3, .inl (e3, 1001, .inr (.inl gl)))] H := hP
            have hD : va_D A [(h0, .inr (3, [.ref a1, .ref a2, .ref a3, .int sp, .long lk])), (a1, .inl (e1, 1440, .inl f1)), (a2, .inl (e2, 1440, .inl f_68)), (a3, .inl (e3, 1001, .inr (.inl gl)))] := hD
            obtain ⟨x_69, ex_69⟩ : ∃ y : Int32, y = i + 1 := ⟨_, rfl⟩
            refine lv_iinc (v := x_69) (lv' := [(3, .int x_69), (5, .int 0), (4, .int x_14), (0, .ref h0), (1, .int p0), (2, .int p1)]) hx hb d_Tf_spread_69 hl (k := 5) rfl (by rw [ex_69]; rfl) (by decide) rfl (fun ls hl => ?_)
            refine lv_goto (tgt := 2) hx hb d_Tf_spread_72 (by decide) ?_
            exact ih x_69 f_68 gl _ _ _ ((ii0 1440 h_i c_6 ex_69).1) (by have h9 := (ii0 1440 h_i c_6 ex_69).2; have h8 : (1440 : Int32).toInt = 1440 := (by decide); omega) (hP.sub [0, 1, 2, 3] rfl) (hD.sub [0, 1, 2, 3] (by decide) rfl) hS (lv_sub hl [3, 4, 5, 0] rfl)
          · have c_30 := bi_y hw_27 c_30
            refine lv_iload_n hx hb d_Tf_spread_33 rfl (lv_at hl 4 rfl) ?_
            refine lv_i2l hx hb d_Tf_spread_34 rfl ?_
            refine lv_topl (fun x_34 ex_34 => ?_)
            refine lv_aload_n hx hb d_Tf_spread_35 rfl (lv_at hl 2 rfl) ?_
            refine va_get (D := (dC, dI)) (ci := 3) (v := .ref a3) (C := R_Tf) (T := F_Tf) (N := 5) hx hb hB inC_Tf hown hK hP 0 rfl rfl 2 (by decide) (hB _ kb_84) (fun _ h9 => h9) rfl d_Tf_spread_36 ?_
            refine lv_iload hx hb d_Tf_spread_39 (lv_at hl 1 rfl) ?_
            have h_41 : vp_in x_14 1001 := vinC 1000 c_30.1 (Int32.not_lt.mpr c_30.2) (by decide)
            refine va_lald hx hb hK hP 3 2 rfl rfl h_41 d_Tf_spread_41 ?_
            refine lv_topl (fun x_41 ex_41 => ?_)
            refine va_mmin_long hx hb (by rw [hml]; exact hl.1.symm) hown (hB _ kb_90) (hB _ kb_91) (hB _ kb_41) (hB _ kb_92) (Nat.le_of_ble_eq_true rfl) (Nat.le_of_ble_eq_true rfl) (Nat.le_of_ble_eq_true rfl) (Nat.le_of_ble_eq_true rfl) d_Tf_spread_42 ?_
            refine lv_topl (fun x_42 ex_42 => ?_)
            refine lv_l2i hx hb d_Tf_spread_45 rfl ?_
            refine lv_topi (fun x_45 ex_45 => ?_)
            refine lv_istore (lv' := [(5, .int x_45), (4, .int x_14), (0, .ref h0), (1, .int p0), (2, .int p1), (3, .int i)]) hx hb d_Tf_spread_46 hl (by decide) rfl (fun ls hl => ?_)
            refine lv_aload_n hx hb d_Tf_spread_48 rfl (lv_at hl 2 rfl) ?_
            refine va_get (D := (dC, dI)) (ci := 3) (v := .ref a3) (C := R_Tf) (T := F_Tf) (N := 5) hx hb hB inC_Tf hown hK hP 0 rfl rfl 2 (by decide) (hB _ kb_84) (fun _ h9 => h9) rfl d_Tf_spread_49 ?_
            refine lv_iload hx hb d_Tf_spread_52 (lv_at hl 1 rfl) ?_
            refine lv_dup2_11 hx hb d_Tf_spread_54 rfl rfl ?_
            have h_55 : vp_in x_14 1001 := vinC 1000 c_30.1 (Int32.not_lt.mpr c_30.2) (by decide)
            refine va_lald hx hb hK hP 3 2 rfl rfl h_55 d_Tf_spread_55 ?_
            refine lv_topl (fun x_55 ex_55 => ?_)
            refine lv_iload hx hb d_Tf_spread_56 (lv_at hl 0 rfl) ?_
            refine lv_i2l hx hb d_Tf_spread_58 rfl ?_
            refine lv_topl (fun x_58 ex_58 => ?_)
            refine lv_lsub hx hb d_Tf_spread_59 ?_
            refine lv_topl (fun x_59 ex_59 => ?_)
            have h_60 : vp_in x_14 1001 := vinC 1000 c_30.1 (Int32.not_lt.mpr c_30.2) (by decide)
            refine va_last hx hb hK hP hD hS 3 2 rfl rfl h_60 d_Tf_spread_60 (fun H locs hP hD hS => ?_)
            obtain ⟨f_60, ef_60⟩ : ∃ y, y = vp_updL gl x_14.toNatClampNeg x_59 := ⟨_, rfl⟩
            rw [← ef_60] at hP hD
            have hP : va_P (dC, dI) classes [(h0, .inr (3, [.ref a1, .ref a2, .ref a3, .int sp, .long lk])), (a1, .inl (e1, 1440, .inl f1)), (a2, .inl (e2, 1440, .inl g)), (a3, .inl (e3, 1001, .inr (.inl f_60)))] H := hP
            have hD : va_D A [(h0, .inr (3, [.ref a1, .ref a2, .ref a3, .int sp, .long lk])), (a1, .inl (e1, 1440, .inl f1)), (a2, .inl (e2, 1440, .inl g)), (a3, .inl (e3, 1001, .inr (.inl f_60)))] := hD
            refine lv_aload_n hx hb d_Tf_spread_61 rfl (lv_at hl 2 rfl) ?_
            refine va_get (D := (dC, dI)) (ci := 3) (v := .ref a2) (C := R_Tf) (T := F_Tf) (N := 5) hx hb hB inC_Tf hown hK hP 0 rfl rfl 1 (by decide) (hB _ kb_83) (fun _ h9 => h9) rfl d_Tf_spread_62 ?_
            refine lv_iload_n hx hb d_Tf_spread_65 rfl (lv_at hl 5 rfl) ?_
            refine lv_iload hx hb d_Tf_spread_66 (lv_at hl 0 rfl) ?_
            have h_68 : vp_in i 1440 := vinB 1440 h_i c_6 (by decide)
            refine va_iast hx hb hK hP hD hS 2 1 rfl rfl h_68 d_Tf_spread_68 (fun H locs hP hD hS => ?_)
            obtain ⟨f_68, ef_68⟩ : ∃ y, y = upd g i.toNatClampNeg x_45 := ⟨_, rfl⟩
            rw [← ef_68] at hP hD
            have hP : va_P (dC, dI) classes [(h0, .inr (3, [.ref a1, .ref a2, .ref a3, .int sp, .long lk])), (a1, .inl (e1, 1440, .inl f1)), (a2, .inl (e2, 1440, .inl f_68)), (a3, .inl (e3, 1001, .inr (.inl f_60)))] H := hP
            have hD : va_D A [(h0, .inr (3, [.ref a1, .ref a2, .ref a3, .int sp, .long lk])), (a1, .inl (e1, 1440, .inl f1)), (a2, .inl (e2, 1440, .inl f_68)), (a3, .inl (e3, 1001, .inr (.inl f_60)))] := hD
            obtain ⟨x_69, ex_69⟩ : ∃ y : Int32, y = i + 1 := ⟨_, rfl⟩
            refine lv_iinc (v := x_69) (lv' := [(3, .int x_69), (5, .int x_45), (4, .int x_14), (0, .ref h0), (1, .int p0), (2, .int p1)]) hx hb d_Tf_spread_69 hl (k := 5) rfl (by rw [ex_69]; rfl) (by decide) rfl (fun ls hl => ?_)
            refine lv_goto (tgt := 2) hx hb d_Tf_spread_72 (by decide) ?_
            exact ih x_69 f_68 f_60 _ _ _ ((ii0 1440 h_i c_6 ex_69).1) (by have h9 := (ii0 1440 h_i c_6 ex_69).2; have h8 : (1440 : Int32).toInt = 1440 := (by decide); omega) (hP.sub [0, 1, 2, 3] rfl) (hD.sub [0, 1, 2, 3] (by decide) rfl) hS (lv_sub hl [3, 4, 5, 0] rfl)
  refine lv_iconst (v := 0) hx hb d_Tf_spread_0 (by decide) ?_
  refine lv_istore_n (lv' := [(3, .int 0), (0, .ref h0), (1, .int p0), (2, .int p1)]) hx hb d_Tf_spread_1 rfl hl (by decide) rfl (fun ls hl => ?_)
  exact (cut 1441) 0 f2 f3 _ _ _ (le0) (by decide) (hP.sub [0, 1, 2, 3] rfl) (hD.sub [0, 1, 2, 3] (by decide) rfl) hS (lv_sub hl [1, 2, 3, 0] rfl)
set_option maxHeartbeats 4000000 in
set_option maxRecDepth 100000 in
theorem c_Tf_makePlan (l : Launch) (dC : Nat → ClassId) (dI : Nat → Nat → Nat) (h0 : Nat) (a1 : Nat) (a2 : Nat) (a3 : Nat) (e1 : ClassId) (e2 : ClassId) (e3 : ClassId) (sz : Nat) (sp : Int32) (lk : Int64) (f1 : Nat → Int32) (f2 : Nat → Int32) (f3 : Nat → Int64) (p0 : Int64) (p1 : Int32) (p2 : Int32) : Met l y_Tf_makePlan w_Tf_makePlan ({ frames := 2, cells := 0, slots := 0, locals := 52 }) (cPre dC dI [.ref h0, .long p0, .int p1, .int p2] sz [(e1, .int), (e2, .int), (e3, .long)] [(h0, .inr (3, [.ref a1, .ref a2, .ref a3, .int sp, .long lk])), (a1, .inl (e1, 1440, .inl f1)), (a2, .inl (e2, 1440, .inl f2)), (a3, .inl (e3, 1001, .inr (.inl f3)))]) (va_Ql (fun (r : Int64) (u : Int64 × (Nat → Int32) × (Nat → Int64)) => True) (fun (u : Int64 × (Nat → Int32) × (Nat → Int64)) (t : State) => cB dC dI (va_A [(h0, .inr (3, [.ref a1, .ref a2, .ref a3, .int sp, .long lk])), (a1, .inl (e1, 1440, .inl f1)), (a2, .inl (e2, 1440, .inl f2)), (a3, .inl (e3, 1001, .inr (.inl f3)))] sz) [(e1, .int), (e2, .int), (e3, .long)] [(h0, .inr (3, [.ref a1, .ref a2, .ref a3, .int sp, .long u.1])), (a1, .inl (e1, 1440, .inl f1)), (a2, .inl (e2, 1440, .inl (u.2.1))), (a3, .inl (e3, 1001, .inr (.inl (u.2.2))))] t) (va_A [(h0, .inr (3, [.ref a1, .ref a2, .ref a3, .int sp, .long lk])), (a1, .inl (e1, 1440, .inl f1)), (a2, .inl (e2, 1440, .inl f2)), (a3, .inl (e3, 1001, .inr (.inl f3)))] sz)) 0 0 (va_A [(h0, .inr (3, [.ref a1, .ref a2, .ref a3, .int sp, .long lk])), (a1, .inl (e1, 1440, .inl f1)), (a2, .inl (e2, 1440, .inl f2)), (a3, .inl (e3, 1001, .inr (.inl f3)))] sz) := by
  refine Met.ofW (cc := b_Tf_makePlan) (maxL := 7) (ret := (some .long)) (by decide) rfl ?_
  intro p e s m args below meth c s₁ B hml hv
  obtain ⟨rfl, hsz, hN, hP, hK, hD0⟩ := hv
  have hx := B.exec
  have hb := B.bytes
  have hr := B.returns
  have hts := atoms_spec (ws := w_Tf_makePlan) B.pre
  have hB := big_of hts
  have hown : s.vm.findClass R_Tf = some m.cls := findClass_of_methodNamed B.named
  have hlocks := B.notSynchronized
  subst hsz
  have hD := hD0.self (sz := s.heap.size)
  generalize hAe : va_A [(h0, .inr (3, [.ref a1, .ref a2, .ref a3, .int sp, .long lk])), (a1, .inl (e1, 1440, .inl f1)), (a2, .inl (e2, 1440, .inl f2)), (a3, .inl (e3, 1001, .inr (.inl f3)))] s.heap.size = A at hD ⊢
  have hA : ∀ q : Nat, s.heap.size ≤ q → A q := fun q h => by rw [← hAe]; exact Or.inr h
  have hS : va_S A s.heap s.heap [] := va_S.rf
  have hP : va_P (dC, dI) classes [(h0, .inr (3, [.ref a1, .ref a2, .ref a3, .int sp, .long lk])), (a1, .inl (e1, 1440, .inl f1)), (a2, .inl (e2, 1440, .inl f2)), (a3, .inl (e3, 1001, .inr (.inl f3)))] s.heap := hP
  have hl := lv_entry ([.ref h0, .long p0, .int p1, .int p2]) (n := 7) (Nat.le_of_ble_eq_true rfl)
  rw [lg_entry_eq]
  generalize (lg_sl ([.ref h0, .long p0, .int p1, .int p2]) ++ List.replicate (7 - (lg_sl ([.ref h0, .long p0, .int p1, .int p2])).length) Slot.unset).toArray = ls at hl ⊢
  have hl : lv_has ls 7 [(0, .ref h0), (1, .long p0), (3, .int p1), (4, .int p2)] := hl
  refine lv_aload_n hx hb d_Tf_makePlan_0 rfl (lv_at hl 0 rfl) ?_
  refine lv_iload_n hx hb d_Tf_makePlan_1 rfl (lv_at hl 2 rfl) ?_
  refine lv_iload hx hb d_Tf_makePlan_2 (lv_at hl 3 rfl) ?_
  refine kc_v (va_runV (As := [.int p1, .int p2]) (rest := []) ⟨hx, hb, hml, hown, hts⟩ (c_Tf_measureRoom l dC dI h0 a1 a2 a3 e1 e3 s.heap.size sp lk f1 f3 p1 p2 ) (cwV 2 hts (ginV kb_94 kb_95 kb_96 kb_88 kb_93) rfl rfl rfl (by decide +kernel) ⟨Nat.le_of_ble_eq_true rfl, Nat.le_of_ble_eq_true rfl⟩) (preV (ci := 3) (wc := [(h0, .inr (3, [.ref a1, .ref a2, .ref a3, .int sp, .long lk])), (a1, .inl (e1, 1440, .inl f1)), (a3, .inl (e3, 1001, .inr (.inl f3)))]) hK hN hP hD [0, 1, 3] rfl rfl (by decide) [0, 2] rfl rfl rfl) rfl rfl hl.1 rfl (lv_room (Nat.le_of_ble_eq_true rfl)) d_Tf_makePlan_4 ⟨Nat.le_of_ble_eq_true rfl, Nat.le_of_ble_eq_true rfl⟩) hP hD hS hA [0, 1, 3] [2] (wr := [(a2, .inl (e2, 1440, .inl f2))]) rfl rfl (by decide) (by decide) (fun u_4 H locs hw_4 hP hD hK1 hS => ?_)
  obtain ⟨f3b_4, rfl⟩ : ∃ z, z = u_4 := ⟨_, rfl⟩
  have hw_4 : True := hw_4
  have hP : va_P (dC, dI) classes [(a2, .inl (e2, 1440, .inl f2)), (h0, .inr (3, [.ref a1, .ref a2, .ref a3, .int sp, .long lk])), (a1, .inl (e1, 1440, .inl f1)), (a3, .inl (e3, 1001, .inr (.inl f3b_4)))] H := hP
  have hD : va_D A [(a2, .inl (e2, 1440, .inl f2)), (h0, .inr (3, [.ref a1, .ref a2, .ref a3, .int sp, .long lk])), (a1, .inl (e1, 1440, .inl f1)), (a3, .inl (e3, 1001, .inr (.inl f3b_4)))] := hD
  refine lv_aload_n hx hb d_Tf_makePlan_7 rfl (lv_at hl 0 rfl) ?_
  refine lv_lload_n hx hb d_Tf_makePlan_8 rfl (lv_at hl 1 rfl) ?_
  refine kc_l (va_runV (As := [.long p0]) (rest := []) ⟨hx, hb, hml, hown, hts⟩ (c_Tf_buyCheapest l dC dI h0 a1 a2 a3 e3 H.size sp lk f3b_4 p0 ) (cwV 1 hts (ginV kb_98 kb_99 kb_100 kb_88 kb_97) rfl rfl rfl (by decide +kernel) ⟨Nat.le_of_ble_eq_true rfl, Nat.le_of_ble_eq_true rfl⟩) (preV (ci := 3) (wc := [(h0, .inr (3, [.ref a1, .ref a2, .ref a3, .int sp, .long lk])), (a3, .inl (e3, 1001, .inr (.inl f3b_4)))]) hK hN hP hD [1, 3] rfl rfl (by decide) [2] rfl rfl rfl) rfl rfl hl.1 rfl (lv_room (Nat.le_of_ble_eq_true rfl)) d_Tf_makePlan_9 ⟨Nat.le_of_ble_eq_true rfl, Nat.le_of_ble_eq_true rfl⟩) hP hD hS hA [1, 3] [0, 2] (wr := [(a2, .inl (e2, 1440, .inl f2)), (a1, .inl (e1, 1440, .inl f1))]) rfl rfl (by decide) (by decide) (fun r_9 u_9 H locs hw_9 hP hD hK1 hS => ?_)
  obtain ⟨lk2_9, f3b_9⟩ := u_9
  have hw_9 : True := hw_9
  have hP : va_P (dC, dI) classes [(a2, .inl (e2, 1440, .inl f2)), (a1, .inl (e1, 1440, .inl f1)), (h0, .inr (3, [.ref a1, .ref a2, .ref a3, .int sp, .long lk2_9])), (a3, .inl (e3, 1001, .inr (.inl f3b_9)))] H := hP
  have hD : va_D A [(a2, .inl (e2, 1440, .inl f2)), (a1, .inl (e1, 1440, .inl f1)), (h0, .inr (3, [.ref a1, .ref a2, .ref a3, .int sp, .long lk2_9])), (a3, .inl (e3, 1001, .inr (.inl f3b_9)))] := hD
  refine lv_lstore (lv' := [(5, .long r_9), (0, .ref h0), (1, .long p0), (3, .int p1), (4, .int p2)]) hx hb d_Tf_makePlan_12 hl (by decide) rfl (fun ls hl => ?_)
  refine lv_aload_n hx hb d_Tf_makePlan_14 rfl (lv_at hl 1 rfl) ?_
  refine lv_iload_n hx hb d_Tf_makePlan_15 rfl (lv_at hl 3 rfl) ?_
  refine lv_iload hx hb d_Tf_makePlan_16 (lv_at hl 4 rfl) ?_
  refine kc_v (va_runV (As := [.int p1, .int p2]) (rest := []) ⟨hx, hb, hml, hown, hts⟩ (c_Tf_spread l dC dI h0 a1 a2 a3 e1 e2 e3 H.size sp lk2_9 f1 f2 f3b_9 p1 p2 ) (cwV 2 hts (ginV kb_102 kb_103 kb_104 kb_88 kb_101) rfl rfl rfl (by decide +kernel) ⟨Nat.le_of_ble_eq_true rfl, Nat.le_of_ble_eq_true rfl⟩) (preV (ci := 3) (wc := [(h0, .inr (3, [.ref a1, .ref a2, .ref a3, .int sp, .long lk2_9])), (a1, .inl (e1, 1440, .inl f1)), (a2, .inl (e2, 1440, .inl f2)), (a3, .inl (e3, 1001, .inr (.inl f3b_9)))]) hK hN hP hD [2, 1, 0, 3] rfl rfl (by decide) [0, 1, 2] rfl rfl rfl) rfl rfl hl.1 rfl (lv_room (Nat.le_of_ble_eq_true rfl)) d_Tf_makePlan_18 ⟨Nat.le_of_ble_eq_true rfl, Nat.le_of_ble_eq_true rfl⟩) hP hD hS hA [2, 1, 0, 3] [] (wr := []) rfl rfl (by decide) (by decide) (fun u_18 H locs hw_18 hP hD hK1 hS => ?_)
  obtain ⟨f2b_18, f3b_18⟩ := u_18
  have hw_18 : True := hw_18
  have hP : va_P (dC, dI) classes [(h0, .inr (3, [.ref a1, .ref a2, .ref a3, .int sp, .long lk2_9])), (a1, .inl (e1, 1440, .inl f1)), (a2, .inl (e2, 1440, .inl f2b_18)), (a3, .inl (e3, 1001, .inr (.inl f3b_18)))] H := hP
  have hD : va_D A [(h0, .inr (3, [.ref a1, .ref a2, .ref a3, .int sp, .long lk2_9])), (a1, .inl (e1, 1440, .inl f1)), (a2, .inl (e2, 1440, .inl f2b_18)), (a3, .inl (e3, 1001, .inr (.inl f3b_18)))] := hD
  refine lv_lload hx hb d_Tf_makePlan_21 (lv_at hl 0 rfl) ?_
  have hP9 := hP.sub (ws' := [(h0, .inr (3, [.ref a1, .ref a2, .ref a3, .int sp, .long lk2_9])), (a1, .inl (e1, 1440, .inl f1)), (a2, .inl (e2, 1440, .inl f2b_18)), (a3, .inl (e3, 1001, .inr (.inl f3b_18)))]) [0, 1, 2, 3] rfl
  have hD9 := hD.sub (ws' := [(h0, .inr (3, [.ref a1, .ref a2, .ref a3, .int sp, .long lk2_9])), (a1, .inl (e1, 1440, .inl f1)), (a2, .inl (e2, 1440, .inl f2b_18)), (a3, .inl (e3, 1001, .inr (.inl f3b_18)))]) [0, 1, 2, 3] (by decide) rfl
  have hK9 := hK.sub (tys' := [(e1, .int), (e2, .int), (e3, .long)]) [0, 1, 2] rfl
  exact W.lret (v := r_9) hx hb hr (fun t ht hW => ⟨⟨r_9, (lk2_9, f2b_18, f3b_18), rfl, trivial, by rw [ht]; exact hP9, va_K.moved hW.alike hK9, hD9⟩, hS.F ht⟩) hS.2.2 d_Tf_makePlan_23
end
section
set_option maxHeartbeats 4000000 in
set_option maxRecDepth 100000 in
theorem c_Tf_init (l : Launch) (dC : Nat → ClassId) (dI : Nat → Nat → Nat) (h0 : Nat) (sz : Nat) : Met l y_Tf_init w_Tf_init ({ frames := 1, cells := 3, slots := 3881, locals := 20 }) (cPre dC dI [.ref h0] sz [] [(h0, .inr (3, [.null, .null, .null, .int 0, .long 0]))]) (va_Qv (fun (u : Nat × Nat × Nat × ClassId × ClassId × ClassId × (Nat → Int32)) => True) (fun (u : Nat × Nat × Nat × ClassId × ClassId × ClassId × (Nat → Int32)) (t : State) => cB dC dI (va_A [(h0, .inr (3, [.null, .null, .null, .int 0, .long 0]))] sz) [(u.2.2.2.1, .int), (u.2.2.2.2.1, .int), (u.2.2.2.2.2.1, .long)] [(h0, .inr (3, [.ref u.1, .ref u.2.1, .ref u.2.2.1, .int 0, .long 0])), (u.1, .inl (u.2.2.2.1, 1440, .inl (u.2.2.2.2.2.2))), (u.2.1, .inl (u.2.2.2.2.1, 1440, .inl (fun _ => 0))), (u.2.2.1, .inl (u.2.2.2.2.2.1, 1001, .inr (.inl (fun _ => 0))))] t) (va_A [(h0, .inr (3, [.null, .null, .null, .int 0, .long 0]))] sz)) 3 3881 (va_A [(h0, .inr (3, [.null, .null, .null, .int 0, .long 0]))] sz) := by
  refine Met.ofW (cc := b_Tf_init) (maxL := 2) (ret := none) (by decide) rfl ?_
  intro p e s m args below meth c s₁ B hml hv
  obtain ⟨rfl, hsz, hN, hP, hK, hD0⟩ := hv
  have hx := B.exec
  have hb := B.bytes
  have hr := B.returns
  have hts := atoms_spec (ws := w_Tf_init) B.pre
  have hB := big_of hts
  have hown : s.vm.findClass R_Tf = some m.cls := findClass_of_methodNamed B.named
  have hlocks := B.notSynchronized
  have hin : meth.name = "<init>" := (name_of_methodNamed B.named B.method).1
  subst hsz
  have hD := hD0.self (sz := s.heap.size)
  generalize hAe : va_A [(h0, .inr (3, [.null, .null, .null, .int 0, .long 0]))] s.heap.size = A at hD ⊢
  have hA : ∀ q : Nat, s.heap.size ≤ q → A q := fun q h => by rw [← hAe]; exact Or.inr h
  have hS : va_S A s.heap s.heap [] := va_S.rf
  have hP : va_P (dC, dI) classes [(h0, .inr (3, [.null, .null, .null, .int 0, .long 0]))] s.heap := hP
  have hl := lv_entry ([.ref h0]) (n := 2) (Nat.le_of_ble_eq_true rfl)
  rw [lg_entry_eq]
  generalize (lg_sl ([.ref h0]) ++ List.replicate (2 - (lg_sl ([.ref h0])).length) Slot.unset).toArray = ls at hl ⊢
  have hl : lv_has ls 2 [(0, .ref h0)] := hl
  refine lv_aload_n hx hb d_Tf_init_0 rfl (lv_at hl 0 rfl) ?_
  refine W.objInit hx hb hown (hB _ kb_105) (hB _ kb_1) (hB _ kb_2) rfl (by rw [hml]; exact hl.1) rfl d_Tf_init_1 (Nat.le_of_ble_eq_true rfl) (Nat.le_of_ble_eq_true rfl) ?_
  refine W.eq (g2 := F0 m 4 ls []) rfl ?_
  refine lv_aload_n hx hb d_Tf_init_4 rfl (lv_at hl 0 rfl) ?_
  refine lv_sipush (v := 1440) hx hb d_Tf_init_5 (by decide) ?_
  refine va_newa (atype := .int) (ty := .int) (N' := 1440) (a0 := (1440, .inl (fun _ => 0))) hx hb (hB (.arrayClass .int) kb_106) rfl hK hP hD hS hA (fun _ => rfl) (by decide) (by decide) (by decide) (Nat.le_of_ble_eq_true rfl) (Nat.le_of_ble_eq_true rfl) d_Tf_init_8 (fun q_8 k_8 H hK hP hD hS => ?_)
  have hP : va_P (dC, dI) classes [(h0, .inr (3, [.null, .null, .null, .int 0, .long 0])), (q_8, .inl (k_8, 1440, .inl (fun _ => 0)))] H := hP
  have hD : va_D A [(h0, .inr (3, [.null, .null, .null, .int 0, .long 0])), (q_8, .inl (k_8, 1440, .inl (fun _ => 0)))] := hD
  have hK : va_K (dC, dI) classes [(k_8, .int)] s := hK
  refine W.widen (k := 1) (n := 1440) (Nat.le_of_ble_eq_true rfl) (Nat.le_of_ble_eq_true rfl) ?_
  refine va_putF (D := (dC, dI)) (ci := 3) (v := .ref q_8) (ty := (.array .int)) (C := R_Tf) (T := F_Tf) (N := 5) hx hb hB inC_Tf t_Tf t_Tf_ok n_Tf hown hK hP hD hS 0 rfl rfl 0 (by decide) (hB _ kb_80) (fun _ h9 => h9) rfl hin rfl (by decide +kernel) rfl rfl (Nat.le_of_ble_eq_true rfl) d_Tf_init_10 (fun H locs hP hD hS => ?_)
  have hP : va_P (dC, dI) classes [(h0, .inr (3, [.ref q_8, .null, .null, .int 0, .long 0])), (q_8, .inl (k_8, 1440, .inl (fun _ => 0)))] H := hP
  have hD : va_D A [(h0, .inr (3, [.ref q_8, .null, .null, .int 0, .long 0])), (q_8, .inl (k_8, 1440, .inl (fun _ => 0)))] := hD
  refine lv_aload_n hx hb d_Tf_init_13 rfl (lv_at hl 0 rfl) ?_
  refine lv_sipush (v := 1440) hx hb d_Tf_init_14 (by decide) ?_
  refine va_newa (atype := .int) (ty := .int) (N' := 1440) (a0 := (1440, .inl (fun _ => 0))) hx hb (hB (.arrayClass .int) kb_106) rfl hK hP hD hS hA (fun _ => rfl) (by decide) (by decide) (by decide) (Nat.le_of_ble_eq_true rfl) (Nat.le_of_ble_eq_true rfl) d_Tf_init_17 (fun q_17 k_17 H hK hP hD hS => ?_)
  have hP : va_P (dC, dI) classes [(h0, .inr (3, [.ref q_8, .null, .null, .int 0, .long 0])), (q_8, .inl (k_8, 1440, .inl (fun _ => 0))), (q_17, .inl (k_17, 1440, .inl (fun _ => 0)))] H := hP
  have hD : va_D A [(h0, .inr (3, [.ref q_8, .null, .null, .int 0, .long 0])), (q_8, .inl (k_8, 1440, .inl (fun _ => 0))), (q_17, .inl (k_17, 1440, .inl (fun _ => 0)))] := hD
  have hK : va_K (dC, dI) classes [(k_8, .int), (k_17, .int)] s := hK
  refine W.widen (k := 2) (n := 2880) (Nat.le_of_ble_eq_true rfl) (Nat.le_of_ble_eq_true rfl) ?_
  refine va_putF (D := (dC, dI)) (ci := 3) (v := .ref q_17) (ty := (.array .int)) (C := R_Tf) (T := F_Tf) (N := 5) hx hb hB inC_Tf t_Tf t_Tf_ok n_Tf hown hK hP hD hS 0 rfl rfl 1 (by decide) (hB _ kb_83) (fun _ h9 => h9) rfl hin rfl (by decide +kernel) rfl rfl (Nat.le_of_ble_eq_true rfl) d_Tf_init_19 (fun H locs hP hD hS => ?_)
  have hP : va_P (dC, dI) classes [(h0, .inr (3, [.ref q_8, .ref q_17, .null, .int 0, .long 0])), (q_8, .inl (k_8, 1440, .inl (fun _ => 0))), (q_17, .inl (k_17, 1440, .inl (fun _ => 0)))] H := hP
  have hD : va_D A [(h0, .inr (3, [.ref q_8, .ref q_17, .null, .int 0, .long 0])), (q_8, .inl (k_8, 1440, .inl (fun _ => 0))), (q_17, .inl (k_17, 1440, .inl (fun _ => 0)))] := hD
  refine lv_aload_n hx hb d_Tf_init_22 rfl (lv_at hl 0 rfl) ?_
  refine lv_sipush (v := 1001) hx hb d_Tf_init_23 (by decide) ?_
  refine va_newa (atype := .long) (ty := .long) (N' := 1001) (a0 := (1001, .inr (.inl (fun _ => 0)))) hx hb (hB (.arrayClass .long) kb_107) rfl hK hP hD hS hA (fun _ => rfl) (by decide) (by decide) (by decide) (Nat.le_of_ble_eq_true rfl) (Nat.le_of_ble_eq_true rfl) d_Tf_init_26 (fun q_26 k_26 H hK hP hD hS => ?_)
  have hP : va_P (dC, dI) classes [(h0, .inr (3, [.ref q_8, .ref q_17, .null, .int 0, .long 0])), (q_8, .inl (k_8, 1440, .inl (fun _ => 0))), (q_17, .inl (k_17, 1440, .inl (fun _ => 0))), (q_26, .inl (k_26, 1001, .inr (.inl (fun _ => 0))))] H := hP
  have hD : va_D A [(h0, .inr (3, [.ref q_8, .ref q_17, .null, .int 0, .long 0])), (q_8, .inl (k_8, 1440, .inl (fun _ => 0))), (q_17, .inl (k_17, 1440, .inl (fun _ => 0))), (q_26, .inl (k_26, 1001, .inr (.inl (fun _ => 0))))] := hD
  have hK : va_K (dC, dI) classes [(k_8, .int), (k_17, .int), (k_26, .long)] s := hK
  refine W.widen (k := 3) (n := 3881) (Nat.le_of_ble_eq_true rfl) (Nat.le_of_ble_eq_true rfl) ?_
  refine va_putF (D := (dC, dI)) (ci := 3) (v := .ref q_26) (ty := (.array .long)) (C := R_Tf) (T := F_Tf) (N := 5) hx hb hB inC_Tf t_Tf t_Tf_ok n_Tf hown hK hP hD hS 0 rfl rfl 2 (by decide) (hB _ kb_84) (fun _ h9 => h9) rfl hin rfl (by decide +kernel) rfl rfl (Nat.le_of_ble_eq_true rfl) d_Tf_init_28 (fun H locs hP hD hS => ?_)
  have hP : va_P (dC, dI) classes [(h0, .inr (3, [.ref q_8, .ref q_17, .ref q_26, .int 0, .long 0])), (q_8, .inl (k_8, 1440, .inl (fun _ => 0))), (q_17, .inl (k_17, 1440, .inl (fun _ => 0))), (q_26, .inl (k_26, 1001, .inr (.inl (fun _ => 0))))] H := hP
  have hD : va_D A [(h0, .inr (3, [.ref q_8, .ref q_17, .ref q_26, .int 0, .long 0])), (q_8, .inl (k_8, 1440, .inl (fun _ => 0))), (q_17, .inl (k_17, 1440, .inl (fun _ => 0))), (q_26, .inl (k_26, 1001, .inr (.inl (fun _ => 0))))] := hD
  refine lv_aload_n hx hb d_Tf_init_31 rfl (lv_at hl 0 rfl) ?_
  refine lv_iconst (v := 0) hx hb d_Tf_init_32 (by decide) ?_
  refine va_put (D := (dC, dI)) (ci := 3) (v := .int 0) (ty := .int) (C := R_Tf) (T := F_Tf) (N := 5) hx hb hB inC_Tf t_Tf t_Tf_ok n_Tf hown hK hP hD hS 0 rfl rfl 3 (by decide) (hB _ kb_79) (fun _ h9 => h9) rfl (by decide +kernel) rfl rfl (Nat.le_of_ble_eq_true rfl) d_Tf_init_33 (fun H locs hP hD hS => ?_)
  have hP : va_P (dC, dI) classes [(h0, .inr (3, [.ref q_8, .ref q_17, .ref q_26, .int 0, .long 0])), (q_8, .inl (k_8, 1440, .inl (fun _ => 0))), (q_17, .inl (k_17, 1440, .inl (fun _ => 0))), (q_26, .inl (k_26, 1001, .inr (.inl (fun _ => 0))))] H := hP
  have hD : va_D A [(h0, .inr (3, [.ref q_8, .ref q_17, .ref q_26, .int 0, .long 0])), (q_8, .inl (k_8, 1440, .inl (fun _ => 0))), (q_17, .inl (k_17, 1440, .inl (fun _ => 0))), (q_26, .inl (k_26, 1001, .inr (.inl (fun _ => 0))))] := hD
  refine lv_aload_n hx hb d_Tf_init_36 rfl (lv_at hl 0 rfl) ?_
  refine lv_lconst (v := 0) hx hb d_Tf_init_37 (by decide) ?_
  refine va_put (D := (dC, dI)) (ci := 3) (v := .long 0) (ty := .long) (C := R_Tf) (T := F_Tf) (N := 5) hx hb hB inC_Tf t_Tf t_Tf_ok n_Tf hown hK hP hD hS 0 rfl rfl 4 (by decide) (hB _ kb_89) (fun _ h9 => h9) rfl (by decide +kernel) rfl rfl (Nat.le_of_ble_eq_true rfl) d_Tf_init_38 (fun H locs hP hD hS => ?_)
  have hP : va_P (dC, dI) classes [(h0, .inr (3, [.ref q_8, .ref q_17, .ref q_26, .int 0, .long 0])), (q_8, .inl (k_8, 1440, .inl (fun _ => 0))), (q_17, .inl (k_17, 1440, .inl (fun _ => 0))), (q_26, .inl (k_26, 1001, .inr (.inl (fun _ => 0))))] H := hP
  have hD : va_D A [(h0, .inr (3, [.ref q_8, .ref q_17, .ref q_26, .int 0, .long 0])), (q_8, .inl (k_8, 1440, .inl (fun _ => 0))), (q_17, .inl (k_17, 1440, .inl (fun _ => 0))), (q_26, .inl (k_26, 1001, .inr (.inl (fun _ => 0))))] := hD
  refine lv_iconst (v := 0) hx hb d_Tf_init_41 (by decide) ?_
  refine lv_istore_n (lv' := [(1, .int 0), (0, .ref h0)]) hx hb d_Tf_init_42 rfl hl (by decide) rfl (fun ls hl => ?_)
  have cut : ∀ n : Nat, (∀ (i : Int32) (g : Nat → Int32) (H : Heap) (locs : List Loc) (ls : Array Slot), 0 ≤ i → (1440 - i.toInt).toNat < n → va_P (dC, dI) classes [(h0, .inr (3, [.ref q_8, .ref q_17, .ref q_26, .int 0, .long 0])), (q_8, .inl (k_8, 1440, .inl g)), (q_17, .inl (k_17, 1440, .inl (fun _ => 0))), (q_26, .inl (k_26, 1001, .inr (.inl (fun _ => 0))))] H → va_D A [(h0, .inr (3, [.ref q_8, .ref q_17, .ref q_26, .int 0, .long 0])), (q_8, .inl (k_8, 1440, .inl g)), (q_17, .inl (k_17, 1440, .inl (fun _ => 0))), (q_26, .inl (k_26, 1001, .inr (.inl (fun _ => 0))))] → va_S A s.heap H locs → lv_has ls 2 [(0, .ref h0), (1, .int i)] → W p l e (headSpec w_Tf_init ({ frames := 1, cells := 3, slots := 3881, locals := 20 })).room s m (List.toArray [.ref h0]) below meth c H locs 3 3881 (MQ below (va_Qv (fun (u : Nat × Nat × Nat × ClassId × ClassId × ClassId × (Nat → Int32)) => True) (fun (u : Nat × Nat × Nat × ClassId × ClassId × ClassId × (Nat → Int32)) (t : State) => cB dC dI A [(u.2.2.2.1, .int), (u.2.2.2.2.1, .int), (u.2.2.2.2.2.1, .long)] [(h0, .inr (3, [.ref u.1, .ref u.2.1, .ref u.2.2.1, .int 0, .long 0])), (u.1, .inl (u.2.2.2.1, 1440, .inl (u.2.2.2.2.2.2))), (u.2.1, .inl (u.2.2.2.2.1, 1440, .inl (fun _ => 0))), (u.2.2.1, .inl (u.2.2.2.2.2.1, 1001, .inr (.inl (fun _ => 0))))] t) A) (List.toArray [.ref h0]) s 3 3881 A) (F0 m 43 ls [])) := by
    intro n
    induction n with
    | zero => intros; omega
    | succ n ih =>
      intro i g H locs ls h_i hmu hP hD hS hl
      refine lv_iload_n hx hb d_Tf_init_43 rfl (lv_at hl 1 rfl) ?_
      refine lv_sipush (v := 1440) hx hb d_Tf_init_44 (by decide) ?_
      refine lv_icmp_ge (tgt := 63) hx hb d_Tf_init_47 (by decide) (fun c_47 => ?_) (fun c_47 => ?_)
      · skip
        have hP9 := hP.sub (ws' := [(h0, .inr (3, [.ref q_8, .ref q_17, .ref q_26, .int 0, .long 0])), (q_8, .inl (k_8, 1440, .inl g)), (q_17, .inl (k_17, 1440, .inl (fun _ => 0))), (q_26, .inl (k_26, 1001, .inr (.inl (fun _ => 0))))]) [0, 1, 2, 3] rfl
        have hD9 := hD.sub (ws' := [(h0, .inr (3, [.ref q_8, .ref q_17, .ref q_26, .int 0, .long 0])), (q_8, .inl (k_8, 1440, .inl g)), (q_17, .inl (k_17, 1440, .inl (fun _ => 0))), (q_26, .inl (k_26, 1001, .inr (.inl (fun _ => 0))))]) [0, 1, 2, 3] (by decide) rfl
        have hK9 := hK.sub (tys' := [(k_8, .int), (k_17, .int), (k_26, .long)]) [0, 1, 2] rfl
        exact W.vret hx hb hr (fun t ht hW => ⟨⟨(q_8, q_17, q_26, k_8, k_17, k_26, g), rfl, trivial, by rw [ht]; exact hP9, va_K.moved hW.alike hK9, hD9⟩, hS.F ht⟩) hS.2.2 d_Tf_init_63
      · skip
        refine lv_aload_n hx hb d_Tf_init_50 rfl (lv_at hl 0 rfl) ?_
        refine va_get (D := (dC, dI)) (ci := 3) (v := .ref q_8) (C := R_Tf) (T := F_Tf) (N := 5) hx hb hB inC_Tf hown hK hP 0 rfl rfl 0 (by decide) (hB _ kb_80) (fun _ h9 => h9) rfl d_Tf_init_51 ?_
        refine lv_iload_n hx hb d_Tf_init_54 rfl (lv_at hl 1 rfl) ?_
        refine lv_iconst (v := (-1)) hx hb d_Tf_init_55 (by decide) ?_
        have h_56 : vp_in i 1440 := vinB 1440 h_i c_47 (by decide)
        refine va_iast hx hb hK hP hD hS 1 0 rfl rfl h_56 d_Tf_init_56 (fun H locs hP hD hS => ?_)
        obtain ⟨f_56, ef_56⟩ : ∃ y, y = upd g i.toNatClampNeg (-1) := ⟨_, rfl⟩
        rw [← ef_56] at hP hD
        have hP : va_P (dC, dI) classes [(h0, .inr (3, [.ref q_8, .ref q_17, .ref q_26, .int 0, .long 0])), (q_8, .inl (k_8, 1440, .inl f_56)), (q_17, .inl (k_17, 1440, .inl (fun _ => 0))), (q_26, .inl (k_26, 1001, .inr (.inl (fun _ => 0))))] H := hP
        have hD : va_D A [(h0, .inr (3, [.ref q_8, .ref q_17, .ref q_26, .int 0, .long 0])), (q_8, .inl (k_8, 1440, .inl f_56)), (q_17, .inl (k_17, 1440, .inl (fun _ => 0))), (q_26, .inl (k_26, 1001, .inr (.inl (fun _ => 0))))] := hD
        obtain ⟨x_57, ex_57⟩ : ∃ y : Int32, y = i + 1 := ⟨_, rfl⟩
        refine lv_iinc (v := x_57) (lv' := [(1, .int x_57), (0, .ref h0)]) hx hb d_Tf_init_57 hl (k := 1) rfl (by rw [ex_57]; rfl) (by decide) rfl (fun ls hl => ?_)
        refine lv_goto (tgt := 43) hx hb d_Tf_init_60 (by decide) ?_
        exact ih x_57 f_56 _ _ _ ((ii0 1440 h_i c_47 ex_57).1) (by have h9 := (ii0 1440 h_i c_47 ex_57).2; have h8 : (1440 : Int32).toInt = 1440 := (by decide); omega) (hP.sub [0, 1, 2, 3] rfl) (hD.sub [0, 1, 2, 3] (by decide) rfl) hS (lv_sub hl [1, 0] rfl)
  exact (cut 1441) 0 ((fun _ => 0)) _ _ _ (le0) (by decide) (hP.sub [0, 1, 2, 3] rfl) (hD.sub [0, 1, 2, 3] (by decide) rfl) hS (lv_sub hl [1, 0] rfl)
end
section
set_option maxHeartbeats 4000000 in
set_option maxRecDepth 100000 in
theorem c_Li_init (l : Launch) (dC : Nat → ClassId) (dI : Nat → Nat → Nat) (h0 : Nat) (sz : Nat) : Met l y_Li_init w_Li_init ({ frames := 1, cells := 1, slots := 10, locals := 20 }) (cPre dC dI [.ref h0] sz [] [(h0, .inr (4, [.null, .int 0, .long 0]))]) (va_Qv (fun (u : Nat × ClassId) => True) (fun (u : Nat × ClassId) (t : State) => cB dC dI (va_A [(h0, .inr (4, [.null, .int 0, .long 0]))] sz) [(u.2, .int)] [(h0, .inr (4, [.ref u.1, .int 0, .long 0])), (u.1, .inl (u.2, 10, .inl (fun _ => 0)))] t) (va_A [(h0, .inr (4, [.null, .int 0, .long 0]))] sz)) 1 10 (va_A [(h0, .inr (4, [.null, .int 0, .long 0]))] sz) := by
  refine Met.ofW (cc := b_Li_init) (maxL := 1) (ret := none) (by decide) rfl ?_
  intro p e s m args below meth c s₁ B hml hv
  obtain ⟨rfl, hsz, hN, hP, hK, hD0⟩ := hv
  have hx := B.exec
  have hb := B.bytes
  have hr := B.returns
  have hts := atoms_spec (ws := w_Li_init) B.pre
  have hB := big_of hts
  have hown : s.vm.findClass R_Li = some m.cls := findClass_of_methodNamed B.named
  have hlocks := B.notSynchronized
  have hin : meth.name = "<init>" := (name_of_methodNamed B.named B.method).1
  subst hsz
  have hD := hD0.self (sz := s.heap.size)
  generalize hAe : va_A [(h0, .inr (4, [.null, .int 0, .long 0]))] s.heap.size = A at hD ⊢
  have hA : ∀ q : Nat, s.heap.size ≤ q → A q := fun q h => by rw [← hAe]; exact Or.inr h
  have hS : va_S A s.heap s.heap [] := va_S.rf
  have hP : va_P (dC, dI) classes [(h0, .inr (4, [.null, .int 0, .long 0]))] s.heap := hP
  have hl := lv_entry ([.ref h0]) (n := 1) (Nat.le_of_ble_eq_true rfl)
  rw [lg_entry_eq]
  generalize (lg_sl ([.ref h0]) ++ List.replicate (1 - (lg_sl ([.ref h0])).length) Slot.unset).toArray = ls at hl ⊢
  have hl : lv_has ls 1 [(0, .ref h0)] := hl
  refine lv_aload_n hx hb d_Li_init_0 rfl (lv_at hl 0 rfl) ?_
  refine W.objInit hx hb hown (hB _ kb_108) (hB _ kb_1) (hB _ kb_2) rfl (by rw [hml]; exact hl.1) rfl d_Li_init_1 (Nat.le_of_ble_eq_true rfl) (Nat.le_of_ble_eq_true rfl) ?_
  refine W.eq (g2 := F0 m 4 ls []) rfl ?_
  refine lv_aload_n hx hb d_Li_init_4 rfl (lv_at hl 0 rfl) ?_
  refine lv_bipush (v := 10) hx hb d_Li_init_5 (by decide) ?_
  refine va_newa (atype := .int) (ty := .int) (N' := 10) (a0 := (10, .inl (fun _ => 0))) hx hb (hB (.arrayClass .int) kb_106) rfl hK hP hD hS hA (fun _ => rfl) (by decide) (by decide) (by decide) (Nat.le_of_ble_eq_true rfl) (Nat.le_of_ble_eq_true rfl) d_Li_init_7 (fun q_7 k_7 H hK hP hD hS => ?_)
  have hP : va_P (dC, dI) classes [(h0, .inr (4, [.null, .int 0, .long 0])), (q_7, .inl (k_7, 10, .inl (fun _ => 0)))] H := hP
  have hD : va_D A [(h0, .inr (4, [.null, .int 0, .long 0])), (q_7, .inl (k_7, 10, .inl (fun _ => 0)))] := hD
  have hK : va_K (dC, dI) classes [(k_7, .int)] s := hK
  refine W.widen (k := 1) (n := 10) (Nat.le_of_ble_eq_true rfl) (Nat.le_of_ble_eq_true rfl) ?_
  refine va_putF (D := (dC, dI)) (ci := 4) (v := .ref q_7) (ty := (.array .int)) (C := R_Li) (T := F_Li) (N := 3) hx hb hB inC_Li t_Li t_Li_ok n_Li hown hK hP hD hS 0 rfl rfl 0 (by decide) (hB _ kb_109) (fun _ h9 => h9) rfl hin rfl (by decide +kernel) rfl rfl (Nat.le_of_ble_eq_true rfl) d_Li_init_9 (fun H locs hP hD hS => ?_)
  have hP : va_P (dC, dI) classes [(h0, .inr (4, [.ref q_7, .int 0, .long 0])), (q_7, .inl (k_7, 10, .inl (fun _ => 0)))] H := hP
  have hD : va_D A [(h0, .inr (4, [.ref q_7, .int 0, .long 0])), (q_7, .inl (k_7, 10, .inl (fun _ => 0)))] := hD
  refine lv_aload_n hx hb d_Li_init_12 rfl (lv_at hl 0 rfl) ?_
  refine lv_iconst (v := 0) hx hb d_Li_init_13 (by decide) ?_
  refine va_put (D := (dC, dI)) (ci := 4) (v := .int 0) (ty := .int) (C := R_Li) (T := F_Li) (N := 3) hx hb hB inC_Li t_Li t_Li_ok n_Li hown hK hP hD hS 0 rfl rfl 1 (by decide) (hB _ kb_110) (fun _ h9 => h9) rfl (by decide +kernel) rfl rfl (Nat.le_of_ble_eq_true rfl) d_Li_init_14 (fun H locs hP hD hS => ?_)
  have hP : va_P (dC, dI) classes [(h0, .inr (4, [.ref q_7, .int 0, .long 0])), (q_7, .inl (k_7, 10, .inl (fun _ => 0)))] H := hP
  have hD : va_D A [(h0, .inr (4, [.ref q_7, .int 0, .long 0])), (q_7, .inl (k_7, 10, .inl (fun _ => 0)))] := hD
  refine lv_aload_n hx hb d_Li_init_17 rfl (lv_at hl 0 rfl) ?_
  refine lv_lconst (v := 0) hx hb d_Li_init_18 (by decide) ?_
  refine va_put (D := (dC, dI)) (ci := 4) (v := .long 0) (ty := .long) (C := R_Li) (T := F_Li) (N := 3) hx hb hB inC_Li t_Li t_Li_ok n_Li hown hK hP hD hS 0 rfl rfl 2 (by decide) (hB _ kb_111) (fun _ h9 => h9) rfl (by decide +kernel) rfl rfl (Nat.le_of_ble_eq_true rfl) d_Li_init_19 (fun H locs hP hD hS => ?_)
  have hP : va_P (dC, dI) classes [(h0, .inr (4, [.ref q_7, .int 0, .long 0])), (q_7, .inl (k_7, 10, .inl (fun _ => 0)))] H := hP
  have hD : va_D A [(h0, .inr (4, [.ref q_7, .int 0, .long 0])), (q_7, .inl (k_7, 10, .inl (fun _ => 0)))] := hD
  have hP9 := hP.sub (ws' := [(h0, .inr (4, [.ref q_7, .int 0, .long 0])), (q_7, .inl (k_7, 10, .inl (fun _ => 0)))]) [0, 1] rfl
  have hD9 := hD.sub (ws' := [(h0, .inr (4, [.ref q_7, .int 0, .long 0])), (q_7, .inl (k_7, 10, .inl (fun _ => 0)))]) [0, 1] (by decide) rfl
  have hK9 := hK.sub (tys' := [(k_7, .int)]) [0] rfl
  exact W.vret hx hb hr (fun t ht hW => ⟨⟨(q_7, k_7), rfl, trivial, by rw [ht]; exact hP9, va_K.moved hW.alike hK9, hD9⟩, hS.F ht⟩) hS.2.2 d_Li_init_22
set_option maxHeartbeats 4000000 in
set_option maxRecDepth 100000 in
theorem c_Li_isFull (l : Launch) (dC : Nat → ClassId) (dI : Nat → Nat → Nat) (h0 : Nat) (a4 : Nat) (sz : Nat) (cn : Int32) (to : Int64) : Met l y_Li_isFull w_Li_isFull ({ frames := 0, cells := 0, slots := 0, locals := 0 }) (cPre dC dI [.ref h0] sz [] [(h0, .inr (4, [.ref a4, .int cn, .long to]))]) (va_Qi (fun (r : Int32) (u : Unit) => r = bi (10 ≤ cn)) (fun (u : Unit) (t : State) => cB dC dI (va_A [(h0, .inr (4, [.ref a4, .int cn, .long to]))] sz) [] [(h0, .inr (4, [.ref a4, .int cn, .long to]))] t) (va_A [(h0, .inr (4, [.ref a4, .int cn, .long to]))] sz)) 0 0 (va_A [(h0, .inr (4, [.ref a4, .int cn, .long to]))] sz) := by
  refine Met.ofW (cc := b_Li_isFull) (maxL := 1) (ret := (some .boolean)) (by decide) rfl ?_
  intro p e s m args below meth c s₁ B hml hv
  obtain ⟨rfl, hsz, hN, hP, hK, hD0⟩ := hv
  have hx := B.exec
  have hb := B.bytes
  have hr := B.returns
  have hts := atoms_spec (ws := w_Li_isFull) B.pre
  have hB := big_of hts
  have hown : s.vm.findClass R_Li = some m.cls := findClass_of_methodNamed B.named
  have hlocks := B.notSynchronized
  subst hsz
  have hD := hD0.self (sz := s.heap.size)
  generalize hAe : va_A [(h0, .inr (4, [.ref a4, .int cn, .long to]))] s.heap.size = A at hD ⊢
  have hA : ∀ q : Nat, s.heap.size ≤ q → A q := fun q h => by rw [← hAe]; exact Or.inr h
  have hS : va_S A s.heap s.heap [] := va_S.rf
  have hP : va_P (dC, dI) classes [(h0, .inr (4, [.ref a4, .int cn, .long to]))] s.heap := hP
  have hl := lv_entry ([.ref h0]) (n := 1) (Nat.le_of_ble_eq_true rfl)
  rw [lg_entry_eq]
  generalize (lg_sl ([.ref h0]) ++ List.replicate (1 - (lg_sl ([.ref h0])).length) Slot.unset).toArray = ls at hl ⊢
  have hl : lv_has ls 1 [(0, .ref h0)] := hl
  refine lv_aload_n hx hb d_Li_isFull_0 rfl (lv_at hl 0 rfl) ?_
  refine va_get (D := (dC, dI)) (ci := 4) (v := .int cn) (C := R_Li) (T := F_Li) (N := 3) hx hb hB inC_Li hown hK hP 0 rfl rfl 1 (by decide) (hB _ kb_110) (fun _ h9 => h9) rfl d_Li_isFull_1 ?_
  refine lv_bipush (v := 10) hx hb d_Li_isFull_4 (by decide) ?_
  refine lv_icmp_lt (tgt := 13) hx hb d_Li_isFull_6 (by decide) (fun c_6 => ?_) (fun c_6 => ?_)
  · skip
    refine lv_iconst (v := 0) hx hb d_Li_isFull_13 (by decide) ?_
    have hP9 := hP.sub (ws' := [(h0, .inr (4, [.ref a4, .int cn, .long to]))]) [0] rfl
    have hD9 := hD.sub (ws' := [(h0, .inr (4, [.ref a4, .int cn, .long to]))]) [0] (by decide) rfl
    have hK9 := hK.sub (tys' := []) [] rfl
    exact W.zret (v := 0) (ty := .boolean) hx hb hr (rfl) (fun t ht hW => ⟨⟨0, (), rfl, (bi_f (Int32.not_le.mpr c_6)).symm, by rw [ht]; exact hP9, va_K.moved hW.alike hK9, hD9⟩, hS.F ht⟩) hS.2.2 d_Li_isFull_14
  · skip
    refine lv_iconst (v := 1) hx hb d_Li_isFull_9 (by decide) ?_
    refine lv_goto (tgt := 14) hx hb d_Li_isFull_10 (by decide) ?_
    have hP9 := hP.sub (ws' := [(h0, .inr (4, [.ref a4, .int cn, .long to]))]) [0] rfl
    have hD9 := hD.sub (ws' := [(h0, .inr (4, [.ref a4, .int cn, .long to]))]) [0] (by decide) rfl
    have hK9 := hK.sub (tys' := []) [] rfl
    exact W.zret (v := 1) (ty := .boolean) hx hb hr (rfl) (fun t ht hW => ⟨⟨1, (), rfl, (bi_t (Int32.not_lt.mp c_6)).symm, by rw [ht]; exact hP9, va_K.moved hW.alike hK9, hD9⟩, hS.F ht⟩) hS.2.2 d_Li_isFull_14
set_option maxHeartbeats 4000000 in
set_option maxRecDepth 100000 in
theorem c_Li_has (l : Launch) (dC : Nat → ClassId) (dI : Nat → Nat → Nat) (h0 : Nat) (a4 : Nat) (sz : Nat) (cn : Int32) (to : Int64) (p0 : Int32) : Met l y_Li_has w_Li_has ({ frames := 0, cells := 0, slots := 0, locals := 0 }) (cPre dC dI [.ref h0, .int p0] sz [] [(h0, .inr (4, [.ref a4, .int cn, .long to]))]) (va_Qi (fun (r : Int32) (u : Unit) => r = bi (1 ≤ p0 ∧ p0 ≤ cn)) (fun (u : Unit) (t : State) => cB dC dI (va_A [(h0, .inr (4, [.ref a4, .int cn, .long to]))] sz) [] [(h0, .inr (4, [.ref a4, .int cn, .long to]))] t) (va_A [(h0, .inr (4, [.ref a4, .int cn, .long to]))] sz)) 0 0 (va_A [(h0, .inr (4, [.ref a4, .int cn, .long to]))] sz) := by
  refine Met.ofW (cc := b_Li_has) (maxL := 2) (ret := (some .boolean)) (by decide) rfl ?_
  intro p e s m args below meth c s₁ B hml hv
  obtain ⟨rfl, hsz, hN, hP, hK, hD0⟩ := hv
  have hx := B.exec
  have hb := B.bytes
  have hr := B.returns
  have hts := atoms_spec (ws := w_Li_has) B.pre
  have hB := big_of hts
  have hown : s.vm.findClass R_Li = some m.cls := findClass_of_methodNamed B.named
  have hlocks := B.notSynchronized
  subst hsz
  have hD := hD0.self (sz := s.heap.size)
  generalize hAe : va_A [(h0, .inr (4, [.ref a4, .int cn, .long to]))] s.heap.size = A at hD ⊢
  have hA : ∀ q : Nat, s.heap.size ≤ q → A q := fun q h => by rw [← hAe]; exact Or.inr h
  have hS : va_S A s.heap s.heap [] := va_S.rf
  have hP : va_P (dC, dI) classes [(h0, .inr (4, [.ref a4, .int cn, .long to]))] s.heap := hP
  have hl := lv_entry ([.ref h0, .int p0]) (n := 2) (Nat.le_of_ble_eq_true rfl)
  rw [lg_entry_eq]
  generalize (lg_sl ([.ref h0, .int p0]) ++ List.replicate (2 - (lg_sl ([.ref h0, .int p0])).length) Slot.unset).toArray = ls at hl ⊢
  have hl : lv_has ls 2 [(0, .ref h0), (1, .int p0)] := hl
  refine lv_iload_n hx hb d_Li_has_0 rfl (lv_at hl 1 rfl) ?_
  refine lv_iconst (v := 1) hx hb d_Li_has_1 (by decide) ?_
  refine lv_icmp_lt (tgt := 17) hx hb d_Li_has_2 (by decide) (fun c_2 => ?_) (fun c_2 => ?_)
  · skip
    refine lv_iconst (v := 0) hx hb d_Li_has_17 (by decide) ?_
    have hP9 := hP.sub (ws' := [(h0, .inr (4, [.ref a4, .int cn, .long to]))]) [0] rfl
    have hD9 := hD.sub (ws' := [(h0, .inr (4, [.ref a4, .int cn, .long to]))]) [0] (by decide) rfl
    have hK9 := hK.sub (tys' := []) [] rfl
    exact W.zret (v := 0) (ty := .boolean) hx hb hr (rfl) (fun t ht hW => ⟨⟨0, (), rfl, (bi_f (fun h => absurd h.1 (Int32.not_le.mpr c_2))).symm, by rw [ht]; exact hP9, va_K.moved hW.alike hK9, hD9⟩, hS.F ht⟩) hS.2.2 d_Li_has_18
  · skip
    refine lv_iload_n hx hb d_Li_has_5 rfl (lv_at hl 1 rfl) ?_
    refine lv_aload_n hx hb d_Li_has_6 rfl (lv_at hl 0 rfl) ?_
    refine va_get (D := (dC, dI)) (ci := 4) (v := .int cn) (C := R_Li) (T := F_Li) (N := 3) hx hb hB inC_Li hown hK hP 0 rfl rfl 1 (by decide) (hB _ kb_110) (fun _ h9 => h9) rfl d_Li_has_7 ?_
    refine lv_icmp_gt (tgt := 17) hx hb d_Li_has_10 (by decide) (fun c_10 => ?_) (fun c_10 => ?_)
    · skip
      refine lv_iconst (v := 0) hx hb d_Li_has_17 (by decide) ?_
      have hP9 := hP.sub (ws' := [(h0, .inr (4, [.ref a4, .int cn, .long to]))]) [0] rfl
      have hD9 := hD.sub (ws' := [(h0, .inr (4, [.ref a4, .int cn, .long to]))]) [0] (by decide) rfl
      have hK9 := hK.sub (tys' := []) [] rfl
      exact W.zret (v := 0) (ty := .boolean) hx hb hr (rfl) (fun t ht hW => ⟨⟨0, (), rfl, (bi_f (fun h => absurd h.2 (Int32.not_le.mpr c_10))).symm, by rw [ht]; exact hP9, va_K.moved hW.alike hK9, hD9⟩, hS.F ht⟩) hS.2.2 d_Li_has_18
    · skip
      refine lv_iconst (v := 1) hx hb d_Li_has_13 (by decide) ?_
      refine lv_goto (tgt := 18) hx hb d_Li_has_14 (by decide) ?_
      have hP9 := hP.sub (ws' := [(h0, .inr (4, [.ref a4, .int cn, .long to]))]) [0] rfl
      have hD9 := hD.sub (ws' := [(h0, .inr (4, [.ref a4, .int cn, .long to]))]) [0] (by decide) rfl
      have hK9 := hK.sub (tys' := []) [] rfl
      exact W.zret (v := 1) (ty := .boolean) hx hb hr (rfl) (fun t ht hW => ⟨⟨1, (), rfl, (bi_t ⟨Int32.not_lt.mp c_2, Int32.not_lt.mp c_10⟩).symm, by rw [ht]; exact hP9, va_K.moved hW.alike hK9, hD9⟩, hS.F ht⟩) hS.2.2 d_Li_has_18
set_option maxHeartbeats 4000000 in
set_option maxRecDepth 100000 in
theorem c_Li_add (l : Launch) (dC : Nat → ClassId) (dI : Nat → Nat → Nat) (h0 : Nat) (a4 : Nat) (e4 : ClassId) (sz : Nat) (cn : Int32) (to : Int64) (f4 : Nat → Int32) (p0 : Int32) (hc0 : 0 ≤ cn) : Met l y_Li_add w_Li_add ({ frames := 0, cells := 0, slots := 0, locals := 0 }) (cPre dC dI [.ref h0, .int p0] sz [(e4, .int)] [(h0, .inr (4, [.ref a4, .int cn, .long to])), (a4, .inl (e4, 10, .inl f4))]) (va_Qi (fun (r : Int32) (u : Int32 × Int64 × (Nat → Int32)) => (¬ 10 ≤ cn → r = cn + 1 ∧ u.1 = cn + 1) ∧ (10 ≤ cn → r = cn ∧ u.1 = cn)) (fun (u : Int32 × Int64 × (Nat → Int32)) (t : State) => cB dC dI (va_A [(h0, .inr (4, [.ref a4, .int cn, .long to])), (a4, .inl (e4, 10, .inl f4))] sz) [(e4, .int)] [(h0, .inr (4, [.ref a4, .int u.1, .long u.2.1])), (a4, .inl (e4, 10, .inl (u.2.2)))] t) (va_A [(h0, .inr (4, [.ref a4, .int cn, .long to])), (a4, .inl (e4, 10, .inl f4))] sz)) 0 0 (va_A [(h0, .inr (4, [.ref a4, .int cn, .long to])), (a4, .inl (e4, 10, .inl f4))] sz) := by
  refine Met.ofW (cc := b_Li_add) (maxL := 2) (ret := (some .int)) (by decide) rfl ?_
  intro p e s m args below meth c s₁ B hml hv
  obtain ⟨rfl, hsz, hN, hP, hK, hD0⟩ := hv
  have hx := B.exec
  have hb := B.bytes
  have hr := B.returns
  have hts := atoms_spec (ws := w_Li_add) B.pre
  have hB := big_of hts
  have hown : s.vm.findClass R_Li = some m.cls := findClass_of_methodNamed B.named
  have hlocks := B.notSynchronized
  subst hsz
  have hD := hD0.self (sz := s.heap.size)
  generalize hAe : va_A [(h0, .inr (4, [.ref a4, .int cn, .long to])), (a4, .inl (e4, 10, .inl f4))] s.heap.size = A at hD ⊢
  have hA : ∀ q : Nat, s.heap.size ≤ q → A q := fun q h => by rw [← hAe]; exact Or.inr h
  have hS : va_S A s.heap s.heap [] := va_S.rf
  have hP : va_P (dC, dI) classes [(h0, .inr (4, [.ref a4, .int cn, .long to])), (a4, .inl (e4, 10, .inl f4))] s.heap := hP
  have hl := lv_entry ([.ref h0, .int p0]) (n := 2) (Nat.le_of_ble_eq_true rfl)
  rw [lg_entry_eq]
  generalize (lg_sl ([.ref h0, .int p0]) ++ List.replicate (2 - (lg_sl ([.ref h0, .int p0])).length) Slot.unset).toArray = ls at hl ⊢
  have hl : lv_has ls 2 [(0, .ref h0), (1, .int p0)] := hl
  refine lv_aload_n hx hb d_Li_add_0 rfl (lv_at hl 0 rfl) ?_
  refine va_get (D := (dC, dI)) (ci := 4) (v := .int cn) (C := R_Li) (T := F_Li) (N := 3) hx hb hB inC_Li hown hK hP 0 rfl rfl 1 (by decide) (hB _ kb_110) (fun _ h9 => h9) rfl d_Li_add_1 ?_
  refine lv_bipush (v := 10) hx hb d_Li_add_4 (by decide) ?_
  refine lv_icmp_ge (tgt := 40) hx hb d_Li_add_6 (by decide) (fun c_6 => ?_) (fun c_6 => ?_)
  · skip
    refine lv_aload_n hx hb d_Li_add_40 rfl (lv_at hl 0 rfl) ?_
    refine va_get (D := (dC, dI)) (ci := 4) (v := .int cn) (C := R_Li) (T := F_Li) (N := 3) hx hb hB inC_Li hown hK hP 0 rfl rfl 1 (by decide) (hB _ kb_110) (fun _ h9 => h9) rfl d_Li_add_41 ?_
    have hP9 := hP.sub (ws' := [(h0, .inr (4, [.ref a4, .int cn, .long to])), (a4, .inl (e4, 10, .inl f4))]) [0, 1] rfl
    have hD9 := hD.sub (ws' := [(h0, .inr (4, [.ref a4, .int cn, .long to])), (a4, .inl (e4, 10, .inl f4))]) [0, 1] (by decide) rfl
    have hK9 := hK.sub (tys' := [(e4, .int)]) [0] rfl
    exact W.iret (v := cn) hx hb hr (fun t ht hW => ⟨⟨cn, (cn, to, f4), rfl, ⟨fun h => absurd c_6 h, fun _ => ⟨rfl, rfl⟩⟩, by rw [ht]; exact hP9, va_K.moved hW.alike hK9, hD9⟩, hS.F ht⟩) hS.2.2 d_Li_add_44
  · skip
    refine lv_aload_n hx hb d_Li_add_9 rfl (lv_at hl 0 rfl) ?_
    refine va_get (D := (dC, dI)) (ci := 4) (v := .ref a4) (C := R_Li) (T := F_Li) (N := 3) hx hb hB inC_Li hown hK hP 0 rfl rfl 0 (by decide) (hB _ kb_109) (fun _ h9 => h9) rfl d_Li_add_10 ?_
    refine lv_aload_n hx hb d_Li_add_13 rfl (lv_at hl 0 rfl) ?_
    refine va_get (D := (dC, dI)) (ci := 4) (v := .int cn) (C := R_Li) (T := F_Li) (N := 3) hx hb hB inC_Li hown hK hP 0 rfl rfl 1 (by decide) (hB _ kb_110) (fun _ h9 => h9) rfl d_Li_add_14 ?_
    refine lv_iload_n hx hb d_Li_add_17 rfl (lv_at hl 1 rfl) ?_
    have h_18 : vp_in cn 10 := vinB 10 hc0 c_6 (by decide)
    refine va_iast hx hb hK hP hD hS 1 0 rfl rfl h_18 d_Li_add_18 (fun H locs hP hD hS => ?_)
    obtain ⟨f_18, ef_18⟩ : ∃ y, y = upd f4 cn.toNatClampNeg p0 := ⟨_, rfl⟩
    rw [← ef_18] at hP hD
    have hP : va_P (dC, dI) classes [(h0, .inr (4, [.ref a4, .int cn, .long to])), (a4, .inl (e4, 10, .inl f_18))] H := hP
    have hD : va_D A [(h0, .inr (4, [.ref a4, .int cn, .long to])), (a4, .inl (e4, 10, .inl f_18))] := hD
    refine lv_aload_n hx hb d_Li_add_19 rfl (lv_at hl 0 rfl) ?_
    refine lv_dup hx hb d_Li_add_20 rfl ?_
    refine va_get (D := (dC, dI)) (ci := 4) (v := .long to) (C := R_Li) (T := F_Li) (N := 3) hx hb hB inC_Li hown hK hP 0 rfl rfl 2 (by decide) (hB _ kb_111) (fun _ h9 => h9) rfl d_Li_add_21 ?_
    refine lv_iload_n hx hb d_Li_add_24 rfl (lv_at hl 1 rfl) ?_
    refine lv_i2l hx hb d_Li_add_25 rfl ?_
    refine lv_topl (fun x_25 ex_25 => ?_)
    refine lv_ladd hx hb d_Li_add_26 ?_
    refine lv_topl (fun x_26 ex_26 => ?_)
    refine va_put (D := (dC, dI)) (ci := 4) (v := .long x_26) (ty := .long) (C := R_Li) (T := F_Li) (N := 3) hx hb hB inC_Li t_Li t_Li_ok n_Li hown hK hP hD hS 0 rfl rfl 2 (by decide) (hB _ kb_111) (fun _ h9 => h9) rfl (by decide +kernel) rfl rfl (Nat.le_of_ble_eq_true rfl) d_Li_add_27 (fun H locs hP hD hS => ?_)
    have hP : va_P (dC, dI) classes [(h0, .inr (4, [.ref a4, .int cn, .long x_26])), (a4, .inl (e4, 10, .inl f_18))] H := hP
    have hD : va_D A [(h0, .inr (4, [.ref a4, .int cn, .long x_26])), (a4, .inl (e4, 10, .inl f_18))] := hD
    refine lv_aload_n hx hb d_Li_add_30 rfl (lv_at hl 0 rfl) ?_
    refine lv_dup hx hb d_Li_add_31 rfl ?_
    refine va_get (D := (dC, dI)) (ci := 4) (v := .int cn) (C := R_Li) (T := F_Li) (N := 3) hx hb hB inC_Li hown hK hP 0 rfl rfl 1 (by decide) (hB _ kb_110) (fun _ h9 => h9) rfl d_Li_add_32 ?_
    refine lv_iconst (v := 1) hx hb d_Li_add_35 (by decide) ?_
    refine lv_iadd hx hb d_Li_add_36 ?_
    refine lv_topi (fun x_36 ex_36 => ?_)
    refine va_put (D := (dC, dI)) (ci := 4) (v := .int x_36) (ty := .int) (C := R_Li) (T := F_Li) (N := 3) hx hb hB inC_Li t_Li t_Li_ok n_Li hown hK hP hD hS 0 rfl rfl 1 (by decide) (hB _ kb_110) (fun _ h9 => h9) rfl (by decide +kernel) rfl rfl (Nat.le_of_ble_eq_true rfl) d_Li_add_37 (fun H locs hP hD hS => ?_)
    have hP : va_P (dC, dI) classes [(h0, .inr (4, [.ref a4, .int x_36, .long x_26])), (a4, .inl (e4, 10, .inl f_18))] H := hP
    have hD : va_D A [(h0, .inr (4, [.ref a4, .int x_36, .long x_26])), (a4, .inl (e4, 10, .inl f_18))] := hD
    refine lv_aload_n hx hb d_Li_add_40 rfl (lv_at hl 0 rfl) ?_
    refine va_get (D := (dC, dI)) (ci := 4) (v := .int x_36) (C := R_Li) (T := F_Li) (N := 3) hx hb hB inC_Li hown hK hP 0 rfl rfl 1 (by decide) (hB _ kb_110) (fun _ h9 => h9) rfl d_Li_add_41 ?_
    have hP9 := hP.sub (ws' := [(h0, .inr (4, [.ref a4, .int x_36, .long x_26])), (a4, .inl (e4, 10, .inl f_18))]) [0, 1] rfl
    have hD9 := hD.sub (ws' := [(h0, .inr (4, [.ref a4, .int x_36, .long x_26])), (a4, .inl (e4, 10, .inl f_18))]) [0, 1] (by decide) rfl
    have hK9 := hK.sub (tys' := [(e4, .int)]) [0] rfl
    exact W.iret (v := x_36) hx hb hr (fun t ht hW => ⟨⟨x_36, (x_36, x_26, f_18), rfl, ⟨fun _ => ⟨ex_36, ex_36⟩, fun h => absurd h c_6⟩, by rw [ht]; exact hP9, va_K.moved hW.alike hK9, hD9⟩, hS.F ht⟩) hS.2.2 d_Li_add_44
set_option maxHeartbeats 4000000 in
set_option maxRecDepth 100000 in
theorem c_Li_weightOf (l : Launch) (dC : Nat → ClassId) (dI : Nat → Nat → Nat) (h0 : Nat) (a4 : Nat) (e4 : ClassId) (sz : Nat) (cn : Int32) (to : Int64) (f4 : Nat → Int32) (p0 : Int32) : Met l y_Li_weightOf w_Li_weightOf ({ frames := 0, cells := 0, slots := 0, locals := 0 }) (cPre dC dI [.ref h0, .int p0] sz [(e4, .int)] [(h0, .inr (4, [.ref a4, .int cn, .long to])), (a4, .inl (e4, 10, .inl f4))]) (va_Qi (fun (r : Int32) (u : Unit) => True) (fun (u : Unit) (t : State) => cB dC dI (va_A [(h0, .inr (4, [.ref a4, .int cn, .long to])), (a4, .inl (e4, 10, .inl f4))] sz) [(e4, .int)] [(h0, .inr (4, [.ref a4, .int cn, .long to])), (a4, .inl (e4, 10, .inl f4))] t) (va_A [(h0, .inr (4, [.ref a4, .int cn, .long to])), (a4, .inl (e4, 10, .inl f4))] sz)) 0 0 (va_A [(h0, .inr (4, [.ref a4, .int cn, .long to])), (a4, .inl (e4, 10, .inl f4))] sz) := by
  refine Met.ofW (cc := b_Li_weightOf) (maxL := 2) (ret := (some .int)) (by decide) rfl ?_
  intro p e s m args below meth c s₁ B hml hv
  obtain ⟨rfl, hsz, hN, hP, hK, hD0⟩ := hv
  have hx := B.exec
  have hb := B.bytes
  have hr := B.returns
  have hts := atoms_spec (ws := w_Li_weightOf) B.pre
  have hB := big_of hts
  have hown : s.vm.findClass R_Li = some m.cls := findClass_of_methodNamed B.named
  have hlocks := B.notSynchronized
  subst hsz
  have hD := hD0.self (sz := s.heap.size)
  generalize hAe : va_A [(h0, .inr (4, [.ref a4, .int cn, .long to])), (a4, .inl (e4, 10, .inl f4))] s.heap.size = A at hD ⊢
  have hA : ∀ q : Nat, s.heap.size ≤ q → A q := fun q h => by rw [← hAe]; exact Or.inr h
  have hS : va_S A s.heap s.heap [] := va_S.rf
  have hP : va_P (dC, dI) classes [(h0, .inr (4, [.ref a4, .int cn, .long to])), (a4, .inl (e4, 10, .inl f4))] s.heap := hP
  have hl := lv_entry ([.ref h0, .int p0]) (n := 2) (Nat.le_of_ble_eq_true rfl)
  rw [lg_entry_eq]
  generalize (lg_sl ([.ref h0, .int p0]) ++ List.replicate (2 - (lg_sl ([.ref h0, .int p0])).length) Slot.unset).toArray = ls at hl ⊢
  have hl : lv_has ls 2 [(0, .ref h0), (1, .int p0)] := hl
  refine lv_iload_n hx hb d_Li_weightOf_0 rfl (lv_at hl 1 rfl) ?_
  refine lv_iconst (v := 1) hx hb d_Li_weightOf_1 (by decide) ?_
  refine lv_icmp_lt (tgt := 22) hx hb d_Li_weightOf_2 (by decide) (fun c_2 => ?_) (fun c_2 => ?_)
  · skip
    refine lv_iconst (v := 0) hx hb d_Li_weightOf_22 (by decide) ?_
    have hP9 := hP.sub (ws' := [(h0, .inr (4, [.ref a4, .int cn, .long to])), (a4, .inl (e4, 10, .inl f4))]) [0, 1] rfl
    have hD9 := hD.sub (ws' := [(h0, .inr (4, [.ref a4, .int cn, .long to])), (a4, .inl (e4, 10, .inl f4))]) [0, 1] (by decide) rfl
    have hK9 := hK.sub (tys' := [(e4, .int)]) [0] rfl
    exact W.iret (v := 0) hx hb hr (fun t ht hW => ⟨⟨0, (), rfl, trivial, by rw [ht]; exact hP9, va_K.moved hW.alike hK9, hD9⟩, hS.F ht⟩) hS.2.2 d_Li_weightOf_23
  · skip
    refine lv_iload_n hx hb d_Li_weightOf_5 rfl (lv_at hl 1 rfl) ?_
    refine lv_bipush (v := 10) hx hb d_Li_weightOf_6 (by decide) ?_
    refine lv_icmp_gt (tgt := 22) hx hb d_Li_weightOf_8 (by decide) (fun c_8 => ?_) (fun c_8 => ?_)
    · skip
      refine lv_iconst (v := 0) hx hb d_Li_weightOf_22 (by decide) ?_
      have hP9 := hP.sub (ws' := [(h0, .inr (4, [.ref a4, .int cn, .long to])), (a4, .inl (e4, 10, .inl f4))]) [0, 1] rfl
      have hD9 := hD.sub (ws' := [(h0, .inr (4, [.ref a4, .int cn, .long to])), (a4, .inl (e4, 10, .inl f4))]) [0, 1] (by decide) rfl
      have hK9 := hK.sub (tys' := [(e4, .int)]) [0] rfl
      exact W.iret (v := 0) hx hb hr (fun t ht hW => ⟨⟨0, (), rfl, trivial, by rw [ht]; exact hP9, va_K.moved hW.alike hK9, hD9⟩, hS.F ht⟩) hS.2.2 d_Li_weightOf_23
    · skip
      refine lv_aload_n hx hb d_Li_weightOf_11 rfl (lv_at hl 0 rfl) ?_
      refine va_get (D := (dC, dI)) (ci := 4) (v := .ref a4) (C := R_Li) (T := F_Li) (N := 3) hx hb hB inC_Li hown hK hP 0 rfl rfl 0 (by decide) (hB _ kb_109) (fun _ h9 => h9) rfl d_Li_weightOf_12 ?_
      refine lv_iload_n hx hb d_Li_weightOf_15 rfl (lv_at hl 1 rfl) ?_
      refine lv_iconst (v := 1) hx hb d_Li_weightOf_16 (by decide) ?_
      refine lv_isub hx hb d_Li_weightOf_17 ?_
      refine lv_topi (fun x_17 ex_17 => ?_)
      have h_18 : vp_in x_17 10 := vinM c_2 c_8 ex_17
      refine va_iald hx hb hK hP 1 0 rfl rfl h_18 d_Li_weightOf_18 ?_
      refine lv_topi (fun x_18 ex_18 => ?_)
      refine lv_goto (tgt := 23) hx hb d_Li_weightOf_19 (by decide) ?_
      have hP9 := hP.sub (ws' := [(h0, .inr (4, [.ref a4, .int cn, .long to])), (a4, .inl (e4, 10, .inl f4))]) [0, 1] rfl
      have hD9 := hD.sub (ws' := [(h0, .inr (4, [.ref a4, .int cn, .long to])), (a4, .inl (e4, 10, .inl f4))]) [0, 1] (by decide) rfl
      have hK9 := hK.sub (tys' := [(e4, .int)]) [0] rfl
      exact W.iret (v := x_18) hx hb hr (fun t ht hW => ⟨⟨x_18, (), rfl, trivial, by rw [ht]; exact hP9, va_K.moved hW.alike hK9, hD9⟩, hS.F ht⟩) hS.2.2 d_Li_weightOf_23
end
