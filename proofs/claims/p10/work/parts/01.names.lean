-- ===== PART A: goes FIRST, ahead of the names: the tables' words, and 'selects' of the private methods out of them =====
/-- a private method of a class that the tables say can be made, by its rows of tables_1 -/
def lw_okq (q : MethodName × Nat) : Prop := (q.1.cls ≠ "java/lang/invoke/MethodHandle" ∧ q.1.cls ≠ "java/lang/invoke/VarHandle") ∧ Cond.instantiable q.1.cls q.2 ∈ tables_1 ∧ Cond.privateMethod q.1 ∈ tables_1 ∧ Cond.instanceMethod q.1 ∈ tables_1
theorem lw_p0 : lw_okq (⟨"ChargeTalk$Talk", "isLate", "(J)Z"⟩, 6) := ⟨⟨by decide +kernel, by decide +kernel⟩, List.mem_of_getElem? (i := 47) (by decide +kernel), List.mem_of_getElem? (i := 190) (by decide +kernel), List.mem_of_getElem? (i := 191) (by decide +kernel)⟩
theorem lw_p1 : lw_okq (⟨"ChargeTalk$Talk", "phaseAfter", "(IJZ)I"⟩, 6) := ⟨⟨by decide +kernel, by decide +kernel⟩, List.mem_of_getElem? (i := 47) (by decide +kernel), List.mem_of_getElem? (i := 199) (by decide +kernel), List.mem_of_getElem? (i := 200) (by decide +kernel)⟩
theorem lw_p2 : lw_okq (⟨"ChargeTalk$Talk", "keep", "(IJJ)V"⟩, 6) := ⟨⟨by decide +kernel, by decide +kernel⟩, List.mem_of_getElem? (i := 47) (by decide +kernel), List.mem_of_getElem? (i := 218) (by decide +kernel), List.mem_of_getElem? (i := 219) (by decide +kernel)⟩
theorem lw_p3 : lw_okq (⟨"ChargeTalk$Tariff", "measureRoom", "(II)V"⟩, 5) := ⟨⟨by decide +kernel, by decide +kernel⟩, List.mem_of_getElem? (i := 73) (by decide +kernel), List.mem_of_getElem? (i := 257) (by decide +kernel), List.mem_of_getElem? (i := 258) (by decide +kernel)⟩
theorem lw_p4 : lw_okq (⟨"ChargeTalk$Tariff", "buyCheapest", "(J)J"⟩, 5) := ⟨⟨by decide +kernel, by decide +kernel⟩, List.mem_of_getElem? (i := 73) (by decide +kernel), List.mem_of_getElem? (i := 264) (by decide +kernel), List.mem_of_getElem? (i := 265) (by decide +kernel)⟩
theorem lw_p5 : lw_okq (⟨"ChargeTalk$Tariff", "spread", "(II)V"⟩, 5) := ⟨⟨by decide +kernel, by decide +kernel⟩, List.mem_of_getElem? (i := 73) (by decide +kernel), List.mem_of_getElem? (i := 271) (by decide +kernel), List.mem_of_getElem? (i := 272) (by decide +kernel)⟩
theorem lw_p6 : lw_okq (⟨"java/lang/Throwable", "fillInStackTrace", "(I)Ljava/lang/Throwable;"⟩, 6) := ⟨⟨by decide +kernel, by decide +kernel⟩, List.mem_of_getElem? (i := 391) (by decide +kernel), List.mem_of_getElem? (i := 389) (by decide +kernel), List.mem_of_getElem? (i := 390) (by decide +kernel)⟩
theorem lw_p7 : lw_okq (⟨"ChargeTalkModel", "isOn", "()Z"⟩, 19) := ⟨⟨by decide +kernel, by decide +kernel⟩, List.mem_of_getElem? (i := 431) (by decide +kernel), List.mem_of_getElem? (i := 505) (by decide +kernel), List.mem_of_getElem? (i := 506) (by decide +kernel)⟩
theorem lw_p8 : lw_okq (⟨"ChargeTalkModel", "allows", "()I"⟩, 19) := ⟨⟨by decide +kernel, by decide +kernel⟩, List.mem_of_getElem? (i := 431) (by decide +kernel), List.mem_of_getElem? (i := 513) (by decide +kernel), List.mem_of_getElem? (i := 514) (by decide +kernel)⟩
theorem lw_p9 : lw_okq (⟨"ChargeTalkModel", "isTime", "(J)Z"⟩, 19) := ⟨⟨by decide +kernel, by decide +kernel⟩, List.mem_of_getElem? (i := 431) (by decide +kernel), List.mem_of_getElem? (i := 523) (by decide +kernel), List.mem_of_getElem? (i := 524) (by decide +kernel)⟩
theorem lw_p10 : lw_okq (⟨"ChargeTalkModel", "behind", "(IJJ)I"⟩, 19) := ⟨⟨by decide +kernel, by decide +kernel⟩, List.mem_of_getElem? (i := 431) (by decide +kernel), List.mem_of_getElem? (i := 529) (by decide +kernel), List.mem_of_getElem? (i := 530) (by decide +kernel)⟩
theorem lw_p11 : lw_okq (⟨"ChargeTalkModel", "priceOf", "(I)I"⟩, 19) := ⟨⟨by decide +kernel, by decide +kernel⟩, List.mem_of_getElem? (i := 431) (by decide +kernel), List.mem_of_getElem? (i := 551) (by decide +kernel), List.mem_of_getElem? (i := 552) (by decide +kernel)⟩
def lw_privs_1 : List (MethodName × Nat) := [(⟨"ChargeTalk$Talk", "isLate", "(J)Z"⟩, 6), (⟨"ChargeTalk$Talk", "phaseAfter", "(IJZ)I"⟩, 6), (⟨"ChargeTalk$Talk", "keep", "(IJJ)V"⟩, 6), (⟨"ChargeTalk$Tariff", "measureRoom", "(II)V"⟩, 5), (⟨"ChargeTalk$Tariff", "buyCheapest", "(J)J"⟩, 5), (⟨"ChargeTalk$Tariff", "spread", "(II)V"⟩, 5), (⟨"java/lang/Throwable", "fillInStackTrace", "(I)Ljava/lang/Throwable;"⟩, 6), (⟨"ChargeTalkModel", "isOn", "()Z"⟩, 19), (⟨"ChargeTalkModel", "allows", "()I"⟩, 19), (⟨"ChargeTalkModel", "isTime", "(J)Z"⟩, 19), (⟨"ChargeTalkModel", "behind", "(IJJ)I"⟩, 19), (⟨"ChargeTalkModel", "priceOf", "(I)I"⟩, 19)]
theorem lw_r1 : ∀ q ∈ lw_privs_1, lw_okq q := List.forall_mem_cons.mpr ⟨lw_p0, List.forall_mem_cons.mpr ⟨lw_p1, List.forall_mem_cons.mpr ⟨lw_p2, List.forall_mem_cons.mpr ⟨lw_p3, List.forall_mem_cons.mpr ⟨lw_p4, List.forall_mem_cons.mpr ⟨lw_p5, List.forall_mem_cons.mpr ⟨lw_p6, List.forall_mem_cons.mpr ⟨lw_p7, List.forall_mem_cons.mpr ⟨lw_p8, List.forall_mem_cons.mpr ⟨lw_p9, List.forall_mem_cons.mpr ⟨lw_p10, List.forall_mem_cons.mpr ⟨lw_p11, fun _ h => absurd h List.not_mem_nil⟩⟩⟩⟩⟩⟩⟩⟩⟩⟩⟩⟩
def lw_privs : List (MethodName × Nat) := lw_privs_1
def lw_tbl : List Cond := k2_sels lw_privs ++ tables_1
theorem lw_privs_ok : ∀ q ∈ lw_privs, lw_okq q := lw_r1
def R_Ck : String := "ChargeTalk$Clock"
def R_Pi : String := "ChargeTalk$Pilot"
def R_Ta : String := "ChargeTalk$Talk"
def R_Tf : String := "ChargeTalk$Tariff"
def R_Li : String := "ChargeTalk$Line"
def R_X : String := "ChargeTalk"
def R_Mo : String := "ChargeTalkModel"
def R_Law : String := "ChargeTalkLaw"
def F_Ck : u_T := fun k => match k with
  | _ => ("ChargeTalk$Clock", "told", "J", false)
def t_Ck : Nat → FieldType := fun k => match k with
  | _ => .long
abbrev w0_Ck : List Cond := u_ws R_Ck F_Ck 1
theorem n_Ck : ∀ a, a < 1 → ∀ b, b < 1 → a ≠ b → (F_Ck a).2.1 ≠ (F_Ck b).2.1 := by decide +kernel
theorem t_Ck_ok : ∀ k, k < 1 → parseFieldDescriptor (F_Ck k).2.2.1 = some (t_Ck k) := by decide +kernel
def F_Pi : u_T := fun k => match k with
  | 0 => ("ChargeTalk$Pilot", "level", "I", false)
  | _ => ("ChargeTalk$Pilot", "thousandths", "J", false)
def t_Pi : Nat → FieldType := fun k => match k with
  | 0 => .int
  | _ => .long
abbrev w0_Pi : List Cond := u_ws R_Pi F_Pi 2
theorem n_Pi : ∀ a, a < 2 → ∀ b, b < 2 → a ≠ b → (F_Pi a).2.1 ≠ (F_Pi b).2.1 := by decide +kernel
theorem t_Pi_ok : ∀ k, k < 2 → parseFieldDescriptor (F_Pi k).2.2.1 = some (t_Pi k) := by decide +kernel
def F_Ta : u_T := fun k => match k with
  | 0 => ("ChargeTalk$Talk", "phase", "I", false)
  | 1 => ("ChargeTalk$Talk", "direct", "Z", false)
  | 2 => ("ChargeTalk$Talk", "limit", "J", false)
  | 3 => ("ChargeTalk$Talk", "current", "J", false)
  | 4 => ("ChargeTalk$Talk", "lastMessage", "J", false)
  | _ => ("ChargeTalk$Talk", "energy", "J", false)
def t_Ta : Nat → FieldType := fun k => match k with
  | 0 => .int
  | 1 => .boolean
  | 2 => .long
  | 3 => .long
  | 4 => .long
  | _ => .long
abbrev w0_Ta : List Cond := u_ws R_Ta F_Ta 6
theorem n_Ta : ∀ a, a < 6 → ∀ b, b < 6 → a ≠ b → (F_Ta a).2.1 ≠ (F_Ta b).2.1 := by decide +kernel
theorem t_Ta_ok : ∀ k, k < 6 → parseFieldDescriptor (F_Ta k).2.2.1 = some (t_Ta k) := by decide +kernel
def F_Tf : u_T := fun k => match k with
  | 0 => ("ChargeTalk$Tariff", "centsIn", "[I", true)
  | 1 => ("ChargeTalk$Tariff", "units", "[I", true)
  | 2 => ("ChargeTalk$Tariff", "roomAt", "[J", true)
  | 3 => ("ChargeTalk$Tariff", "spans", "I", false)
  | _ => ("ChargeTalk$Tariff", "lacking", "J", false)
def t_Tf : Nat → FieldType := fun k => match k with
  | 0 => .array .int
  | 1 => .array .int
  | 2 => .array .long
  | 3 => .int
  | _ => .long
abbrev w0_Tf : List Cond := u_ws R_Tf F_Tf 5
theorem n_Tf : ∀ a, a < 5 → ∀ b, b < 5 → a ≠ b → (F_Tf a).2.1 ≠ (F_Tf b).2.1 := by decide +kernel
theorem t_Tf_ok : ∀ k, k < 5 → parseFieldDescriptor (F_Tf k).2.2.1 = some (t_Tf k) := by decide +kernel
def F_Li : u_T := fun k => match k with
  | 0 => ("ChargeTalk$Line", "weights", "[I", true)
  | 1 => ("ChargeTalk$Line", "count", "I", false)
  | _ => ("ChargeTalk$Line", "total", "J", false)
def t_Li : Nat → FieldType := fun k => match k with
  | 0 => .array .int
  | 1 => .int
  | _ => .long
abbrev w0_Li : List Cond := u_ws R_Li F_Li 3
theorem n_Li : ∀ a, a < 3 → ∀ b, b < 3 → a ≠ b → (F_Li a).2.1 ≠ (F_Li b).2.1 := by decide +kernel
theorem t_Li_ok : ∀ k, k < 3 → parseFieldDescriptor (F_Li k).2.2.1 = some (t_Li k) := by decide +kernel
def F_X : u_T := fun k => match k with
  | 0 => ("ChargeTalk", "clock", "LChargeTalk$Clock;", true)
  | 1 => ("ChargeTalk", "signal", "LChargeTalk$Pilot;", true)
  | 2 => ("ChargeTalk", "talk", "LChargeTalk$Talk;", true)
  | 3 => ("ChargeTalk", "tariff", "LChargeTalk$Tariff;", true)
  | 4 => ("ChargeTalk", "line", "LChargeTalk$Line;", true)
  | _ => ("ChargeTalk", "plugLocked", "Z", false)
def t_X : Nat → FieldType := fun k => match k with
  | 0 => .object "ChargeTalk$Clock"
  | 1 => .object "ChargeTalk$Pilot"
  | 2 => .object "ChargeTalk$Talk"
  | 3 => .object "ChargeTalk$Tariff"
  | 4 => .object "ChargeTalk$Line"
  | _ => .boolean
abbrev w0_X : List Cond := u_ws R_X F_X 6
theorem n_X : ∀ a, a < 6 → ∀ b, b < 6 → a ≠ b → (F_X a).2.1 ≠ (F_X b).2.1 := by decide +kernel
theorem t_X_ok : ∀ k, k < 6 → parseFieldDescriptor (F_X k).2.2.1 = some (t_X k) := by decide +kernel
def F_Mo : u_T := fun k => match k with
  | 0 => ("ChargeTalkModel", "code", "I", false)
  | 1 => ("ChargeTalkModel", "pilot", "I", false)
  | 2 => ("ChargeTalkModel", "share", "I", false)
  | 3 => ("ChargeTalkModel", "locked", "Z", false)
  | 4 => ("ChargeTalkModel", "phase", "I", false)
  | 5 => ("ChargeTalkModel", "direct", "Z", false)
  | 6 => ("ChargeTalkModel", "limit", "J", false)
  | 7 => ("ChargeTalkModel", "energy", "J", false)
  | 8 => ("ChargeTalkModel", "last", "J", false)
  | 9 => ("ChargeTalkModel", "current", "J", false)
  | 10 => ("ChargeTalkModel", "now", "J", false)
  | 11 => ("ChargeTalkModel", "spans", "I", false)
  | 12 => ("ChargeTalkModel", "from", "[I", true)
  | 13 => ("ChargeTalkModel", "to", "[I", true)
  | 14 => ("ChargeTalkModel", "cents", "[I", true)
  | 15 => ("ChargeTalkModel", "planned", "[J", true)
  | 16 => ("ChargeTalkModel", "lacks", "J", false)
  | 17 => ("ChargeTalkModel", "cars", "I", false)
  | _ => ("ChargeTalkModel", "weight", "[I", true)
def t_Mo : Nat → FieldType := fun k => match k with
  | 0 => .int
  | 1 => .int
  | 2 => .int
  | 3 => .boolean
  | 4 => .int
  | 5 => .boolean
  | 6 => .long
  | 7 => .long
  | 8 => .long
  | 9 => .long
  | 10 => .long
  | 11 => .int
  | 12 => .array .int
  | 13 => .array .int
  | 14 => .array .int
  | 15 => .array .long
  | 16 => .long
  | 17 => .int
  | _ => .array .int
abbrev w0_Mo : List Cond := u_ws R_Mo F_Mo 19
theorem n_Mo : ∀ a, a < 19 → ∀ b, b < 19 → a ≠ b → (F_Mo a).2.1 ≠ (F_Mo b).2.1 := by decide +kernel
theorem t_Mo_ok : ∀ k, k < 19 → parseFieldDescriptor (F_Mo k).2.2.1 = some (t_Mo k) := by decide +kernel
abbrev classes : List vw_C := [(R_Ck, F_Ck, 1), (R_Pi, F_Pi, 2), (R_Ta, F_Ta, 6), (R_Tf, F_Tf, 5), (R_Li, F_Li, 3), (R_X, F_X, 6), (R_Mo, F_Mo, 19)]
abbrev b_X_isWithin : ByteArray := prog_1_method_16_code
def y_X_isWithin : MethodName := ⟨R_X, "isWithin", "(JJJ)Z"⟩
abbrev b_Ck_init : ByteArray := prog_2_method_1_code
def y_Ck_init : MethodName := ⟨R_Ck, "<init>", "()V"⟩
abbrev b_Ck_canTell : ByteArray := prog_2_method_2_code
def y_Ck_canTell : MethodName := ⟨R_Ck, "canTell", "(J)Z"⟩
abbrev b_Ck_tell : ByteArray := prog_2_method_3_code
def y_Ck_tell : MethodName := ⟨R_Ck, "tell", "(J)V"⟩
abbrev b_Pi_init : ByteArray := prog_4_method_1_code
def y_Pi_init : MethodName := ⟨R_Pi, "<init>", "()V"⟩
abbrev b_Pi_levelOf : ByteArray := prog_4_method_6_code
def y_Pi_levelOf : MethodName := ⟨R_Pi, "levelOf", "(J)I"⟩
abbrev b_Pi_tenthsFor : ByteArray := prog_4_method_7_code
def y_Pi_tenthsFor : MethodName := ⟨R_Pi, "tenthsFor", "(I)I"⟩
abbrev b_Pi_set : ByteArray := prog_4_method_2_code
def y_Pi_set : MethodName := ⟨R_Pi, "set", "(JJ)V"⟩
abbrev b_Pi_isConnected : ByteArray := prog_4_method_3_code
def y_Pi_isConnected : MethodName := ⟨R_Pi, "isConnected", "()Z"⟩
abbrev b_Pi_isDigital : ByteArray := prog_4_method_4_code
def y_Pi_isDigital : MethodName := ⟨R_Pi, "isDigital", "()Z"⟩
abbrev b_Pi_tenthsOfAmpere : ByteArray := prog_4_method_5_code
def y_Pi_tenthsOfAmpere : MethodName := ⟨R_Pi, "tenthsOfAmpere", "()I"⟩
abbrev b_Ta_init : ByteArray := prog_5_method_1_code
def y_Ta_init : MethodName := ⟨R_Ta, "<init>", "()V"⟩
abbrev b_Ta_isOn : ByteArray := prog_5_method_2_code
def y_Ta_isOn : MethodName := ⟨R_Ta, "isOn", "()Z"⟩
abbrev b_Ta_isCharging : ByteArray := prog_5_method_3_code
def y_Ta_isCharging : MethodName := ⟨R_Ta, "isCharging", "()Z"⟩
abbrev b_Ta_end : ByteArray := prog_5_method_4_code
def y_Ta_end : MethodName := ⟨R_Ta, "end", "()V"⟩
abbrev b_Ta_runDown : ByteArray := prog_5_method_6_code
def y_Ta_runDown : MethodName := ⟨R_Ta, "runDown", "()I"⟩
abbrev b_Ta_breakOff : ByteArray := prog_5_method_7_code
def y_Ta_breakOff : MethodName := ⟨R_Ta, "breakOff", "()I"⟩
abbrev b_Ta_wholeEnergy : ByteArray := prog_5_method_8_code
def y_Ta_wholeEnergy : MethodName := ⟨R_Ta, "wholeEnergy", "()J"⟩
abbrev b_Ta_isLate : ByteArray := prog_5_method_9_code
def y_Ta_isLate : MethodName := ⟨R_Ta, "isLate", "(J)Z"⟩
abbrev b_Ta_phaseAtVolts : ByteArray := prog_5_method_11_code
def y_Ta_phaseAtVolts : MethodName := ⟨R_Ta, "phaseAtVolts", "(J)I"⟩
abbrev b_Ta_isLimit : ByteArray := prog_5_method_12_code
def y_Ta_isLimit : MethodName := ⟨R_Ta, "isLimit", "(J)Z"⟩
abbrev b_Ta_phaseAfter : ByteArray := prog_5_method_10_code
def y_Ta_phaseAfter : MethodName := ⟨R_Ta, "phaseAfter", "(IJZ)I"⟩
abbrev b_Ta_keep : ByteArray := prog_5_method_13_code
def y_Ta_keep : MethodName := ⟨R_Ta, "keep", "(IJJ)V"⟩
abbrev b_Ta_take : ByteArray := prog_5_method_5_code
def y_Ta_take : MethodName := ⟨R_Ta, "take", "(IJJZ)Z"⟩
abbrev b_Tf_isPrice : ByteArray := prog_6_method_9_code
def y_Tf_isPrice : MethodName := ⟨R_Tf, "isPrice", "(I)Z"⟩
abbrev b_Tf_isFull : ByteArray := prog_6_method_2_code
def y_Tf_isFull : MethodName := ⟨R_Tf, "isFull", "()Z"⟩
abbrev b_Tf_addSpan : ByteArray := prog_6_method_3_code
def y_Tf_addSpan : MethodName := ⟨R_Tf, "addSpan", "(III)I"⟩
abbrev b_Tf_unitsIn : ByteArray := prog_6_method_4_code
def y_Tf_unitsIn : MethodName := ⟨R_Tf, "unitsIn", "(J)I"⟩
abbrev b_Tf_measureRoom : ByteArray := prog_6_method_6_code
def y_Tf_measureRoom : MethodName := ⟨R_Tf, "measureRoom", "(II)V"⟩
abbrev b_Tf_buyCheapest : ByteArray := prog_6_method_7_code
def y_Tf_buyCheapest : MethodName := ⟨R_Tf, "buyCheapest", "(J)J"⟩
abbrev b_Tf_spread : ByteArray := prog_6_method_8_code
def y_Tf_spread : MethodName := ⟨R_Tf, "spread", "(II)V"⟩
abbrev b_Tf_makePlan : ByteArray := prog_6_method_5_code
def y_Tf_makePlan : MethodName := ⟨R_Tf, "makePlan", "(JII)J"⟩
abbrev b_Tf_init : ByteArray := prog_6_method_1_code
def y_Tf_init : MethodName := ⟨R_Tf, "<init>", "()V"⟩
abbrev b_Li_init : ByteArray := prog_3_method_1_code
def y_Li_init : MethodName := ⟨R_Li, "<init>", "()V"⟩
abbrev b_Li_isFull : ByteArray := prog_3_method_2_code
def y_Li_isFull : MethodName := ⟨R_Li, "isFull", "()Z"⟩
abbrev b_Li_has : ByteArray := prog_3_method_3_code
def y_Li_has : MethodName := ⟨R_Li, "has", "(I)Z"⟩
abbrev b_Li_add : ByteArray := prog_3_method_4_code
def y_Li_add : MethodName := ⟨R_Li, "add", "(I)I"⟩
abbrev b_Li_weightOf : ByteArray := prog_3_method_5_code
def y_Li_weightOf : MethodName := ⟨R_Li, "weightOf", "(I)I"⟩
abbrev b_X_init : ByteArray := prog_1_method_1_code
def y_X_init : MethodName := ⟨R_X, "<init>", "()V"⟩
abbrev b_X_pilot : ByteArray := prog_1_method_2_code
def y_X_pilot : MethodName := ⟨R_X, "pilot", "(JJ)I"⟩
abbrev b_X_message : ByteArray := prog_1_method_3_code
def y_X_message : MethodName := ⟨R_X, "message", "(IJJ)I"⟩
abbrev b_X_allowed : ByteArray := prog_1_method_4_code
def y_X_allowed : MethodName := ⟨R_X, "allowed", "()I"⟩
abbrev b_X_plug : ByteArray := prog_1_method_5_code
def y_X_plug : MethodName := ⟨R_X, "plug", "(Z)I"⟩
abbrev b_X_meter : ByteArray := prog_1_method_6_code
def y_X_meter : MethodName := ⟨R_X, "meter", "(J)I"⟩
abbrev b_X_plan : ByteArray := prog_1_method_7_code
def y_X_plan : MethodName := ⟨R_X, "plan", "(JJ)I"⟩
abbrev b_X_short0 : ByteArray := prog_1_method_8_code
def y_X_short0 : MethodName := ⟨R_X, "short0", "()J"⟩
abbrev b_X_price : ByteArray := prog_1_method_9_code
def y_X_price : MethodName := ⟨R_X, "price", "(JJJ)I"⟩
abbrev b_X_planned : ByteArray := prog_1_method_10_code
def y_X_planned : MethodName := ⟨R_X, "planned", "(J)J"⟩
abbrev b_X_stop : ByteArray := prog_1_method_11_code
def y_X_stop : MethodName := ⟨R_X, "stop", "(IJ)I"⟩
abbrev b_X_lost : ByteArray := prog_1_method_14_code
def y_X_lost : MethodName := ⟨R_X, "lost", "(J)I"⟩
abbrev b_X_state : ByteArray := prog_1_method_15_code
def y_X_state : MethodName := ⟨R_X, "state", "()I"⟩
abbrev b_X_car : ByteArray := prog_1_method_12_code
def y_X_car : MethodName := ⟨R_X, "car", "(I)I"⟩
abbrev b_X_commonFactor : ByteArray := prog_1_method_17_code
def y_X_commonFactor : MethodName := ⟨R_X, "commonFactor", "(JJ)J"⟩
abbrev b_X_share : ByteArray := prog_1_method_13_code
def y_X_share : MethodName := ⟨R_X, "share", "(IJI)J"⟩
abbrev b_Law_share : ByteArray := method_3_code
def y_Law_share : MethodName := ⟨R_Law, "share", "(LChargeTalk;IJI[J)I"⟩
abbrev b_Mo_init : ByteArray := prog_8_method_1_code
def y_Mo_init : MethodName := ⟨R_Mo, "<init>", "()V"⟩
abbrev b_Mo_isOn : ByteArray := prog_8_method_3_code
def y_Mo_isOn : MethodName := ⟨R_Mo, "isOn", "()Z"⟩
abbrev b_Mo_pilot : ByteArray := prog_8_method_4_code
def y_Mo_pilot : MethodName := ⟨R_Mo, "pilot", "(JJ)I"⟩
abbrev b_Mo_allows : ByteArray := prog_8_method_5_code
def y_Mo_allows : MethodName := ⟨R_Mo, "allows", "()I"⟩
abbrev b_Mo_allowed : ByteArray := prog_8_method_6_code
def y_Mo_allowed : MethodName := ⟨R_Mo, "allowed", "()I"⟩
abbrev b_Mo_isTime : ByteArray := prog_8_method_7_code
def y_Mo_isTime : MethodName := ⟨R_Mo, "isTime", "(J)Z"⟩
abbrev b_Mo_behind : ByteArray := prog_8_method_8_code
def y_Mo_behind : MethodName := ⟨R_Mo, "behind", "(IJJ)I"⟩
abbrev b_Mo_message : ByteArray := prog_8_method_9_code
def y_Mo_message : MethodName := ⟨R_Mo, "message", "(IJJ)I"⟩
abbrev b_Mo_plug : ByteArray := prog_8_method_10_code
def y_Mo_plug : MethodName := ⟨R_Mo, "plug", "(Z)I"⟩
abbrev b_Mo_meter : ByteArray := prog_8_method_11_code
def y_Mo_meter : MethodName := ⟨R_Mo, "meter", "(J)I"⟩
abbrev b_Mo_priceOf : ByteArray := prog_8_method_12_code
def y_Mo_priceOf : MethodName := ⟨R_Mo, "priceOf", "(I)I"⟩
abbrev b_Mo_plan : ByteArray := prog_8_method_13_code
def y_Mo_plan : MethodName := ⟨R_Mo, "plan", "(JJ)I"⟩
abbrev b_Mo_short0 : ByteArray := prog_8_method_14_code
def y_Mo_short0 : MethodName := ⟨R_Mo, "short0", "()J"⟩
abbrev b_Mo_price : ByteArray := prog_8_method_15_code
def y_Mo_price : MethodName := ⟨R_Mo, "price", "(JJJ)I"⟩
abbrev b_Mo_planned : ByteArray := prog_8_method_16_code
def y_Mo_planned : MethodName := ⟨R_Mo, "planned", "(J)J"⟩
abbrev b_Mo_stop : ByteArray := prog_8_method_17_code
def y_Mo_stop : MethodName := ⟨R_Mo, "stop", "(IJ)I"⟩
abbrev b_Mo_car : ByteArray := prog_8_method_18_code
def y_Mo_car : MethodName := ⟨R_Mo, "car", "(I)I"⟩
abbrev b_Mo_share : ByteArray := prog_8_method_19_code
def y_Mo_share : MethodName := ⟨R_Mo, "share", "(IJI)J"⟩
abbrev b_Mo_lost : ByteArray := prog_8_method_20_code
def y_Mo_lost : MethodName := ⟨R_Mo, "lost", "(J)I"⟩
abbrev b_Mo_state : ByteArray := prog_8_method_21_code
def y_Mo_state : MethodName := ⟨R_Mo, "state", "()I"⟩
abbrev b_Law_law : ByteArray := code
def y_Law_law : MethodName := ⟨R_Law, "law", "([I)Z"⟩
def BL0 : List Cond := [.methodLink R_Ck 1 objectInit,
  .instanceMethod objectInit,
  .code objectInit ⟨#[0xb1]⟩ 1 none,
  .constantLong R_Ck 9 (-9223372036854775808),
  .fieldLink R_Ck 11 "ChargeTalk$Clock" "told" "J",
  .constantLong R_Ck 17 1125899906842624,
  .code y_X_isWithin b_X_isWithin 6 (some .boolean),
  .initialized R_X,
  .static y_X_isWithin,
  .methodLink R_Pi 1 objectInit,
  .fieldLink R_Pi 7 "ChargeTalk$Pilot" "level" "I",
  .fieldLink R_Pi 13 "ChargeTalk$Pilot" "thousandths" "J",
  .constantLong R_Pi 41 12,
  .constantLong R_Pi 43 9,
  .constantLong R_Pi 45 6,
  .constantLong R_Pi 47 3,
  .constantLong R_Pi 49 (-12),
  .constantLong R_Pi 17 1000,
  .code y_Pi_levelOf b_Pi_levelOf 2 (some .int),
  .methodLink R_Pi 25 y_Pi_levelOf,
  .static y_Pi_levelOf,
  .initialized R_Pi,
  .code y_Pi_isConnected b_Pi_isConnected 1 (some .boolean),
  .methodLink R_Pi 29 y_Pi_isConnected,
  .instanceMethod y_Pi_isConnected,
  .selects R_Pi y_Pi_isConnected y_Pi_isConnected,
  .constantLong R_Pi 33 30,
  .constantLong R_Pi 35 70,
  .code y_Pi_tenthsFor b_Pi_tenthsFor 1 (some .int),
  .methodLink R_Pi 37 y_Pi_tenthsFor,
  .static y_Pi_tenthsFor,
  .methodLink R_Ta 1 objectInit,
  .fieldLink R_Ta 9 "ChargeTalk$Talk" "phase" "I",
  .fieldLink R_Ta 13 "ChargeTalk$Talk" "direct" "Z",
  .fieldLink R_Ta 17 "ChargeTalk$Talk" "limit" "J",
  .fieldLink R_Ta 21 "ChargeTalk$Talk" "current" "J",
  .fieldLink R_Ta 24 "ChargeTalk$Talk" "lastMessage" "J",
  .fieldLink R_Ta 27 "ChargeTalk$Talk" "energy" "J",
  .constantLong R_Ta 45 10,
  .methodLink R_Ta 47 Lib.Math.max.name,
  .static Lib.Math.max.name,
  .initialized "java/lang/Math",
  .code Lib.Math.max.name Lib.Math.max.code 2 (some .int),
  .code y_Ta_end b_Ta_end 1 none,
  .methodLink R_Ta 38 y_Ta_end]
def BL1 : List Cond := [.instanceMethod y_Ta_end,
  .selects R_Ta y_Ta_end y_Ta_end,
  .initialized R_Ta,
  .constantLong R_Ta 53 36000,
  .code y_Ta_isOn b_Ta_isOn 1 (some .boolean),
  .methodLink R_Ta 55 y_Ta_isOn,
  .instanceMethod y_Ta_isOn,
  .selects R_Ta y_Ta_isOn y_Ta_isOn,
  .constantLong R_Ta 59 5000,
  .constantLong R_Ta 79 380,
  .constantLong R_Ta 81 420,
  .code y_Ta_isLimit b_Ta_isLimit 2 (some .boolean),
  .methodLink R_Ta 61 y_Ta_isLimit,
  .static y_Ta_isLimit,
  .constantLong R_Ta 64 100,
  .code y_Ta_phaseAtVolts b_Ta_phaseAtVolts 2 (some .int),
  .methodLink R_Ta 66 y_Ta_phaseAtVolts,
  .static y_Ta_phaseAtVolts,
  .code y_Ta_isCharging b_Ta_isCharging 1 (some .boolean),
  .methodLink R_Ta 70 y_Ta_isCharging,
  .instanceMethod y_Ta_isCharging,
  .selects R_Ta y_Ta_isCharging y_Ta_isCharging,
  .code y_Ta_isLate b_Ta_isLate 3 (some .boolean),
  .methodLink R_Ta 30 y_Ta_isLate,
  .instanceMethod y_Ta_isLate,
  .selects R_Ta y_Ta_isLate y_Ta_isLate,
  .code y_Ta_phaseAfter b_Ta_phaseAfter 5 (some .int),
  .methodLink R_Ta 34 y_Ta_phaseAfter,
  .instanceMethod y_Ta_phaseAfter,
  .selects R_Ta y_Ta_phaseAfter y_Ta_phaseAfter,
  .code y_Ta_keep b_Ta_keep 6 none,
  .methodLink R_Ta 41 y_Ta_keep,
  .instanceMethod y_Ta_keep,
  .selects R_Ta y_Ta_keep y_Ta_keep,
  .fieldLink R_Tf 20 "ChargeTalk$Tariff" "spans" "I",
  .fieldLink R_Tf 9 "ChargeTalk$Tariff" "centsIn" "[I",
  .methodLink R_Tf 28 Lib.Math.max.name,
  .constantLong R_Tf 34 1440,
  .fieldLink R_Tf 13 "ChargeTalk$Tariff" "units" "[I",
  .fieldLink R_Tf 16 "ChargeTalk$Tariff" "roomAt" "[J",
  .code y_Tf_isPrice b_Tf_isPrice 1 (some .boolean),
  .methodLink R_Tf 47 y_Tf_isPrice,
  .static y_Tf_isPrice,
  .initialized R_Tf,
  .fieldLink R_Tf 24 "ChargeTalk$Tariff" "lacking" "J"]
def BL2 : List Cond := [.methodLink R_Tf 51 Lib.MathLoose.min_long.x,
  .static Lib.MathLoose.min_long.x,
  .code Lib.MathLoose.min_long.x Lib.MathLoose.min_long.code 4 (some .long),
  .code y_Tf_measureRoom b_Tf_measureRoom 5 none,
  .methodLink R_Tf 36 y_Tf_measureRoom,
  .instanceMethod y_Tf_measureRoom,
  .selects R_Tf y_Tf_measureRoom y_Tf_measureRoom,
  .code y_Tf_buyCheapest b_Tf_buyCheapest 10 (some .long),
  .methodLink R_Tf 40 y_Tf_buyCheapest,
  .instanceMethod y_Tf_buyCheapest,
  .selects R_Tf y_Tf_buyCheapest y_Tf_buyCheapest,
  .code y_Tf_spread b_Tf_spread 6 none,
  .methodLink R_Tf 44 y_Tf_spread,
  .instanceMethod y_Tf_spread,
  .selects R_Tf y_Tf_spread y_Tf_spread,
  .methodLink R_Tf 1 objectInit,
  .arrayClass .int,
  .arrayClass .long,
  .methodLink R_Li 1 objectInit,
  .fieldLink R_Li 9 "ChargeTalk$Line" "weights" "[I",
  .fieldLink R_Li 13 "ChargeTalk$Line" "count" "I",
  .fieldLink R_Li 17 "ChargeTalk$Line" "total" "J",
  .methodLink R_X 1 objectInit,
  .classLink R_X 7 R_Ck,
  .instantiable R_Ck 1,
  .initialized R_Ck,
  .code y_Ck_init b_Ck_init 1 none,
  .instanceMethod y_Ck_init,
  .fieldLink R_X 10 "ChargeTalk" "clock" "LChargeTalk$Clock;",
  .classLink R_X 16 R_Pi,
  .instantiable R_Pi 2,
  .code y_Pi_init b_Pi_init 1 none,
  .instanceMethod y_Pi_init,
  .fieldLink R_X 19 "ChargeTalk" "signal" "LChargeTalk$Pilot;",
  .classLink R_X 23 R_Ta,
  .instantiable R_Ta 6,
  .code y_Ta_init b_Ta_init 1 none,
  .instanceMethod y_Ta_init,
  .fieldLink R_X 26 "ChargeTalk" "talk" "LChargeTalk$Talk;",
  .classLink R_X 30 R_Tf,
  .instantiable R_Tf 5,
  .code y_Tf_init b_Tf_init 2 none,
  .methodLink R_X 32 y_Tf_init,
  .instanceMethod y_Tf_init,
  .fieldLink R_X 33 "ChargeTalk" "tariff" "LChargeTalk$Tariff;"]
def BL3 : List Cond := [.classLink R_X 37 R_Li,
  .instantiable R_Li 3,
  .initialized R_Li,
  .code y_Li_init b_Li_init 1 none,
  .instanceMethod y_Li_init,
  .fieldLink R_X 40 "ChargeTalk" "line" "LChargeTalk$Line;",
  .fieldLink R_X 44 "ChargeTalk" "plugLocked" "Z",
  .code y_Pi_set b_Pi_set 5 none,
  .methodLink R_X 48 y_Pi_set,
  .instanceMethod y_Pi_set,
  .selects R_Pi y_Pi_set y_Pi_set,
  .methodLink R_X 52 y_Pi_isConnected,
  .methodLink R_X 56 y_Ta_end,
  .constantLong R_X 63 (-1000000),
  .constantLong R_X 65 1000000,
  .methodLink R_X 67 y_X_isWithin,
  .code y_Ck_canTell b_Ck_canTell 3 (some .boolean),
  .methodLink R_X 71 y_Ck_canTell,
  .instanceMethod y_Ck_canTell,
  .selects R_Ck y_Ck_canTell y_Ck_canTell,
  .code y_Ck_tell b_Ck_tell 3 none,
  .methodLink R_X 75 y_Ck_tell,
  .instanceMethod y_Ck_tell,
  .selects R_Ck y_Ck_tell y_Ck_tell,
  .code y_Pi_isDigital b_Pi_isDigital 1 (some .boolean),
  .methodLink R_X 79 y_Pi_isDigital,
  .instanceMethod y_Pi_isDigital,
  .selects R_Pi y_Pi_isDigital y_Pi_isDigital,
  .code y_Ta_take b_Ta_take 8 (some .boolean),
  .methodLink R_X 82 y_Ta_take,
  .instanceMethod y_Ta_take,
  .selects R_Ta y_Ta_take y_Ta_take,
  .code y_Pi_tenthsOfAmpere b_Pi_tenthsOfAmpere 1 (some .int),
  .methodLink R_X 89 y_Pi_tenthsOfAmpere,
  .instanceMethod y_Pi_tenthsOfAmpere,
  .selects R_Pi y_Pi_tenthsOfAmpere y_Pi_tenthsOfAmpere,
  .methodLink R_X 93 y_Ta_isOn,
  .constantLong R_X 96 1000000000,
  .code y_Ta_wholeEnergy b_Ta_wholeEnergy 1 (some .long),
  .methodLink R_X 98 y_Ta_wholeEnergy,
  .instanceMethod y_Ta_wholeEnergy,
  .selects R_Ta y_Ta_wholeEnergy y_Ta_wholeEnergy,
  .constantLong R_X 102 1440,
  .code y_Tf_makePlan b_Tf_makePlan 7 (some .long),
  .methodLink R_X 104 y_Tf_makePlan]
def BL4 : List Cond := [.instanceMethod y_Tf_makePlan,
  .selects R_Tf y_Tf_makePlan y_Tf_makePlan,
  .constantLong R_X 112 1439,
  .constantLong R_X 114 1000,
  .code y_Tf_isFull b_Tf_isFull 1 (some .boolean),
  .methodLink R_X 116 y_Tf_isFull,
  .instanceMethod y_Tf_isFull,
  .selects R_Tf y_Tf_isFull y_Tf_isFull,
  .code y_Tf_addSpan b_Tf_addSpan 5 (some .int),
  .methodLink R_X 119 y_Tf_addSpan,
  .instanceMethod y_Tf_addSpan,
  .selects R_Tf y_Tf_addSpan y_Tf_addSpan,
  .code y_Tf_unitsIn b_Tf_unitsIn 3 (some .int),
  .methodLink R_X 123 y_Tf_unitsIn,
  .instanceMethod y_Tf_unitsIn,
  .selects R_Tf y_Tf_unitsIn y_Tf_unitsIn,
  .methodLink R_X 127 y_Ta_isCharging,
  .code y_Ta_runDown b_Ta_runDown 2 (some .int),
  .methodLink R_X 133 y_Ta_runDown,
  .instanceMethod y_Ta_runDown,
  .selects R_Ta y_Ta_runDown y_Ta_runDown,
  .code y_Ta_breakOff b_Ta_breakOff 1 (some .int),
  .methodLink R_X 130 y_Ta_breakOff,
  .instanceMethod y_Ta_breakOff,
  .selects R_Ta y_Ta_breakOff y_Ta_breakOff,
  .code y_Li_isFull b_Li_isFull 1 (some .boolean),
  .methodLink R_X 136 y_Li_isFull,
  .instanceMethod y_Li_isFull,
  .selects R_Li y_Li_isFull y_Li_isFull,
  .code y_Li_add b_Li_add 2 (some .int),
  .methodLink R_X 137 y_Li_add,
  .instanceMethod y_Li_add,
  .selects R_Li y_Li_add y_Li_add,
  .code y_Li_has b_Li_has 2 (some .boolean),
  .methodLink R_X 141 y_Li_has,
  .instanceMethod y_Li_has,
  .selects R_Li y_Li_has y_Li_has,
  .constantLong R_X 147 1000000000000,
  .code y_Li_weightOf b_Li_weightOf 2 (some .int),
  .methodLink R_X 161 y_Li_weightOf,
  .instanceMethod y_Li_weightOf,
  .selects R_Li y_Li_weightOf y_Li_weightOf,
  .code y_X_commonFactor b_X_commonFactor 11 (some .long),
  .methodLink R_X 164 y_X_commonFactor,
  .static y_X_commonFactor]
def BL5 : List Cond := [.methodLink R_X 168 Lib.MathLoose.max_long.x,
  .static Lib.MathLoose.max_long.x,
  .code Lib.MathLoose.max_long.x Lib.MathLoose.max_long.code 4 (some .long),
  .constantLong R_X 149 (-2),
  .constantLong R_X 145 (-1),
  .classLink R_X 154 "java/lang/ArithmeticException",
  .instantiable "java/lang/ArithmeticException" 6,
  .initialized "java/lang/ArithmeticException",
  .code y_X_share b_X_share 11 (some .long),
  .methodLink R_Law 7 y_X_share,
  .instanceMethod y_X_share,
  .selects R_X y_X_share y_X_share,
  .classLink R_Law 13 "java/lang/ArithmeticException",
  .methodLink R_Mo 1 objectInit,
  .fieldLink R_Mo 7 "ChargeTalkModel" "from" "[I",
  .fieldLink R_Mo 13 "ChargeTalkModel" "to" "[I",
  .fieldLink R_Mo 16 "ChargeTalkModel" "cents" "[I",
  .fieldLink R_Mo 19 "ChargeTalkModel" "planned" "[J",
  .fieldLink R_Mo 23 "ChargeTalkModel" "weight" "[I",
  .fieldLink R_Mo 30 "ChargeTalkModel" "pilot" "I",
  .fieldLink R_Mo 26 "ChargeTalkModel" "code" "I",
  .fieldLink R_Mo 35 "ChargeTalkModel" "share" "I",
  .code y_Mo_isOn b_Mo_isOn 1 (some .boolean),
  .methodLink R_Mo 48 y_Mo_isOn,
  .instanceMethod y_Mo_isOn,
  .selects R_Mo y_Mo_isOn y_Mo_isOn,
  .initialized R_Mo,
  .fieldLink R_Mo 52 "ChargeTalkModel" "phase" "I",
  .constantLong R_Mo 33 1000,
  .constantLong R_Mo 38 12,
  .constantLong R_Mo 40 9,
  .constantLong R_Mo 42 6,
  .constantLong R_Mo 44 3,
  .constantLong R_Mo 46 (-12),
  .code y_Mo_allows b_Mo_allows 1 (some .int),
  .methodLink R_Mo 55 y_Mo_allows,
  .instanceMethod y_Mo_allows,
  .selects R_Mo y_Mo_allows y_Mo_allows,
  .fieldLink R_Mo 59 "ChargeTalkModel" "now" "J",
  .constantLong R_Mo 63 1125899906842624,
  .fieldLink R_Mo 65 "ChargeTalkModel" "locked" "Z",
  .constantLong R_Mo 69 5000,
  .fieldLink R_Mo 71 "ChargeTalkModel" "direct" "Z",
  .constantLong R_Mo 74 100,
  .constantLong R_Mo 76 380]
def BL6 : List Cond := [.constantLong R_Mo 78 420,
  .fieldLink R_Mo 80 "ChargeTalkModel" "limit" "J",
  .fieldLink R_Mo 98 "ChargeTalkModel" "current" "J",
  .fieldLink R_Mo 101 "ChargeTalkModel" "energy" "J",
  .fieldLink R_Mo 91 "ChargeTalkModel" "last" "J",
  .constantLong R_Mo 83 (-1000000),
  .constantLong R_Mo 85 1000000,
  .code y_Mo_isTime b_Mo_isTime 3 (some .boolean),
  .methodLink R_Mo 87 y_Mo_isTime,
  .instanceMethod y_Mo_isTime,
  .selects R_Mo y_Mo_isTime y_Mo_isTime,
  .code y_Mo_behind b_Mo_behind 6 (some .int),
  .methodLink R_Mo 94 y_Mo_behind,
  .instanceMethod y_Mo_behind,
  .selects R_Mo y_Mo_behind y_Mo_behind,
  .constantLong R_Mo 104 1000000000,
  .constantLong R_Mo 106 36000,
  .fieldLink R_Mo 108 "ChargeTalkModel" "spans" "I",
  .fieldLink R_Mo 117 "ChargeTalkModel" "lacks" "J",
  .code y_Mo_priceOf b_Mo_priceOf 3 (some .int),
  .methodLink R_Mo 113 y_Mo_priceOf,
  .instanceMethod y_Mo_priceOf,
  .selects R_Mo y_Mo_priceOf y_Mo_priceOf,
  .constantLong R_Mo 111 1440,
  .constantLong R_Mo 120 1439,
  .constantLong R_Mo 122 10,
  .fieldLink R_Mo 124 "ChargeTalkModel" "cars" "I",
  .constantLong R_Mo 127 (-1),
  .constantLong R_Mo 131 (-2),
  .constantLong R_Mo 129 1000000000000,
  .constantLong R_Law 19 4294967295,
  .code y_X_pilot b_X_pilot 5 (some .int),
  .methodLink R_Law 21 y_X_pilot,
  .instanceMethod y_X_pilot,
  .selects R_X y_X_pilot y_X_pilot,
  .code y_Mo_pilot b_Mo_pilot 6 (some .int),
  .methodLink R_Law 25 y_Mo_pilot,
  .instanceMethod y_Mo_pilot,
  .selects R_Mo y_Mo_pilot y_Mo_pilot,
  .code y_X_message b_X_message 7 (some .int),
  .methodLink R_Law 26 y_X_message,
  .instanceMethod y_X_message,
  .selects R_X y_X_message y_X_message,
  .code y_Mo_message b_Mo_message 7 (some .int),
  .methodLink R_Law 30 y_Mo_message]
def BL7 : List Cond := [.instanceMethod y_Mo_message,
  .selects R_Mo y_Mo_message y_Mo_message,
  .code y_X_allowed b_X_allowed 1 (some .int),
  .methodLink R_Law 31 y_X_allowed,
  .instanceMethod y_X_allowed,
  .selects R_X y_X_allowed y_X_allowed,
  .code y_Mo_allowed b_Mo_allowed 1 (some .int),
  .methodLink R_Law 35 y_Mo_allowed,
  .instanceMethod y_Mo_allowed,
  .selects R_Mo y_Mo_allowed y_Mo_allowed,
  .code y_X_plug b_X_plug 2 (some .int),
  .methodLink R_Law 36 y_X_plug,
  .instanceMethod y_X_plug,
  .selects R_X y_X_plug y_X_plug,
  .code y_Mo_plug b_Mo_plug 3 (some .int),
  .methodLink R_Law 40 y_Mo_plug,
  .instanceMethod y_Mo_plug,
  .selects R_Mo y_Mo_plug y_Mo_plug,
  .code y_X_meter b_X_meter 3 (some .int),
  .methodLink R_Law 41 y_X_meter,
  .instanceMethod y_X_meter,
  .selects R_X y_X_meter y_X_meter,
  .code y_Mo_meter b_Mo_meter 3 (some .int),
  .methodLink R_Law 45 y_Mo_meter,
  .instanceMethod y_Mo_meter,
  .selects R_Mo y_Mo_meter y_Mo_meter,
  .code y_X_plan b_X_plan 7 (some .int),
  .methodLink R_Law 46 y_X_plan,
  .instanceMethod y_X_plan,
  .selects R_X y_X_plan y_X_plan,
  .code y_Mo_plan b_Mo_plan 13 (some .int),
  .methodLink R_Law 49 y_Mo_plan,
  .instanceMethod y_Mo_plan,
  .selects R_Mo y_Mo_plan y_Mo_plan,
  .code y_X_short0 b_X_short0 1 (some .long),
  .methodLink R_Law 50 y_X_short0,
  .instanceMethod y_X_short0,
  .selects R_X y_X_short0 y_X_short0,
  .code y_Mo_short0 b_Mo_short0 1 (some .long),
  .methodLink R_Law 54 y_Mo_short0,
  .instanceMethod y_Mo_short0,
  .selects R_Mo y_Mo_short0 y_Mo_short0,
  .code y_X_price b_X_price 7 (some .int),
  .methodLink R_Law 55 y_X_price,
  .instanceMethod y_X_price]
def BL8 : List Cond := [.selects R_X y_X_price y_X_price,
  .code y_Mo_price b_Mo_price 7 (some .int),
  .methodLink R_Law 59 y_Mo_price,
  .instanceMethod y_Mo_price,
  .selects R_Mo y_Mo_price y_Mo_price,
  .code y_X_planned b_X_planned 3 (some .long),
  .methodLink R_Law 60 y_X_planned,
  .instanceMethod y_X_planned,
  .selects R_X y_X_planned y_X_planned,
  .code y_Mo_planned b_Mo_planned 3 (some .long),
  .methodLink R_Law 64 y_Mo_planned,
  .instanceMethod y_Mo_planned,
  .selects R_Mo y_Mo_planned y_Mo_planned,
  .code y_X_stop b_X_stop 4 (some .int),
  .methodLink R_Law 65 y_X_stop,
  .instanceMethod y_X_stop,
  .selects R_X y_X_stop y_X_stop,
  .code y_Mo_stop b_Mo_stop 6 (some .int),
  .methodLink R_Law 69 y_Mo_stop,
  .instanceMethod y_Mo_stop,
  .selects R_Mo y_Mo_stop y_Mo_stop,
  .code y_X_car b_X_car 2 (some .int),
  .methodLink R_Law 70 y_X_car,
  .instanceMethod y_X_car,
  .selects R_X y_X_car y_X_car,
  .code y_Mo_car b_Mo_car 2 (some .int),
  .methodLink R_Law 74 y_Mo_car,
  .instanceMethod y_Mo_car,
  .selects R_Mo y_Mo_car y_Mo_car,
  .codeWith y_Law_share b_Law_share 7 (some .int) [(0, 12, 15, 13)],
  .methodLink R_Law 75 y_Law_share,
  .static y_Law_share,
  .initialized R_Law,
  .code y_Mo_share b_Mo_share 15 (some .long),
  .methodLink R_Law 80 y_Mo_share,
  .instanceMethod y_Mo_share,
  .selects R_Mo y_Mo_share y_Mo_share,
  .code y_X_lost b_X_lost 4 (some .int),
  .methodLink R_Law 81 y_X_lost,
  .instanceMethod y_X_lost,
  .selects R_X y_X_lost y_X_lost,
  .code y_Mo_lost b_Mo_lost 4 (some .int),
  .methodLink R_Law 84 y_Mo_lost,
  .instanceMethod y_Mo_lost,
  .selects R_Mo y_Mo_lost y_Mo_lost]
def BL9 : List Cond := [.code y_X_state b_X_state 1 (some .int),
  .methodLink R_Law 85 y_X_state,
  .instanceMethod y_X_state,
  .selects R_X y_X_state y_X_state,
  .code y_Mo_state b_Mo_state 1 (some .int),
  .methodLink R_Law 88 y_Mo_state,
  .instanceMethod y_Mo_state,
  .selects R_Mo y_Mo_state y_Mo_state,
  .instantiable R_X 6,
  .instantiable R_Mo 19,
  .classLink R_Law 8 R_X,
  .code y_X_init b_X_init 1 none,
  .methodLink R_Law 15 y_X_init,
  .instanceMethod y_X_init,
  .classLink R_Law 16 R_Mo,
  .code y_Mo_init b_Mo_init 1 none,
  .methodLink R_Law 18 y_Mo_init,
  .instanceMethod y_Mo_init]
def BIG : List Cond := w0_Ck ++ w0_Pi ++ w0_Ta ++ w0_Tf ++ w0_Li ++ w0_X ++ w0_Mo ++ (BL0 ++ (BL1 ++ (BL2 ++ (BL3 ++ (BL4 ++ (BL5 ++ (BL6 ++ (BL7 ++ (BL8 ++ BL9)))))))))
def NEST : List Cond := [.methodLinkNest R_Ck 19 y_X_isWithin "ChargeTalk",
  .methodLinkNest R_Pi 19 y_X_isWithin "ChargeTalk",
  .methodLinkNest R_Ta 73 y_X_isWithin "ChargeTalk",
  .methodLinkNest R_X 9 y_Ck_init "ChargeTalk",
  .methodLinkNest R_X 18 y_Pi_init "ChargeTalk",
  .methodLinkNest R_X 25 y_Ta_init "ChargeTalk",
  .methodLinkNest R_X 39 y_Li_init "ChargeTalk",
  .fieldLinkNest R_X 59 "ChargeTalk$Pilot" "level" "I" "ChargeTalk",
  .fieldLinkNest R_X 86 "ChargeTalk$Talk" "phase" "I" "ChargeTalk",
  .fieldLinkNest R_X 108 "ChargeTalk$Tariff" "lacking" "J" "ChargeTalk",
  .fieldLinkNest R_X 151 "ChargeTalk$Line" "total" "J" "ChargeTalk"]
abbrev w_X_isWithin : List Cond := .code y_X_isWithin b_X_isWithin 6 (some .boolean) :: BIG
abbrev w_Ck_init : List Cond := .code y_Ck_init b_Ck_init 1 none :: BIG
abbrev w_Ck_canTell : List Cond := .code y_Ck_canTell b_Ck_canTell 3 (some .boolean) :: BIG
abbrev w_Ck_tell : List Cond := .code y_Ck_tell b_Ck_tell 3 none :: BIG
abbrev w_Pi_init : List Cond := .code y_Pi_init b_Pi_init 1 none :: BIG
abbrev w_Pi_levelOf : List Cond := .code y_Pi_levelOf b_Pi_levelOf 2 (some .int) :: BIG
abbrev w_Pi_tenthsFor : List Cond := .code y_Pi_tenthsFor b_Pi_tenthsFor 1 (some .int) :: BIG
abbrev w_Pi_set : List Cond := .code y_Pi_set b_Pi_set 5 none :: BIG
abbrev w_Pi_isConnected : List Cond := .code y_Pi_isConnected b_Pi_isConnected 1 (some .boolean) :: BIG
abbrev w_Pi_isDigital : List Cond := .code y_Pi_isDigital b_Pi_isDigital 1 (some .boolean) :: BIG
abbrev w_Pi_tenthsOfAmpere : List Cond := .code y_Pi_tenthsOfAmpere b_Pi_tenthsOfAmpere 1 (some .int) :: BIG
abbrev w_Ta_init : List Cond := .code y_Ta_init b_Ta_init 1 none :: BIG
abbrev w_Ta_isOn : List Cond := .code y_Ta_isOn b_Ta_isOn 1 (some .boolean) :: BIG
abbrev w_Ta_isCharging : List Cond := .code y_Ta_isCharging b_Ta_isCharging 1 (some .boolean) :: BIG
abbrev w_Ta_end : List Cond := .code y_Ta_end b_Ta_end 1 none :: BIG
abbrev w_Ta_runDown : List Cond := .code y_Ta_runDown b_Ta_runDown 2 (some .int) :: BIG
abbrev w_Ta_breakOff : List Cond := .code y_Ta_breakOff b_Ta_breakOff 1 (some .int) :: BIG
abbrev w_Ta_wholeEnergy : List Cond := .code y_Ta_wholeEnergy b_Ta_wholeEnergy 1 (some .long) :: BIG
abbrev w_Ta_isLate : List Cond := .code y_Ta_isLate b_Ta_isLate 3 (some .boolean) :: BIG
abbrev w_Ta_phaseAtVolts : List Cond := .code y_Ta_phaseAtVolts b_Ta_phaseAtVolts 2 (some .int) :: BIG
abbrev w_Ta_isLimit : List Cond := .code y_Ta_isLimit b_Ta_isLimit 2 (some .boolean) :: BIG
abbrev w_Ta_phaseAfter : List Cond := .code y_Ta_phaseAfter b_Ta_phaseAfter 5 (some .int) :: BIG
abbrev w_Ta_keep : List Cond := .code y_Ta_keep b_Ta_keep 6 none :: BIG
abbrev w_Ta_take : List Cond := .code y_Ta_take b_Ta_take 8 (some .boolean) :: BIG
abbrev w_Tf_isPrice : List Cond := .code y_Tf_isPrice b_Tf_isPrice 1 (some .boolean) :: BIG
abbrev w_Tf_isFull : List Cond := .code y_Tf_isFull b_Tf_isFull 1 (some .boolean) :: BIG
abbrev w_Tf_addSpan : List Cond := .code y_Tf_addSpan b_Tf_addSpan 5 (some .int) :: BIG
abbrev w_Tf_unitsIn : List Cond := .code y_Tf_unitsIn b_Tf_unitsIn 3 (some .int) :: BIG
abbrev w_Tf_measureRoom : List Cond := .code y_Tf_measureRoom b_Tf_measureRoom 5 none :: BIG
abbrev w_Tf_buyCheapest : List Cond := .code y_Tf_buyCheapest b_Tf_buyCheapest 10 (some .long) :: BIG
abbrev w_Tf_spread : List Cond := .code y_Tf_spread b_Tf_spread 6 none :: BIG
abbrev w_Tf_makePlan : List Cond := .code y_Tf_makePlan b_Tf_makePlan 7 (some .long) :: BIG
abbrev w_Tf_init : List Cond := .code y_Tf_init b_Tf_init 2 none :: BIG
abbrev w_Li_init : List Cond := .code y_Li_init b_Li_init 1 none :: BIG
abbrev w_Li_isFull : List Cond := .code y_Li_isFull b_Li_isFull 1 (some .boolean) :: BIG
abbrev w_Li_has : List Cond := .code y_Li_has b_Li_has 2 (some .boolean) :: BIG
abbrev w_Li_add : List Cond := .code y_Li_add b_Li_add 2 (some .int) :: BIG
abbrev w_Li_weightOf : List Cond := .code y_Li_weightOf b_Li_weightOf 2 (some .int) :: BIG
abbrev w_X_init : List Cond := .code y_X_init b_X_init 1 none :: BIG
abbrev w_X_pilot : List Cond := .code y_X_pilot b_X_pilot 5 (some .int) :: BIG
abbrev w_X_message : List Cond := .code y_X_message b_X_message 7 (some .int) :: BIG
abbrev w_X_allowed : List Cond := .code y_X_allowed b_X_allowed 1 (some .int) :: BIG
abbrev w_X_plug : List Cond := .code y_X_plug b_X_plug 2 (some .int) :: BIG
abbrev w_X_meter : List Cond := .code y_X_meter b_X_meter 3 (some .int) :: BIG
abbrev w_X_plan : List Cond := .code y_X_plan b_X_plan 7 (some .int) :: BIG
abbrev w_X_short0 : List Cond := .code y_X_short0 b_X_short0 1 (some .long) :: BIG
abbrev w_X_price : List Cond := .code y_X_price b_X_price 7 (some .int) :: BIG
abbrev w_X_planned : List Cond := .code y_X_planned b_X_planned 3 (some .long) :: BIG
abbrev w_X_stop : List Cond := .code y_X_stop b_X_stop 4 (some .int) :: BIG
abbrev w_X_lost : List Cond := .code y_X_lost b_X_lost 4 (some .int) :: BIG
abbrev w_X_state : List Cond := .code y_X_state b_X_state 1 (some .int) :: BIG
abbrev w_X_car : List Cond := .code y_X_car b_X_car 2 (some .int) :: BIG
abbrev w_X_commonFactor : List Cond := .code y_X_commonFactor b_X_commonFactor 11 (some .long) :: BIG
abbrev w_X_share : List Cond := .code y_X_share b_X_share 11 (some .long) :: BIG
abbrev w_Law_share : List Cond := .codeWith y_Law_share b_Law_share 7 (some .int) [(0, 12, 15, 13)] :: BIG
abbrev w_Mo_init : List Cond := .code y_Mo_init b_Mo_init 1 none :: BIG
abbrev w_Mo_isOn : List Cond := .code y_Mo_isOn b_Mo_isOn 1 (some .boolean) :: BIG
abbrev w_Mo_pilot : List Cond := .code y_Mo_pilot b_Mo_pilot 6 (some .int) :: BIG
abbrev w_Mo_allows : List Cond := .code y_Mo_allows b_Mo_allows 1 (some .int) :: BIG
abbrev w_Mo_allowed : List Cond := .code y_Mo_allowed b_Mo_allowed 1 (some .int) :: BIG
abbrev w_Mo_isTime : List Cond := .code y_Mo_isTime b_Mo_isTime 3 (some .boolean) :: BIG
abbrev w_Mo_behind : List Cond := .code y_Mo_behind b_Mo_behind 6 (some .int) :: BIG
abbrev w_Mo_message : List Cond := .code y_Mo_message b_Mo_message 7 (some .int) :: BIG
abbrev w_Mo_plug : List Cond := .code y_Mo_plug b_Mo_plug 3 (some .int) :: BIG
abbrev w_Mo_meter : List Cond := .code y_Mo_meter b_Mo_meter 3 (some .int) :: BIG
abbrev w_Mo_priceOf : List Cond := .code y_Mo_priceOf b_Mo_priceOf 3 (some .int) :: BIG
abbrev w_Mo_plan : List Cond := .code y_Mo_plan b_Mo_plan 13 (some .int) :: BIG
abbrev w_Mo_short0 : List Cond := .code y_Mo_short0 b_Mo_short0 1 (some .long) :: BIG
abbrev w_Mo_price : List Cond := .code y_Mo_price b_Mo_price 7 (some .int) :: BIG
abbrev w_Mo_planned : List Cond := .code y_Mo_planned b_Mo_planned 3 (some .long) :: BIG
abbrev w_Mo_stop : List Cond := .code y_Mo_stop b_Mo_stop 6 (some .int) :: BIG
abbrev w_Mo_car : List Cond := .code y_Mo_car b_Mo_car 2 (some .int) :: BIG
abbrev w_Mo_share : List Cond := .code y_Mo_share b_Mo_share 15 (some .long) :: BIG
abbrev w_Mo_lost : List Cond := .code y_Mo_lost b_Mo_lost 4 (some .int) :: BIG
abbrev w_Mo_state : List Cond := .code y_Mo_state b_Mo_state 1 (some .int) :: BIG
