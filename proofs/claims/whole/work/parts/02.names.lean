/-! names -/
def R_P : String := "PressureNets"
def T_P : u_T := fun k => match k with
  | 0 => ("PressureNets", "net", "LPressureNets$Net;", true)
  | 1 => ("PressureNets", "settler", "LPressureNets$Settler;", true)
  | 2 => ("PressureNets", "stuff", "LPressureNets$Stuff;", true)
  | 3 => ("PressureNets", "present", "LPressureNets$State;", true)
  | 4 => ("PressureNets", "cases", "[LPressureNets$State;", true)
  | _ => ("PressureNets", "caseCount", "I", false)
def ty_P : Nat → FieldType := fun k => match k with
  | 0 => .object "PressureNets$Net"
  | 1 => .object "PressureNets$Settler"
  | 2 => .object "PressureNets$Stuff"
  | 3 => .object "PressureNets$State"
  | 4 => .array (.object "PressureNets$State")
  | _ => .int
theorem nm_P : ∀ a, a < 6 → ∀ b, b < 6 → a ≠ b → (T_P a).2.1 ≠ (T_P b).2.1 := by decide +kernel
theorem ty_P_ok : ∀ k, k < 6 → parseFieldDescriptor (T_P k).2.2.1 = some (ty_P k) := by decide +kernel
def R_N : String := "PressureNets$Net"
def T_N : u_T := fun k => match k with
  | 0 => ("PressureNets$Net", "wind", "[I", true)
  | 1 => ("PressureNets$Net", "warmthAt", "[I", true)
  | 2 => ("PressureNets$Net", "volume", "[I", true)
  | 3 => ("PressureNets$Net", "from", "[I", true)
  | 4 => ("PressureNets$Net", "to", "[I", true)
  | 5 => ("PressureNets$Net", "height", "[I", true)
  | 6 => ("PressureNets$Net", "area", "[I", true)
  | 7 => ("PressureNets$Net", "kind", "[I", true)
  | 8 => ("PressureNets$Net", "stack", "[I", true)
  | 9 => ("PressureNets$Net", "fanFlow", "[I", true)
  | 10 => ("PressureNets$Net", "slope", "[I", true)
  | 11 => ("PressureNets$Net", "ductsAt", "[[I", true)
  | 12 => ("PressureNets$Net", "ductCountAt", "[I", true)
  | 13 => ("PressureNets$Net", "zoneCount", "I", false)
  | 14 => ("PressureNets$Net", "leakCount", "I", false)
  | 15 => ("PressureNets$Net", "fanCount", "I", false)
  | _ => ("PressureNets$Net", "version", "I", false)
def ty_N : Nat → FieldType := fun k => match k with
  | 0 => .array .int
  | 1 => .array .int
  | 2 => .array .int
  | 3 => .array .int
  | 4 => .array .int
  | 5 => .array .int
  | 6 => .array .int
  | 7 => .array .int
  | 8 => .array .int
  | 9 => .array .int
  | 10 => .array .int
  | 11 => .array (.array .int)
  | 12 => .array .int
  | 13 => .int
  | 14 => .int
  | 15 => .int
  | _ => .int
theorem nm_N : ∀ a, a < 17 → ∀ b, b < 17 → a ≠ b → (T_N a).2.1 ≠ (T_N b).2.1 := by decide +kernel
theorem ty_N_ok : ∀ k, k < 17 → parseFieldDescriptor (T_N k).2.2.1 = some (ty_N k) := by decide +kernel
def R_S : String := "PressureNets$Settler"
def T_S : u_T := fun k => match k with
  | 0 => ("PressureNets$Settler", "net", "LPressureNets$Net;", true)
  | _ => ("PressureNets$Settler", "before", "[I", true)
def ty_S : Nat → FieldType := fun k => match k with
  | 0 => .object "PressureNets$Net"
  | _ => .array .int
theorem nm_S : ∀ a, a < 2 → ∀ b, b < 2 → a ≠ b → (T_S a).2.1 ≠ (T_S b).2.1 := by decide +kernel
theorem ty_S_ok : ∀ k, k < 2 → parseFieldDescriptor (T_S k).2.2.1 = some (ty_S k) := by decide +kernel
def R_T : String := "PressureNets$State"
def T_T : u_T := fun k => match k with
  | 0 => ("PressureNets$State", "pressure", "[I", true)
  | 1 => ("PressureNets$State", "shutSet", "I", false)
  | 2 => ("PressureNets$State", "madeFor", "I", false)
  | _ => ("PressureNets$State", "stands", "Z", false)
def ty_T : Nat → FieldType := fun k => match k with
  | 0 => .array .int
  | 1 => .int
  | 2 => .int
  | _ => .boolean
theorem nm_T : ∀ a, a < 4 → ∀ b, b < 4 → a ≠ b → (T_T a).2.1 ≠ (T_T b).2.1 := by decide +kernel
theorem ty_T_ok : ∀ k, k < 4 → parseFieldDescriptor (T_T k).2.2.1 = some (ty_T k) := by decide +kernel
def R_U : String := "PressureNets$Stuff"
def T_U : u_T := fun k => match k with
  | 0 => ("PressureNets$Stuff", "held", "[J", true)
  | 1 => ("PressureNets$Stuff", "sources", "[I", true)
  | 2 => ("PressureNets$Stuff", "net", "LPressureNets$Net;", true)
  | 3 => ("PressureNets$Stuff", "flows", "[I", true)
  | 4 => ("PressureNets$Stuff", "wholes", "[J", true)
  | _ => ("PressureNets$Stuff", "then", "[J", true)
def ty_U : Nat → FieldType := fun k => match k with
  | 0 => .array .long
  | 1 => .array .int
  | 2 => .object "PressureNets$Net"
  | 3 => .array .int
  | 4 => .array .long
  | _ => .array .long
theorem nm_U : ∀ a, a < 6 → ∀ b, b < 6 → a ≠ b → (T_U a).2.1 ≠ (T_U b).2.1 := by decide +kernel
theorem ty_U_ok : ∀ k, k < 6 → parseFieldDescriptor (T_U k).2.2.1 = some (ty_U k) := by decide +kernel
def R_M : String := "PressureNetsModel"
def T_M : u_T := fun k => match k with
  | 0 => ("PressureNetsModel", "code", "I", false)
  | 1 => ("PressureNetsModel", "winds", "[I", true)
  | 2 => ("PressureNetsModel", "air", "I", false)
  | 3 => ("PressureNetsModel", "zones", "I", false)
  | 4 => ("PressureNetsModel", "warmths", "[I", true)
  | 5 => ("PressureNetsModel", "volumes", "[I", true)
  | 6 => ("PressureNetsModel", "holds", "[J", true)
  | 7 => ("PressureNetsModel", "sources", "[I", true)
  | 8 => ("PressureNetsModel", "leaks", "I", false)
  | 9 => ("PressureNetsModel", "leakA", "[I", true)
  | 10 => ("PressureNetsModel", "leakB", "[I", true)
  | 11 => ("PressureNetsModel", "heights", "[I", true)
  | 12 => ("PressureNetsModel", "areas", "[I", true)
  | 13 => ("PressureNetsModel", "kinds", "[I", true)
  | 14 => ("PressureNetsModel", "isShut", "[Z", true)
  | 15 => ("PressureNetsModel", "fans", "I", false)
  | 16 => ("PressureNetsModel", "fanA", "[I", true)
  | 17 => ("PressureNetsModel", "fanB", "[I", true)
  | 18 => ("PressureNetsModel", "fanFlow", "[I", true)
  | 19 => ("PressureNetsModel", "slopes", "[I", true)
  | 20 => ("PressureNetsModel", "cases", "I", false)
  | 21 => ("PressureNetsModel", "sets", "[I", true)
  | 22 => ("PressureNetsModel", "gone", "[J", true)
  | 23 => ("PressureNetsModel", "state", "[I", true)
  | 24 => ("PressureNetsModel", "closed", "I", false)
  | 25 => ("PressureNetsModel", "next", "[J", true)
  | _ => ("PressureNetsModel", "nextGone", "[J", true)
def ty_M : Nat → FieldType := fun k => match k with
  | 0 => .int
  | 1 => .array .int
  | 2 => .int
  | 3 => .int
  | 4 => .array .int
  | 5 => .array .int
  | 6 => .array .long
  | 7 => .array .int
  | 8 => .int
  | 9 => .array .int
  | 10 => .array .int
  | 11 => .array .int
  | 12 => .array .int
  | 13 => .array .int
  | 14 => .array .boolean
  | 15 => .int
  | 16 => .array .int
  | 17 => .array .int
  | 18 => .array .int
  | 19 => .array .int
  | 20 => .int
  | 21 => .array .int
  | 22 => .array .long
  | 23 => .array .int
  | 24 => .int
  | 25 => .array .long
  | _ => .array .long
theorem nm_M : ∀ a, a < 27 → ∀ b, b < 27 → a ≠ b → (T_M a).2.1 ≠ (T_M b).2.1 := by decide +kernel
theorem ty_M_ok : ∀ k, k < 27 → parseFieldDescriptor (T_M k).2.2.1 = some (ty_M k) := by decide +kernel
def RL : String := "PressureNetsLaw"
abbrev pn_cl : List vw_C := [(R_P, T_P, 6), (R_N, T_N, 17), (R_S, T_S, 2), (R_T, T_T, 4), (R_U, T_U, 6), (R_M, T_M, 27)]
abbrev b_P_init : ByteArray := prog_1_method_1_code
def y_P_init : MethodName := ⟨"PressureNets", "<init>", "()V"⟩
abbrev b_P_zone : ByteArray := prog_1_method_2_code
def y_P_zone : MethodName := ⟨"PressureNets", "zone", "(II)I"⟩
abbrev b_P_wind : ByteArray := prog_1_method_3_code
def y_P_wind : MethodName := ⟨"PressureNets", "wind", "(II)I"⟩
abbrev b_P_warmth : ByteArray := prog_1_method_4_code
def y_P_warmth : MethodName := ⟨"PressureNets", "warmth", "(II)I"⟩
abbrev b_P_leak : ByteArray := prog_1_method_5_code
def y_P_leak : MethodName := ⟨"PressureNets", "leak", "(IIIII)I"⟩
abbrev b_P_shut : ByteArray := prog_1_method_6_code
def y_P_shut : MethodName := ⟨"PressureNets", "shut", "(IZ)Z"⟩
abbrev b_P_fan : ByteArray := prog_1_method_7_code
def y_P_fan : MethodName := ⟨"PressureNets", "fan", "(IIII)I"⟩
abbrev b_P_pressure : ByteArray := prog_1_method_8_code
def y_P_pressure : MethodName := ⟨"PressureNets", "pressure", "(I)I"⟩
abbrev b_P_told : ByteArray := prog_1_method_9_code
def y_P_told : MethodName := ⟨"PressureNets", "told", "(II)I"⟩
abbrev b_P_blows : ByteArray := prog_1_method_10_code
def y_P_blows : MethodName := ⟨"PressureNets", "blows", "(I)I"⟩
abbrev b_P_gain : ByteArray := prog_1_method_11_code
def y_P_gain : MethodName := ⟨"PressureNets", "gain", "(I)I"⟩
abbrev b_P_caseOf : ByteArray := prog_1_method_12_code
def y_P_caseOf : MethodName := ⟨"PressureNets", "caseOf", "(I)I"⟩
abbrev b_P_worst : ByteArray := prog_1_method_13_code
def y_P_worst : MethodName := ⟨"PressureNets", "worst", "(II)I"⟩
abbrev b_P_put : ByteArray := prog_1_method_14_code
def y_P_put : MethodName := ⟨"PressureNets", "put", "(II)I"⟩
abbrev b_P_source : ByteArray := prog_1_method_15_code
def y_P_source : MethodName := ⟨"PressureNets", "source", "(II)I"⟩
abbrev b_P_steps : ByteArray := prog_1_method_16_code
def y_P_steps : MethodName := ⟨"PressureNets", "steps", "(I)I"⟩
abbrev b_P_gone : ByteArray := prog_1_method_17_code
def y_P_gone : MethodName := ⟨"PressureNets", "gone", "(I)J"⟩
abbrev b_P_demandLegal : ByteArray := prog_1_method_18_code
def y_P_demandLegal : MethodName := ⟨"PressureNets", "demandLegal", "(Z)V"⟩
abbrev b_P_demandRoom : ByteArray := prog_1_method_19_code
def y_P_demandRoom : MethodName := ⟨"PressureNets", "demandRoom", "(Z)V"⟩
abbrev b_P_isWithin : ByteArray := prog_1_method_20_code
def y_P_isWithin : MethodName := ⟨"PressureNets", "isWithin", "(III)Z"⟩
abbrev b_P_isWarmth : ByteArray := prog_1_method_21_code
def y_P_isWarmth : MethodName := ⟨"PressureNets", "isWarmth", "(I)Z"⟩
abbrev b_P_isSide : ByteArray := prog_1_method_22_code
def y_P_isSide : MethodName := ⟨"PressureNets", "isSide", "(I)Z"⟩
abbrev b_P_isZone : ByteArray := prog_1_method_23_code
def y_P_isZone : MethodName := ⟨"PressureNets", "isZone", "(I)Z"⟩
abbrev b_P_isPlace : ByteArray := prog_1_method_24_code
def y_P_isPlace : MethodName := ⟨"PressureNets", "isPlace", "(I)Z"⟩
abbrev b_P_canJoin : ByteArray := prog_1_method_25_code
def y_P_canJoin : MethodName := ⟨"PressureNets", "canJoin", "(II)Z"⟩
abbrev b_P_isLeak : ByteArray := prog_1_method_26_code
def y_P_isLeak : MethodName := ⟨"PressureNets", "isLeak", "(I)Z"⟩
abbrev b_P_rowOf : ByteArray := prog_1_method_27_code
def y_P_rowOf : MethodName := ⟨"PressureNets", "rowOf", "(I)I"⟩
abbrev b_P_ductOfFan : ByteArray := prog_1_method_28_code
def y_P_ductOfFan : MethodName := ⟨"PressureNets", "ductOfFan", "(I)I"⟩
abbrev b_M_init : ByteArray := prog_7_method_1_code
def y_M_init : MethodName := ⟨"PressureNetsModel", "<init>", "()V"⟩
abbrev b_M_thrown : ByteArray := prog_7_method_2_code
def y_M_thrown : MethodName := ⟨"PressureNetsModel", "thrown", "()I"⟩
abbrev b_M_in : ByteArray := prog_7_method_3_code
def y_M_in : MethodName := ⟨"PressureNetsModel", "in", "(JJJ)Z"⟩
abbrev b_M_isZone : ByteArray := prog_7_method_4_code
def y_M_isZone : MethodName := ⟨"PressureNetsModel", "isZone", "(I)Z"⟩
abbrev b_M_isPlace : ByteArray := prog_7_method_5_code
def y_M_isPlace : MethodName := ⟨"PressureNetsModel", "isPlace", "(I)Z"⟩
abbrev b_M_zone : ByteArray := prog_7_method_6_code
def y_M_zone : MethodName := ⟨"PressureNetsModel", "zone", "(II)I"⟩
abbrev b_M_wind : ByteArray := prog_7_method_7_code
def y_M_wind : MethodName := ⟨"PressureNetsModel", "wind", "(II)I"⟩
abbrev b_M_warmth : ByteArray := prog_7_method_8_code
def y_M_warmth : MethodName := ⟨"PressureNetsModel", "warmth", "(II)I"⟩
abbrev b_M_isPair : ByteArray := prog_7_method_9_code
def y_M_isPair : MethodName := ⟨"PressureNetsModel", "isPair", "(II)Z"⟩
abbrev b_M_leak : ByteArray := prog_7_method_10_code
def y_M_leak : MethodName := ⟨"PressureNetsModel", "leak", "(IIIII)I"⟩
abbrev b_M_shut : ByteArray := prog_7_method_11_code
def y_M_shut : MethodName := ⟨"PressureNetsModel", "shut", "(IZ)Z"⟩
abbrev b_M_fan : ByteArray := prog_7_method_12_code
def y_M_fan : MethodName := ⟨"PressureNetsModel", "fan", "(IIII)I"⟩
abbrev b_M_warmthOf : ByteArray := prog_7_method_13_code
def y_M_warmthOf : MethodName := ⟨"PressureNetsModel", "warmthOf", "(I)I"⟩
abbrev b_M_pressureOf : ByteArray := prog_7_method_14_code
def y_M_pressureOf : MethodName := ⟨"PressureNetsModel", "pressureOf", "(I)I"⟩
abbrev b_M_driveOf : ByteArray := prog_7_method_15_code
def y_M_driveOf : MethodName := ⟨"PressureNetsModel", "driveOf", "(I)I"⟩
abbrev b_M_rootOf : ByteArray := prog_7_method_16_code
def y_M_rootOf : MethodName := ⟨"PressureNetsModel", "rootOf", "(J)J"⟩
abbrev b_M_flowOf : ByteArray := prog_7_method_17_code
def y_M_flowOf : MethodName := ⟨"PressureNetsModel", "flowOf", "(I)J"⟩
abbrev b_M_blown : ByteArray := prog_7_method_18_code
def y_M_blown : MethodName := ⟨"PressureNetsModel", "blown", "(I)J"⟩
abbrev b_M_gainOf : ByteArray := prog_7_method_19_code
def y_M_gainOf : MethodName := ⟨"PressureNetsModel", "gainOf", "(I)J"⟩
abbrev b_M_rise : ByteArray := prog_7_method_20_code
def y_M_rise : MethodName := ⟨"PressureNetsModel", "rise", "(I)Z"⟩
abbrev b_M_make : ByteArray := prog_7_method_21_code
def y_M_make : MethodName := ⟨"PressureNetsModel", "make", "(I)Z"⟩
abbrev b_M_shutOnes : ByteArray := prog_7_method_22_code
def y_M_shutOnes : MethodName := ⟨"PressureNetsModel", "shutOnes", "()I"⟩
abbrev b_M_makeNow : ByteArray := prog_7_method_23_code
def y_M_makeNow : MethodName := ⟨"PressureNetsModel", "makeNow", "()Z"⟩
abbrev b_M_pressure : ByteArray := prog_7_method_24_code
def y_M_pressure : MethodName := ⟨"PressureNetsModel", "pressure", "(I)I"⟩
abbrev b_M_told : ByteArray := prog_7_method_25_code
def y_M_told : MethodName := ⟨"PressureNetsModel", "told", "(II)I"⟩
abbrev b_M_blows : ByteArray := prog_7_method_26_code
def y_M_blows : MethodName := ⟨"PressureNetsModel", "blows", "(I)I"⟩
abbrev b_M_gain : ByteArray := prog_7_method_27_code
def y_M_gain : MethodName := ⟨"PressureNetsModel", "gain", "(I)I"⟩
abbrev b_M_caseOf : ByteArray := prog_7_method_28_code
def y_M_caseOf : MethodName := ⟨"PressureNetsModel", "caseOf", "(I)I"⟩
abbrev b_M_worst : ByteArray := prog_7_method_29_code
def y_M_worst : MethodName := ⟨"PressureNetsModel", "worst", "(II)I"⟩
abbrev b_M_put : ByteArray := prog_7_method_30_code
def y_M_put : MethodName := ⟨"PressureNetsModel", "put", "(II)I"⟩
abbrev b_M_source : ByteArray := prog_7_method_31_code
def y_M_source : MethodName := ⟨"PressureNetsModel", "source", "(II)I"⟩
abbrev b_M_outBy : ByteArray := prog_7_method_32_code
def y_M_outBy : MethodName := ⟨"PressureNetsModel", "outBy", "(II)J"⟩
abbrev b_M_other : ByteArray := prog_7_method_33_code
def y_M_other : MethodName := ⟨"PressureNetsModel", "other", "(II)I"⟩
abbrev b_M_step : ByteArray := prog_7_method_34_code
def y_M_step : MethodName := ⟨"PressureNetsModel", "step", "()Z"⟩
abbrev b_M_steps : ByteArray := prog_7_method_35_code
def y_M_steps : MethodName := ⟨"PressureNetsModel", "steps", "(I)I"⟩
abbrev b_M_gone : ByteArray := prog_7_method_36_code
def y_M_gone : MethodName := ⟨"PressureNetsModel", "gone", "(I)J"⟩
abbrev b_N_init : ByteArray := prog_2_method_1_code
def y_N_init : MethodName := ⟨"PressureNets$Net", "<init>", "()V"⟩
abbrev b_N_addZone : ByteArray := prog_2_method_2_code
def y_N_addZone : MethodName := ⟨"PressureNets$Net", "addZone", "(II)I"⟩
abbrev b_N_changeWind : ByteArray := prog_2_method_3_code
def y_N_changeWind : MethodName := ⟨"PressureNets$Net", "changeWind", "(II)I"⟩
abbrev b_N_changeWarmth : ByteArray := prog_2_method_4_code
def y_N_changeWarmth : MethodName := ⟨"PressureNets$Net", "changeWarmth", "(II)I"⟩
abbrev b_N_addLeak : ByteArray := prog_2_method_5_code
def y_N_addLeak : MethodName := ⟨"PressureNets$Net", "addLeak", "(IIIII)I"⟩
abbrev b_N_addFan : ByteArray := prog_2_method_6_code
def y_N_addFan : MethodName := ⟨"PressureNets$Net", "addFan", "(IIII)I"⟩
abbrev b_N_join : ByteArray := prog_2_method_7_code
def y_N_join : MethodName := ⟨"PressureNets$Net", "join", "(III)V"⟩
abbrev b_N_noteDuct : ByteArray := prog_2_method_8_code
def y_N_noteDuct : MethodName := ⟨"PressureNets$Net", "noteDuct", "(II)V"⟩
abbrev b_N_measureStack : ByteArray := prog_2_method_9_code
def y_N_measureStack : MethodName := ⟨"PressureNets$Net", "measureStack", "(I)V"⟩
abbrev b_N_isDuct : ByteArray := prog_2_method_10_code
def y_N_isDuct : MethodName := ⟨"PressureNets$Net", "isDuct", "(I)Z"⟩
abbrev b_N_driveOf : ByteArray := prog_2_method_11_code
def y_N_driveOf : MethodName := ⟨"PressureNets$Net", "driveOf", "(I[I)I"⟩
abbrev b_N_flowOf : ByteArray := prog_2_method_12_code
def y_N_flowOf : MethodName := ⟨"PressureNets$Net", "flowOf", "(ILPressureNets$State;)I"⟩
abbrev b_N_gainOf : ByteArray := prog_2_method_13_code
def y_N_gainOf : MethodName := ⟨"PressureNets$Net", "gainOf", "(ILPressureNets$State;)I"⟩
abbrev b_N_rootFlow : ByteArray := prog_2_method_14_code
def y_N_rootFlow : MethodName := ⟨"PressureNets$Net", "rootFlow", "(II)I"⟩
abbrev b_S_init : ByteArray := prog_3_method_1_code
def y_S_init : MethodName := ⟨"PressureNets$Settler", "<init>", "(LPressureNets$Net;)V"⟩
abbrev b_S_settles : ByteArray := prog_3_method_2_code
def y_S_settles : MethodName := ⟨"PressureNets$Settler", "settles", "(LPressureNets$State;)Z"⟩
abbrev b_S_begin : ByteArray := prog_3_method_3_code
def y_S_begin : MethodName := ⟨"PressureNets$Settler", "begin", "(LPressureNets$State;)V"⟩
abbrev b_S_isPastHighest : ByteArray := prog_3_method_4_code
def y_S_isPastHighest : MethodName := ⟨"PressureNets$Settler", "isPastHighest", "(LPressureNets$State;)Z"⟩
abbrev b_S_doBout : ByteArray := prog_3_method_5_code
def y_S_doBout : MethodName := ⟨"PressureNets$Settler", "doBout", "(LPressureNets$State;I)I"⟩
abbrev b_S_raises : ByteArray := prog_3_method_6_code
def y_S_raises : MethodName := ⟨"PressureNets$Settler", "raises", "(LPressureNets$State;I)Z"⟩
abbrev b_S_lifts : ByteArray := prog_3_method_7_code
def y_S_lifts : MethodName := ⟨"PressureNets$Settler", "lifts", "(LPressureNets$State;II)Z"⟩
abbrev b_T_init : ByteArray := prog_4_method_1_code
def y_T_init : MethodName := ⟨"PressureNets$State", "<init>", "()V"⟩
abbrev b_U_init : ByteArray := prog_5_method_1_code
def y_U_init : MethodName := ⟨"PressureNets$Stuff", "<init>", "(LPressureNets$Net;)V"⟩
abbrev b_U_follow : ByteArray := prog_5_method_2_code
def y_U_follow : MethodName := ⟨"PressureNets$Stuff", "follow", "(LPressureNets$State;)V"⟩
abbrev b_U_giverOf : ByteArray := prog_5_method_3_code
def y_U_giverOf : MethodName := ⟨"PressureNets$Stuff", "giverOf", "(I)I"⟩
abbrev b_U_takerOf : ByteArray := prog_5_method_4_code
def y_U_takerOf : MethodName := ⟨"PressureNets$Stuff", "takerOf", "(I)I"⟩
abbrev b_U_doesStep : ByteArray := prog_5_method_5_code
def y_U_doesStep : MethodName := ⟨"PressureNets$Stuff", "doesStep", "()Z"⟩
abbrev b_U_carry : ByteArray := prog_5_method_6_code
def y_U_carry : MethodName := ⟨"PressureNets$Stuff", "carry", "(I)V"⟩
abbrev b_L_zone : ByteArray := method_3_code
def y_L_zone : MethodName := ⟨"PressureNetsLaw", "zone", "(LPressureNets;II[J)I"⟩
abbrev b_L_wind : ByteArray := method_4_code
def y_L_wind : MethodName := ⟨"PressureNetsLaw", "wind", "(LPressureNets;II[J)I"⟩
abbrev b_L_warmth : ByteArray := method_5_code
def y_L_warmth : MethodName := ⟨"PressureNetsLaw", "warmth", "(LPressureNets;II[J)I"⟩
abbrev b_L_leak : ByteArray := method_6_code
def y_L_leak : MethodName := ⟨"PressureNetsLaw", "leak", "(LPressureNets;IIIII[J)I"⟩
abbrev b_L_shut : ByteArray := method_7_code
def y_L_shut : MethodName := ⟨"PressureNetsLaw", "shut", "(LPressureNets;IZ[J)I"⟩
abbrev b_L_fan : ByteArray := method_8_code
def y_L_fan : MethodName := ⟨"PressureNetsLaw", "fan", "(LPressureNets;IIII[J)I"⟩
abbrev b_L_pressure : ByteArray := method_9_code
def y_L_pressure : MethodName := ⟨"PressureNetsLaw", "pressure", "(LPressureNets;I[J)I"⟩
abbrev b_L_told : ByteArray := method_10_code
def y_L_told : MethodName := ⟨"PressureNetsLaw", "told", "(LPressureNets;II[J)I"⟩
abbrev b_L_blows : ByteArray := method_11_code
def y_L_blows : MethodName := ⟨"PressureNetsLaw", "blows", "(LPressureNets;I[J)I"⟩
abbrev b_L_gain : ByteArray := method_12_code
def y_L_gain : MethodName := ⟨"PressureNetsLaw", "gain", "(LPressureNets;I[J)I"⟩
abbrev b_L_caseOf : ByteArray := method_13_code
def y_L_caseOf : MethodName := ⟨"PressureNetsLaw", "caseOf", "(LPressureNets;I[J)I"⟩
abbrev b_L_worst : ByteArray := method_14_code
def y_L_worst : MethodName := ⟨"PressureNetsLaw", "worst", "(LPressureNets;II[J)I"⟩
abbrev b_L_put : ByteArray := method_15_code
def y_L_put : MethodName := ⟨"PressureNetsLaw", "put", "(LPressureNets;II[J)I"⟩
abbrev b_L_source : ByteArray := method_16_code
def y_L_source : MethodName := ⟨"PressureNetsLaw", "source", "(LPressureNets;II[J)I"⟩
abbrev b_L_steps : ByteArray := method_17_code
def y_L_steps : MethodName := ⟨"PressureNetsLaw", "steps", "(LPressureNets;I[J)I"⟩
abbrev b_L_gone : ByteArray := method_18_code
def y_L_gone : MethodName := ⟨"PressureNetsLaw", "gone", "(LPressureNets;I[J)I"⟩
-- not reached: ('PressureNetsLaw', 'law', '([I)Z')
def pn_W : List Cond := lw_tbl.filter goodWord
theorem pn_mem {w : Cond} (i : Nat) (h : lw_tbl[i]? = some w) (g : goodWord w = true) : w ∈ pn_W := List.mem_filter.mpr ⟨List.mem_of_getElem? h, g⟩
theorem pn_sub : ∀ w ∈ pn_W, w ∈ lw_tbl := fun _ h => (List.mem_filter.mp h).1
theorem pn_gd {c0 w : Cond} (h : w ∈ pn_W) : w ∈ c0 :: pn_W ∧ ((w.onTables && w.keeps) = true ∨ ∃ ty, w = .arrayClass ty) := ⟨List.mem_cons_of_mem _ h, good_of_word (List.mem_filter.mp h).2⟩
theorem pn_g {c0 c1 : Cond} (h : c1 ∈ pn_W) : GoodIn (c0 :: pn_W) (c1 :: pn_W) := fun w hw => (List.mem_cons.mp hw).elim (fun e => by rw [e]; exact pn_gd h) (fun q => pn_gd q)
theorem pn_gV {c0 c1 : Cond} {own : String} {idx : Nat} {C : String} {y : MethodName} (h1 : Cond.methodLink own idx y ∈ pn_W) (h2 : Cond.instanceMethod y ∈ pn_W) (h3 : Cond.selects C y y ∈ pn_W) (h4 : Cond.initialized C ∈ pn_W) (h : c1 ∈ pn_W) : GoodIn (c0 :: pn_W) (wsV own idx C y (c1 :: pn_W)) := by
  intro w hw
  unfold wsV at hw
  rcases List.mem_append.mp hw with q | q
  · simp only [List.mem_cons, List.not_mem_nil, or_false] at q
    rcases q with rfl | rfl | rfl | rfl
    · exact pn_gd h1
    · exact pn_gd h2
    · exact pn_gd h3
    · exact pn_gd h4
  · exact pn_g h w q
theorem pn_gS {c0 c1 : Cond} {own : String} {idx : Nat} {y : MethodName} (h1 : Cond.methodLink own idx y ∈ pn_W) (h2 : Cond.static y ∈ pn_W) (h3 : Cond.initialized own ∈ pn_W) (h : c1 ∈ pn_W) : GoodIn (c0 :: pn_W) (wsS own idx y (c1 :: pn_W)) := by
  intro w hw
  unfold wsS at hw
  rcases List.mem_append.mp hw with q | q
  · simp only [List.mem_cons, List.not_mem_nil, or_false] at q
    rcases q with rfl | rfl | rfl
    · exact pn_gd h1
    · exact pn_gd h2
    · exact pn_gd h3
  · exact pn_g h w q
