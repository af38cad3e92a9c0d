/-! ===== BEGIN words of one list among another's, by their places ===== -/
theorem goodIn_r {big : List Cond} (ws : List Cond) (ps : List Nat) (hp : ws = ps.filterMap (fun i => big[i]?)) (h : ws.all goodWord = true) : GoodIn big ws := by
  intro w hw
  have h1 := List.all_eq_true.mp h w hw
  rw [hp] at hw
  obtain ⟨i, -, hi⟩ := List.mem_filterMap.mp hw
  have hm : w ∈ big := by first | exact List.mem_of_getElem? hi | exact List.getElem?_mem hi
  exact ⟨hm, good_of_word h1⟩
theorem goodIn_app {big a b : List Cond} (ha : GoodIn big a) (hb : GoodIn big b) : GoodIn big (a ++ b) := fun w h => (List.mem_append.mp h).elim (ha w) (hb w)
theorem goodIn_ca {big a b : List Cond} {c : Cond} (ha : GoodIn big (c :: a)) (hb : GoodIn big b) : GoodIn big (c :: (a ++ b)) := fun w h => (List.mem_cons.mp h).elim (fun e => ha w (List.mem_cons.mpr (Or.inl e))) (fun h => (List.mem_append.mp h).elim (fun h => ha w (List.mem_cons.mpr (Or.inr h))) (hb w))
theorem goodIn_sub {big ws : List Cond} (hm : ∀ w ∈ ws, w ∈ big) (h : ws.all goodWord = true) : GoodIn big ws := fun w hw => ⟨hm w hw, good_of_word (List.all_eq_true.mp h w hw)⟩
/-! ===== END ===== -/

/-! ===== BEGIN printed: names, fields, word lists, decode rows ===== -/
def RX0 : String := "OhmBridge$History"
def TX0 : u_T := fun k => match k with
  | 0 => ("OhmBridge$History", "size", "I", false)
  | _ => ("OhmBridge$History", "kept", "[LOhmBridge$State;", true)
def tyX0 : Nat → FieldType := fun k => match k with
  | 0 => .int
  | _ => .array (.object "OhmBridge$State")
abbrev wsX00 : List Cond := u_ws RX0 TX0 2
theorem nmX0 : ∀ a, a < 2 → ∀ b, b < 2 → a ≠ b → (TX0 a).2.1 ≠ (TX0 b).2.1 := by decide +kernel
theorem tyX0_ok : ∀ k, k < 2 → parseFieldDescriptor (TX0 k).2.2.1 = some (tyX0 k) := by decide +kernel
abbrev cX0_init : ByteArray := prog_2_method_1_code
def yX0_init : MethodName := ⟨RX0, "<init>", "()V"⟩
abbrev cX0_record : ByteArray := prog_2_method_2_code
def yX0_record : MethodName := ⟨RX0, "record", "(LOhmBridge$State;)V"⟩
abbrev cX0_restore : ByteArray := prog_2_method_3_code
def yX0_restore : MethodName := ⟨RX0, "restore", "(LOhmBridge$State;)V"⟩
abbrev cX0_dropOldest : ByteArray := prog_2_method_4_code
def yX0_dropOldest : MethodName := ⟨RX0, "dropOldest", "()V"⟩
def RX1 : String := "OhmBridge$Measurement"
def TX1 : u_T := fun k => match k with
  | 0 => ("OhmBridge$Measurement", "heated", "J", false)
  | 1 => ("OhmBridge$Measurement", "oneWay", "J", false)
  | 2 => ("OhmBridge$Measurement", "otherWay", "J", false)
  | 3 => ("OhmBridge$Measurement", "secondOneWay", "J", false)
  | 4 => ("OhmBridge$Measurement", "secondOtherWay", "J", false)
  | 5 => ("OhmBridge$Measurement", "loopOhms", "J", false)
  | 6 => ("OhmBridge$Measurement", "compensated", "J", false)
  | 7 => ("OhmBridge$Measurement", "current", "J", false)
  | 8 => ("OhmBridge$Measurement", "reference", "J", false)
  | 9 => ("OhmBridge$Measurement", "unit", "J", false)
  | _ => ("OhmBridge$Measurement", "stray", "J", false)
def tyX1 : Nat → FieldType := fun k => match k with
  | 0 => .long
  | 1 => .long
  | 2 => .long
  | 3 => .long
  | 4 => .long
  | 5 => .long
  | 6 => .long
  | 7 => .long
  | 8 => .long
  | 9 => .long
  | _ => .long
abbrev wsX10 : List Cond := u_ws RX1 TX1 11
theorem nmX1 : ∀ a, a < 11 → ∀ b, b < 11 → a ≠ b → (TX1 a).2.1 ≠ (TX1 b).2.1 := by decide +kernel
theorem tyX1_ok : ∀ k, k < 11 → parseFieldDescriptor (TX1 k).2.2.1 = some (tyX1 k) := by decide +kernel
abbrev cX1_init : ByteArray := prog_3_method_1_code
def yX1_init : MethodName := ⟨RX1, "<init>", "()V"⟩
abbrev cX1_take : ByteArray := prog_3_method_2_code
def yX1_take : MethodName := ⟨RX1, "take", "(LOhmBridge$State;LOhmBridge$Sensor;I)V"⟩
abbrev cX1_heatedOhms : ByteArray := prog_3_method_3_code
def yX1_heatedOhms : MethodName := ⟨RX1, "heatedOhms", "(LOhmBridge$Sensor;LOhmBridge$Table;)J"⟩
abbrev cX1_greatest : ByteArray := prog_3_method_4_code
def yX1_greatest : MethodName := ⟨RX1, "greatest", "()J"⟩
abbrev cX1_countsOf : ByteArray := prog_3_method_5_code
def yX1_countsOf : MethodName := ⟨RX1, "countsOf", "(J)J"⟩
abbrev cX1_ohmsBy : ByteArray := prog_3_method_6_code
def yX1_ohmsBy : MethodName := ⟨RX1, "ohmsBy", "(J)J"⟩
abbrev cX1_isAtBound : ByteArray := prog_3_method_7_code
def yX1_isAtBound : MethodName := ⟨RX1, "isAtBound", "()Z"⟩
def RX2 : String := "OhmBridge$Meter"
def TX2 : u_T := fun k => match k with
  | 0 => ("OhmBridge$Meter", "first", "LOhmBridge$Measurement;", true)
  | 1 => ("OhmBridge$Meter", "second", "LOhmBridge$Measurement;", true)
  | 2 => ("OhmBridge$Meter", "withoutPower", "J", false)
  | 3 => ("OhmBridge$Meter", "reading", "I", false)
  | _ => ("OhmBridge$Meter", "diagnosed", "I", false)
def tyX2 : Nat → FieldType := fun k => match k with
  | 0 => .object "OhmBridge$Measurement"
  | 1 => .object "OhmBridge$Measurement"
  | 2 => .long
  | 3 => .int
  | _ => .int
abbrev wsX20 : List Cond := u_ws RX2 TX2 5
theorem nmX2 : ∀ a, a < 5 → ∀ b, b < 5 → a ≠ b → (TX2 a).2.1 ≠ (TX2 b).2.1 := by decide +kernel
theorem tyX2_ok : ∀ k, k < 5 → parseFieldDescriptor (TX2 k).2.2.1 = some (tyX2 k) := by decide +kernel
abbrev cX2_init : ByteArray := prog_4_method_1_code
def yX2_init : MethodName := ⟨RX2, "<init>", "()V"⟩
abbrev cX2_measure : ByteArray := prog_4_method_2_code
def yX2_measure : MethodName := ⟨RX2, "measure", "(LOhmBridge$State;LOhmBridge$Sensor;)V"⟩
abbrev cX2_extrapolated : ByteArray := prog_4_method_3_code
def yX2_extrapolated : MethodName := ⟨RX2, "extrapolated", "(JJ)J"⟩
abbrev cX2_readingOf : ByteArray := prog_4_method_4_code
def yX2_readingOf : MethodName := ⟨RX2, "readingOf", "(LOhmBridge$Table;J)I"⟩
abbrev cX2_diagnosisOf : ByteArray := prog_4_method_5_code
def yX2_diagnosisOf : MethodName := ⟨RX2, "diagnosisOf", "(LOhmBridge$State;LOhmBridge$Sensor;)I"⟩
def RX3 : String := "OhmBridge$Sensor"
def TX3 : u_T := fun k => match k with
  | 0 => ("OhmBridge$Sensor", "table", "I", false)
  | 1 => ("OhmBridge$Sensor", "wires", "I", false)
  | 2 => ("OhmBridge$Sensor", "trueBase", "I", false)
  | 3 => ("OhmBridge$Sensor", "assumedBase", "I", false)
  | 4 => ("OhmBridge$Sensor", "temperature", "I", false)
  | 5 => ("OhmBridge$Sensor", "brokenWires", "I", false)
  | 6 => ("OhmBridge$Sensor", "place", "I", false)
  | 7 => ("OhmBridge$Sensor", "low", "I", false)
  | 8 => ("OhmBridge$Sensor", "high", "I", false)
  | 9 => ("OhmBridge$Sensor", "hysteresis", "I", false)
  | 10 => ("OhmBridge$Sensor", "alarm", "I", false)
  | 11 => ("OhmBridge$Sensor", "readings", "I", false)
  | 12 => ("OhmBridge$Sensor", "leads", "[I", true)
  | 13 => ("OhmBridge$Sensor", "strains", "[I", true)
  | _ => ("OhmBridge$Sensor", "latest", "[I", true)
def tyX3 : Nat → FieldType := fun k => match k with
  | 0 => .int
  | 1 => .int
  | 2 => .int
  | 3 => .int
  | 4 => .int
  | 5 => .int
  | 6 => .int
  | 7 => .int
  | 8 => .int
  | 9 => .int
  | 10 => .int
  | 11 => .int
  | 12 => .array .int
  | 13 => .array .int
  | _ => .array .int
abbrev wsX30 : List Cond := u_ws RX3 TX3 15
theorem nmX3 : ∀ a, a < 15 → ∀ b, b < 15 → a ≠ b → (TX3 a).2.1 ≠ (TX3 b).2.1 := by decide +kernel
theorem tyX3_ok : ∀ k, k < 15 → parseFieldDescriptor (TX3 k).2.2.1 = some (tyX3 k) := by decide +kernel
abbrev cX3_init : ByteArray := prog_5_method_1_code
def yX3_init : MethodName := ⟨RX3, "<init>", "()V"⟩
abbrev cX3_begin : ByteArray := prog_5_method_2_code
def yX3_begin : MethodName := ⟨RX3, "begin", "(IIII)V"⟩
abbrev cX3_copy : ByteArray := prog_5_method_3_code
def yX3_copy : MethodName := ⟨RX3, "copy", "(LOhmBridge$Sensor;)V"⟩
abbrev cX3_isPlugged : ByteArray := prog_5_method_4_code
def yX3_isPlugged : MethodName := ⟨RX3, "isPlugged", "()Z"⟩
abbrev cX3_fits : ByteArray := prog_5_method_5_code
def yX3_fits : MethodName := ⟨RX3, "fits", "(I)Z"⟩
abbrev cX3_isCompensated : ByteArray := prog_5_method_6_code
def yX3_isCompensated : MethodName := ⟨RX3, "isCompensated", "()Z"⟩
abbrev cX3_hasWire : ByteArray := prog_5_method_7_code
def yX3_hasWire : MethodName := ⟨RX3, "hasWire", "(I)Z"⟩
abbrev cX3_leadOf : ByteArray := prog_5_method_8_code
def yX3_leadOf : MethodName := ⟨RX3, "leadOf", "(I)I"⟩
abbrev cX3_setLead : ByteArray := prog_5_method_9_code
def yX3_setLead : MethodName := ⟨RX3, "setLead", "(II)V"⟩
abbrev cX3_strainOf : ByteArray := prog_5_method_10_code
def yX3_strainOf : MethodName := ⟨RX3, "strainOf", "(I)I"⟩
abbrev cX3_setStrain : ByteArray := prog_5_method_11_code
def yX3_setStrain : MethodName := ⟨RX3, "setStrain", "(II)V"⟩
abbrev cX3_isBroken : ByteArray := prog_5_method_12_code
def yX3_isBroken : MethodName := ⟨RX3, "isBroken", "(I)Z"⟩
abbrev cX3_turnWire : ByteArray := prog_5_method_13_code
def yX3_turnWire : MethodName := ⟨RX3, "turnWire", "(I)V"⟩
abbrev cX3_watch : ByteArray := prog_5_method_14_code
def yX3_watch : MethodName := ⟨RX3, "watch", "(III)V"⟩
abbrev cX3_keptReadings : ByteArray := prog_5_method_15_code
def yX3_keptReadings : MethodName := ⟨RX3, "keptReadings", "()I"⟩
abbrev cX3_reading : ByteArray := prog_5_method_16_code
def yX3_reading : MethodName := ⟨RX3, "reading", "(I)I"⟩
abbrev cX3_log : ByteArray := prog_5_method_17_code
def yX3_log : MethodName := ⟨RX3, "log", "(I)V"⟩
def RX4 : String := "OhmBridge$State"
def TX4 : u_T := fun k => match k with
  | 0 => ("OhmBridge$State", "tableCount", "I", false)
  | 1 => ("OhmBridge$State", "sensorCount", "I", false)
  | 2 => ("OhmBridge$State", "scanner", "I", false)
  | 3 => ("OhmBridge$State", "tables", "[LOhmBridge$Table;", true)
  | 4 => ("OhmBridge$State", "sensors", "[LOhmBridge$Sensor;", true)
  | _ => ("OhmBridge$State", "settings", "[I", true)
def tyX4 : Nat → FieldType := fun k => match k with
  | 0 => .int
  | 1 => .int
  | 2 => .int
  | 3 => .array (.object "OhmBridge$Table")
  | 4 => .array (.object "OhmBridge$Sensor")
  | _ => .array .int
abbrev wsX40 : List Cond := u_ws RX4 TX4 6
theorem nmX4 : ∀ a, a < 6 → ∀ b, b < 6 → a ≠ b → (TX4 a).2.1 ≠ (TX4 b).2.1 := by decide +kernel
theorem tyX4_ok : ∀ k, k < 6 → parseFieldDescriptor (TX4 k).2.2.1 = some (tyX4 k) := by decide +kernel
abbrev cX4_init : ByteArray := prog_6_method_1_code
def yX4_init : MethodName := ⟨RX4, "<init>", "()V"⟩
abbrev cX4_copy : ByteArray := prog_6_method_2_code
def yX4_copy : MethodName := ⟨RX4, "copy", "(LOhmBridge$State;)V"⟩
abbrev cX4_tableAt : ByteArray := prog_6_method_3_code
def yX4_tableAt : MethodName := ⟨RX4, "tableAt", "(I)LOhmBridge$Table;"⟩
abbrev cX4_sensorAt : ByteArray := prog_6_method_4_code
def yX4_sensorAt : MethodName := ⟨RX4, "sensorAt", "(I)LOhmBridge$Sensor;"⟩
abbrev cX4_setting : ByteArray := prog_6_method_5_code
def yX4_setting : MethodName := ⟨RX4, "setting", "(I)I"⟩
abbrev cX4_changeSetting : ByteArray := prog_6_method_6_code
def yX4_changeSetting : MethodName := ⟨RX4, "changeSetting", "(II)V"⟩
abbrev cX4_hasSensorOf : ByteArray := prog_6_method_7_code
def yX4_hasSensorOf : MethodName := ⟨RX4, "hasSensorOf", "(I)Z"⟩
abbrev cX4_sensorIn : ByteArray := prog_6_method_8_code
def yX4_sensorIn : MethodName := ⟨RX4, "sensorIn", "(I)I"⟩
abbrev cX4_takenSlots : ByteArray := prog_6_method_9_code
def yX4_takenSlots : MethodName := ⟨RX4, "takenSlots", "(I)I"⟩
abbrev cX4_pluggedSensors : ByteArray := prog_6_method_10_code
def yX4_pluggedSensors : MethodName := ⟨RX4, "pluggedSensors", "()I"⟩
abbrev cX4_alarmsOn : ByteArray := prog_6_method_11_code
def yX4_alarmsOn : MethodName := ⟨RX4, "alarmsOn", "()I"⟩
abbrev cX4_allReadings : ByteArray := prog_6_method_12_code
def yX4_allReadings : MethodName := ⟨RX4, "allReadings", "()I"⟩
abbrev cX4_nextPlugged : ByteArray := prog_6_method_13_code
def yX4_nextPlugged : MethodName := ⟨RX4, "nextPlugged", "()I"⟩
abbrev cX4_canBring : ByteArray := prog_6_method_14_code
def yX4_canBring : MethodName := ⟨RX4, "canBring", "(LOhmBridge$Sensor;I)Z"⟩
def RX5 : String := "OhmBridge$Table"
def TX5 : u_T := fun k => match k with
  | 0 => ("OhmBridge$Table", "nodes", "I", false)
  | 1 => ("OhmBridge$Table", "temperatures", "[I", true)
  | _ => ("OhmBridge$Table", "ratios", "[I", true)
def tyX5 : Nat → FieldType := fun k => match k with
  | 0 => .int
  | 1 => .array .int
  | _ => .array .int
abbrev wsX50 : List Cond := u_ws RX5 TX5 3
theorem nmX5 : ∀ a, a < 3 → ∀ b, b < 3 → a ≠ b → (TX5 a).2.1 ≠ (TX5 b).2.1 := by decide +kernel
theorem tyX5_ok : ∀ k, k < 3 → parseFieldDescriptor (TX5 k).2.2.1 = some (tyX5 k) := by decide +kernel
abbrev cX5_init : ByteArray := prog_7_method_1_code
def yX5_init : MethodName := ⟨RX5, "<init>", "()V"⟩
abbrev cX5_copy : ByteArray := prog_7_method_2_code
def yX5_copy : MethodName := ⟨RX5, "copy", "(LOhmBridge$Table;)V"⟩
abbrev cX5_temperatureOf : ByteArray := prog_7_method_3_code
def yX5_temperatureOf : MethodName := ⟨RX5, "temperatureOf", "(I)I"⟩
abbrev cX5_ratioOf : ByteArray := prog_7_method_4_code
def yX5_ratioOf : MethodName := ⟨RX5, "ratioOf", "(I)I"⟩
abbrev cX5_mayGoOn : ByteArray := prog_7_method_5_code
def yX5_mayGoOn : MethodName := ⟨RX5, "mayGoOn", "(II)Z"⟩
abbrev cX5_append : ByteArray := prog_7_method_6_code
def yX5_append : MethodName := ⟨RX5, "append", "(II)V"⟩
abbrev cX5_goesTo : ByteArray := prog_7_method_7_code
def yX5_goesTo : MethodName := ⟨RX5, "goesTo", "(I)Z"⟩
abbrev cX5_nearest : ByteArray := prog_7_method_8_code
def yX5_nearest : MethodName := ⟨RX5, "nearest", "(I)I"⟩
abbrev cX5_ratioAt : ByteArray := prog_7_method_9_code
def yX5_ratioAt : MethodName := ⟨RX5, "ratioAt", "(I)I"⟩
abbrev cX5_temperatureFor : ByteArray := prog_7_method_10_code
def yX5_temperatureFor : MethodName := ⟨RX5, "temperatureFor", "(J)I"⟩
def RX6 : String := "OhmBridge$Text"
def TX6 : u_T := fun k => match k with
  | 0 => ("OhmBridge$Text", "length", "I", false)
  | 1 => ("OhmBridge$Text", "order", "C", false)
  | 2 => ("OhmBridge$Text", "sensor", "I", false)
  | 3 => ("OhmBridge$Text", "number", "I", false)
  | 4 => ("OhmBridge$Text", "next", "I", false)
  | _ => ("OhmBridge$Text", "characters", "[C", true)
def tyX6 : Nat → FieldType := fun k => match k with
  | 0 => .int
  | 1 => .char
  | 2 => .int
  | 3 => .int
  | 4 => .int
  | _ => .array .char
abbrev wsX60 : List Cond := u_ws RX6 TX6 6
theorem nmX6 : ∀ a, a < 6 → ∀ b, b < 6 → a ≠ b → (TX6 a).2.1 ≠ (TX6 b).2.1 := by decide +kernel
theorem tyX6_ok : ∀ k, k < 6 → parseFieldDescriptor (TX6 k).2.2.1 = some (tyX6 k) := by decide +kernel
abbrev cX6_init : ByteArray := prog_8_method_1_code
def yX6_init : MethodName := ⟨RX6, "<init>", "()V"⟩
def RX7 : String := "OhmBridge"
def TX7 : u_T := fun k => match k with
  | 0 => ("OhmBridge", "now", "LOhmBridge$State;", true)
  | 1 => ("OhmBridge", "trial", "LOhmBridge$State;", true)
  | 2 => ("OhmBridge", "history", "LOhmBridge$History;", true)
  | 3 => ("OhmBridge", "meter", "LOhmBridge$Meter;", true)
  | 4 => ("OhmBridge", "probe", "LOhmBridge$Measurement;", true)
  | 5 => ("OhmBridge", "text", "LOhmBridge$Text;", true)
  | 6 => ("OhmBridge", "sorted", "[I", true)
  | 7 => ("OhmBridge", "faultPlace", "I", false)
  | 8 => ("OhmBridge", "faultReason", "I", false)
  | _ => ("OhmBridge", "ordersDone", "I", false)
def tyX7 : Nat → FieldType := fun k => match k with
  | 0 => .object "OhmBridge$State"
  | 1 => .object "OhmBridge$State"
  | 2 => .object "OhmBridge$History"
  | 3 => .object "OhmBridge$Meter"
  | 4 => .object "OhmBridge$Measurement"
  | 5 => .object "OhmBridge$Text"
  | 6 => .array .int
  | 7 => .int
  | 8 => .int
  | _ => .int
abbrev wsX70 : List Cond := u_ws RX7 TX7 10
theorem nmX7 : ∀ a, a < 10 → ∀ b, b < 10 → a ≠ b → (TX7 a).2.1 ≠ (TX7 b).2.1 := by decide +kernel
theorem tyX7_ok : ∀ k, k < 10 → parseFieldDescriptor (TX7 k).2.2.1 = some (tyX7 k) := by decide +kernel
abbrev cX7_init : ByteArray := prog_1_method_1_code
def yX7_init : MethodName := ⟨RX7, "<init>", "()V"⟩
abbrev cX7_table : ByteArray := prog_1_method_2_code
def yX7_table : MethodName := ⟨RX7, "table", "()I"⟩
abbrev cX7_node : ByteArray := prog_1_method_3_code
def yX7_node : MethodName := ⟨RX7, "node", "(III)I"⟩
abbrev cX7_nodeAt : ByteArray := prog_1_method_4_code
def yX7_nodeAt : MethodName := ⟨RX7, "nodeAt", "(III)I"⟩
abbrev cX7_ratio : ByteArray := prog_1_method_5_code
def yX7_ratio : MethodName := ⟨RX7, "ratio", "(II)I"⟩
abbrev cX7_inverse : ByteArray := prog_1_method_6_code
def yX7_inverse : MethodName := ⟨RX7, "inverse", "(II)I"⟩
abbrev cX7_sensor : ByteArray := prog_1_method_7_code
def yX7_sensor : MethodName := ⟨RX7, "sensor", "(III)I"⟩
abbrev cX7_plug : ByteArray := prog_1_method_8_code
def yX7_plug : MethodName := ⟨RX7, "plug", "(III)I"⟩
abbrev cX7_slotAt : ByteArray := prog_1_method_10_code
def yX7_slotAt : MethodName := ⟨RX7, "slotAt", "(II)I"⟩
abbrev cX7_bath : ByteArray := prog_1_method_11_code
def yX7_bath : MethodName := ⟨RX7, "bath", "(II)I"⟩
abbrev cX7_lead : ByteArray := prog_1_method_12_code
def yX7_lead : MethodName := ⟨RX7, "lead", "(III)I"⟩
abbrev cX7_strain : ByteArray := prog_1_method_13_code
def yX7_strain : MethodName := ⟨RX7, "strain", "(III)I"⟩
abbrev cX7_cut : ByteArray := prog_1_method_14_code
def yX7_cut : MethodName := ⟨RX7, "cut", "(III)I"⟩
abbrev cX7_drift : ByteArray := prog_1_method_15_code
def yX7_drift : MethodName := ⟨RX7, "drift", "(II)I"⟩
abbrev cX7_sensorOf : ByteArray := prog_1_method_18_code
def yX7_sensorOf : MethodName := ⟨RX7, "sensorOf", "(II)I"⟩
abbrev cX7_set : ByteArray := prog_1_method_19_code
def yX7_set : MethodName := ⟨RX7, "set", "(II)I"⟩
abbrev cX7_counts : ByteArray := prog_1_method_20_code
def yX7_counts : MethodName := ⟨RX7, "counts", "(IIII)I"⟩
abbrev cX7_ohms : ByteArray := prog_1_method_21_code
def yX7_ohms : MethodName := ⟨RX7, "ohms", "(II)I"⟩
abbrev cX7_diagnosis : ByteArray := prog_1_method_22_code
def yX7_diagnosis : MethodName := ⟨RX7, "diagnosis", "(I)I"⟩
abbrev cX7_read : ByteArray := prog_1_method_23_code
def yX7_read : MethodName := ⟨RX7, "read", "(I)I"⟩
abbrev cX7_scan : ByteArray := prog_1_method_24_code
def yX7_scan : MethodName := ⟨RX7, "scan", "()I"⟩
abbrev cX7_readingAt : ByteArray := prog_1_method_25_code
def yX7_readingAt : MethodName := ⟨RX7, "readingAt", "(II)I"⟩
abbrev cX7_count : ByteArray := prog_1_method_28_code
def yX7_count : MethodName := ⟨RX7, "count", "(I)I"⟩
abbrev cX7_undo : ByteArray := prog_1_method_29_code
def yX7_undo : MethodName := ⟨RX7, "undo", "()I"⟩
abbrev cX7_isWithin : ByteArray := prog_1_method_40_code
def yX7_isWithin : MethodName := ⟨RX7, "isWithin", "(JJJ)Z"⟩
abbrev cX7_isTemperature : ByteArray := prog_1_method_41_code
def yX7_isTemperature : MethodName := ⟨RX7, "isTemperature", "(I)Z"⟩
abbrev cX7_isBase : ByteArray := prog_1_method_42_code
def yX7_isBase : MethodName := ⟨RX7, "isBase", "(J)Z"⟩
abbrev cX7_isSlot : ByteArray := prog_1_method_43_code
def yX7_isSlot : MethodName := ⟨RX7, "isSlot", "(II)Z"⟩
abbrev cX7_isInRow : ByteArray := prog_1_method_44_code
def yX7_isInRow : MethodName := ⟨RX7, "isInRow", "(II[I[I)Z"⟩
abbrev cX7_toldPlace : ByteArray := prog_1_method_45_code
def yX7_toldPlace : MethodName := ⟨RX7, "toldPlace", "(I)I"⟩
def RX8 : String := "OhmBridgeModel"
def TX8 : u_T := fun k => match k with
  | _ => ("", "", "", false)
def tyX8 : Nat → FieldType := fun k => match k with
  | _ => .int
abbrev wsX80 : List Cond := u_ws RX8 TX8 0
theorem nmX8 : ∀ a, a < 0 → ∀ b, b < 0 → a ≠ b → (TX8 a).2.1 ≠ (TX8 b).2.1 := by decide +kernel
theorem tyX8_ok : ∀ k, k < 0 → parseFieldDescriptor (TX8 k).2.2.1 = some (tyX8 k) := by decide +kernel
def RJ6 : String := "java/lang/Integer"
def TJ6 : u_T := fun k => match k with
  | _ => ("", "", "", false)
def tyJ6 : Nat → FieldType := fun k => match k with
  | _ => .int
abbrev wsJ60 : List Cond := u_ws RJ6 TJ6 0
theorem nmJ6 : ∀ a, a < 0 → ∀ b, b < 0 → a ≠ b → (TJ6 a).2.1 ≠ (TJ6 b).2.1 := by decide +kernel
theorem tyJ6_ok : ∀ k, k < 0 → parseFieldDescriptor (TJ6 k).2.2.1 = some (tyJ6 k) := by decide +kernel
abbrev cJ6_bitCount_0f7a4 : ByteArray := prog_11_method_49_code
def yJ6_bitCount_0f7a4 : MethodName := ⟨RJ6, "bitCount", "(I)I"⟩
def RJ9 : String := "java/lang/Math"
def TJ9 : u_T := fun k => match k with
  | _ => ("", "", "", false)
def tyJ9 : Nat → FieldType := fun k => match k with
  | _ => .int
abbrev wsJ90 : List Cond := u_ws RJ9 TJ9 0
theorem nmJ9 : ∀ a, a < 0 → ∀ b, b < 0 → a ≠ b → (TJ9 a).2.1 ≠ (TJ9 b).2.1 := by decide +kernel
theorem tyJ9_ok : ∀ k, k < 0 → parseFieldDescriptor (TJ9 k).2.2.1 = some (tyJ9 k) := by decide +kernel
abbrev cJ9_abs_0f7a4 : ByteArray := prog_12_method_59_code
def yJ9_abs_0f7a4 : MethodName := ⟨RJ9, "abs", "(I)I"⟩
abbrev cJ9_max_7cf53 : ByteArray := prog_12_method_65_code
def yJ9_max_7cf53 : MethodName := ⟨RJ9, "max", "(II)I"⟩
abbrev cJ9_max_f86c9 : ByteArray := prog_12_method_66_code
def yJ9_max_f86c9 : MethodName := ⟨RJ9, "max", "(JJ)J"⟩
abbrev cJ9_min_7cf53 : ByteArray := prog_12_method_69_code
def yJ9_min_7cf53 : MethodName := ⟨RJ9, "min", "(II)I"⟩
abbrev cJ9_min_f86c9 : ByteArray := prog_12_method_70_code
def yJ9_min_f86c9 : MethodName := ⟨RJ9, "min", "(JJ)J"⟩
def RJ10 : String := "java/lang/System"
def TJ10 : u_T := fun k => match k with
  | _ => ("", "", "", false)
def tyJ10 : Nat → FieldType := fun k => match k with
  | _ => .int
abbrev wsJ100 : List Cond := u_ws RJ10 TJ10 0
theorem nmJ10 : ∀ a, a < 0 → ∀ b, b < 0 → a ≠ b → (TJ10 a).2.1 ≠ (TJ10 b).2.1 := by decide +kernel
theorem tyJ10_ok : ∀ k, k < 0 → parseFieldDescriptor (TJ10 k).2.2.1 = some (tyJ10 k) := by decide +kernel
def RL : String := "OhmBridgeLaw"
abbrev cL_cell : ByteArray := method_2_code
def yL_cell : MethodName := ⟨RL, "cell", "([II)I"⟩
abbrev cL_tables : ByteArray := method_3_code
def yL_tables : MethodName := ⟨RL, "tables", "(LOhmBridge;II)Z"⟩
abbrev cL_sensors : ByteArray := method_4_code
def yL_sensors : MethodName := ⟨RL, "sensors", "(LOhmBridge;I)Z"⟩
abbrev cL_holds : ByteArray := method_5_code
def yL_holds : MethodName := ⟨RL, "holds", "(LOhmBridge;I)Z"⟩
abbrev cL_leads : ByteArray := method_6_code
def yL_leads : MethodName := ⟨RL, "leads", "(LOhmBridge;II)Z"⟩
abbrev cL_reads : ByteArray := method_7_code
def yL_reads : MethodName := ⟨RL, "reads", "(LOhmBridge;I)Z"⟩
abbrev cL_law : ByteArray := code
def yL_law : MethodName := ⟨RL, "law", "([I)Z"⟩
def wsL_law_r1 : List Cond := [Cond.classLink RL 10 RX7, Cond.instantiable RX7 10, Cond.initialized RX7, Cond.constant RL 73 (-200000), Cond.constant RL 78 (150000), Cond.constant RL 79 (300000), Cond.constant RL 86 (200000), Cond.constant RL 87 (900000), Cond.constant RL 100 (1050001), Cond.constant RL 65 (-2000000002), Cond.constant RL 29 (-2000000004), Cond.constant RL 104 (990001), Cond.constant RL 108 (200001), Cond.constant RL 109 (100000), Cond.methodLink RL 69 yX7_init, Cond.instanceMethod yX7_init, Cond.code yX7_init cX7_init 1 none, Cond.methodLink RX7 1 objectInit, Cond.instanceMethod objectInit, Cond.code objectInit ⟨#[0xb1]⟩ 1 none, Cond.classLink RX7 7 RX4, Cond.instantiable RX4 6, Cond.initialized RX4, Cond.fieldLink RX7 10 "OhmBridge" "now" "LOhmBridge$State;"]
def wsL_law_r2 : List Cond := [Cond.fieldLink RX7 16 "OhmBridge" "trial" "LOhmBridge$State;", Cond.classLink RX7 19 RX0, Cond.instantiable RX0 2, Cond.initialized RX0, Cond.fieldLink RX7 22 "OhmBridge" "history" "LOhmBridge$History;", Cond.classLink RX7 26 RX2, Cond.instantiable RX2 5, Cond.initialized RX2, Cond.fieldLink RX7 29 "OhmBridge" "meter" "LOhmBridge$Meter;", Cond.classLink RX7 33 RX1, Cond.instantiable RX1 11, Cond.initialized RX1, Cond.fieldLink RX7 36 "OhmBridge" "probe" "LOhmBridge$Measurement;", Cond.classLink RX7 40 RX6, Cond.instantiable RX6 6, Cond.initialized RX6, Cond.fieldLink RX7 43 "OhmBridge" "text" "LOhmBridge$Text;", Cond.arrayClass .int, Cond.fieldLink RX7 47 "OhmBridge" "sorted" "[I", Cond.methodLink RX7 9 yX4_init, Cond.instanceMethod yX4_init, Cond.code yX4_init cX4_init 2 none, Cond.methodLink RX4 3 objectInit, Cond.fieldLink RX4 9 "OhmBridge$State" "scanner" "I"]
def wsL_law_r3 : List Cond := [Cond.classLink RX4 15 RX5, Cond.fieldLink RX4 17 "OhmBridge$State" "tables" "[LOhmBridge$Table;", Cond.classLink RX4 21 RX3, Cond.fieldLink RX4 23 "OhmBridge$State" "sensors" "[LOhmBridge$Sensor;", Cond.fieldLink RX4 27 "OhmBridge$State" "settings" "[I", Cond.instantiable RX5 3, Cond.initialized RX5, Cond.instantiable RX3 15, Cond.initialized RX3, Cond.methodLink RX4 36 arraycopyName, Cond.native arraycopyName, Cond.static arraycopyName, Cond.initialized "java/lang/System", Cond.instanceMethod yX5_init, Cond.code yX5_init cX5_init 1 none, Cond.methodLink RX5 3 objectInit, Cond.fieldLink RX5 9 "OhmBridge$Table" "temperatures" "[I", Cond.fieldLink RX5 15 "OhmBridge$Table" "ratios" "[I", Cond.instanceMethod yX3_init, Cond.code yX3_init cX3_init 1 none, Cond.methodLink RX3 3 objectInit, Cond.fieldLink RX3 9 "OhmBridge$Sensor" "place" "I", Cond.fieldLink RX3 15 "OhmBridge$Sensor" "leads" "[I", Cond.fieldLink RX3 19 "OhmBridge$Sensor" "strains" "[I"]
def wsL_law_r4 : List Cond := [Cond.fieldLink RX3 22 "OhmBridge$Sensor" "latest" "[I", Cond.methodLink RX7 21 yX0_init, Cond.instanceMethod yX0_init, Cond.code yX0_init cX0_init 2 none, Cond.methodLink RX0 3 objectInit, Cond.classLink RX0 9 RX4, Cond.fieldLink RX0 11 "OhmBridge$History" "kept" "[LOhmBridge$State;", Cond.methodLink RX0 17 yX4_init, Cond.instanceMethod yX2_init, Cond.code yX2_init cX2_init 1 none, Cond.methodLink RX2 3 objectInit, Cond.classLink RX2 9 RX1, Cond.fieldLink RX2 12 "OhmBridge$Meter" "first" "LOhmBridge$Measurement;", Cond.fieldLink RX2 18 "OhmBridge$Meter" "second" "LOhmBridge$Measurement;", Cond.instanceMethod yX1_init, Cond.code yX1_init cX1_init 1 none, Cond.methodLink RX1 3 objectInit, Cond.instanceMethod yX6_init, Cond.code yX6_init cX6_init 1 none, Cond.methodLink RX6 3 objectInit, Cond.arrayClass .char, Cond.fieldLink RX6 9 "OhmBridge$Text" "characters" "[C", Cond.methodLink RL 70 yL_holds, Cond.static yL_holds]
def wsL_law_r5 : List Cond := [Cond.initialized RL, Cond.code yL_holds cL_holds 6 (some .boolean), Cond.methodLink RL 9 yX7_count, Cond.instanceMethod yX7_count, Cond.selects RX7 yX7_count yX7_count, Cond.code yX7_count cX7_count 3 (some .int), Cond.constantLong RX7 356 (20), Cond.constantLong RX7 358 (26), Cond.constantLong RX7 360 (10), Cond.constantLong RX7 362 (12), Cond.constant RX7 92 (-2000000004), Cond.fieldLink RX7 85 "OhmBridge$Table" "nodes" "I", Cond.fieldLink RX7 51 "OhmBridge$State" "tableCount" "I", Cond.fieldLink RX7 118 "OhmBridge$State" "sensorCount" "I", Cond.fieldLink RX7 333 "OhmBridge$State" "scanner" "I", Cond.fieldLink RX7 373 "OhmBridge$History" "size" "I", Cond.fieldLink RX7 376 "OhmBridge$Text" "length" "I", Cond.constant RX7 74 (-2000000001), Cond.methodLink RX7 70 yX7_isWithin, Cond.static yX7_isWithin, Cond.code yX7_isWithin cX7_isWithin 6 (some .boolean), Cond.methodLink RX7 275 yX4_setting, Cond.instanceMethod yX4_setting, Cond.selects RX4 yX4_setting yX4_setting]
def wsL_law_r6 : List Cond := [Cond.code yX4_setting cX4_setting 2 (some .int), Cond.methodLink RX7 60 yX4_tableAt, Cond.instanceMethod yX4_tableAt, Cond.selects RX4 yX4_tableAt yX4_tableAt, Cond.code yX4_tableAt cX4_tableAt 3 (some (.object "OhmBridge$Table")), Cond.fieldLink RX4 42 "OhmBridge$State" "tableCount" "I", Cond.methodLink RX7 364 yX4_pluggedSensors, Cond.instanceMethod yX4_pluggedSensors, Cond.selects RX4 yX4_pluggedSensors yX4_pluggedSensors, Cond.code yX4_pluggedSensors cX4_pluggedSensors 3 (some .int), Cond.methodLink RX4 65 yX4_takenSlots, Cond.instanceMethod yX4_takenSlots, Cond.selects RX4 yX4_takenSlots yX4_takenSlots, Cond.code yX4_takenSlots cX4_takenSlots 4 (some .int), Cond.methodLink RX4 61 yX4_sensorIn, Cond.instanceMethod yX4_sensorIn, Cond.selects RX4 yX4_sensorIn yX4_sensorIn, Cond.code yX4_sensorIn cX4_sensorIn 3 (some .int), Cond.fieldLink RX4 45 "OhmBridge$State" "sensorCount" "I", Cond.fieldLink RX4 58 "OhmBridge$Sensor" "place" "I", Cond.methodLink RX7 367 yX4_alarmsOn, Cond.instanceMethod yX4_alarmsOn, Cond.selects RX4 yX4_alarmsOn yX4_alarmsOn, Cond.code yX4_alarmsOn cX4_alarmsOn 3 (some .int)]
def wsL_law_r7 : List Cond := [Cond.fieldLink RX4 68 "OhmBridge$Sensor" "alarm" "I", Cond.methodLink RX7 370 yX4_allReadings, Cond.instanceMethod yX4_allReadings, Cond.selects RX4 yX4_allReadings yX4_allReadings, Cond.code yX4_allReadings cX4_allReadings 3 (some .int), Cond.fieldLink RX4 71 "OhmBridge$Sensor" "readings" "I", Cond.methodLink RX7 153 yX7_toldPlace, Cond.static yX7_toldPlace, Cond.code yX7_toldPlace cX7_toldPlace 1 (some .int), Cond.methodLink RL 44 yL_tables, Cond.static yL_tables, Cond.code yL_tables cL_tables 11 (some .boolean), Cond.methodLink RL 15 yX7_nodeAt, Cond.instanceMethod yX7_nodeAt, Cond.selects RX7 yX7_nodeAt yX7_nodeAt, Cond.code yX7_nodeAt cX7_nodeAt 5 (some .int), Cond.methodLink RX7 93 yX5_temperatureOf, Cond.instanceMethod yX5_temperatureOf, Cond.selects RX5 yX5_temperatureOf yX5_temperatureOf, Cond.code yX5_temperatureOf cX5_temperatureOf 2 (some .int), Cond.methodLink RX7 97 yX5_ratioOf, Cond.instanceMethod yX5_ratioOf, Cond.selects RX5 yX5_ratioOf yX5_ratioOf, Cond.code yX5_ratioOf cX5_ratioOf 2 (some .int)]
def wsL_law_r8 : List Cond := [Cond.methodLink RL 19 yX7_ratio, Cond.instanceMethod yX7_ratio, Cond.selects RX7 yX7_ratio yX7_ratio, Cond.code yX7_ratio cX7_ratio 4 (some .int), Cond.methodLink RX7 64 yX7_isTemperature, Cond.static yX7_isTemperature, Cond.code yX7_isTemperature cX7_isTemperature 1 (some .boolean), Cond.constantLong RX7 432 (-200000), Cond.constantLong RX7 232 (850000), Cond.methodLink RX7 100 yX5_goesTo, Cond.instanceMethod yX5_goesTo, Cond.selects RX5 yX5_goesTo yX5_goesTo, Cond.code yX5_goesTo cX5_goesTo 2 (some .boolean), Cond.fieldLink RX5 18 "OhmBridge$Table" "nodes" "I", Cond.methodLink RX5 28 yX5_temperatureOf, Cond.methodLink RX7 103 yX5_ratioAt, Cond.instanceMethod yX5_ratioAt, Cond.selects RX5 yX5_ratioAt yX5_ratioAt, Cond.code yX5_ratioAt cX5_ratioAt 9 (some .int), Cond.methodLink RL 23 yX7_inverse, Cond.instanceMethod yX7_inverse, Cond.selects RX7 yX7_inverse yX7_inverse, Cond.code yX7_inverse cX7_inverse 4 (some .int), Cond.constantLong RX7 68 (10000000)]
def wsL_law_r9 : List Cond := [Cond.methodLink RX7 106 yX5_temperatureFor, Cond.instanceMethod yX5_temperatureFor, Cond.selects RX5 yX5_temperatureFor yX5_temperatureFor, Cond.code yX5_temperatureFor cX5_temperatureFor 7 (some .int), Cond.constant RX5 44 (-2000000004), Cond.methodLink RX5 32 yX5_ratioOf, Cond.methodLink RX5 45 yX5_ratioAt, Cond.methodLink RL 26 yX7_sensorOf, Cond.instanceMethod yX7_sensorOf, Cond.selects RX7 yX7_sensorOf yX7_sensorOf, Cond.code yX7_sensorOf cX7_sensorOf 4 (some .int), Cond.constantLong RX7 241 (18), Cond.constantLong RX7 243 (5), Cond.constantLong RX7 245 (8), Cond.constantLong RX7 247 (9), Cond.constantLong RX7 249 (11), Cond.fieldLink RX7 251 "OhmBridge$Sensor" "table" "I", Cond.fieldLink RX7 254 "OhmBridge$Sensor" "wires" "I", Cond.fieldLink RX7 209 "OhmBridge$Sensor" "trueBase" "I", Cond.fieldLink RX7 229 "OhmBridge$Sensor" "assumedBase" "I", Cond.fieldLink RX7 160 "OhmBridge$Sensor" "temperature" "I", Cond.fieldLink RX7 197 "OhmBridge$Sensor" "brokenWires" "I", Cond.fieldLink RX7 147 "OhmBridge$Sensor" "place" "I", Cond.fieldLink RX7 257 "OhmBridge$Sensor" "low" "I"]
def wsL_law_r10 : List Cond := [Cond.fieldLink RX7 260 "OhmBridge$Sensor" "high" "I", Cond.fieldLink RX7 263 "OhmBridge$Sensor" "hysteresis" "I", Cond.fieldLink RX7 234 "OhmBridge$Sensor" "alarm" "I", Cond.fieldLink RX7 266 "OhmBridge$Sensor" "readings" "I", Cond.methodLink RX7 121 yX4_sensorAt, Cond.instanceMethod yX4_sensorAt, Cond.selects RX4 yX4_sensorAt yX4_sensorAt, Cond.code yX4_sensorAt cX4_sensorAt 3 (some (.object "OhmBridge$Sensor")), Cond.methodLink RX7 163 yX3_hasWire, Cond.instanceMethod yX3_hasWire, Cond.selects RX3 yX3_hasWire yX3_hasWire, Cond.code yX3_hasWire cX3_hasWire 2 (some .boolean), Cond.fieldLink RX3 28 "OhmBridge$Sensor" "wires" "I", Cond.methodLink RX7 168 yX3_leadOf, Cond.instanceMethod yX3_leadOf, Cond.selects RX3 yX3_leadOf yX3_leadOf, Cond.code yX3_leadOf cX3_leadOf 2 (some .int), Cond.methodLink RX7 184 yX3_strainOf, Cond.instanceMethod yX3_strainOf, Cond.selects RX3 yX3_strainOf yX3_strainOf, Cond.code yX3_strainOf cX3_strainOf 2 (some .int), Cond.methodLink RX7 137 yX3_isPlugged, Cond.instanceMethod yX3_isPlugged, Cond.selects RX3 yX3_isPlugged yX3_isPlugged]
def wsL_law_r11 : List Cond := [Cond.code yX3_isPlugged cX3_isPlugged 1 (some .boolean), Cond.methodLink RL 50 yL_sensors, Cond.static yL_sensors, Cond.code yL_sensors cL_sensors 8 (some .boolean), Cond.constant RL 43 (2000000), Cond.methodLink RL 30 yX7_diagnosis, Cond.instanceMethod yX7_diagnosis, Cond.selects RX7 yX7_diagnosis yX7_diagnosis, Cond.code yX7_diagnosis cX7_diagnosis 3 (some .int), Cond.fieldLink RX7 218 "OhmBridge$Meter" "diagnosed" "I", Cond.methodLink RX7 214 yX2_measure, Cond.instanceMethod yX2_measure, Cond.selects RX2 yX2_measure yX2_measure, Cond.code yX2_measure cX2_measure 7 none, Cond.fieldLink RX2 35 "OhmBridge$Meter" "withoutPower" "J", Cond.fieldLink RX2 39 "OhmBridge$Sensor" "table" "I", Cond.fieldLink RX2 49 "OhmBridge$Sensor" "assumedBase" "I", Cond.fieldLink RX2 56 "OhmBridge$Meter" "reading" "I", Cond.fieldLink RX2 63 "OhmBridge$Meter" "diagnosed" "I", Cond.methodLink RX2 21 yX4_setting, Cond.methodLink RX2 27 yX1_take, Cond.instanceMethod yX1_take, Cond.selects RX1 yX1_take yX1_take, Cond.code yX1_take cX1_take 10 none]
def wsL_law_r12 : List Cond := [Cond.fieldLink RX1 9 "OhmBridge$Measurement" "current" "J", Cond.fieldLink RX1 21 "OhmBridge$Measurement" "reference" "J", Cond.fieldLink RX1 24 "OhmBridge$Measurement" "unit" "J", Cond.fieldLink RX1 32 "OhmBridge$Measurement" "stray" "J", Cond.fieldLink RX1 35 "OhmBridge$Sensor" "table" "I", Cond.fieldLink RX1 47 "OhmBridge$Measurement" "heated" "J", Cond.fieldLink RX1 50 "OhmBridge$Sensor" "wires" "I", Cond.fieldLink RX1 60 "OhmBridge$Measurement" "oneWay" "J", Cond.fieldLink RX1 63 "OhmBridge$Measurement" "otherWay" "J", Cond.fieldLink RX1 66 "OhmBridge$Measurement" "secondOneWay" "J", Cond.fieldLink RX1 69 "OhmBridge$Measurement" "secondOtherWay" "J", Cond.constantLong RX1 72 (2), Cond.fieldLink RX1 77 "OhmBridge$Measurement" "loopOhms" "J", Cond.fieldLink RX1 80 "OhmBridge$Measurement" "compensated" "J", Cond.methodLink RX1 15 yX4_setting, Cond.methodLink RX1 27 yX3_strainOf, Cond.methodLink RX1 39 yX4_tableAt, Cond.methodLink RX1 43 yX1_heatedOhms, Cond.instanceMethod yX1_heatedOhms, Cond.selects RX1 yX1_heatedOhms yX1_heatedOhms, Cond.code yX1_heatedOhms cX1_heatedOhms 9 (some .long), Cond.fieldLink RX1 87 "OhmBridge$Sensor" "trueBase" "I", Cond.fieldLink RX1 90 "OhmBridge$Sensor" "temperature" "I", Cond.constantLong RX1 98 (1000000)]
def wsL_law_r13 : List Cond := [Cond.fieldLink RX1 100 "OhmBridge$Table" "nodes" "I", Cond.methodLink RX1 106 Lib.MathLoose.min_long.x, Cond.static Lib.MathLoose.min_long.x, Cond.initialized "java/lang/Math", Cond.code Lib.MathLoose.min_long.x Lib.MathLoose.min_long.code 4 (some .long), Cond.methodLink RX1 93 yX5_ratioAt, Cond.methodLink RX1 103 yX5_temperatureOf, Cond.methodLink RX1 53 yX3_leadOf, Cond.methodLink RX1 56 yX1_countsOf, Cond.instanceMethod yX1_countsOf, Cond.selects RX1 yX1_countsOf yX1_countsOf, Cond.code yX1_countsOf cX1_countsOf 7 (some .long), Cond.methodLink RX1 118 Lib.MathLoose.max_long.x, Cond.static Lib.MathLoose.max_long.x, Cond.code Lib.MathLoose.max_long.x Lib.MathLoose.max_long.code 4 (some .long), Cond.methodLink RX1 114 yX1_greatest, Cond.instanceMethod yX1_greatest, Cond.selects RX1 yX1_greatest yX1_greatest, Cond.code yX1_greatest cX1_greatest 1 (some .long), Cond.constantLong RX1 112 (4), Cond.methodLink RX1 74 yX1_ohmsBy, Cond.instanceMethod yX1_ohmsBy, Cond.selects RX1 yX1_ohmsBy yX1_ohmsBy, Cond.code yX1_ohmsBy cX1_ohmsBy 3 (some .long)]
def wsL_law_r14 : List Cond := [Cond.methodLink RX1 83 yX3_isCompensated, Cond.instanceMethod yX3_isCompensated, Cond.selects RX3 yX3_isCompensated yX3_isCompensated, Cond.code yX3_isCompensated cX3_isCompensated 1 (some .boolean), Cond.methodLink RX2 31 yX2_extrapolated, Cond.instanceMethod yX2_extrapolated, Cond.selects RX2 yX2_extrapolated yX2_extrapolated, Cond.code yX2_extrapolated cX2_extrapolated 13 (some .long), Cond.fieldLink RX2 66 "OhmBridge$Measurement" "compensated" "J", Cond.constantLong RX2 69 (-2000000000), Cond.constantLong RX2 71 (2000000000), Cond.methodLink RX2 73 Lib.MathLoose.min_long.x, Cond.methodLink RX2 78 Lib.MathLoose.max_long.x, Cond.methodLink RX2 45 yX4_tableAt, Cond.methodLink RX2 52 yX2_readingOf, Cond.instanceMethod yX2_readingOf, Cond.selects RX2 yX2_readingOf yX2_readingOf, Cond.code yX2_readingOf cX2_readingOf 4 (some .int), Cond.constant RX2 81 (-2000000004), Cond.constantLong RX2 82 (1000000), Cond.methodLink RX2 84 yX5_temperatureFor, Cond.methodLink RX2 59 yX2_diagnosisOf, Cond.instanceMethod yX2_diagnosisOf, Cond.selects RX2 yX2_diagnosisOf yX2_diagnosisOf]
def wsL_law_r15 : List Cond := [Cond.code yX2_diagnosisOf cX2_diagnosisOf 4 (some .int), Cond.fieldLink RX2 94 "OhmBridge$Sensor" "brokenWires" "I", Cond.methodLink RX2 103 Lib.Math.abs.name, Cond.static Lib.Math.abs.name, Cond.code Lib.Math.abs.name Lib.Math.abs.code 1 (some .int), Cond.methodLink RX2 90 yX3_isPlugged, Cond.methodLink RX2 97 yX1_isAtBound, Cond.instanceMethod yX1_isAtBound, Cond.selects RX1 yX1_isAtBound yX1_isAtBound, Cond.code yX1_isAtBound cX1_isAtBound 1 (some .boolean), Cond.methodLink RX2 100 yX3_leadOf, Cond.methodLink RX2 106 yX3_isCompensated, Cond.methodLink RX2 109 yX3_strainOf, Cond.methodLink RL 33 yX7_slotAt, Cond.instanceMethod yX7_slotAt, Cond.selects RX7 yX7_slotAt yX7_slotAt, Cond.code yX7_slotAt cX7_slotAt 4 (some .int), Cond.methodLink RX7 134 yX7_isSlot, Cond.static yX7_isSlot, Cond.code yX7_isSlot cX7_isSlot 2 (some .boolean), Cond.constantLong RX7 438 (3), Cond.constantLong RX7 110 (2), Cond.methodLink RX7 141 yX4_sensorIn, Cond.methodLink RL 36 yX7_counts]
def wsL_law_r16 : List Cond := [Cond.instanceMethod yX7_counts, Cond.selects RX7 yX7_counts yX7_counts, Cond.code yX7_counts cX7_counts 10 (some .int), Cond.constantLong RX7 281 (100), Cond.constantLong RX7 283 (5000), Cond.fieldLink RX7 292 "OhmBridge$Measurement" "oneWay" "J", Cond.fieldLink RX7 295 "OhmBridge$Measurement" "secondOneWay" "J", Cond.fieldLink RX7 298 "OhmBridge$Measurement" "otherWay" "J", Cond.fieldLink RX7 301 "OhmBridge$Measurement" "secondOtherWay" "J", Cond.methodLink RX7 285 yX3_isCompensated, Cond.methodLink RX7 288 yX1_take, Cond.methodLink RL 40 yX7_ohms, Cond.instanceMethod yX7_ohms, Cond.selects RX7 yX7_ohms yX7_ohms, Cond.code yX7_ohms cX7_ohms 4 (some .int), Cond.fieldLink RX7 304 "OhmBridge$Meter" "first" "LOhmBridge$Measurement;", Cond.fieldLink RX7 307 "OhmBridge$Measurement" "heated" "J", Cond.fieldLink RX7 314 "OhmBridge$Measurement" "loopOhms" "J", Cond.fieldLink RX7 317 "OhmBridge$Measurement" "compensated" "J", Cond.fieldLink RX7 320 "OhmBridge$Meter" "second" "LOhmBridge$Measurement;", Cond.fieldLink RX7 221 "OhmBridge$Meter" "withoutPower" "J", Cond.methodLink RX7 310 yX1_ohmsBy, Cond.methodLink RL 74 yL_cell, Cond.static yL_cell]
def wsL_law_r17 : List Cond := [Cond.code yL_cell cL_cell 2 (some .int), Cond.constant RL 7 (69621), Cond.constant RL 8 (2147483647), Cond.methodLink RL 80 yX7_table, Cond.instanceMethod yX7_table, Cond.selects RX7 yX7_table yX7_table, Cond.code yX7_table cX7_table 1 (some .int), Cond.constant RX7 55 (-2000000003), Cond.methodLink RX7 56 yX0_record, Cond.instanceMethod yX0_record, Cond.selects RX0 yX0_record yX0_record, Cond.code yX0_record cX0_record 2 none, Cond.fieldLink RX0 18 "OhmBridge$History" "size" "I", Cond.methodLink RX0 22 yX0_dropOldest, Cond.instanceMethod yX0_dropOldest, Cond.selects RX0 yX0_dropOldest yX0_dropOldest, Cond.code yX0_dropOldest cX0_dropOldest 3 none, Cond.methodLink RX0 25 yX4_copy, Cond.instanceMethod yX4_copy, Cond.selects RX4 yX4_copy yX4_copy, Cond.code yX4_copy cX4_copy 3 none, Cond.methodLink RX4 48 yX5_copy, Cond.instanceMethod yX5_copy, Cond.selects RX5 yX5_copy yX5_copy]
def wsL_law_r18 : List Cond := [Cond.code yX5_copy cX5_copy 2 none, Cond.methodLink RX5 22 arraycopyName, Cond.methodLink RX4 52 yX3_copy, Cond.instanceMethod yX3_copy, Cond.selects RX3 yX3_copy yX3_copy, Cond.code yX3_copy cX3_copy 2 none, Cond.fieldLink RX3 25 "OhmBridge$Sensor" "table" "I", Cond.fieldLink RX3 31 "OhmBridge$Sensor" "trueBase" "I", Cond.fieldLink RX3 34 "OhmBridge$Sensor" "assumedBase" "I", Cond.fieldLink RX3 37 "OhmBridge$Sensor" "temperature" "I", Cond.fieldLink RX3 46 "OhmBridge$Sensor" "brokenWires" "I", Cond.fieldLink RX3 49 "OhmBridge$Sensor" "low" "I", Cond.fieldLink RX3 52 "OhmBridge$Sensor" "high" "I", Cond.fieldLink RX3 55 "OhmBridge$Sensor" "hysteresis" "I", Cond.fieldLink RX3 58 "OhmBridge$Sensor" "alarm" "I", Cond.fieldLink RX3 61 "OhmBridge$Sensor" "readings" "I", Cond.methodLink RX3 64 arraycopyName, Cond.methodLink RL 83 yX7_node, Cond.instanceMethod yX7_node, Cond.selects RX7 yX7_node yX7_node, Cond.code yX7_node cX7_node 5 (some .int), Cond.constant RX7 84 (-2000000002), Cond.methodLink RX7 75 yX4_hasSensorOf, Cond.instanceMethod yX4_hasSensorOf]
def wsL_law_r19 : List Cond := [Cond.selects RX4 yX4_hasSensorOf yX4_hasSensorOf, Cond.code yX4_hasSensorOf cX4_hasSensorOf 3 (some .boolean), Cond.fieldLink RX4 55 "OhmBridge$Sensor" "table" "I", Cond.methodLink RX7 78 yX5_mayGoOn, Cond.instanceMethod yX5_mayGoOn, Cond.selects RX5 yX5_mayGoOn yX5_mayGoOn, Cond.code yX5_mayGoOn cX5_mayGoOn 3 (some .boolean), Cond.methodLink RX7 88 yX5_append, Cond.instanceMethod yX5_append, Cond.selects RX5 yX5_append yX5_append, Cond.code yX5_append cX5_append 3 none, Cond.methodLink RL 88 yX7_sensor, Cond.instanceMethod yX7_sensor, Cond.selects RX7 yX7_sensor yX7_sensor, Cond.code yX7_sensor cX7_sensor 6 (some .int), Cond.constantLong RX7 112 (4), Cond.methodLink RX7 114 yX7_isBase, Cond.static yX7_isBase, Cond.code yX7_isBase cX7_isBase 2 (some .boolean), Cond.constantLong RX7 434 (1000), Cond.constantLong RX7 436 (2000000), Cond.methodLink RX7 125 yX5_nearest, Cond.instanceMethod yX5_nearest, Cond.selects RX5 yX5_nearest yX5_nearest]
def wsL_law_r20 : List Cond := [Cond.code yX5_nearest cX5_nearest 2 (some .int), Cond.methodLink RX5 35 Lib.Math.max.name, Cond.static Lib.Math.max.name, Cond.code Lib.Math.max.name Lib.Math.max.code 2 (some .int), Cond.methodLink RX5 41 Lib.Math.min.name, Cond.static Lib.Math.min.name, Cond.code Lib.Math.min.name Lib.Math.min.code 2 (some .int), Cond.methodLink RX7 128 yX3_begin, Cond.instanceMethod yX3_begin, Cond.selects RX3 yX3_begin yX3_begin, Cond.code yX3_begin cX3_begin 5 none, Cond.constant RX3 40 (-200000), Cond.constant RX3 41 (850000), Cond.methodLink RX3 42 yX3_watch, Cond.instanceMethod yX3_watch, Cond.selects RX3 yX3_watch yX3_watch, Cond.code yX3_watch cX3_watch 4 none, Cond.methodLink RL 91 yX7_plug, Cond.instanceMethod yX7_plug, Cond.selects RX7 yX7_plug yX7_plug, Cond.code yX7_plug cX7_plug 6 (some .int), Cond.methodLink RX7 144 yX3_fits, Cond.instanceMethod yX3_fits, Cond.selects RX3 yX3_fits yX3_fits]
def wsL_law_r21 : List Cond := [Cond.code yX3_fits cX3_fits 2 (some .boolean), Cond.methodLink RX7 150 yX4_takenSlots, Cond.methodLink RL 94 yL_leads, Cond.static yL_leads, Cond.code yL_leads cL_leads 9 (some .boolean), Cond.constant RL 54 (50001), Cond.methodLink RL 55 yX7_lead, Cond.instanceMethod yX7_lead, Cond.selects RX7 yX7_lead yX7_lead, Cond.code yX7_lead cX7_lead 6 (some .int), Cond.constantLong RX7 166 (50000), Cond.methodLink RX7 171 yX3_setLead, Cond.instanceMethod yX3_setLead, Cond.selects RX3 yX3_setLead yX3_setLead, Cond.code yX3_setLead cX3_setLead 3 none, Cond.methodLink RL 58 yX7_undo, Cond.instanceMethod yX7_undo, Cond.selects RX7 yX7_undo yX7_undo, Cond.code yX7_undo cX7_undo 1 (some .int), Cond.methodLink RX7 379 yX0_restore, Cond.instanceMethod yX0_restore, Cond.selects RX0 yX0_restore yX0_restore, Cond.code yX0_restore cX0_restore 2 none, Cond.methodLink RL 97 yL_reads]
def wsL_law_r22 : List Cond := [Cond.static yL_reads, Cond.code yL_reads cL_reads 6 (some .boolean), Cond.methodLink RL 62 yX7_read, Cond.instanceMethod yX7_read, Cond.selects RX7 yX7_read yX7_read, Cond.code yX7_read cX7_read 3 (some .int), Cond.fieldLink RX7 323 "OhmBridge$Meter" "reading" "I", Cond.methodLink RX7 326 yX3_log, Cond.instanceMethod yX3_log, Cond.selects RX3 yX3_log yX3_log, Cond.code yX3_log cX3_log 3 none, Cond.methodLink RL 66 yX7_readingAt, Cond.instanceMethod yX7_readingAt, Cond.selects RX7 yX7_readingAt yX7_readingAt, Cond.code yX7_readingAt cX7_readingAt 4 (some .int), Cond.methodLink RX7 336 yX3_keptReadings, Cond.instanceMethod yX3_keptReadings, Cond.selects RX3 yX3_keptReadings yX3_keptReadings, Cond.code yX3_keptReadings cX3_keptReadings 1 (some .int), Cond.methodLink RX3 70 Lib.Math.min.name, Cond.methodLink RX7 339 yX3_reading, Cond.instanceMethod yX3_reading, Cond.selects RX3 yX3_reading yX3_reading, Cond.code yX3_reading cX3_reading 2 (some .int)]
def wsL_law_r23 : List Cond := [Cond.methodLink RL 101 yX7_bath, Cond.instanceMethod yX7_bath, Cond.selects RX7 yX7_bath yX7_bath, Cond.code yX7_bath cX7_bath 5 (some .int), Cond.methodLink RX7 156 yX4_canBring, Cond.instanceMethod yX4_canBring, Cond.selects RX4 yX4_canBring yX4_canBring, Cond.code yX4_canBring cX4_canBring 4 (some .boolean), Cond.methodLink RX4 74 yX4_tableAt, Cond.methodLink RX4 78 yX5_goesTo, Cond.methodLink RL 105 yX7_set, Cond.instanceMethod yX7_set, Cond.selects RX7 yX7_set yX7_set, Cond.code yX7_set cX7_set 4 (some .int), Cond.fieldLink RX7 269 "OhmBridge" "LEAST_SETTING" "[I", Cond.fieldLink RX7 272 "OhmBridge" "GREATEST_SETTING" "[I", Cond.methodLink RX7 180 yX7_isInRow, Cond.static yX7_isInRow, Cond.code yX7_isInRow cX7_isInRow 4 (some .boolean), Cond.methodLink RX7 278 yX4_changeSetting, Cond.instanceMethod yX4_changeSetting, Cond.selects RX4 yX4_changeSetting yX4_changeSetting, Cond.code yX4_changeSetting cX4_changeSetting 3 none, Cond.methodLink RL 110 yX7_drift]
def wsL_law_r24 : List Cond := [Cond.instanceMethod yX7_drift, Cond.selects RX7 yX7_drift yX7_drift, Cond.code yX7_drift cX7_drift 6 (some .int), Cond.constantLong RX7 205 (-100000), Cond.constantLong RX7 207 (100000), Cond.constantLong RX7 212 (1000000), Cond.methodLink RL 113 yX7_cut, Cond.instanceMethod yX7_cut, Cond.selects RX7 yX7_cut yX7_cut, Cond.code yX7_cut cX7_cut 5 (some .int), Cond.methodLink RX7 190 yX3_isBroken, Cond.instanceMethod yX3_isBroken, Cond.selects RX3 yX3_isBroken yX3_isBroken, Cond.code yX3_isBroken cX3_isBroken 2 (some .boolean), Cond.methodLink RX7 193 yX3_turnWire, Cond.instanceMethod yX3_turnWire, Cond.selects RX3 yX3_turnWire yX3_turnWire, Cond.code yX3_turnWire cX3_turnWire 2 none, Cond.methodLink RX7 200 yJ6_bitCount_0f7a4, Cond.static yJ6_bitCount_0f7a4, Cond.initialized RJ6, Cond.code yJ6_bitCount_0f7a4 cJ6_bitCount_0f7a4 1 (some .int), Cond.constant RJ6 265 (1431655765), Cond.constant RJ6 266 (858993459)]
def wsL_law_r25 : List Cond := [Cond.constant RJ6 267 (252645135), Cond.methodLink RL 116 yX7_strain, Cond.instanceMethod yX7_strain, Cond.selects RX7 yX7_strain yX7_strain, Cond.code yX7_strain cX7_strain 6 (some .int), Cond.fieldLink RX7 174 "OhmBridge" "LEAST_STRAIN" "[I", Cond.fieldLink RX7 177 "OhmBridge" "GREATEST_STRAIN" "[I", Cond.methodLink RX7 187 yX3_setStrain, Cond.instanceMethod yX3_setStrain, Cond.selects RX3 yX3_setStrain yX3_setStrain, Cond.code yX3_setStrain cX3_setStrain 3 none, Cond.methodLink RL 119 yX7_scan, Cond.instanceMethod yX7_scan, Cond.selects RX7 yX7_scan yX7_scan, Cond.code yX7_scan cX7_scan 3 (some .int), Cond.methodLink RX7 329 yX4_nextPlugged, Cond.instanceMethod yX4_nextPlugged, Cond.selects RX4 yX4_nextPlugged yX4_nextPlugged, Cond.code yX4_nextPlugged cX4_nextPlugged 3 (some .int)]
def wsL_law : List Cond := (wsL_law_r1 ++ (wsL_law_r2 ++ (wsL_law_r3 ++ (wsL_law_r4 ++ (wsL_law_r5 ++ (wsL_law_r6 ++ (wsL_law_r7 ++ (wsL_law_r8 ++ (wsL_law_r9 ++ (wsL_law_r10 ++ (wsL_law_r11 ++ (wsL_law_r12 ++ (wsL_law_r13 ++ (wsL_law_r14 ++ (wsL_law_r15 ++ (wsL_law_r16 ++ (wsL_law_r17 ++ (wsL_law_r18 ++ (wsL_law_r19 ++ (wsL_law_r20 ++ (wsL_law_r21 ++ (wsL_law_r22 ++ (wsL_law_r23 ++ (wsL_law_r24 ++ wsL_law_r25)))))))))))))))))))))))) ++ wsX70 ++ wsX40 ++ wsX00 ++ wsX20 ++ wsX10 ++ wsX60 ++ wsX50 ++ wsX30 ++ ([] : List Cond)
theorem inlX0 : ∀ w ∈ wsX00, w ∈ wsL_law := fun _ h => List.mem_append_left _ (List.mem_append_left _ (List.mem_append_left _ (List.mem_append_left _ (List.mem_append_left _ (List.mem_append_left _ (List.mem_append_right _ h))))))
theorem inlX1 : ∀ w ∈ wsX10, w ∈ wsL_law := fun _ h => List.mem_append_left _ (List.mem_append_left _ (List.mem_append_left _ (List.mem_append_left _ (List.mem_append_right _ h))))
theorem inlX2 : ∀ w ∈ wsX20, w ∈ wsL_law := fun _ h => List.mem_append_left _ (List.mem_append_left _ (List.mem_append_left _ (List.mem_append_left _ (List.mem_append_left _ (List.mem_append_right _ h)))))
theorem inlX3 : ∀ w ∈ wsX30, w ∈ wsL_law := fun _ h => List.mem_append_left _ (List.mem_append_right _ h)
theorem inlX4 : ∀ w ∈ wsX40, w ∈ wsL_law := fun _ h => List.mem_append_left _ (List.mem_append_left _ (List.mem_append_left _ (List.mem_append_left _ (List.mem_append_left _ (List.mem_append_left _ (List.mem_append_left _ (List.mem_append_right _ h)))))))
theorem inlX5 : ∀ w ∈ wsX50, w ∈ wsL_law := fun _ h => List.mem_append_left _ (List.mem_append_left _ (List.mem_append_right _ h))
theorem inlX6 : ∀ w ∈ wsX60, w ∈ wsL_law := fun _ h => List.mem_append_left _ (List.mem_append_left _ (List.mem_append_left _ (List.mem_append_right _ h)))
theorem inlX7 : ∀ w ∈ wsX70, w ∈ wsL_law := fun _ h => List.mem_append_left _ (List.mem_append_left _ (List.mem_append_left _ (List.mem_append_left _ (List.mem_append_left _ (List.mem_append_left _ (List.mem_append_left _ (List.mem_append_left _ (List.mem_append_right _ h))))))))
abbrev vwCl : List vw_C := [(RX0, TX0, 2), (RX1, TX1, 11), (RX2, TX2, 5), (RX3, TX3, 15), (RX4, TX4, 6), (RX5, TX5, 3), (RX6, TX6, 6), (RX7, TX7, 10)]
/-! ===== the words of wsL_law, one name each ===== -/
theorem lwc_1 : ∀ w ∈ wsL_law_r1, w ∈ wsL_law := fun _ h => List.mem_append_left _ (List.mem_append_left _ (List.mem_append_left _ (List.mem_append_left _ (List.mem_append_left _ (List.mem_append_left _ (List.mem_append_left _ (List.mem_append_left _ (List.mem_append_left _ (List.mem_append_left _ h)))))))))
theorem q0 : Cond.classLink RL 10 RX7 ∈ wsL_law := lwc_1 _ (List.mem_of_getElem? (i := 0) rfl)
theorem q1 : Cond.instantiable RX7 10 ∈ wsL_law := lwc_1 _ (List.mem_of_getElem? (i := 1) rfl)
theorem q2 : Cond.initialized RX7 ∈ wsL_law := lwc_1 _ (List.mem_of_getElem? (i := 2) rfl)
theorem q3 : Cond.constant RL 73 (-200000) ∈ wsL_law := lwc_1 _ (List.mem_of_getElem? (i := 3) rfl)
theorem q4 : Cond.constant RL 78 (150000) ∈ wsL_law := lwc_1 _ (List.mem_of_getElem? (i := 4) rfl)
theorem q5 : Cond.constant RL 79 (300000) ∈ wsL_law := lwc_1 _ (List.mem_of_getElem? (i := 5) rfl)
theorem q6 : Cond.constant RL 86 (200000) ∈ wsL_law := lwc_1 _ (List.mem_of_getElem? (i := 6) rfl)
theorem q7 : Cond.constant RL 87 (900000) ∈ wsL_law := lwc_1 _ (List.mem_of_getElem? (i := 7) rfl)
theorem q8 : Cond.constant RL 100 (1050001) ∈ wsL_law := lwc_1 _ (List.mem_of_getElem? (i := 8) rfl)
theorem q9 : Cond.constant RL 65 (-2000000002) ∈ wsL_law := lwc_1 _ (List.mem_of_getElem? (i := 9) rfl)
theorem q10 : Cond.constant RL 29 (-2000000004) ∈ wsL_law := lwc_1 _ (List.mem_of_getElem? (i := 10) rfl)
theorem q11 : Cond.constant RL 104 (990001) ∈ wsL_law := lwc_1 _ (List.mem_of_getElem? (i := 11) rfl)
theorem q12 : Cond.constant RL 108 (200001) ∈ wsL_law := lwc_1 _ (List.mem_of_getElem? (i := 12) rfl)
theorem q13 : Cond.constant RL 109 (100000) ∈ wsL_law := lwc_1 _ (List.mem_of_getElem? (i := 13) rfl)
theorem q14 : Cond.methodLink RL 69 yX7_init ∈ wsL_law := lwc_1 _ (List.mem_of_getElem? (i := 14) rfl)
theorem q15 : Cond.instanceMethod yX7_init ∈ wsL_law := lwc_1 _ (List.mem_of_getElem? (i := 15) rfl)
theorem q16 : Cond.code yX7_init cX7_init 1 none ∈ wsL_law := lwc_1 _ (List.mem_of_getElem? (i := 16) rfl)
theorem q17 : Cond.methodLink RX7 1 objectInit ∈ wsL_law := lwc_1 _ (List.mem_of_getElem? (i := 17) rfl)
theorem q18 : Cond.instanceMethod objectInit ∈ wsL_law := lwc_1 _ (List.mem_of_getElem? (i := 18) rfl)
theorem q19 : Cond.code objectInit ⟨#[0xb1]⟩ 1 none ∈ wsL_law := lwc_1 _ (List.mem_of_getElem? (i := 19) rfl)
theorem q20 : Cond.classLink RX7 7 RX4 ∈ wsL_law := lwc_1 _ (List.mem_of_getElem? (i := 20) rfl)
theorem q21 : Cond.instantiable RX4 6 ∈ wsL_law := lwc_1 _ (List.mem_of_getElem? (i := 21) rfl)
theorem q22 : Cond.initialized RX4 ∈ wsL_law := lwc_1 _ (List.mem_of_getElem? (i := 22) rfl)
theorem q23 : Cond.fieldLink RX7 10 "OhmBridge" "now" "LOhmBridge$State;" ∈ wsL_law := lwc_1 _ (List.mem_of_getElem? (i := 23) rfl)
theorem lwc_2 : ∀ w ∈ wsL_law_r2, w ∈ wsL_law := fun _ h => List.mem_append_left _ (List.mem_append_left _ (List.mem_append_left _ (List.mem_append_left _ (List.mem_append_left _ (List.mem_append_left _ (List.mem_append_left _ (List.mem_append_left _ (List.mem_append_left _ (List.mem_append_right _ (List.mem_append_left _ h))))))))))
theorem q24 : Cond.fieldLink RX7 16 "OhmBridge" "trial" "LOhmBridge$State;" ∈ wsL_law := lwc_2 _ (List.mem_of_getElem? (i := 0) rfl)
theorem q25 : Cond.classLink RX7 19 RX0 ∈ wsL_law := lwc_2 _ (List.mem_of_getElem? (i := 1) rfl)
theorem q26 : Cond.instantiable RX0 2 ∈ wsL_law := lwc_2 _ (List.mem_of_getElem? (i := 2) rfl)
theorem q27 : Cond.initialized RX0 ∈ wsL_law := lwc_2 _ (List.mem_of_getElem? (i := 3) rfl)
theorem q28 : Cond.fieldLink RX7 22 "OhmBridge" "history" "LOhmBridge$History;" ∈ wsL_law := lwc_2 _ (List.mem_of_getElem? (i := 4) rfl)
theorem q29 : Cond.classLink RX7 26 RX2 ∈ wsL_law := lwc_2 _ (List.mem_of_getElem? (i := 5) rfl)
theorem q30 : Cond.instantiable RX2 5 ∈ wsL_law := lwc_2 _ (List.mem_of_getElem? (i := 6) rfl)
theorem q31 : Cond.initialized RX2 ∈ wsL_law := lwc_2 _ (List.mem_of_getElem? (i := 7) rfl)
theorem q32 : Cond.fieldLink RX7 29 "OhmBridge" "meter" "LOhmBridge$Meter;" ∈ wsL_law := lwc_2 _ (List.mem_of_getElem? (i := 8) rfl)
theorem q33 : Cond.classLink RX7 33 RX1 ∈ wsL_law := lwc_2 _ (List.mem_of_getElem? (i := 9) rfl)
theorem q34 : Cond.instantiable RX1 11 ∈ wsL_law := lwc_2 _ (List.mem_of_getElem? (i := 10) rfl)
theorem q35 : Cond.initialized RX1 ∈ wsL_law := lwc_2 _ (List.mem_of_getElem? (i := 11) rfl)
theorem q36 : Cond.fieldLink RX7 36 "OhmBridge" "probe" "LOhmBridge$Measurement;" ∈ wsL_law := lwc_2 _ (List.mem_of_getElem? (i := 12) rfl)
theorem q37 : Cond.classLink RX7 40 RX6 ∈ wsL_law := lwc_2 _ (List.mem_of_getElem? (i := 13) rfl)
theorem q38 : Cond.instantiable RX6 6 ∈ wsL_law := lwc_2 _ (List.mem_of_getElem? (i := 14) rfl)
theorem q39 : Cond.initialized RX6 ∈ wsL_law := lwc_2 _ (List.mem_of_getElem? (i := 15) rfl)
theorem q40 : Cond.fieldLink RX7 43 "OhmBridge" "text" "LOhmBridge$Text;" ∈ wsL_law := lwc_2 _ (List.mem_of_getElem? (i := 16) rfl)
theorem q41 : Cond.arrayClass .int ∈ wsL_law := lwc_2 _ (List.mem_of_getElem? (i := 17) rfl)
theorem q42 : Cond.fieldLink RX7 47 "OhmBridge" "sorted" "[I" ∈ wsL_law := lwc_2 _ (List.mem_of_getElem? (i := 18) rfl)
theorem q43 : Cond.methodLink RX7 9 yX4_init ∈ wsL_law := lwc_2 _ (List.mem_of_getElem? (i := 19) rfl)
theorem q44 : Cond.instanceMethod yX4_init ∈ wsL_law := lwc_2 _ (List.mem_of_getElem? (i := 20) rfl)
theorem q45 : Cond.code yX4_init cX4_init 2 none ∈ wsL_law := lwc_2 _ (List.mem_of_getElem? (i := 21) rfl)
theorem q46 : Cond.methodLink RX4 3 objectInit ∈ wsL_law := lwc_2 _ (List.mem_of_getElem? (i := 22) rfl)
theorem q47 : Cond.fieldLink RX4 9 "OhmBridge$State" "scanner" "I" ∈ wsL_law := lwc_2 _ (List.mem_of_getElem? (i := 23) rfl)
theorem lwc_3 : ∀ w ∈ wsL_law_r3, w ∈ wsL_law := fun _ h => List.mem_append_left _ (List.mem_append_left _ (List.mem_append_left _ (List.mem_append_left _ (List.mem_append_left _ (List.mem_append_left _ (List.mem_append_left _ (List.mem_append_left _ (List.mem_append_left _ (List.mem_append_right _ (List.mem_append_right _ (List.mem_append_left _ h)))))))))))
theorem q48 : Cond.classLink RX4 15 RX5 ∈ wsL_law := lwc_3 _ (List.mem_of_getElem? (i := 0) rfl)
theorem q49 : Cond.fieldLink RX4 17 "OhmBridge$State" "tables" "[LOhmBridge$Table;" ∈ wsL_law := lwc_3 _ (List.mem_of_getElem? (i := 1) rfl)
theorem q50 : Cond.classLink RX4 21 RX3 ∈ wsL_law := lwc_3 _ (List.mem_of_getElem? (i := 2) rfl)
theorem q51 : Cond.fieldLink RX4 23 "OhmBridge$State" "sensors" "[LOhmBridge$Sensor;" ∈ wsL_law := lwc_3 _ (List.mem_of_getElem? (i := 3) rfl)
theorem q52 : Cond.fieldLink RX4 27 "OhmBridge$State" "settings" "[I" ∈ wsL_law := lwc_3 _ (List.mem_of_getElem? (i := 4) rfl)
theorem q53 : Cond.instantiable RX5 3 ∈ wsL_law := lwc_3 _ (List.mem_of_getElem? (i := 5) rfl)
theorem q54 : Cond.initialized RX5 ∈ wsL_law := lwc_3 _ (List.mem_of_getElem? (i := 6) rfl)
theorem q55 : Cond.instantiable RX3 15 ∈ wsL_law := lwc_3 _ (List.mem_of_getElem? (i := 7) rfl)
theorem q56 : Cond.initialized RX3 ∈ wsL_law := lwc_3 _ (List.mem_of_getElem? (i := 8) rfl)
theorem q57 : Cond.methodLink RX4 36 arraycopyName ∈ wsL_law := lwc_3 _ (List.mem_of_getElem? (i := 9) rfl)
theorem q58 : Cond.native arraycopyName ∈ wsL_law := lwc_3 _ (List.mem_of_getElem? (i := 10) rfl)
theorem q59 : Cond.static arraycopyName ∈ wsL_law := lwc_3 _ (List.mem_of_getElem? (i := 11) rfl)
theorem q60 : Cond.initialized "java/lang/System" ∈ wsL_law := lwc_3 _ (List.mem_of_getElem? (i := 12) rfl)
theorem q61 : Cond.instanceMethod yX5_init ∈ wsL_law := lwc_3 _ (List.mem_of_getElem? (i := 13) rfl)
theorem q62 : Cond.code yX5_init cX5_init 1 none ∈ wsL_law := lwc_3 _ (List.mem_of_getElem? (i := 14) rfl)
theorem q63 : Cond.methodLink RX5 3 objectInit ∈ wsL_law := lwc_3 _ (List.mem_of_getElem? (i := 15) rfl)
theorem q64 : Cond.fieldLink RX5 9 "OhmBridge$Table" "temperatures" "[I" ∈ wsL_law := lwc_3 _ (List.mem_of_getElem? (i := 16) rfl)
theorem q65 : Cond.fieldLink RX5 15 "OhmBridge$Table" "ratios" "[I" ∈ wsL_law := lwc_3 _ (List.mem_of_getElem? (i := 17) rfl)
theorem q66 : Cond.instanceMethod yX3_init ∈ wsL_law := lwc_3 _ (List.mem_of_getElem? (i := 18) rfl)
theorem q67 : Cond.code yX3_init cX3_init 1 none ∈ wsL_law := lwc_3 _ (List.mem_of_getElem? (i := 19) rfl)
theorem q68 : Cond.methodLink RX3 3 objectInit ∈ wsL_law := lwc_3 _ (List.mem_of_getElem? (i := 20) rfl)
theorem q69 : Cond.fieldLink RX3 9 "OhmBridge$Sensor" "place" "I" ∈ wsL_law := lwc_3 _ (List.mem_of_getElem? (i := 21) rfl)
theorem q70 : Cond.fieldLink RX3 15 "OhmBridge$Sensor" "leads" "[I" ∈ wsL_law := lwc_3 _ (List.mem_of_getElem? (i := 22) rfl)
theorem q71 : Cond.fieldLink RX3 19 "OhmBridge$Sensor" "strains" "[I" ∈ wsL_law := lwc_3 _ (List.mem_of_getElem? (i := 23) rfl)
theorem lwc_4 : ∀ w ∈ wsL_law_r4, w ∈ wsL_law := fun _ h => List.mem_append_left _ (List.mem_append_left _ (List.mem_append_left _ (List.mem_append_left _ (List.mem_append_left _ (List.mem_append_left _ (List.mem_append_left _ (List.mem_append_left _ (List.mem_append_left _ (List.mem_append_right _ (List.mem_append_right _ (List.mem_append_right _ (List.mem_append_left _ h))))))))))))
theorem q72 : Cond.fieldLink RX3 22 "OhmBridge$Sensor" "latest" "[I" ∈ wsL_law := lwc_4 _ (List.mem_of_getElem? (i := 0) rfl)
theorem q73 : Cond.methodLink RX7 21 yX0_init ∈ wsL_law := lwc_4 _ (List.mem_of_getElem? (i := 1) rfl)
theorem q74 : Cond.instanceMethod yX0_init ∈ wsL_law := lwc_4 _ (List.mem_of_getElem? (i := 2) rfl)
theorem q75 : Cond.code yX0_init cX0_init 2 none ∈ wsL_law := lwc_4 _ (List.mem_of_getElem? (i := 3) rfl)
theorem q76 : Cond.methodLink RX0 3 objectInit ∈ wsL_law := lwc_4 _ (List.mem_of_getElem? (i := 4) rfl)
theorem q77 : Cond.classLink RX0 9 RX4 ∈ wsL_law := lwc_4 _ (List.mem_of_getElem? (i := 5) rfl)
theorem q78 : Cond.fieldLink RX0 11 "OhmBridge$History" "kept" "[LOhmBridge$State;" ∈ wsL_law := lwc_4 _ (List.mem_of_getElem? (i := 6) rfl)
theorem q79 : Cond.methodLink RX0 17 yX4_init ∈ wsL_law := lwc_4 _ (List.mem_of_getElem? (i := 7) rfl)
theorem q80 : Cond.instanceMethod yX2_init ∈ wsL_law := lwc_4 _ (List.mem_of_getElem? (i := 8) rfl)
theorem q81 : Cond.code yX2_init cX2_init 1 none ∈ wsL_law := lwc_4 _ (List.mem_of_getElem? (i := 9) rfl)
theorem q82 : Cond.methodLink RX2 3 objectInit ∈ wsL_law := lwc_4 _ (List.mem_of_getElem? (i := 10) rfl)
theorem q83 : Cond.classLink RX2 9 RX1 ∈ wsL_law := lwc_4 _ (List.mem_of_getElem? (i := 11) rfl)
theorem q84 : Cond.fieldLink RX2 12 "OhmBridge$Meter" "first" "LOhmBridge$Measurement;" ∈ wsL_law := lwc_4 _ (List.mem_of_getElem? (i := 12) rfl)
theorem q85 : Cond.fieldLink RX2 18 "OhmBridge$Meter" "second" "LOhmBridge$Measurement;" ∈ wsL_law := lwc_4 _ (List.mem_of_getElem? (i := 13) rfl)
theorem q86 : Cond.instanceMethod yX1_init ∈ wsL_law := lwc_4 _ (List.mem_of_getElem? (i := 14) rfl)
theorem q87 : Cond.code yX1_init cX1_init 1 none ∈ wsL_law := lwc_4 _ (List.mem_of_getElem? (i := 15) rfl)
theorem q88 : Cond.methodLink RX1 3 objectInit ∈ wsL_law := lwc_4 _ (List.mem_of_getElem? (i := 16) rfl)
theorem q89 : Cond.instanceMethod yX6_init ∈ wsL_law := lwc_4 _ (List.mem_of_getElem? (i := 17) rfl)
theorem q90 : Cond.code yX6_init cX6_init 1 none ∈ wsL_law := lwc_4 _ (List.mem_of_getElem? (i := 18) rfl)
theorem q91 : Cond.methodLink RX6 3 objectInit ∈ wsL_law := lwc_4 _ (List.mem_of_getElem? (i := 19) rfl)
theorem q92 : Cond.arrayClass .char ∈ wsL_law := lwc_4 _ (List.mem_of_getElem? (i := 20) rfl)
theorem q93 : Cond.fieldLink RX6 9 "OhmBridge$Text" "characters" "[C" ∈ wsL_law := lwc_4 _ (List.mem_of_getElem? (i := 21) rfl)
theorem q94 : Cond.methodLink RL 70 yL_holds ∈ wsL_law := lwc_4 _ (List.mem_of_getElem? (i := 22) rfl)
theorem q95 : Cond.static yL_holds ∈ wsL_law := lwc_4 _ (List.mem_of_getElem? (i := 23) rfl)
theorem lwc_5 : ∀ w ∈ wsL_law_r5, w ∈ wsL_law := fun _ h => List.mem_append_left _ (List.mem_append_left _ (List.mem_append_left _ (List.mem_append_left _ (List.mem_append_left _ (List.mem_append_left _ (List.mem_append_left _ (List.mem_append_left _ (List.mem_append_left _ (List.mem_append_right _ (List.mem_append_right _ (List.mem_append_right _ (List.mem_append_right _ (List.mem_append_left _ h)))))))))))))
theorem q96 : Cond.initialized RL ∈ wsL_law := lwc_5 _ (List.mem_of_getElem? (i := 0) rfl)
theorem q97 : Cond.code yL_holds cL_holds 6 (some .boolean) ∈ wsL_law := lwc_5 _ (List.mem_of_getElem? (i := 1) rfl)
theorem q98 : Cond.methodLink RL 9 yX7_count ∈ wsL_law := lwc_5 _ (List.mem_of_getElem? (i := 2) rfl)
theorem q99 : Cond.instanceMethod yX7_count ∈ wsL_law := lwc_5 _ (List.mem_of_getElem? (i := 3) rfl)
theorem q100 : Cond.selects RX7 yX7_count yX7_count ∈ wsL_law := lwc_5 _ (List.mem_of_getElem? (i := 4) rfl)
theorem q101 : Cond.code yX7_count cX7_count 3 (some .int) ∈ wsL_law := lwc_5 _ (List.mem_of_getElem? (i := 5) rfl)
theorem q102 : Cond.constantLong RX7 356 (20) ∈ wsL_law := lwc_5 _ (List.mem_of_getElem? (i := 6) rfl)
theorem q103 : Cond.constantLong RX7 358 (26) ∈ wsL_law := lwc_5 _ (List.mem_of_getElem? (i := 7) rfl)
theorem q104 : Cond.constantLong RX7 360 (10) ∈ wsL_law := lwc_5 _ (List.mem_of_getElem? (i := 8) rfl)
theorem q105 : Cond.constantLong RX7 362 (12) ∈ wsL_law := lwc_5 _ (List.mem_of_getElem? (i := 9) rfl)
theorem q106 : Cond.constant RX7 92 (-2000000004) ∈ wsL_law := lwc_5 _ (List.mem_of_getElem? (i := 10) rfl)
theorem q107 : Cond.fieldLink RX7 85 "OhmBridge$Table" "nodes" "I" ∈ wsL_law := lwc_5 _ (List.mem_of_getElem? (i := 11) rfl)
theorem q108 : Cond.fieldLink RX7 51 "OhmBridge$State" "tableCount" "I" ∈ wsL_law := lwc_5 _ (List.mem_of_getElem? (i := 12) rfl)
theorem q109 : Cond.fieldLink RX7 118 "OhmBridge$State" "sensorCount" "I" ∈ wsL_law := lwc_5 _ (List.mem_of_getElem? (i := 13) rfl)
theorem q110 : Cond.fieldLink RX7 333 "OhmBridge$State" "scanner" "I" ∈ wsL_law := lwc_5 _ (List.mem_of_getElem? (i := 14) rfl)
theorem q111 : Cond.fieldLink RX7 373 "OhmBridge$History" "size" "I" ∈ wsL_law := lwc_5 _ (List.mem_of_getElem? (i := 15) rfl)
theorem q112 : Cond.fieldLink RX7 376 "OhmBridge$Text" "length" "I" ∈ wsL_law := lwc_5 _ (List.mem_of_getElem? (i := 16) rfl)
theorem q113 : Cond.constant RX7 74 (-2000000001) ∈ wsL_law := lwc_5 _ (List.mem_of_getElem? (i := 17) rfl)
theorem q114 : Cond.methodLink RX7 70 yX7_isWithin ∈ wsL_law := lwc_5 _ (List.mem_of_getElem? (i := 18) rfl)
theorem q115 : Cond.static yX7_isWithin ∈ wsL_law := lwc_5 _ (List.mem_of_getElem? (i := 19) rfl)
theorem q116 : Cond.code yX7_isWithin cX7_isWithin 6 (some .boolean) ∈ wsL_law := lwc_5 _ (List.mem_of_getElem? (i := 20) rfl)
theorem q117 : Cond.methodLink RX7 275 yX4_setting ∈ wsL_law := lwc_5 _ (List.mem_of_getElem? (i := 21) rfl)
theorem q118 : Cond.instanceMethod yX4_setting ∈ wsL_law := lwc_5 _ (List.mem_of_getElem? (i := 22) rfl)
theorem q119 : Cond.selects RX4 yX4_setting yX4_setting ∈ wsL_law := lwc_5 _ (List.mem_of_getElem? (i := 23) rfl)
theorem lwc_6 : ∀ w ∈ wsL_law_r6, w ∈ wsL_law := fun _ h => List.mem_append_left _ (List.mem_append_left _ (List.mem_append_left _ (List.mem_append_left _ (List.mem_append_left _ (List.mem_append_left _ (List.mem_append_left _ (List.mem_append_left _ (List.mem_append_left _ (List.mem_append_right _ (List.mem_append_right _ (List.mem_append_right _ (List.mem_append_right _ (List.mem_append_right _ (List.mem_append_left _ h))))))))))))))
theorem q120 : Cond.code yX4_setting cX4_setting 2 (some .int) ∈ wsL_law := lwc_6 _ (List.mem_of_getElem? (i := 0) rfl)
theorem q121 : Cond.methodLink RX7 60 yX4_tableAt ∈ wsL_law := lwc_6 _ (List.mem_of_getElem? (i := 1) rfl)
theorem q122 : Cond.instanceMethod yX4_tableAt ∈ wsL_law := lwc_6 _ (List.mem_of_getElem? (i := 2) rfl)
theorem q123 : Cond.selects RX4 yX4_tableAt yX4_tableAt ∈ wsL_law := lwc_6 _ (List.mem_of_getElem? (i := 3) rfl)
theorem q124 : Cond.code yX4_tableAt cX4_tableAt 3 (some (.object "OhmBridge$Table")) ∈ wsL_law := lwc_6 _ (List.mem_of_getElem? (i := 4) rfl)
theorem q125 : Cond.fieldLink RX4 42 "OhmBridge$State" "tableCount" "I" ∈ wsL_law := lwc_6 _ (List.mem_of_getElem? (i := 5) rfl)
theorem q126 : Cond.methodLink RX7 364 yX4_pluggedSensors ∈ wsL_law := lwc_6 _ (List.mem_of_getElem? (i := 6) rfl)
theorem q127 : Cond.instanceMethod yX4_pluggedSensors ∈ wsL_law := lwc_6 _ (List.mem_of_getElem? (i := 7) rfl)
theorem q128 : Cond.selects RX4 yX4_pluggedSensors yX4_pluggedSensors ∈ wsL_law := lwc_6 _ (List.mem_of_getElem? (i := 8) rfl)
theorem q129 : Cond.code yX4_pluggedSensors cX4_pluggedSensors 3 (some .int) ∈ wsL_law := lwc_6 _ (List.mem_of_getElem? (i := 9) rfl)
theorem q130 : Cond.methodLink RX4 65 yX4_takenSlots ∈ wsL_law := lwc_6 _ (List.mem_of_getElem? (i := 10) rfl)
theorem q131 : Cond.instanceMethod yX4_takenSlots ∈ wsL_law := lwc_6 _ (List.mem_of_getElem? (i := 11) rfl)
theorem q132 : Cond.selects RX4 yX4_takenSlots yX4_takenSlots ∈ wsL_law := lwc_6 _ (List.mem_of_getElem? (i := 12) rfl)
theorem q133 : Cond.code yX4_takenSlots cX4_takenSlots 4 (some .int) ∈ wsL_law := lwc_6 _ (List.mem_of_getElem? (i := 13) rfl)
theorem q134 : Cond.methodLink RX4 61 yX4_sensorIn ∈ wsL_law := lwc_6 _ (List.mem_of_getElem? (i := 14) rfl)
theorem q135 : Cond.instanceMethod yX4_sensorIn ∈ wsL_law := lwc_6 _ (List.mem_of_getElem? (i := 15) rfl)
theorem q136 : Cond.selects RX4 yX4_sensorIn yX4_sensorIn ∈ wsL_law := lwc_6 _ (List.mem_of_getElem? (i := 16) rfl)
theorem q137 : Cond.code yX4_sensorIn cX4_sensorIn 3 (some .int) ∈ wsL_law := lwc_6 _ (List.mem_of_getElem? (i := 17) rfl)
theorem q138 : Cond.fieldLink RX4 45 "OhmBridge$State" "sensorCount" "I" ∈ wsL_law := lwc_6 _ (List.mem_of_getElem? (i := 18) rfl)
theorem q139 : Cond.fieldLink RX4 58 "OhmBridge$Sensor" "place" "I" ∈ wsL_law := lwc_6 _ (List.mem_of_getElem? (i := 19) rfl)
theorem q140 : Cond.methodLink RX7 367 yX4_alarmsOn ∈ wsL_law := lwc_6 _ (List.mem_of_getElem? (i := 20) rfl)
theorem q141 : Cond.instanceMethod yX4_alarmsOn ∈ wsL_law := lwc_6 _ (List.mem_of_getElem? (i := 21) rfl)
theorem q142 : Cond.selects RX4 yX4_alarmsOn yX4_alarmsOn ∈ wsL_law := lwc_6 _ (List.mem_of_getElem? (i := 22) rfl)
theorem q143 : Cond.code yX4_alarmsOn cX4_alarmsOn 3 (some .int) ∈ wsL_law := lwc_6 _ (List.mem_of_getElem? (i := 23) rfl)
theorem lwc_7 : ∀ w ∈ wsL_law_r7, w ∈ wsL_law := fun _ h => List.mem_append_left _ (List.mem_append_left _ (List.mem_append_left _ (List.mem_append_left _ (List.mem_append_left _ (List.mem_append_left _ (List.mem_append_left _ (List.mem_append_left _ (List.mem_append_left _ (List.mem_append_right _ (List.mem_append_right _ (List.mem_append_right _ (List.mem_append_right _ (List.mem_append_right _ (List.mem_append_right _ (List.mem_append_left _ h)))))))))))))))
theorem q144 : Cond.fieldLink RX4 68 "OhmBridge$Sensor" "alarm" "I" ∈ wsL_law := lwc_7 _ (List.mem_of_getElem? (i := 0) rfl)
theorem q145 : Cond.methodLink RX7 370 yX4_allReadings ∈ wsL_law := lwc_7 _ (List.mem_of_getElem? (i := 1) rfl)
theorem q146 : Cond.instanceMethod yX4_allReadings ∈ wsL_law := lwc_7 _ (List.mem_of_getElem? (i := 2) rfl)
theorem q147 : Cond.selects RX4 yX4_allReadings yX4_allReadings ∈ wsL_law := lwc_7 _ (List.mem_of_getElem? (i := 3) rfl)
theorem q148 : Cond.code yX4_allReadings cX4_allReadings 3 (some .int) ∈ wsL_law := lwc_7 _ (List.mem_of_getElem? (i := 4) rfl)
theorem q149 : Cond.fieldLink RX4 71 "OhmBridge$Sensor" "readings" "I" ∈ wsL_law := lwc_7 _ (List.mem_of_getElem? (i := 5) rfl)
theorem q150 : Cond.methodLink RX7 153 yX7_toldPlace ∈ wsL_law := lwc_7 _ (List.mem_of_getElem? (i := 6) rfl)
theorem q151 : Cond.static yX7_toldPlace ∈ wsL_law := lwc_7 _ (List.mem_of_getElem? (i := 7) rfl)
theorem q152 : Cond.code yX7_toldPlace cX7_toldPlace 1 (some .int) ∈ wsL_law := lwc_7 _ (List.mem_of_getElem? (i := 8) rfl)
theorem q153 : Cond.methodLink RL 44 yL_tables ∈ wsL_law := lwc_7 _ (List.mem_of_getElem? (i := 9) rfl)
theorem q154 : Cond.static yL_tables ∈ wsL_law := lwc_7 _ (List.mem_of_getElem? (i := 10) rfl)
theorem q155 : Cond.code yL_tables cL_tables 11 (some .boolean) ∈ wsL_law := lwc_7 _ (List.mem_of_getElem? (i := 11) rfl)
theorem q156 : Cond.methodLink RL 15 yX7_nodeAt ∈ wsL_law := lwc_7 _ (List.mem_of_getElem? (i := 12) rfl)
theorem q157 : Cond.instanceMethod yX7_nodeAt ∈ wsL_law := lwc_7 _ (List.mem_of_getElem? (i := 13) rfl)
theorem q158 : Cond.selects RX7 yX7_nodeAt yX7_nodeAt ∈ wsL_law := lwc_7 _ (List.mem_of_getElem? (i := 14) rfl)
theorem q159 : Cond.code yX7_nodeAt cX7_nodeAt 5 (some .int) ∈ wsL_law := lwc_7 _ (List.mem_of_getElem? (i := 15) rfl)
theorem q160 : Cond.methodLink RX7 93 yX5_temperatureOf ∈ wsL_law := lwc_7 _ (List.mem_of_getElem? (i := 16) rfl)
theorem q161 : Cond.instanceMethod yX5_temperatureOf ∈ wsL_law := lwc_7 _ (List.mem_of_getElem? (i := 17) rfl)
theorem q162 : Cond.selects RX5 yX5_temperatureOf yX5_temperatureOf ∈ wsL_law := lwc_7 _ (List.mem_of_getElem? (i := 18) rfl)
theorem q163 : Cond.code yX5_temperatureOf cX5_temperatureOf 2 (some .int) ∈ wsL_law := lwc_7 _ (List.mem_of_getElem? (i := 19) rfl)
theorem q164 : Cond.methodLink RX7 97 yX5_ratioOf ∈ wsL_law := lwc_7 _ (List.mem_of_getElem? (i := 20) rfl)
theorem q165 : Cond.instanceMethod yX5_ratioOf ∈ wsL_law := lwc_7 _ (List.mem_of_getElem? (i := 21) rfl)
theorem q166 : Cond.selects RX5 yX5_ratioOf yX5_ratioOf ∈ wsL_law := lwc_7 _ (List.mem_of_getElem? (i := 22) rfl)
theorem q167 : Cond.code yX5_ratioOf cX5_ratioOf 2 (some .int) ∈ wsL_law := lwc_7 _ (List.mem_of_getElem? (i := 23) rfl)
theorem lwc_8 : ∀ w ∈ wsL_law_r8, w ∈ wsL_law := fun _ h => List.mem_append_left _ (List.mem_append_left _ (List.mem_append_left _ (List.mem_append_left _ (List.mem_append_left _ (List.mem_append_left _ (List.mem_append_left _ (List.mem_append_left _ (List.mem_append_left _ (List.mem_append_right _ (List.mem_append_right _ (List.mem_append_right _ (List.mem_append_right _ (List.mem_append_right _ (List.mem_append_right _ (List.mem_append_right _ (List.mem_append_left _ h))))))))))))))))
theorem q168 : Cond.methodLink RL 19 yX7_ratio ∈ wsL_law := lwc_8 _ (List.mem_of_getElem? (i := 0) rfl)
theorem q169 : Cond.instanceMethod yX7_ratio ∈ wsL_law := lwc_8 _ (List.mem_of_getElem? (i := 1) rfl)
theorem q170 : Cond.selects RX7 yX7_ratio yX7_ratio ∈ wsL_law := lwc_8 _ (List.mem_of_getElem? (i := 2) rfl)
theorem q171 : Cond.code yX7_ratio cX7_ratio 4 (some .int) ∈ wsL_law := lwc_8 _ (List.mem_of_getElem? (i := 3) rfl)
theorem q172 : Cond.methodLink RX7 64 yX7_isTemperature ∈ wsL_law := lwc_8 _ (List.mem_of_getElem? (i := 4) rfl)
theorem q173 : Cond.static yX7_isTemperature ∈ wsL_law := lwc_8 _ (List.mem_of_getElem? (i := 5) rfl)
theorem q174 : Cond.code yX7_isTemperature cX7_isTemperature 1 (some .boolean) ∈ wsL_law := lwc_8 _ (List.mem_of_getElem? (i := 6) rfl)
theorem q175 : Cond.constantLong RX7 432 (-200000) ∈ wsL_law := lwc_8 _ (List.mem_of_getElem? (i := 7) rfl)
theorem q176 : Cond.constantLong RX7 232 (850000) ∈ wsL_law := lwc_8 _ (List.mem_of_getElem? (i := 8) rfl)
theorem q177 : Cond.methodLink RX7 100 yX5_goesTo ∈ wsL_law := lwc_8 _ (List.mem_of_getElem? (i := 9) rfl)
theorem q178 : Cond.instanceMethod yX5_goesTo ∈ wsL_law := lwc_8 _ (List.mem_of_getElem? (i := 10) rfl)
theorem q179 : Cond.selects RX5 yX5_goesTo yX5_goesTo ∈ wsL_law := lwc_8 _ (List.mem_of_getElem? (i := 11) rfl)
theorem q180 : Cond.code yX5_goesTo cX5_goesTo 2 (some .boolean) ∈ wsL_law := lwc_8 _ (List.mem_of_getElem? (i := 12) rfl)
theorem q181 : Cond.fieldLink RX5 18 "OhmBridge$Table" "nodes" "I" ∈ wsL_law := lwc_8 _ (List.mem_of_getElem? (i := 13) rfl)
theorem q182 : Cond.methodLink RX5 28 yX5_temperatureOf ∈ wsL_law := lwc_8 _ (List.mem_of_getElem? (i := 14) rfl)
theorem q183 : Cond.methodLink RX7 103 yX5_ratioAt ∈ wsL_law := lwc_8 _ (List.mem_of_getElem? (i := 15) rfl)
theorem q184 : Cond.instanceMethod yX5_ratioAt ∈ wsL_law := lwc_8 _ (List.mem_of_getElem? (i := 16) rfl)
theorem q185 : Cond.selects RX5 yX5_ratioAt yX5_ratioAt ∈ wsL_law := lwc_8 _ (List.mem_of_getElem? (i := 17) rfl)
theorem q186 : Cond.code yX5_ratioAt cX5_ratioAt 9 (some .int) ∈ wsL_law := lwc_8 _ (List.mem_of_getElem? (i := 18) rfl)
theorem q187 : Cond.methodLink RL 23 yX7_inverse ∈ wsL_law := lwc_8 _ (List.mem_of_getElem? (i := 19) rfl)
theorem q188 : Cond.instanceMethod yX7_inverse ∈ wsL_law := lwc_8 _ (List.mem_of_getElem? (i := 20) rfl)
theorem q189 : Cond.selects RX7 yX7_inverse yX7_inverse ∈ wsL_law := lwc_8 _ (List.mem_of_getElem? (i := 21) rfl)
theorem q190 : Cond.code yX7_inverse cX7_inverse 4 (some .int) ∈ wsL_law := lwc_8 _ (List.mem_of_getElem? (i := 22) rfl)
theorem q191 : Cond.constantLong RX7 68 (10000000) ∈ wsL_law := lwc_8 _ (List.mem_of_getElem? (i := 23) rfl)
theorem lwc_9 : ∀ w ∈ wsL_law_r9, w ∈ wsL_law := fun _ h => List.mem_append_left _ (List.mem_append_left _ (List.mem_append_left _ (List.mem_append_left _ (List.mem_append_left _ (List.mem_append_left _ (List.mem_append_left _ (List.mem_append_left _ (List.mem_append_left _ (List.mem_append_right _ (List.mem_append_right _ (List.mem_append_right _ (List.mem_append_right _ (List.mem_append_right _ (List.mem_append_right _ (List.mem_append_right _ (List.mem_append_right _ (List.mem_append_left _ h)))))))))))))))))
theorem q192 : Cond.methodLink RX7 106 yX5_temperatureFor ∈ wsL_law := lwc_9 _ (List.mem_of_getElem? (i := 0) rfl)
theorem q193 : Cond.instanceMethod yX5_temperatureFor ∈ wsL_law := lwc_9 _ (List.mem_of_getElem? (i := 1) rfl)
theorem q194 : Cond.selects RX5 yX5_temperatureFor yX5_temperatureFor ∈ wsL_law := lwc_9 _ (List.mem_of_getElem? (i := 2) rfl)
theorem q195 : Cond.code yX5_temperatureFor cX5_temperatureFor 7 (some .int) ∈ wsL_law := lwc_9 _ (List.mem_of_getElem? (i := 3) rfl)
theorem q196 : Cond.constant RX5 44 (-2000000004) ∈ wsL_law := lwc_9 _ (List.mem_of_getElem? (i := 4) rfl)
theorem q197 : Cond.methodLink RX5 32 yX5_ratioOf ∈ wsL_law := lwc_9 _ (List.mem_of_getElem? (i := 5) rfl)
theorem q198 : Cond.methodLink RX5 45 yX5_ratioAt ∈ wsL_law := lwc_9 _ (List.mem_of_getElem? (i := 6) rfl)
theorem q199 : Cond.methodLink RL 26 yX7_sensorOf ∈ wsL_law := lwc_9 _ (List.mem_of_getElem? (i := 7) rfl)
theorem q200 : Cond.instanceMethod yX7_sensorOf ∈ wsL_law := lwc_9 _ (List.mem_of_getElem? (i := 8) rfl)
theorem q201 : Cond.selects RX7 yX7_sensorOf yX7_sensorOf ∈ wsL_law := lwc_9 _ (List.mem_of_getElem? (i := 9) rfl)
theorem q202 : Cond.code yX7_sensorOf cX7_sensorOf 4 (some .int) ∈ wsL_law := lwc_9 _ (List.mem_of_getElem? (i := 10) rfl)
theorem q203 : Cond.constantLong RX7 241 (18) ∈ wsL_law := lwc_9 _ (List.mem_of_getElem? (i := 11) rfl)
theorem q204 : Cond.constantLong RX7 243 (5) ∈ wsL_law := lwc_9 _ (List.mem_of_getElem? (i := 12) rfl)
theorem q205 : Cond.constantLong RX7 245 (8) ∈ wsL_law := lwc_9 _ (List.mem_of_getElem? (i := 13) rfl)
theorem q206 : Cond.constantLong RX7 247 (9) ∈ wsL_law := lwc_9 _ (List.mem_of_getElem? (i := 14) rfl)
theorem q207 : Cond.constantLong RX7 249 (11) ∈ wsL_law := lwc_9 _ (List.mem_of_getElem? (i := 15) rfl)
theorem q208 : Cond.fieldLink RX7 251 "OhmBridge$Sensor" "table" "I" ∈ wsL_law := lwc_9 _ (List.mem_of_getElem? (i := 16) rfl)
theorem q209 : Cond.fieldLink RX7 254 "OhmBridge$Sensor" "wires" "I" ∈ wsL_law := lwc_9 _ (List.mem_of_getElem? (i := 17) rfl)
theorem q210 : Cond.fieldLink RX7 209 "OhmBridge$Sensor" "trueBase" "I" ∈ wsL_law := lwc_9 _ (List.mem_of_getElem? (i := 18) rfl)
theorem q211 : Cond.fieldLink RX7 229 "OhmBridge$Sensor" "assumedBase" "I" ∈ wsL_law := lwc_9 _ (List.mem_of_getElem? (i := 19) rfl)
theorem q212 : Cond.fieldLink RX7 160 "OhmBridge$Sensor" "temperature" "I" ∈ wsL_law := lwc_9 _ (List.mem_of_getElem? (i := 20) rfl)
theorem q213 : Cond.fieldLink RX7 197 "OhmBridge$Sensor" "brokenWires" "I" ∈ wsL_law := lwc_9 _ (List.mem_of_getElem? (i := 21) rfl)
theorem q214 : Cond.fieldLink RX7 147 "OhmBridge$Sensor" "place" "I" ∈ wsL_law := lwc_9 _ (List.mem_of_getElem? (i := 22) rfl)
theorem q215 : Cond.fieldLink RX7 257 "OhmBridge$Sensor" "low" "I" ∈ wsL_law := lwc_9 _ (List.mem_of_getElem? (i := 23) rfl)
theorem lwc_10 : ∀ w ∈ wsL_law_r10, w ∈ wsL_law := fun _ h => List.mem_append_left _ (List.mem_append_left _ (List.mem_append_left _ (List.mem_append_left _ (List.mem_append_left _ (List.mem_append_left _ (List.mem_append_left _ (List.mem_append_left _ (List.mem_append_left _ (List.mem_append_right _ (List.mem_append_right _ (List.mem_append_right _ (List.mem_append_right _ (List.mem_append_right _ (List.mem_append_right _ (List.mem_append_right _ (List.mem_append_right _ (List.mem_append_right _ (List.mem_append_left _ h))))))))))))))))))
theorem q216 : Cond.fieldLink RX7 260 "OhmBridge$Sensor" "high" "I" ∈ wsL_law := lwc_10 _ (List.mem_of_getElem? (i := 0) rfl)
theorem q217 : Cond.fieldLink RX7 263 "OhmBridge$Sensor" "hysteresis" "I" ∈ wsL_law := lwc_10 _ (List.mem_of_getElem? (i := 1) rfl)
theorem q218 : Cond.fieldLink RX7 234 "OhmBridge$Sensor" "alarm" "I" ∈ wsL_law := lwc_10 _ (List.mem_of_getElem? (i := 2) rfl)
theorem q219 : Cond.fieldLink RX7 266 "OhmBridge$Sensor" "readings" "I" ∈ wsL_law := lwc_10 _ (List.mem_of_getElem? (i := 3) rfl)
theorem q220 : Cond.methodLink RX7 121 yX4_sensorAt ∈ wsL_law := lwc_10 _ (List.mem_of_getElem? (i := 4) rfl)
theorem q221 : Cond.instanceMethod yX4_sensorAt ∈ wsL_law := lwc_10 _ (List.mem_of_getElem? (i := 5) rfl)
theorem q222 : Cond.selects RX4 yX4_sensorAt yX4_sensorAt ∈ wsL_law := lwc_10 _ (List.mem_of_getElem? (i := 6) rfl)
theorem q223 : Cond.code yX4_sensorAt cX4_sensorAt 3 (some (.object "OhmBridge$Sensor")) ∈ wsL_law := lwc_10 _ (List.mem_of_getElem? (i := 7) rfl)
theorem q224 : Cond.methodLink RX7 163 yX3_hasWire ∈ wsL_law := lwc_10 _ (List.mem_of_getElem? (i := 8) rfl)
theorem q225 : Cond.instanceMethod yX3_hasWire ∈ wsL_law := lwc_10 _ (List.mem_of_getElem? (i := 9) rfl)
theorem q226 : Cond.selects RX3 yX3_hasWire yX3_hasWire ∈ wsL_law := lwc_10 _ (List.mem_of_getElem? (i := 10) rfl)
theorem q227 : Cond.code yX3_hasWire cX3_hasWire 2 (some .boolean) ∈ wsL_law := lwc_10 _ (List.mem_of_getElem? (i := 11) rfl)
theorem q228 : Cond.fieldLink RX3 28 "OhmBridge$Sensor" "wires" "I" ∈ wsL_law := lwc_10 _ (List.mem_of_getElem? (i := 12) rfl)
theorem q229 : Cond.methodLink RX7 168 yX3_leadOf ∈ wsL_law := lwc_10 _ (List.mem_of_getElem? (i := 13) rfl)
theorem q230 : Cond.instanceMethod yX3_leadOf ∈ wsL_law := lwc_10 _ (List.mem_of_getElem? (i := 14) rfl)
theorem q231 : Cond.selects RX3 yX3_leadOf yX3_leadOf ∈ wsL_law := lwc_10 _ (List.mem_of_getElem? (i := 15) rfl)
theorem q232 : Cond.code yX3_leadOf cX3_leadOf 2 (some .int) ∈ wsL_law := lwc_10 _ (List.mem_of_getElem? (i := 16) rfl)
theorem q233 : Cond.methodLink RX7 184 yX3_strainOf ∈ wsL_law := lwc_10 _ (List.mem_of_getElem? (i := 17) rfl)
theorem q234 : Cond.instanceMethod yX3_strainOf ∈ wsL_law := lwc_10 _ (List.mem_of_getElem? (i := 18) rfl)
theorem q235 : Cond.selects RX3 yX3_strainOf yX3_strainOf ∈ wsL_law := lwc_10 _ (List.mem_of_getElem? (i := 19) rfl)
theorem q236 : Cond.code yX3_strainOf cX3_strainOf 2 (some .int) ∈ wsL_law := lwc_10 _ (List.mem_of_getElem? (i := 20) rfl)
theorem q237 : Cond.methodLink RX7 137 yX3_isPlugged ∈ wsL_law := lwc_10 _ (List.mem_of_getElem? (i := 21) rfl)
theorem q238 : Cond.instanceMethod yX3_isPlugged ∈ wsL_law := lwc_10 _ (List.mem_of_getElem? (i := 22) rfl)
theorem q239 : Cond.selects RX3 yX3_isPlugged yX3_isPlugged ∈ wsL_law := lwc_10 _ (List.mem_of_getElem? (i := 23) rfl)
theorem lwc_11 : ∀ w ∈ wsL_law_r11, w ∈ wsL_law := fun _ h => List.mem_append_left _ (List.mem_append_left _ (List.mem_append_left _ (List.mem_append_left _ (List.mem_append_left _ (List.mem_append_left _ (List.mem_append_left _ (List.mem_append_left _ (List.mem_append_left _ (List.mem_append_right _ (List.mem_append_right _ (List.mem_append_right _ (List.mem_append_right _ (List.mem_append_right _ (List.mem_append_right _ (List.mem_append_right _ (List.mem_append_right _ (List.mem_append_right _ (List.mem_append_right _ (List.mem_append_left _ h)))))))))))))))))))
theorem q240 : Cond.code yX3_isPlugged cX3_isPlugged 1 (some .boolean) ∈ wsL_law := lwc_11 _ (List.mem_of_getElem? (i := 0) rfl)
theorem q241 : Cond.methodLink RL 50 yL_sensors ∈ wsL_law := lwc_11 _ (List.mem_of_getElem? (i := 1) rfl)
theorem q242 : Cond.static yL_sensors ∈ wsL_law := lwc_11 _ (List.mem_of_getElem? (i := 2) rfl)
theorem q243 : Cond.code yL_sensors cL_sensors 8 (some .boolean) ∈ wsL_law := lwc_11 _ (List.mem_of_getElem? (i := 3) rfl)
theorem q244 : Cond.constant RL 43 (2000000) ∈ wsL_law := lwc_11 _ (List.mem_of_getElem? (i := 4) rfl)
theorem q245 : Cond.methodLink RL 30 yX7_diagnosis ∈ wsL_law := lwc_11 _ (List.mem_of_getElem? (i := 5) rfl)
theorem q246 : Cond.instanceMethod yX7_diagnosis ∈ wsL_law := lwc_11 _ (List.mem_of_getElem? (i := 6) rfl)
theorem q247 : Cond.selects RX7 yX7_diagnosis yX7_diagnosis ∈ wsL_law := lwc_11 _ (List.mem_of_getElem? (i := 7) rfl)
theorem q248 : Cond.code yX7_diagnosis cX7_diagnosis 3 (some .int) ∈ wsL_law := lwc_11 _ (List.mem_of_getElem? (i := 8) rfl)
theorem q249 : Cond.fieldLink RX7 218 "OhmBridge$Meter" "diagnosed" "I" ∈ wsL_law := lwc_11 _ (List.mem_of_getElem? (i := 9) rfl)
theorem q250 : Cond.methodLink RX7 214 yX2_measure ∈ wsL_law := lwc_11 _ (List.mem_of_getElem? (i := 10) rfl)
theorem q251 : Cond.instanceMethod yX2_measure ∈ wsL_law := lwc_11 _ (List.mem_of_getElem? (i := 11) rfl)
theorem q252 : Cond.selects RX2 yX2_measure yX2_measure ∈ wsL_law := lwc_11 _ (List.mem_of_getElem? (i := 12) rfl)
theorem q253 : Cond.code yX2_measure cX2_measure 7 none ∈ wsL_law := lwc_11 _ (List.mem_of_getElem? (i := 13) rfl)
theorem q254 : Cond.fieldLink RX2 35 "OhmBridge$Meter" "withoutPower" "J" ∈ wsL_law := lwc_11 _ (List.mem_of_getElem? (i := 14) rfl)
theorem q255 : Cond.fieldLink RX2 39 "OhmBridge$Sensor" "table" "I" ∈ wsL_law := lwc_11 _ (List.mem_of_getElem? (i := 15) rfl)
theorem q256 : Cond.fieldLink RX2 49 "OhmBridge$Sensor" "assumedBase" "I" ∈ wsL_law := lwc_11 _ (List.mem_of_getElem? (i := 16) rfl)
theorem q257 : Cond.fieldLink RX2 56 "OhmBridge$Meter" "reading" "I" ∈ wsL_law := lwc_11 _ (List.mem_of_getElem? (i := 17) rfl)
theorem q258 : Cond.fieldLink RX2 63 "OhmBridge$Meter" "diagnosed" "I" ∈ wsL_law := lwc_11 _ (List.mem_of_getElem? (i := 18) rfl)
theorem q259 : Cond.methodLink RX2 21 yX4_setting ∈ wsL_law := lwc_11 _ (List.mem_of_getElem? (i := 19) rfl)
theorem q260 : Cond.methodLink RX2 27 yX1_take ∈ wsL_law := lwc_11 _ (List.mem_of_getElem? (i := 20) rfl)
theorem q261 : Cond.instanceMethod yX1_take ∈ wsL_law := lwc_11 _ (List.mem_of_getElem? (i := 21) rfl)
theorem q262 : Cond.selects RX1 yX1_take yX1_take ∈ wsL_law := lwc_11 _ (List.mem_of_getElem? (i := 22) rfl)
theorem q263 : Cond.code yX1_take cX1_take 10 none ∈ wsL_law := lwc_11 _ (List.mem_of_getElem? (i := 23) rfl)
theorem lwc_12 : ∀ w ∈ wsL_law_r12, w ∈ wsL_law := fun _ h => List.mem_append_left _ (List.mem_append_left _ (List.mem_append_left _ (List.mem_append_left _ (List.mem_append_left _ (List.mem_append_left _ (List.mem_append_left _ (List.mem_append_left _ (List.mem_append_left _ (List.mem_append_right _ (List.mem_append_right _ (List.mem_append_right _ (List.mem_append_right _ (List.mem_append_right _ (List.mem_append_right _ (List.mem_append_right _ (List.mem_append_right _ (List.mem_append_right _ (List.mem_append_right _ (List.mem_append_right _ (List.mem_append_left _ h))))))))))))))))))))
theorem q264 : Cond.fieldLink RX1 9 "OhmBridge$Measurement" "current" "J" ∈ wsL_law := lwc_12 _ (List.mem_of_getElem? (i := 0) rfl)
theorem q265 : Cond.fieldLink RX1 21 "OhmBridge$Measurement" "reference" "J" ∈ wsL_law := lwc_12 _ (List.mem_of_getElem? (i := 1) rfl)
theorem q266 : Cond.fieldLink RX1 24 "OhmBridge$Measurement" "unit" "J" ∈ wsL_law := lwc_12 _ (List.mem_of_getElem? (i := 2) rfl)
theorem q267 : Cond.fieldLink RX1 32 "OhmBridge$Measurement" "stray" "J" ∈ wsL_law := lwc_12 _ (List.mem_of_getElem? (i := 3) rfl)
theorem q268 : Cond.fieldLink RX1 35 "OhmBridge$Sensor" "table" "I" ∈ wsL_law := lwc_12 _ (List.mem_of_getElem? (i := 4) rfl)
theorem q269 : Cond.fieldLink RX1 47 "OhmBridge$Measurement" "heated" "J" ∈ wsL_law := lwc_12 _ (List.mem_of_getElem? (i := 5) rfl)
theorem q270 : Cond.fieldLink RX1 50 "OhmBridge$Sensor" "wires" "I" ∈ wsL_law := lwc_12 _ (List.mem_of_getElem? (i := 6) rfl)
theorem q271 : Cond.fieldLink RX1 60 "OhmBridge$Measurement" "oneWay" "J" ∈ wsL_law := lwc_12 _ (List.mem_of_getElem? (i := 7) rfl)
theorem q272 : Cond.fieldLink RX1 63 "OhmBridge$Measurement" "otherWay" "J" ∈ wsL_law := lwc_12 _ (List.mem_of_getElem? (i := 8) rfl)
theorem q273 : Cond.fieldLink RX1 66 "OhmBridge$Measurement" "secondOneWay" "J" ∈ wsL_law := lwc_12 _ (List.mem_of_getElem? (i := 9) rfl)
theorem q274 : Cond.fieldLink RX1 69 "OhmBridge$Measurement" "secondOtherWay" "J" ∈ wsL_law := lwc_12 _ (List.mem_of_getElem? (i := 10) rfl)
theorem q275 : Cond.constantLong RX1 72 (2) ∈ wsL_law := lwc_12 _ (List.mem_of_getElem? (i := 11) rfl)
theorem q276 : Cond.fieldLink RX1 77 "OhmBridge$Measurement" "loopOhms" "J" ∈ wsL_law := lwc_12 _ (List.mem_of_getElem? (i := 12) rfl)
theorem q277 : Cond.fieldLink RX1 80 "OhmBridge$Measurement" "compensated" "J" ∈ wsL_law := lwc_12 _ (List.mem_of_getElem? (i := 13) rfl)
theorem q278 : Cond.methodLink RX1 15 yX4_setting ∈ wsL_law := lwc_12 _ (List.mem_of_getElem? (i := 14) rfl)
theorem q279 : Cond.methodLink RX1 27 yX3_strainOf ∈ wsL_law := lwc_12 _ (List.mem_of_getElem? (i := 15) rfl)
theorem q280 : Cond.methodLink RX1 39 yX4_tableAt ∈ wsL_law := lwc_12 _ (List.mem_of_getElem? (i := 16) rfl)
theorem q281 : Cond.methodLink RX1 43 yX1_heatedOhms ∈ wsL_law := lwc_12 _ (List.mem_of_getElem? (i := 17) rfl)
theorem q282 : Cond.instanceMethod yX1_heatedOhms ∈ wsL_law := lwc_12 _ (List.mem_of_getElem? (i := 18) rfl)
theorem q283 : Cond.selects RX1 yX1_heatedOhms yX1_heatedOhms ∈ wsL_law := lwc_12 _ (List.mem_of_getElem? (i := 19) rfl)
theorem q284 : Cond.code yX1_heatedOhms cX1_heatedOhms 9 (some .long) ∈ wsL_law := lwc_12 _ (List.mem_of_getElem? (i := 20) rfl)
theorem q285 : Cond.fieldLink RX1 87 "OhmBridge$Sensor" "trueBase" "I" ∈ wsL_law := lwc_12 _ (List.mem_of_getElem? (i := 21) rfl)
theorem q286 : Cond.fieldLink RX1 90 "OhmBridge$Sensor" "temperature" "I" ∈ wsL_law := lwc_12 _ (List.mem_of_getElem? (i := 22) rfl)
theorem q287 : Cond.constantLong RX1 98 (1000000) ∈ wsL_law := lwc_12 _ (List.mem_of_getElem? (i := 23) rfl)
theorem lwc_13 : ∀ w ∈ wsL_law_r13, w ∈ wsL_law := fun _ h => List.mem_append_left _ (List.mem_append_left _ (List.mem_append_left _ (List.mem_append_left _ (List.mem_append_left _ (List.mem_append_left _ (List.mem_append_left _ (List.mem_append_left _ (List.mem_append_left _ (List.mem_append_right _ (List.mem_append_right _ (List.mem_append_right _ (List.mem_append_right _ (List.mem_append_right _ (List.mem_append_right _ (List.mem_append_right _ (List.mem_append_right _ (List.mem_append_right _ (List.mem_append_right _ (List.mem_append_right _ (List.mem_append_right _ (List.mem_append_left _ h)))))))))))))))))))))
theorem q288 : Cond.fieldLink RX1 100 "OhmBridge$Table" "nodes" "I" ∈ wsL_law := lwc_13 _ (List.mem_of_getElem? (i := 0) rfl)
theorem q289 : Cond.methodLink RX1 106 Lib.MathLoose.min_long.x ∈ wsL_law := lwc_13 _ (List.mem_of_getElem? (i := 1) rfl)
theorem q290 : Cond.static Lib.MathLoose.min_long.x ∈ wsL_law := lwc_13 _ (List.mem_of_getElem? (i := 2) rfl)
theorem q291 : Cond.initialized "java/lang/Math" ∈ wsL_law := lwc_13 _ (List.mem_of_getElem? (i := 3) rfl)
theorem q292 : Cond.code Lib.MathLoose.min_long.x Lib.MathLoose.min_long.code 4 (some .long) ∈ wsL_law := lwc_13 _ (List.mem_of_getElem? (i := 4) rfl)
theorem q293 : Cond.methodLink RX1 93 yX5_ratioAt ∈ wsL_law := lwc_13 _ (List.mem_of_getElem? (i := 5) rfl)
theorem q294 : Cond.methodLink RX1 103 yX5_temperatureOf ∈ wsL_law := lwc_13 _ (List.mem_of_getElem? (i := 6) rfl)
theorem q295 : Cond.methodLink RX1 53 yX3_leadOf ∈ wsL_law := lwc_13 _ (List.mem_of_getElem? (i := 7) rfl)
theorem q296 : Cond.methodLink RX1 56 yX1_countsOf ∈ wsL_law := lwc_13 _ (List.mem_of_getElem? (i := 8) rfl)
theorem q297 : Cond.instanceMethod yX1_countsOf ∈ wsL_law := lwc_13 _ (List.mem_of_getElem? (i := 9) rfl)
theorem q298 : Cond.selects RX1 yX1_countsOf yX1_countsOf ∈ wsL_law := lwc_13 _ (List.mem_of_getElem? (i := 10) rfl)
theorem q299 : Cond.code yX1_countsOf cX1_countsOf 7 (some .long) ∈ wsL_law := lwc_13 _ (List.mem_of_getElem? (i := 11) rfl)
theorem q300 : Cond.methodLink RX1 118 Lib.MathLoose.max_long.x ∈ wsL_law := lwc_13 _ (List.mem_of_getElem? (i := 12) rfl)
theorem q301 : Cond.static Lib.MathLoose.max_long.x ∈ wsL_law := lwc_13 _ (List.mem_of_getElem? (i := 13) rfl)
theorem q302 : Cond.code Lib.MathLoose.max_long.x Lib.MathLoose.max_long.code 4 (some .long) ∈ wsL_law := lwc_13 _ (List.mem_of_getElem? (i := 14) rfl)
theorem q303 : Cond.methodLink RX1 114 yX1_greatest ∈ wsL_law := lwc_13 _ (List.mem_of_getElem? (i := 15) rfl)
theorem q304 : Cond.instanceMethod yX1_greatest ∈ wsL_law := lwc_13 _ (List.mem_of_getElem? (i := 16) rfl)
theorem q305 : Cond.selects RX1 yX1_greatest yX1_greatest ∈ wsL_law := lwc_13 _ (List.mem_of_getElem? (i := 17) rfl)
theorem q306 : Cond.code yX1_greatest cX1_greatest 1 (some .long) ∈ wsL_law := lwc_13 _ (List.mem_of_getElem? (i := 18) rfl)
theorem q307 : Cond.constantLong RX1 112 (4) ∈ wsL_law := lwc_13 _ (List.mem_of_getElem? (i := 19) rfl)
theorem q308 : Cond.methodLink RX1 74 yX1_ohmsBy ∈ wsL_law := lwc_13 _ (List.mem_of_getElem? (i := 20) rfl)
theorem q309 : Cond.instanceMethod yX1_ohmsBy ∈ wsL_law := lwc_13 _ (List.mem_of_getElem? (i := 21) rfl)
theorem q310 : Cond.selects RX1 yX1_ohmsBy yX1_ohmsBy ∈ wsL_law := lwc_13 _ (List.mem_of_getElem? (i := 22) rfl)
theorem q311 : Cond.code yX1_ohmsBy cX1_ohmsBy 3 (some .long) ∈ wsL_law := lwc_13 _ (List.mem_of_getElem? (i := 23) rfl)
theorem lwc_14 : ∀ w ∈ wsL_law_r14, w ∈ wsL_law := fun _ h => List.mem_append_left _ (List.mem_append_left _ (List.mem_append_left _ (List.mem_append_left _ (List.mem_append_left _ (List.mem_append_left _ (List.mem_append_left _ (List.mem_append_left _ (List.mem_append_left _ (List.mem_append_right _ (List.mem_append_right _ (List.mem_append_right _ (List.mem_append_right _ (List.mem_append_right _ (List.mem_append_right _ (List.mem_append_right _ (List.mem_append_right _ (List.mem_append_right _ (List.mem_append_right _ (List.mem_append_right _ (List.mem_append_right _ (List.mem_append_right _ (List.mem_append_left _ h))))))))))))))))))))))
theorem q312 : Cond.methodLink RX1 83 yX3_isCompensated ∈ wsL_law := lwc_14 _ (List.mem_of_getElem? (i := 0) rfl)
theorem q313 : Cond.instanceMethod yX3_isCompensated ∈ wsL_law := lwc_14 _ (List.mem_of_getElem? (i := 1) rfl)
theorem q314 : Cond.selects RX3 yX3_isCompensated yX3_isCompensated ∈ wsL_law := lwc_14 _ (List.mem_of_getElem? (i := 2) rfl)
theorem q315 : Cond.code yX3_isCompensated cX3_isCompensated 1 (some .boolean) ∈ wsL_law := lwc_14 _ (List.mem_of_getElem? (i := 3) rfl)
theorem q316 : Cond.methodLink RX2 31 yX2_extrapolated ∈ wsL_law := lwc_14 _ (List.mem_of_getElem? (i := 4) rfl)
theorem q317 : Cond.instanceMethod yX2_extrapolated ∈ wsL_law := lwc_14 _ (List.mem_of_getElem? (i := 5) rfl)
theorem q318 : Cond.selects RX2 yX2_extrapolated yX2_extrapolated ∈ wsL_law := lwc_14 _ (List.mem_of_getElem? (i := 6) rfl)
theorem q319 : Cond.code yX2_extrapolated cX2_extrapolated 13 (some .long) ∈ wsL_law := lwc_14 _ (List.mem_of_getElem? (i := 7) rfl)
theorem q320 : Cond.fieldLink RX2 66 "OhmBridge$Measurement" "compensated" "J" ∈ wsL_law := lwc_14 _ (List.mem_of_getElem? (i := 8) rfl)
theorem q321 : Cond.constantLong RX2 69 (-2000000000) ∈ wsL_law := lwc_14 _ (List.mem_of_getElem? (i := 9) rfl)
theorem q322 : Cond.constantLong RX2 71 (2000000000) ∈ wsL_law := lwc_14 _ (List.mem_of_getElem? (i := 10) rfl)
theorem q323 : Cond.methodLink RX2 73 Lib.MathLoose.min_long.x ∈ wsL_law := lwc_14 _ (List.mem_of_getElem? (i := 11) rfl)
theorem q324 : Cond.methodLink RX2 78 Lib.MathLoose.max_long.x ∈ wsL_law := lwc_14 _ (List.mem_of_getElem? (i := 12) rfl)
theorem q325 : Cond.methodLink RX2 45 yX4_tableAt ∈ wsL_law := lwc_14 _ (List.mem_of_getElem? (i := 13) rfl)
theorem q326 : Cond.methodLink RX2 52 yX2_readingOf ∈ wsL_law := lwc_14 _ (List.mem_of_getElem? (i := 14) rfl)
theorem q327 : Cond.instanceMethod yX2_readingOf ∈ wsL_law := lwc_14 _ (List.mem_of_getElem? (i := 15) rfl)
theorem q328 : Cond.selects RX2 yX2_readingOf yX2_readingOf ∈ wsL_law := lwc_14 _ (List.mem_of_getElem? (i := 16) rfl)
theorem q329 : Cond.code yX2_readingOf cX2_readingOf 4 (some .int) ∈ wsL_law := lwc_14 _ (List.mem_of_getElem? (i := 17) rfl)
theorem q330 : Cond.constant RX2 81 (-2000000004) ∈ wsL_law := lwc_14 _ (List.mem_of_getElem? (i := 18) rfl)
theorem q331 : Cond.constantLong RX2 82 (1000000) ∈ wsL_law := lwc_14 _ (List.mem_of_getElem? (i := 19) rfl)
theorem q332 : Cond.methodLink RX2 84 yX5_temperatureFor ∈ wsL_law := lwc_14 _ (List.mem_of_getElem? (i := 20) rfl)
theorem q333 : Cond.methodLink RX2 59 yX2_diagnosisOf ∈ wsL_law := lwc_14 _ (List.mem_of_getElem? (i := 21) rfl)
theorem q334 : Cond.instanceMethod yX2_diagnosisOf ∈ wsL_law := lwc_14 _ (List.mem_of_getElem? (i := 22) rfl)
theorem q335 : Cond.selects RX2 yX2_diagnosisOf yX2_diagnosisOf ∈ wsL_law := lwc_14 _ (List.mem_of_getElem? (i := 23) rfl)
theorem lwc_15 : ∀ w ∈ wsL_law_r15, w ∈ wsL_law := fun _ h => List.mem_append_left _ (List.mem_append_left _ (List.mem_append_left _ (List.mem_append_left _ (List.mem_append_left _ (List.mem_append_left _ (List.mem_append_left _ (List.mem_append_left _ (List.mem_append_left _ (List.mem_append_right _ (List.mem_append_right _ (List.mem_append_right _ (List.mem_append_right _ (List.mem_append_right _ (List.mem_append_right _ (List.mem_append_right _ (List.mem_append_right _ (List.mem_append_right _ (List.mem_append_right _ (List.mem_append_right _ (List.mem_append_right _ (List.mem_append_right _ (List.mem_append_right _ (List.mem_append_left _ h)))))))))))))))))))))))
theorem q336 : Cond.code yX2_diagnosisOf cX2_diagnosisOf 4 (some .int) ∈ wsL_law := lwc_15 _ (List.mem_of_getElem? (i := 0) rfl)
theorem q337 : Cond.fieldLink RX2 94 "OhmBridge$Sensor" "brokenWires" "I" ∈ wsL_law := lwc_15 _ (List.mem_of_getElem? (i := 1) rfl)
theorem q338 : Cond.methodLink RX2 103 Lib.Math.abs.name ∈ wsL_law := lwc_15 _ (List.mem_of_getElem? (i := 2) rfl)
theorem q339 : Cond.static Lib.Math.abs.name ∈ wsL_law := lwc_15 _ (List.mem_of_getElem? (i := 3) rfl)
theorem q340 : Cond.code Lib.Math.abs.name Lib.Math.abs.code 1 (some .int) ∈ wsL_law := lwc_15 _ (List.mem_of_getElem? (i := 4) rfl)
theorem q341 : Cond.methodLink RX2 90 yX3_isPlugged ∈ wsL_law := lwc_15 _ (List.mem_of_getElem? (i := 5) rfl)
theorem q342 : Cond.methodLink RX2 97 yX1_isAtBound ∈ wsL_law := lwc_15 _ (List.mem_of_getElem? (i := 6) rfl)
theorem q343 : Cond.instanceMethod yX1_isAtBound ∈ wsL_law := lwc_15 _ (List.mem_of_getElem? (i := 7) rfl)
theorem q344 : Cond.selects RX1 yX1_isAtBound yX1_isAtBound ∈ wsL_law := lwc_15 _ (List.mem_of_getElem? (i := 8) rfl)
theorem q345 : Cond.code yX1_isAtBound cX1_isAtBound 1 (some .boolean) ∈ wsL_law := lwc_15 _ (List.mem_of_getElem? (i := 9) rfl)
theorem q346 : Cond.methodLink RX2 100 yX3_leadOf ∈ wsL_law := lwc_15 _ (List.mem_of_getElem? (i := 10) rfl)
theorem q347 : Cond.methodLink RX2 106 yX3_isCompensated ∈ wsL_law := lwc_15 _ (List.mem_of_getElem? (i := 11) rfl)
theorem q348 : Cond.methodLink RX2 109 yX3_strainOf ∈ wsL_law := lwc_15 _ (List.mem_of_getElem? (i := 12) rfl)
theorem q349 : Cond.methodLink RL 33 yX7_slotAt ∈ wsL_law := lwc_15 _ (List.mem_of_getElem? (i := 13) rfl)
theorem q350 : Cond.instanceMethod yX7_slotAt ∈ wsL_law := lwc_15 _ (List.mem_of_getElem? (i := 14) rfl)
theorem q351 : Cond.selects RX7 yX7_slotAt yX7_slotAt ∈ wsL_law := lwc_15 _ (List.mem_of_getElem? (i := 15) rfl)
theorem q352 : Cond.code yX7_slotAt cX7_slotAt 4 (some .int) ∈ wsL_law := lwc_15 _ (List.mem_of_getElem? (i := 16) rfl)
theorem q353 : Cond.methodLink RX7 134 yX7_isSlot ∈ wsL_law := lwc_15 _ (List.mem_of_getElem? (i := 17) rfl)
theorem q354 : Cond.static yX7_isSlot ∈ wsL_law := lwc_15 _ (List.mem_of_getElem? (i := 18) rfl)
theorem q355 : Cond.code yX7_isSlot cX7_isSlot 2 (some .boolean) ∈ wsL_law := lwc_15 _ (List.mem_of_getElem? (i := 19) rfl)
theorem q356 : Cond.constantLong RX7 438 (3) ∈ wsL_law := lwc_15 _ (List.mem_of_getElem? (i := 20) rfl)
theorem q357 : Cond.constantLong RX7 110 (2) ∈ wsL_law := lwc_15 _ (List.mem_of_getElem? (i := 21) rfl)
theorem q358 : Cond.methodLink RX7 141 yX4_sensorIn ∈ wsL_law := lwc_15 _ (List.mem_of_getElem? (i := 22) rfl)
theorem q359 : Cond.methodLink RL 36 yX7_counts ∈ wsL_law := lwc_15 _ (List.mem_of_getElem? (i := 23) rfl)
theorem lwc_16 : ∀ w ∈ wsL_law_r16, w ∈ wsL_law := fun _ h => List.mem_append_left _ (List.mem_append_left _ (List.mem_append_left _ (List.mem_append_left _ (List.mem_append_left _ (List.mem_append_left _ (List.mem_append_left _ (List.mem_append_left _ (List.mem_append_left _ (List.mem_append_right _ (List.mem_append_right _ (List.mem_append_right _ (List.mem_append_right _ (List.mem_append_right _ (List.mem_append_right _ (List.mem_append_right _ (List.mem_append_right _ (List.mem_append_right _ (List.mem_append_right _ (List.mem_append_right _ (List.mem_append_right _ (List.mem_append_right _ (List.mem_append_right _ (List.mem_append_right _ (List.mem_append_left _ h))))))))))))))))))))))))
theorem q360 : Cond.instanceMethod yX7_counts ∈ wsL_law := lwc_16 _ (List.mem_of_getElem? (i := 0) rfl)
theorem q361 : Cond.selects RX7 yX7_counts yX7_counts ∈ wsL_law := lwc_16 _ (List.mem_of_getElem? (i := 1) rfl)
theorem q362 : Cond.code yX7_counts cX7_counts 10 (some .int) ∈ wsL_law := lwc_16 _ (List.mem_of_getElem? (i := 2) rfl)
theorem q363 : Cond.constantLong RX7 281 (100) ∈ wsL_law := lwc_16 _ (List.mem_of_getElem? (i := 3) rfl)
theorem q364 : Cond.constantLong RX7 283 (5000) ∈ wsL_law := lwc_16 _ (List.mem_of_getElem? (i := 4) rfl)
theorem q365 : Cond.fieldLink RX7 292 "OhmBridge$Measurement" "oneWay" "J" ∈ wsL_law := lwc_16 _ (List.mem_of_getElem? (i := 5) rfl)
theorem q366 : Cond.fieldLink RX7 295 "OhmBridge$Measurement" "secondOneWay" "J" ∈ wsL_law := lwc_16 _ (List.mem_of_getElem? (i := 6) rfl)
theorem q367 : Cond.fieldLink RX7 298 "OhmBridge$Measurement" "otherWay" "J" ∈ wsL_law := lwc_16 _ (List.mem_of_getElem? (i := 7) rfl)
theorem q368 : Cond.fieldLink RX7 301 "OhmBridge$Measurement" "secondOtherWay" "J" ∈ wsL_law := lwc_16 _ (List.mem_of_getElem? (i := 8) rfl)
theorem q369 : Cond.methodLink RX7 285 yX3_isCompensated ∈ wsL_law := lwc_16 _ (List.mem_of_getElem? (i := 9) rfl)
theorem q370 : Cond.methodLink RX7 288 yX1_take ∈ wsL_law := lwc_16 _ (List.mem_of_getElem? (i := 10) rfl)
theorem q371 : Cond.methodLink RL 40 yX7_ohms ∈ wsL_law := lwc_16 _ (List.mem_of_getElem? (i := 11) rfl)
theorem q372 : Cond.instanceMethod yX7_ohms ∈ wsL_law := lwc_16 _ (List.mem_of_getElem? (i := 12) rfl)
theorem q373 : Cond.selects RX7 yX7_ohms yX7_ohms ∈ wsL_law := lwc_16 _ (List.mem_of_getElem? (i := 13) rfl)
theorem q374 : Cond.code yX7_ohms cX7_ohms 4 (some .int) ∈ wsL_law := lwc_16 _ (List.mem_of_getElem? (i := 14) rfl)
theorem q375 : Cond.fieldLink RX7 304 "OhmBridge$Meter" "first" "LOhmBridge$Measurement;" ∈ wsL_law := lwc_16 _ (List.mem_of_getElem? (i := 15) rfl)
theorem q376 : Cond.fieldLink RX7 307 "OhmBridge$Measurement" "heated" "J" ∈ wsL_law := lwc_16 _ (List.mem_of_getElem? (i := 16) rfl)
theorem q377 : Cond.fieldLink RX7 314 "OhmBridge$Measurement" "loopOhms" "J" ∈ wsL_law := lwc_16 _ (List.mem_of_getElem? (i := 17) rfl)
theorem q378 : Cond.fieldLink RX7 317 "OhmBridge$Measurement" "compensated" "J" ∈ wsL_law := lwc_16 _ (List.mem_of_getElem? (i := 18) rfl)
theorem q379 : Cond.fieldLink RX7 320 "OhmBridge$Meter" "second" "LOhmBridge$Measurement;" ∈ wsL_law := lwc_16 _ (List.mem_of_getElem? (i := 19) rfl)
theorem q380 : Cond.fieldLink RX7 221 "OhmBridge$Meter" "withoutPower" "J" ∈ wsL_law := lwc_16 _ (List.mem_of_getElem? (i := 20) rfl)
theorem q381 : Cond.methodLink RX7 310 yX1_ohmsBy ∈ wsL_law := lwc_16 _ (List.mem_of_getElem? (i := 21) rfl)
theorem q382 : Cond.methodLink RL 74 yL_cell ∈ wsL_law := lwc_16 _ (List.mem_of_getElem? (i := 22) rfl)
theorem q383 : Cond.static yL_cell ∈ wsL_law := lwc_16 _ (List.mem_of_getElem? (i := 23) rfl)
theorem lwc_17 : ∀ w ∈ wsL_law_r17, w ∈ wsL_law := fun _ h => List.mem_append_left _ (List.mem_append_left _ (List.mem_append_left _ (List.mem_append_left _ (List.mem_append_left _ (List.mem_append_left _ (List.mem_append_left _ (List.mem_append_left _ (List.mem_append_left _ (List.mem_append_right _ (List.mem_append_right _ (List.mem_append_right _ (List.mem_append_right _ (List.mem_append_right _ (List.mem_append_right _ (List.mem_append_right _ (List.mem_append_right _ (List.mem_append_right _ (List.mem_append_right _ (List.mem_append_right _ (List.mem_append_right _ (List.mem_append_right _ (List.mem_append_right _ (List.mem_append_right _ (List.mem_append_right _ (List.mem_append_left _ h)))))))))))))))))))))))))
theorem q384 : Cond.code yL_cell cL_cell 2 (some .int) ∈ wsL_law := lwc_17 _ (List.mem_of_getElem? (i := 0) rfl)
theorem q385 : Cond.constant RL 7 (69621) ∈ wsL_law := lwc_17 _ (List.mem_of_getElem? (i := 1) rfl)
theorem q386 : Cond.constant RL 8 (2147483647) ∈ wsL_law := lwc_17 _ (List.mem_of_getElem? (i := 2) rfl)
theorem q387 : Cond.methodLink RL 80 yX7_table ∈ wsL_law := lwc_17 _ (List.mem_of_getElem? (i := 3) rfl)
theorem q388 : Cond.instanceMethod yX7_table ∈ wsL_law := lwc_17 _ (List.mem_of_getElem? (i := 4) rfl)
theorem q389 : Cond.selects RX7 yX7_table yX7_table ∈ wsL_law := lwc_17 _ (List.mem_of_getElem? (i := 5) rfl)
theorem q390 : Cond.code yX7_table cX7_table 1 (some .int) ∈ wsL_law := lwc_17 _ (List.mem_of_getElem? (i := 6) rfl)
theorem q391 : Cond.constant RX7 55 (-2000000003) ∈ wsL_law := lwc_17 _ (List.mem_of_getElem? (i := 7) rfl)
theorem q392 : Cond.methodLink RX7 56 yX0_record ∈ wsL_law := lwc_17 _ (List.mem_of_getElem? (i := 8) rfl)
theorem q393 : Cond.instanceMethod yX0_record ∈ wsL_law := lwc_17 _ (List.mem_of_getElem? (i := 9) rfl)
theorem q394 : Cond.selects RX0 yX0_record yX0_record ∈ wsL_law := lwc_17 _ (List.mem_of_getElem? (i := 10) rfl)
theorem q395 : Cond.code yX0_record cX0_record 2 none ∈ wsL_law := lwc_17 _ (List.mem_of_getElem? (i := 11) rfl)
theorem q396 : Cond.fieldLink RX0 18 "OhmBridge$History" "size" "I" ∈ wsL_law := lwc_17 _ (List.mem_of_getElem? (i := 12) rfl)
theorem q397 : Cond.methodLink RX0 22 yX0_dropOldest ∈ wsL_law := lwc_17 _ (List.mem_of_getElem? (i := 13) rfl)
theorem q398 : Cond.instanceMethod yX0_dropOldest ∈ wsL_law := lwc_17 _ (List.mem_of_getElem? (i := 14) rfl)
theorem q399 : Cond.selects RX0 yX0_dropOldest yX0_dropOldest ∈ wsL_law := lwc_17 _ (List.mem_of_getElem? (i := 15) rfl)
theorem q400 : Cond.code yX0_dropOldest cX0_dropOldest 3 none ∈ wsL_law := lwc_17 _ (List.mem_of_getElem? (i := 16) rfl)
theorem q401 : Cond.methodLink RX0 25 yX4_copy ∈ wsL_law := lwc_17 _ (List.mem_of_getElem? (i := 17) rfl)
theorem q402 : Cond.instanceMethod yX4_copy ∈ wsL_law := lwc_17 _ (List.mem_of_getElem? (i := 18) rfl)
theorem q403 : Cond.selects RX4 yX4_copy yX4_copy ∈ wsL_law := lwc_17 _ (List.mem_of_getElem? (i := 19) rfl)
theorem q404 : Cond.code yX4_copy cX4_copy 3 none ∈ wsL_law := lwc_17 _ (List.mem_of_getElem? (i := 20) rfl)
theorem q405 : Cond.methodLink RX4 48 yX5_copy ∈ wsL_law := lwc_17 _ (List.mem_of_getElem? (i := 21) rfl)
theorem q406 : Cond.instanceMethod yX5_copy ∈ wsL_law := lwc_17 _ (List.mem_of_getElem? (i := 22) rfl)
theorem q407 : Cond.selects RX5 yX5_copy yX5_copy ∈ wsL_law := lwc_17 _ (List.mem_of_getElem? (i := 23) rfl)
theorem lwc_18 : ∀ w ∈ wsL_law_r18, w ∈ wsL_law := fun _ h => List.mem_append_left _ (List.mem_append_left _ (List.mem_append_left _ (List.mem_append_left _ (List.mem_append_left _ (List.mem_append_left _ (List.mem_append_left _ (List.mem_append_left _ (List.mem_append_left _ (List.mem_append_right _ (List.mem_append_right _ (List.mem_append_right _ (List.mem_append_right _ (List.mem_append_right _ (List.mem_append_right _ (List.mem_append_right _ (List.mem_append_right _ (List.mem_append_right _ (List.mem_append_right _ (List.mem_append_right _ (List.mem_append_right _ (List.mem_append_right _ (List.mem_append_right _ (List.mem_append_right _ (List.mem_append_right _ (List.mem_append_right _ (List.mem_append_left _ h))))))))))))))))))))))))))
theorem q408 : Cond.code yX5_copy cX5_copy 2 none ∈ wsL_law := lwc_18 _ (List.mem_of_getElem? (i := 0) rfl)
theorem q409 : Cond.methodLink RX5 22 arraycopyName ∈ wsL_law := lwc_18 _ (List.mem_of_getElem? (i := 1) rfl)
theorem q410 : Cond.methodLink RX4 52 yX3_copy ∈ wsL_law := lwc_18 _ (List.mem_of_getElem? (i := 2) rfl)
theorem q411 : Cond.instanceMethod yX3_copy ∈ wsL_law := lwc_18 _ (List.mem_of_getElem? (i := 3) rfl)
theorem q412 : Cond.selects RX3 yX3_copy yX3_copy ∈ wsL_law := lwc_18 _ (List.mem_of_getElem? (i := 4) rfl)
theorem q413 : Cond.code yX3_copy cX3_copy 2 none ∈ wsL_law := lwc_18 _ (List.mem_of_getElem? (i := 5) rfl)
theorem q414 : Cond.fieldLink RX3 25 "OhmBridge$Sensor" "table" "I" ∈ wsL_law := lwc_18 _ (List.mem_of_getElem? (i := 6) rfl)
theorem q415 : Cond.fieldLink RX3 31 "OhmBridge$Sensor" "trueBase" "I" ∈ wsL_law := lwc_18 _ (List.mem_of_getElem? (i := 7) rfl)
theorem q416 : Cond.fieldLink RX3 34 "OhmBridge$Sensor" "assumedBase" "I" ∈ wsL_law := lwc_18 _ (List.mem_of_getElem? (i := 8) rfl)
theorem q417 : Cond.fieldLink RX3 37 "OhmBridge$Sensor" "temperature" "I" ∈ wsL_law := lwc_18 _ (List.mem_of_getElem? (i := 9) rfl)
theorem q418 : Cond.fieldLink RX3 46 "OhmBridge$Sensor" "brokenWires" "I" ∈ wsL_law := lwc_18 _ (List.mem_of_getElem? (i := 10) rfl)
theorem q419 : Cond.fieldLink RX3 49 "OhmBridge$Sensor" "low" "I" ∈ wsL_law := lwc_18 _ (List.mem_of_getElem? (i := 11) rfl)
theorem q420 : Cond.fieldLink RX3 52 "OhmBridge$Sensor" "high" "I" ∈ wsL_law := lwc_18 _ (List.mem_of_getElem? (i := 12) rfl)
theorem q421 : Cond.fieldLink RX3 55 "OhmBridge$Sensor" "hysteresis" "I" ∈ wsL_law := lwc_18 _ (List.mem_of_getElem? (i := 13) rfl)
theorem q422 : Cond.fieldLink RX3 58 "OhmBridge$Sensor" "alarm" "I" ∈ wsL_law := lwc_18 _ (List.mem_of_getElem? (i := 14) rfl)
theorem q423 : Cond.fieldLink RX3 61 "OhmBridge$Sensor" "readings" "I" ∈ wsL_law := lwc_18 _ (List.mem_of_getElem? (i := 15) rfl)
theorem q424 : Cond.methodLink RX3 64 arraycopyName ∈ wsL_law := lwc_18 _ (List.mem_of_getElem? (i := 16) rfl)
theorem q425 : Cond.methodLink RL 83 yX7_node ∈ wsL_law := lwc_18 _ (List.mem_of_getElem? (i := 17) rfl)
theorem q426 : Cond.instanceMethod yX7_node ∈ wsL_law := lwc_18 _ (List.mem_of_getElem? (i := 18) rfl)
theorem q427 : Cond.selects RX7 yX7_node yX7_node ∈ wsL_law := lwc_18 _ (List.mem_of_getElem? (i := 19) rfl)
theorem q428 : Cond.code yX7_node cX7_node 5 (some .int) ∈ wsL_law := lwc_18 _ (List.mem_of_getElem? (i := 20) rfl)
theorem q429 : Cond.constant RX7 84 (-2000000002) ∈ wsL_law := lwc_18 _ (List.mem_of_getElem? (i := 21) rfl)
theorem q430 : Cond.methodLink RX7 75 yX4_hasSensorOf ∈ wsL_law := lwc_18 _ (List.mem_of_getElem? (i := 22) rfl)
theorem q431 : Cond.instanceMethod yX4_hasSensorOf ∈ wsL_law := lwc_18 _ (List.mem_of_getElem? (i := 23) rfl)
theorem lwc_19 : ∀ w ∈ wsL_law_r19, w ∈ wsL_law := fun _ h => List.mem_append_left _ (List.mem_append_left _ (List.mem_append_left _ (List.mem_append_left _ (List.mem_append_left _ (List.mem_append_left _ (List.mem_append_left _ (List.mem_append_left _ (List.mem_append_left _ (List.mem_append_right _ (List.mem_append_right _ (List.mem_append_right _ (List.mem_append_right _ (List.mem_append_right _ (List.mem_append_right _ (List.mem_append_right _ (List.mem_append_right _ (List.mem_append_right _ (List.mem_append_right _ (List.mem_append_right _ (List.mem_append_right _ (List.mem_append_right _ (List.mem_append_right _ (List.mem_append_right _ (List.mem_append_right _ (List.mem_append_right _ (List.mem_append_right _ (List.mem_append_left _ h)))))))))))))))))))))))))))
theorem q432 : Cond.selects RX4 yX4_hasSensorOf yX4_hasSensorOf ∈ wsL_law := lwc_19 _ (List.mem_of_getElem? (i := 0) rfl)
theorem q433 : Cond.code yX4_hasSensorOf cX4_hasSensorOf 3 (some .boolean) ∈ wsL_law := lwc_19 _ (List.mem_of_getElem? (i := 1) rfl)
theorem q434 : Cond.fieldLink RX4 55 "OhmBridge$Sensor" "table" "I" ∈ wsL_law := lwc_19 _ (List.mem_of_getElem? (i := 2) rfl)
theorem q435 : Cond.methodLink RX7 78 yX5_mayGoOn ∈ wsL_law := lwc_19 _ (List.mem_of_getElem? (i := 3) rfl)
theorem q436 : Cond.instanceMethod yX5_mayGoOn ∈ wsL_law := lwc_19 _ (List.mem_of_getElem? (i := 4) rfl)
theorem q437 : Cond.selects RX5 yX5_mayGoOn yX5_mayGoOn ∈ wsL_law := lwc_19 _ (List.mem_of_getElem? (i := 5) rfl)
theorem q438 : Cond.code yX5_mayGoOn cX5_mayGoOn 3 (some .boolean) ∈ wsL_law := lwc_19 _ (List.mem_of_getElem? (i := 6) rfl)
theorem q439 : Cond.methodLink RX7 88 yX5_append ∈ wsL_law := lwc_19 _ (List.mem_of_getElem? (i := 7) rfl)
theorem q440 : Cond.instanceMethod yX5_append ∈ wsL_law := lwc_19 _ (List.mem_of_getElem? (i := 8) rfl)
theorem q441 : Cond.selects RX5 yX5_append yX5_append ∈ wsL_law := lwc_19 _ (List.mem_of_getElem? (i := 9) rfl)
theorem q442 : Cond.code yX5_append cX5_append 3 none ∈ wsL_law := lwc_19 _ (List.mem_of_getElem? (i := 10) rfl)
theorem q443 : Cond.methodLink RL 88 yX7_sensor ∈ wsL_law := lwc_19 _ (List.mem_of_getElem? (i := 11) rfl)
theorem q444 : Cond.instanceMethod yX7_sensor ∈ wsL_law := lwc_19 _ (List.mem_of_getElem? (i := 12) rfl)
theorem q445 : Cond.selects RX7 yX7_sensor yX7_sensor ∈ wsL_law := lwc_19 _ (List.mem_of_getElem? (i := 13) rfl)
theorem q446 : Cond.code yX7_sensor cX7_sensor 6 (some .int) ∈ wsL_law := lwc_19 _ (List.mem_of_getElem? (i := 14) rfl)
theorem q447 : Cond.constantLong RX7 112 (4) ∈ wsL_law := lwc_19 _ (List.mem_of_getElem? (i := 15) rfl)
theorem q448 : Cond.methodLink RX7 114 yX7_isBase ∈ wsL_law := lwc_19 _ (List.mem_of_getElem? (i := 16) rfl)
theorem q449 : Cond.static yX7_isBase ∈ wsL_law := lwc_19 _ (List.mem_of_getElem? (i := 17) rfl)
theorem q450 : Cond.code yX7_isBase cX7_isBase 2 (some .boolean) ∈ wsL_law := lwc_19 _ (List.mem_of_getElem? (i := 18) rfl)
theorem q451 : Cond.constantLong RX7 434 (1000) ∈ wsL_law := lwc_19 _ (List.mem_of_getElem? (i := 19) rfl)
theorem q452 : Cond.constantLong RX7 436 (2000000) ∈ wsL_law := lwc_19 _ (List.mem_of_getElem? (i := 20) rfl)
theorem q453 : Cond.methodLink RX7 125 yX5_nearest ∈ wsL_law := lwc_19 _ (List.mem_of_getElem? (i := 21) rfl)
theorem q454 : Cond.instanceMethod yX5_nearest ∈ wsL_law := lwc_19 _ (List.mem_of_getElem? (i := 22) rfl)
theorem q455 : Cond.selects RX5 yX5_nearest yX5_nearest ∈ wsL_law := lwc_19 _ (List.mem_of_getElem? (i := 23) rfl)
theorem lwc_20 : ∀ w ∈ wsL_law_r20, w ∈ wsL_law := fun _ h => List.mem_append_left _ (List.mem_append_left _ (List.mem_append_left _ (List.mem_append_left _ (List.mem_append_left _ (List.mem_append_left _ (List.mem_append_left _ (List.mem_append_left _ (List.mem_append_left _ (List.mem_append_right _ (List.mem_append_right _ (List.mem_append_right _ (List.mem_append_right _ (List.mem_append_right _ (List.mem_append_right _ (List.mem_append_right _ (List.mem_append_right _ (List.mem_append_right _ (List.mem_append_right _ (List.mem_append_right _ (List.mem_append_right _ (List.mem_append_right _ (List.mem_append_right _ (List.mem_append_right _ (List.mem_append_right _ (List.mem_append_right _ (List.mem_append_right _ (List.mem_append_right _ (List.mem_append_left _ h))))))))))))))))))))))))))))
theorem q456 : Cond.code yX5_nearest cX5_nearest 2 (some .int) ∈ wsL_law := lwc_20 _ (List.mem_of_getElem? (i := 0) rfl)
theorem q457 : Cond.methodLink RX5 35 Lib.Math.max.name ∈ wsL_law := lwc_20 _ (List.mem_of_getElem? (i := 1) rfl)
theorem q458 : Cond.static Lib.Math.max.name ∈ wsL_law := lwc_20 _ (List.mem_of_getElem? (i := 2) rfl)
theorem q459 : Cond.code Lib.Math.max.name Lib.Math.max.code 2 (some .int) ∈ wsL_law := lwc_20 _ (List.mem_of_getElem? (i := 3) rfl)
theorem q460 : Cond.methodLink RX5 41 Lib.Math.min.name ∈ wsL_law := lwc_20 _ (List.mem_of_getElem? (i := 4) rfl)
theorem q461 : Cond.static Lib.Math.min.name ∈ wsL_law := lwc_20 _ (List.mem_of_getElem? (i := 5) rfl)
theorem q462 : Cond.code Lib.Math.min.name Lib.Math.min.code 2 (some .int) ∈ wsL_law := lwc_20 _ (List.mem_of_getElem? (i := 6) rfl)
theorem q463 : Cond.methodLink RX7 128 yX3_begin ∈ wsL_law := lwc_20 _ (List.mem_of_getElem? (i := 7) rfl)
theorem q464 : Cond.instanceMethod yX3_begin ∈ wsL_law := lwc_20 _ (List.mem_of_getElem? (i := 8) rfl)
theorem q465 : Cond.selects RX3 yX3_begin yX3_begin ∈ wsL_law := lwc_20 _ (List.mem_of_getElem? (i := 9) rfl)
theorem q466 : Cond.code yX3_begin cX3_begin 5 none ∈ wsL_law := lwc_20 _ (List.mem_of_getElem? (i := 10) rfl)
theorem q467 : Cond.constant RX3 40 (-200000) ∈ wsL_law := lwc_20 _ (List.mem_of_getElem? (i := 11) rfl)
theorem q468 : Cond.constant RX3 41 (850000) ∈ wsL_law := lwc_20 _ (List.mem_of_getElem? (i := 12) rfl)
theorem q469 : Cond.methodLink RX3 42 yX3_watch ∈ wsL_law := lwc_20 _ (List.mem_of_getElem? (i := 13) rfl)
theorem q470 : Cond.instanceMethod yX3_watch ∈ wsL_law := lwc_20 _ (List.mem_of_getElem? (i := 14) rfl)
theorem q471 : Cond.selects RX3 yX3_watch yX3_watch ∈ wsL_law := lwc_20 _ (List.mem_of_getElem? (i := 15) rfl)
theorem q472 : Cond.code yX3_watch cX3_watch 4 none ∈ wsL_law := lwc_20 _ (List.mem_of_getElem? (i := 16) rfl)
theorem q473 : Cond.methodLink RL 91 yX7_plug ∈ wsL_law := lwc_20 _ (List.mem_of_getElem? (i := 17) rfl)
theorem q474 : Cond.instanceMethod yX7_plug ∈ wsL_law := lwc_20 _ (List.mem_of_getElem? (i := 18) rfl)
theorem q475 : Cond.selects RX7 yX7_plug yX7_plug ∈ wsL_law := lwc_20 _ (List.mem_of_getElem? (i := 19) rfl)
theorem q476 : Cond.code yX7_plug cX7_plug 6 (some .int) ∈ wsL_law := lwc_20 _ (List.mem_of_getElem? (i := 20) rfl)
theorem q477 : Cond.methodLink RX7 144 yX3_fits ∈ wsL_law := lwc_20 _ (List.mem_of_getElem? (i := 21) rfl)
theorem q478 : Cond.instanceMethod yX3_fits ∈ wsL_law := lwc_20 _ (List.mem_of_getElem? (i := 22) rfl)
theorem q479 : Cond.selects RX3 yX3_fits yX3_fits ∈ wsL_law := lwc_20 _ (List.mem_of_getElem? (i := 23) rfl)
theorem lwc_21 : ∀ w ∈ wsL_law_r21, w ∈ wsL_law := fun _ h => List.mem_append_left _ (List.mem_append_left _ (List.mem_append_left _ (List.mem_append_left _ (List.mem_append_left _ (List.mem_append_left _ (List.mem_append_left _ (List.mem_append_left _ (List.mem_append_left _ (List.mem_append_right _ (List.mem_append_right _ (List.mem_append_right _ (List.mem_append_right _ (List.mem_append_right _ (List.mem_append_right _ (List.mem_append_right _ (List.mem_append_right _ (List.mem_append_right _ (List.mem_append_right _ (List.mem_append_right _ (List.mem_append_right _ (List.mem_append_right _ (List.mem_append_right _ (List.mem_append_right _ (List.mem_append_right _ (List.mem_append_right _ (List.mem_append_right _ (List.mem_append_right _ (List.mem_append_right _ (List.mem_append_left _ h)))))))))))))))))))))))))))))
theorem q480 : Cond.code yX3_fits cX3_fits 2 (some .boolean) ∈ wsL_law := lwc_21 _ (List.mem_of_getElem? (i := 0) rfl)
theorem q481 : Cond.methodLink RX7 150 yX4_takenSlots ∈ wsL_law := lwc_21 _ (List.mem_of_getElem? (i := 1) rfl)
theorem q482 : Cond.methodLink RL 94 yL_leads ∈ wsL_law := lwc_21 _ (List.mem_of_getElem? (i := 2) rfl)
theorem q483 : Cond.static yL_leads ∈ wsL_law := lwc_21 _ (List.mem_of_getElem? (i := 3) rfl)
theorem q484 : Cond.code yL_leads cL_leads 9 (some .boolean) ∈ wsL_law := lwc_21 _ (List.mem_of_getElem? (i := 4) rfl)
theorem q485 : Cond.constant RL 54 (50001) ∈ wsL_law := lwc_21 _ (List.mem_of_getElem? (i := 5) rfl)
theorem q486 : Cond.methodLink RL 55 yX7_lead ∈ wsL_law := lwc_21 _ (List.mem_of_getElem? (i := 6) rfl)
theorem q487 : Cond.instanceMethod yX7_lead ∈ wsL_law := lwc_21 _ (List.mem_of_getElem? (i := 7) rfl)
theorem q488 : Cond.selects RX7 yX7_lead yX7_lead ∈ wsL_law := lwc_21 _ (List.mem_of_getElem? (i := 8) rfl)
theorem q489 : Cond.code yX7_lead cX7_lead 6 (some .int) ∈ wsL_law := lwc_21 _ (List.mem_of_getElem? (i := 9) rfl)
theorem q490 : Cond.constantLong RX7 166 (50000) ∈ wsL_law := lwc_21 _ (List.mem_of_getElem? (i := 10) rfl)
theorem q491 : Cond.methodLink RX7 171 yX3_setLead ∈ wsL_law := lwc_21 _ (List.mem_of_getElem? (i := 11) rfl)
theorem q492 : Cond.instanceMethod yX3_setLead ∈ wsL_law := lwc_21 _ (List.mem_of_getElem? (i := 12) rfl)
theorem q493 : Cond.selects RX3 yX3_setLead yX3_setLead ∈ wsL_law := lwc_21 _ (List.mem_of_getElem? (i := 13) rfl)
theorem q494 : Cond.code yX3_setLead cX3_setLead 3 none ∈ wsL_law := lwc_21 _ (List.mem_of_getElem? (i := 14) rfl)
theorem q495 : Cond.methodLink RL 58 yX7_undo ∈ wsL_law := lwc_21 _ (List.mem_of_getElem? (i := 15) rfl)
theorem q496 : Cond.instanceMethod yX7_undo ∈ wsL_law := lwc_21 _ (List.mem_of_getElem? (i := 16) rfl)
theorem q497 : Cond.selects RX7 yX7_undo yX7_undo ∈ wsL_law := lwc_21 _ (List.mem_of_getElem? (i := 17) rfl)
theorem q498 : Cond.code yX7_undo cX7_undo 1 (some .int) ∈ wsL_law := lwc_21 _ (List.mem_of_getElem? (i := 18) rfl)
theorem q499 : Cond.methodLink RX7 379 yX0_restore ∈ wsL_law := lwc_21 _ (List.mem_of_getElem? (i := 19) rfl)
theorem q500 : Cond.instanceMethod yX0_restore ∈ wsL_law := lwc_21 _ (List.mem_of_getElem? (i := 20) rfl)
theorem q501 : Cond.selects RX0 yX0_restore yX0_restore ∈ wsL_law := lwc_21 _ (List.mem_of_getElem? (i := 21) rfl)
theorem q502 : Cond.code yX0_restore cX0_restore 2 none ∈ wsL_law := lwc_21 _ (List.mem_of_getElem? (i := 22) rfl)
theorem q503 : Cond.methodLink RL 97 yL_reads ∈ wsL_law := lwc_21 _ (List.mem_of_getElem? (i := 23) rfl)
theorem lwc_22 : ∀ w ∈ wsL_law_r22, w ∈ wsL_law := fun _ h => List.mem_append_left _ (List.mem_append_left _ (List.mem_append_left _ (List.mem_append_left _ (List.mem_append_left _ (List.mem_append_left _ (List.mem_append_left _ (List.mem_append_left _ (List.mem_append_left _ (List.mem_append_right _ (List.mem_append_right _ (List.mem_append_right _ (List.mem_append_right _ (List.mem_append_right _ (List.mem_append_right _ (List.mem_append_right _ (List.mem_append_right _ (List.mem_append_right _ (List.mem_append_right _ (List.mem_append_right _ (List.mem_append_right _ (List.mem_append_right _ (List.mem_append_right _ (List.mem_append_right _ (List.mem_append_right _ (List.mem_append_right _ (List.mem_append_right _ (List.mem_append_right _ (List.mem_append_right _ (List.mem_append_right _ (List.mem_append_left _ h))))))))))))))))))))))))))))))
theorem q504 : Cond.static yL_reads ∈ wsL_law := lwc_22 _ (List.mem_of_getElem? (i := 0) rfl)
theorem q505 : Cond.code yL_reads cL_reads 6 (some .boolean) ∈ wsL_law := lwc_22 _ (List.mem_of_getElem? (i := 1) rfl)
theorem q506 : Cond.methodLink RL 62 yX7_read ∈ wsL_law := lwc_22 _ (List.mem_of_getElem? (i := 2) rfl)
theorem q507 : Cond.instanceMethod yX7_read ∈ wsL_law := lwc_22 _ (List.mem_of_getElem? (i := 3) rfl)
theorem q508 : Cond.selects RX7 yX7_read yX7_read ∈ wsL_law := lwc_22 _ (List.mem_of_getElem? (i := 4) rfl)
theorem q509 : Cond.code yX7_read cX7_read 3 (some .int) ∈ wsL_law := lwc_22 _ (List.mem_of_getElem? (i := 5) rfl)
theorem q510 : Cond.fieldLink RX7 323 "OhmBridge$Meter" "reading" "I" ∈ wsL_law := lwc_22 _ (List.mem_of_getElem? (i := 6) rfl)
theorem q511 : Cond.methodLink RX7 326 yX3_log ∈ wsL_law := lwc_22 _ (List.mem_of_getElem? (i := 7) rfl)
theorem q512 : Cond.instanceMethod yX3_log ∈ wsL_law := lwc_22 _ (List.mem_of_getElem? (i := 8) rfl)
theorem q513 : Cond.selects RX3 yX3_log yX3_log ∈ wsL_law := lwc_22 _ (List.mem_of_getElem? (i := 9) rfl)
theorem q514 : Cond.code yX3_log cX3_log 3 none ∈ wsL_law := lwc_22 _ (List.mem_of_getElem? (i := 10) rfl)
theorem q515 : Cond.methodLink RL 66 yX7_readingAt ∈ wsL_law := lwc_22 _ (List.mem_of_getElem? (i := 11) rfl)
theorem q516 : Cond.instanceMethod yX7_readingAt ∈ wsL_law := lwc_22 _ (List.mem_of_getElem? (i := 12) rfl)
theorem q517 : Cond.selects RX7 yX7_readingAt yX7_readingAt ∈ wsL_law := lwc_22 _ (List.mem_of_getElem? (i := 13) rfl)
theorem q518 : Cond.code yX7_readingAt cX7_readingAt 4 (some .int) ∈ wsL_law := lwc_22 _ (List.mem_of_getElem? (i := 14) rfl)
theorem q519 : Cond.methodLink RX7 336 yX3_keptReadings ∈ wsL_law := lwc_22 _ (List.mem_of_getElem? (i := 15) rfl)
theorem q520 : Cond.instanceMethod yX3_keptReadings ∈ wsL_law := lwc_22 _ (List.mem_of_getElem? (i := 16) rfl)
theorem q521 : Cond.selects RX3 yX3_keptReadings yX3_keptReadings ∈ wsL_law := lwc_22 _ (List.mem_of_getElem? (i := 17) rfl)
theorem q522 : Cond.code yX3_keptReadings cX3_keptReadings 1 (some .int) ∈ wsL_law := lwc_22 _ (List.mem_of_getElem? (i := 18) rfl)
theorem q523 : Cond.methodLink RX3 70 Lib.Math.min.name ∈ wsL_law := lwc_22 _ (List.mem_of_getElem? (i := 19) rfl)
theorem q524 : Cond.methodLink RX7 339 yX3_reading ∈ wsL_law := lwc_22 _ (List.mem_of_getElem? (i := 20) rfl)
theorem q525 : Cond.instanceMethod yX3_reading ∈ wsL_law := lwc_22 _ (List.mem_of_getElem? (i := 21) rfl)
theorem q526 : Cond.selects RX3 yX3_reading yX3_reading ∈ wsL_law := lwc_22 _ (List.mem_of_getElem? (i := 22) rfl)
theorem q527 : Cond.code yX3_reading cX3_reading 2 (some .int) ∈ wsL_law := lwc_22 _ (List.mem_of_getElem? (i := 23) rfl)
theorem lwc_23 : ∀ w ∈ wsL_law_r23, w ∈ wsL_law := fun _ h => List.mem_append_left _ (List.mem_append_left _ (List.mem_append_left _ (List.mem_append_left _ (List.mem_append_left _ (List.mem_append_left _ (List.mem_append_left _ (List.mem_append_left _ (List.mem_append_left _ (List.mem_append_right _ (List.mem_append_right _ (List.mem_append_right _ (List.mem_append_right _ (List.mem_append_right _ (List.mem_append_right _ (List.mem_append_right _ (List.mem_append_right _ (List.mem_append_right _ (List.mem_append_right _ (List.mem_append_right _ (List.mem_append_right _ (List.mem_append_right _ (List.mem_append_right _ (List.mem_append_right _ (List.mem_append_right _ (List.mem_append_right _ (List.mem_append_right _ (List.mem_append_right _ (List.mem_append_right _ (List.mem_append_right _ (List.mem_append_right _ (List.mem_append_left _ h)))))))))))))))))))))))))))))))
theorem q528 : Cond.methodLink RL 101 yX7_bath ∈ wsL_law := lwc_23 _ (List.mem_of_getElem? (i := 0) rfl)
theorem q529 : Cond.instanceMethod yX7_bath ∈ wsL_law := lwc_23 _ (List.mem_of_getElem? (i := 1) rfl)
theorem q530 : Cond.selects RX7 yX7_bath yX7_bath ∈ wsL_law := lwc_23 _ (List.mem_of_getElem? (i := 2) rfl)
theorem q531 : Cond.code yX7_bath cX7_bath 5 (some .int) ∈ wsL_law := lwc_23 _ (List.mem_of_getElem? (i := 3) rfl)
theorem q532 : Cond.methodLink RX7 156 yX4_canBring ∈ wsL_law := lwc_23 _ (List.mem_of_getElem? (i := 4) rfl)
theorem q533 : Cond.instanceMethod yX4_canBring ∈ wsL_law := lwc_23 _ (List.mem_of_getElem? (i := 5) rfl)
theorem q534 : Cond.selects RX4 yX4_canBring yX4_canBring ∈ wsL_law := lwc_23 _ (List.mem_of_getElem? (i := 6) rfl)
theorem q535 : Cond.code yX4_canBring cX4_canBring 4 (some .boolean) ∈ wsL_law := lwc_23 _ (List.mem_of_getElem? (i := 7) rfl)
theorem q536 : Cond.methodLink RX4 74 yX4_tableAt ∈ wsL_law := lwc_23 _ (List.mem_of_getElem? (i := 8) rfl)
theorem q537 : Cond.methodLink RX4 78 yX5_goesTo ∈ wsL_law := lwc_23 _ (List.mem_of_getElem? (i := 9) rfl)
theorem q538 : Cond.methodLink RL 105 yX7_set ∈ wsL_law := lwc_23 _ (List.mem_of_getElem? (i := 10) rfl)
theorem q539 : Cond.instanceMethod yX7_set ∈ wsL_law := lwc_23 _ (List.mem_of_getElem? (i := 11) rfl)
theorem q540 : Cond.selects RX7 yX7_set yX7_set ∈ wsL_law := lwc_23 _ (List.mem_of_getElem? (i := 12) rfl)
theorem q541 : Cond.code yX7_set cX7_set 4 (some .int) ∈ wsL_law := lwc_23 _ (List.mem_of_getElem? (i := 13) rfl)
theorem q542 : Cond.fieldLink RX7 269 "OhmBridge" "LEAST_SETTING" "[I" ∈ wsL_law := lwc_23 _ (List.mem_of_getElem? (i := 14) rfl)
theorem q543 : Cond.fieldLink RX7 272 "OhmBridge" "GREATEST_SETTING" "[I" ∈ wsL_law := lwc_23 _ (List.mem_of_getElem? (i := 15) rfl)
theorem q544 : Cond.methodLink RX7 180 yX7_isInRow ∈ wsL_law := lwc_23 _ (List.mem_of_getElem? (i := 16) rfl)
theorem q545 : Cond.static yX7_isInRow ∈ wsL_law := lwc_23 _ (List.mem_of_getElem? (i := 17) rfl)
theorem q546 : Cond.code yX7_isInRow cX7_isInRow 4 (some .boolean) ∈ wsL_law := lwc_23 _ (List.mem_of_getElem? (i := 18) rfl)
theorem q547 : Cond.methodLink RX7 278 yX4_changeSetting ∈ wsL_law := lwc_23 _ (List.mem_of_getElem? (i := 19) rfl)
theorem q548 : Cond.instanceMethod yX4_changeSetting ∈ wsL_law := lwc_23 _ (List.mem_of_getElem? (i := 20) rfl)
theorem q549 : Cond.selects RX4 yX4_changeSetting yX4_changeSetting ∈ wsL_law := lwc_23 _ (List.mem_of_getElem? (i := 21) rfl)
theorem q550 : Cond.code yX4_changeSetting cX4_changeSetting 3 none ∈ wsL_law := lwc_23 _ (List.mem_of_getElem? (i := 22) rfl)
theorem q551 : Cond.methodLink RL 110 yX7_drift ∈ wsL_law := lwc_23 _ (List.mem_of_getElem? (i := 23) rfl)
theorem lwc_24 : ∀ w ∈ wsL_law_r24, w ∈ wsL_law := fun _ h => List.mem_append_left _ (List.mem_append_left _ (List.mem_append_left _ (List.mem_append_left _ (List.mem_append_left _ (List.mem_append_left _ (List.mem_append_left _ (List.mem_append_left _ (List.mem_append_left _ (List.mem_append_right _ (List.mem_append_right _ (List.mem_append_right _ (List.mem_append_right _ (List.mem_append_right _ (List.mem_append_right _ (List.mem_append_right _ (List.mem_append_right _ (List.mem_append_right _ (List.mem_append_right _ (List.mem_append_right _ (List.mem_append_right _ (List.mem_append_right _ (List.mem_append_right _ (List.mem_append_right _ (List.mem_append_right _ (List.mem_append_right _ (List.mem_append_right _ (List.mem_append_right _ (List.mem_append_right _ (List.mem_append_right _ (List.mem_append_right _ (List.mem_append_right _ (List.mem_append_left _ h))))))))))))))))))))))))))))))))
theorem q552 : Cond.instanceMethod yX7_drift ∈ wsL_law := lwc_24 _ (List.mem_of_getElem? (i := 0) rfl)
theorem q553 : Cond.selects RX7 yX7_drift yX7_drift ∈ wsL_law := lwc_24 _ (List.mem_of_getElem? (i := 1) rfl)
theorem q554 : Cond.code yX7_drift cX7_drift 6 (some .int) ∈ wsL_law := lwc_24 _ (List.mem_of_getElem? (i := 2) rfl)
theorem q555 : Cond.constantLong RX7 205 (-100000) ∈ wsL_law := lwc_24 _ (List.mem_of_getElem? (i := 3) rfl)
theorem q556 : Cond.constantLong RX7 207 (100000) ∈ wsL_law := lwc_24 _ (List.mem_of_getElem? (i := 4) rfl)
theorem q557 : Cond.constantLong RX7 212 (1000000) ∈ wsL_law := lwc_24 _ (List.mem_of_getElem? (i := 5) rfl)
theorem q558 : Cond.methodLink RL 113 yX7_cut ∈ wsL_law := lwc_24 _ (List.mem_of_getElem? (i := 6) rfl)
theorem q559 : Cond.instanceMethod yX7_cut ∈ wsL_law := lwc_24 _ (List.mem_of_getElem? (i := 7) rfl)
theorem q560 : Cond.selects RX7 yX7_cut yX7_cut ∈ wsL_law := lwc_24 _ (List.mem_of_getElem? (i := 8) rfl)
theorem q561 : Cond.code yX7_cut cX7_cut 5 (some .int) ∈ wsL_law := lwc_24 _ (List.mem_of_getElem? (i := 9) rfl)
theorem q562 : Cond.methodLink RX7 190 yX3_isBroken ∈ wsL_law := lwc_24 _ (List.mem_of_getElem? (i := 10) rfl)
theorem q563 : Cond.instanceMethod yX3_isBroken ∈ wsL_law := lwc_24 _ (List.mem_of_getElem? (i := 11) rfl)
theorem q564 : Cond.selects RX3 yX3_isBroken yX3_isBroken ∈ wsL_law := lwc_24 _ (List.mem_of_getElem? (i := 12) rfl)
theorem q565 : Cond.code yX3_isBroken cX3_isBroken 2 (some .boolean) ∈ wsL_law := lwc_24 _ (List.mem_of_getElem? (i := 13) rfl)
theorem q566 : Cond.methodLink RX7 193 yX3_turnWire ∈ wsL_law := lwc_24 _ (List.mem_of_getElem? (i := 14) rfl)
theorem q567 : Cond.instanceMethod yX3_turnWire ∈ wsL_law := lwc_24 _ (List.mem_of_getElem? (i := 15) rfl)
theorem q568 : Cond.selects RX3 yX3_turnWire yX3_turnWire ∈ wsL_law := lwc_24 _ (List.mem_of_getElem? (i := 16) rfl)
theorem q569 : Cond.code yX3_turnWire cX3_turnWire 2 none ∈ wsL_law := lwc_24 _ (List.mem_of_getElem? (i := 17) rfl)
theorem q570 : Cond.methodLink RX7 200 yJ6_bitCount_0f7a4 ∈ wsL_law := lwc_24 _ (List.mem_of_getElem? (i := 18) rfl)
theorem q571 : Cond.static yJ6_bitCount_0f7a4 ∈ wsL_law := lwc_24 _ (List.mem_of_getElem? (i := 19) rfl)
theorem q572 : Cond.initialized RJ6 ∈ wsL_law := lwc_24 _ (List.mem_of_getElem? (i := 20) rfl)
theorem q573 : Cond.code yJ6_bitCount_0f7a4 cJ6_bitCount_0f7a4 1 (some .int) ∈ wsL_law := lwc_24 _ (List.mem_of_getElem? (i := 21) rfl)
theorem q574 : Cond.constant RJ6 265 (1431655765) ∈ wsL_law := lwc_24 _ (List.mem_of_getElem? (i := 22) rfl)
theorem q575 : Cond.constant RJ6 266 (858993459) ∈ wsL_law := lwc_24 _ (List.mem_of_getElem? (i := 23) rfl)
theorem lwc_25 : ∀ w ∈ wsL_law_r25, w ∈ wsL_law := fun _ h => List.mem_append_left _ (List.mem_append_left _ (List.mem_append_left _ (List.mem_append_left _ (List.mem_append_left _ (List.mem_append_left _ (List.mem_append_left _ (List.mem_append_left _ (List.mem_append_left _ (List.mem_append_right _ (List.mem_append_right _ (List.mem_append_right _ (List.mem_append_right _ (List.mem_append_right _ (List.mem_append_right _ (List.mem_append_right _ (List.mem_append_right _ (List.mem_append_right _ (List.mem_append_right _ (List.mem_append_right _ (List.mem_append_right _ (List.mem_append_right _ (List.mem_append_right _ (List.mem_append_right _ (List.mem_append_right _ (List.mem_append_right _ (List.mem_append_right _ (List.mem_append_right _ (List.mem_append_right _ (List.mem_append_right _ (List.mem_append_right _ (List.mem_append_right _ (List.mem_append_right _ (h)))))))))))))))))))))))))))))))))
theorem q576 : Cond.constant RJ6 267 (252645135) ∈ wsL_law := lwc_25 _ (List.mem_of_getElem? (i := 0) rfl)
theorem q577 : Cond.methodLink RL 116 yX7_strain ∈ wsL_law := lwc_25 _ (List.mem_of_getElem? (i := 1) rfl)
theorem q578 : Cond.instanceMethod yX7_strain ∈ wsL_law := lwc_25 _ (List.mem_of_getElem? (i := 2) rfl)
theorem q579 : Cond.selects RX7 yX7_strain yX7_strain ∈ wsL_law := lwc_25 _ (List.mem_of_getElem? (i := 3) rfl)
theorem q580 : Cond.code yX7_strain cX7_strain 6 (some .int) ∈ wsL_law := lwc_25 _ (List.mem_of_getElem? (i := 4) rfl)
theorem q581 : Cond.fieldLink RX7 174 "OhmBridge" "LEAST_STRAIN" "[I" ∈ wsL_law := lwc_25 _ (List.mem_of_getElem? (i := 5) rfl)
theorem q582 : Cond.fieldLink RX7 177 "OhmBridge" "GREATEST_STRAIN" "[I" ∈ wsL_law := lwc_25 _ (List.mem_of_getElem? (i := 6) rfl)
theorem q583 : Cond.methodLink RX7 187 yX3_setStrain ∈ wsL_law := lwc_25 _ (List.mem_of_getElem? (i := 7) rfl)
theorem q584 : Cond.instanceMethod yX3_setStrain ∈ wsL_law := lwc_25 _ (List.mem_of_getElem? (i := 8) rfl)
theorem q585 : Cond.selects RX3 yX3_setStrain yX3_setStrain ∈ wsL_law := lwc_25 _ (List.mem_of_getElem? (i := 9) rfl)
theorem q586 : Cond.code yX3_setStrain cX3_setStrain 3 none ∈ wsL_law := lwc_25 _ (List.mem_of_getElem? (i := 10) rfl)
theorem q587 : Cond.methodLink RL 119 yX7_scan ∈ wsL_law := lwc_25 _ (List.mem_of_getElem? (i := 11) rfl)
theorem q588 : Cond.instanceMethod yX7_scan ∈ wsL_law := lwc_25 _ (List.mem_of_getElem? (i := 12) rfl)
theorem q589 : Cond.selects RX7 yX7_scan yX7_scan ∈ wsL_law := lwc_25 _ (List.mem_of_getElem? (i := 13) rfl)
theorem q590 : Cond.code yX7_scan cX7_scan 3 (some .int) ∈ wsL_law := lwc_25 _ (List.mem_of_getElem? (i := 14) rfl)
theorem q591 : Cond.methodLink RX7 329 yX4_nextPlugged ∈ wsL_law := lwc_25 _ (List.mem_of_getElem? (i := 15) rfl)
theorem q592 : Cond.instanceMethod yX4_nextPlugged ∈ wsL_law := lwc_25 _ (List.mem_of_getElem? (i := 16) rfl)
theorem q593 : Cond.selects RX4 yX4_nextPlugged yX4_nextPlugged ∈ wsL_law := lwc_25 _ (List.mem_of_getElem? (i := 17) rfl)
theorem q594 : Cond.code yX4_nextPlugged cX4_nextPlugged 3 (some .int) ∈ wsL_law := lwc_25 _ (List.mem_of_getElem? (i := 18) rfl)
theorem wsL_good : wsL_law.all goodWord = true := by decide +kernel
theorem wsL_good1 : ∀ w ∈ wsL_law, w ∈ wsL_law ∧ ((w.onTables && w.keeps) = true ∨ ∃ ty, w = .arrayClass ty) := fun w h => ⟨h, good_of_word (List.all_eq_true.mp wsL_good w h)⟩
abbrev wsM (y : MethodName) (cc : ByteArray) (n : Nat) (r : Option FieldType) : List Cond := Cond.code y cc n r :: wsL_law
theorem wsM_good {y : MethodName} {cc : ByteArray} {n : Nat} {r : Option FieldType} (h : Cond.code y cc n r ∈ wsL_law) : GoodIn wsL_law (wsM y cc n r) := fun w hw => (List.mem_cons.mp hw).elim (fun e => e ▸ wsL_good1 _ h) (wsL_good1 w)
theorem gl_V {own C : String} {idx : Nat} {y : MethodName} {cc : ByteArray} {n : Nat} {r : Option FieldType} (h1 : Cond.methodLink own idx y ∈ wsL_law) (h2 : Cond.instanceMethod y ∈ wsL_law) (h3 : Cond.selects C y y ∈ wsL_law) (h4 : Cond.initialized C ∈ wsL_law) (h5 : Cond.code y cc n r ∈ wsL_law) : GoodIn wsL_law (wsV own idx C y (wsM y cc n r)) := goodIn_app (fun w hw => by
  simp only [List.mem_cons, List.not_mem_nil, or_false] at hw
  rcases hw with rfl | rfl | rfl | rfl
  · exact wsL_good1 _ h1
  · exact wsL_good1 _ h2
  · exact wsL_good1 _ h3
  · exact wsL_good1 _ h4) (wsM_good h5)
theorem gl_S {own : String} {idx : Nat} {y : MethodName} {cc : ByteArray} {n : Nat} {r : Option FieldType} (h1 : Cond.methodLink own idx y ∈ wsL_law) (h2 : Cond.static y ∈ wsL_law) (h4 : Cond.initialized y.cls ∈ wsL_law) (h5 : Cond.code y cc n r ∈ wsL_law) : GoodIn wsL_law (va_wsS own idx y (wsM y cc n r)) := goodIn_app (fun w hw => by
  simp only [List.mem_cons, List.not_mem_nil, or_false] at hw
  rcases hw with rfl | rfl | rfl
  · exact wsL_good1 _ h1
  · exact wsL_good1 _ h2
  · exact wsL_good1 _ h4) (wsM_good h5)

