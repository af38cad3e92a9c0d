/-! ===== BEGIN words of one list among another's, by their places ===== -/
theorem goodIn_r {big : List Cond} (ws : List Cond) (ps : List Nat) (hp : ws = ps.filterMap (fun i => big[i]?)) (h : ws.all goodWord = true) : GoodIn big ws := by
  intro w hw
  have h1 := List.all_eq_true.mp h w hw
  rw [hp] at hw
  obtain ⟨i, -, hi⟩ := List.mem_filterMap.mp hw
  have hm : w ∈ big := by first | exact List.mem_of_getElem? hi | exact List.getElem?_mem hi
  exact ⟨hm, good_of_word h1⟩
theorem goodIn_app {big a b : List Cond} (ha : GoodIn big a) (hb : GoodIn big b) : GoodIn big (a ++ b) := fun w h => (List.mem_append.mp h).elim (ha w) (hb w)
theorem goodIn_ca {big a b : List Cond} {c : Cond} (ha : GoodIn big (c :: a)) (hb : GoodIn big b) : GoodIn big (c :: (a ++ b)) := fun w h => (List.mem_cons.mp h).elim (fun e => ha w (List.mem_cons.mpr (Or.inl e))) (fun h => (List.mem_append.mp h).elim (fun h => ha w (List.mem_cons.mpr (Or.inr h))) (hb w))
theorem goodIn_sub {big ws : List Cond} (hm : ∀ w ∈ ws, w ∈ big) (h : ws.all goodWord = true) : GoodIn big ws := fun w hw => ⟨hm w hw, good_of_word (List.all_eq_true.mp h w hw)⟩
/-! ===== END ===== -/

/-! ===== BEGIN printed: names, fields, word lists, decode rows ===== -/
def RX0 : String := "OhmBridge$History"
def TX0 : u_T := fun k => match k with
  | 0 => ("OhmBridge$History", "size", "I", false)
  | _ => ("OhmBridge$History", "kept", "[LOhmBridge$State;", true)
def tyX0 : Nat → FieldType := fun k => match k with
  | 0 => .int
  | _ => .array (.object "OhmBridge$State")
abbrev wsX00 : List Cond := u_ws RX0 TX0 2
theorem nmX0 : ∀ a, a < 2 → ∀ b, b < 2 → a ≠ b → (TX0 a).2.1 ≠ (TX0 b).2.1 := by decide +kernel
theorem tyX0_ok : ∀ k, k < 2 → parseFieldDescriptor (TX0 k).2.2.1 = some (tyX0 k) := by decide +kernel
abbrev cX0_init : ByteArray := prog_2_method_1_code
def yX0_init : MethodName := ⟨RX0, "<init>", "()V"⟩
abbrev cX0_record : ByteArray := prog_2_method_2_code
def yX0_record : MethodName := ⟨RX0, "record", "(LOhmBridge$State;)V"⟩
abbrev cX0_restore : ByteArray := prog_2_method_3_code
def yX0_restore : MethodName := ⟨RX0, "restore", "(LOhmBridge$State;)V"⟩
abbrev cX0_dropOldest : ByteArray := prog_2_method_4_code
def yX0_dropOldest : MethodName := ⟨RX0, "dropOldest", "()V"⟩
def RX1 : String := "OhmBridge$Measurement"
def TX1 : u_T := fun k => match k with
  | 0 => ("OhmBridge$Measurement", "heated", "J", false)
  | 1 => ("OhmBridge$Measurement", "oneWay", "J", false)
  | 2 => ("OhmBridge$Measurement", "otherWay", "J", false)
  | 3 => ("OhmBridge$Measurement", "secondOneWay", "J", false)
  | 4 => ("OhmBridge$Measurement", "secondOtherWay", "J", false)
  | 5 => ("OhmBridge$Measurement", "loopOhms", "J", false)
  | 6 => ("OhmBridge$Measurement", "compensated", "J", false)
  | 7 => ("OhmBridge$Measurement", "current", "J", false)
  | 8 => ("OhmBridge$Measurement", "reference", "J", false)
  | 9 => ("OhmBridge$Measurement", "unit", "J", false)
  | _ => ("OhmBridge$Measurement", "stray", "J", false)
def tyX1 : Nat → FieldType := fun k => match k with
  | 0 => .long
  | 1 => .long
  | 2 => .long
  | 3 => .long
  | 4 => .long
  | 5 => .long
  | 6 => .long
  | 7 => .long
  | 8 => .long
  | 9 => .long
  | _ => .long
abbrev wsX10 : List Cond := u_ws RX1 TX1 11
theorem nmX1 : ∀ a, a < 11 → ∀ b, b < 11 → a ≠ b → (TX1 a).2.1 ≠ (TX1 b).2.1 := by decide +kernel
theorem tyX1_ok : ∀ k, k < 11 → parseFieldDescriptor (TX1 k).2.2.1 = some (tyX1 k) := by decide +kernel
abbrev cX1_init : ByteArray := prog_3_method_1_code
def yX1_init : MethodName := ⟨RX1, "<init>", "()V"⟩
abbrev cX1_take : ByteArray := prog_3_method_2_code
def yX1_take : MethodName := ⟨RX1, "take", "(LOhmBridge$State;LOhmBridge$Sensor;I)V"⟩
abbrev cX1_heatedOhms : ByteArray := prog_3_method_3_code
def yX1_heatedOhms : MethodName := ⟨RX1, "heatedOhms", "(LOhmBridge$Sensor;LOhmBridge$Table;)J"⟩
abbrev cX1_greatest : ByteArray := prog_3_method_4_code
def yX1_greatest : MethodName := ⟨RX1, "greatest", "()J"⟩
abbrev cX1_countsOf : ByteArray := prog_3_method_5_code
def yX1_countsOf : MethodName := ⟨RX1, "countsOf", "(J)J"⟩
abbrev cX1_ohmsBy : ByteArray := prog_3_method_6_code
def yX1_ohmsBy : MethodName := ⟨RX1, "ohmsBy", "(J)J"⟩
abbrev cX1_isAtBound : ByteArray := prog_3_method_7_code
def yX1_isAtBound : MethodName := ⟨RX1, "isAtBound", "()Z"⟩
def RX2 : String := "OhmBridge$Meter"
def TX2 : u_T := fun k => match k with
  | 0 => ("OhmBridge$Meter", "first", "LOhmBridge$Measurement;", true)
  | 1 => ("OhmBridge$Meter", "second", "LOhmBridge$Measurement;", true)
  | 2 => ("OhmBridge$Meter", "withoutPower", "J", false)
  | 3 => ("OhmBridge$Meter", "reading", "I", false)
  | _ => ("OhmBridge$Meter", "diagnosed", "I", false)
def tyX2 : Nat → FieldType := fun k => match k with
  | 0 => .object "OhmBridge$Measurement"
  | 1 => .object "OhmBridge$Measurement"
  | 2 => .long
  | 3 => .int
  | _ => .int
abbrev wsX20 : List Cond := u_ws RX2 TX2 5
theorem nmX2 : ∀ a, a < 5 → ∀ b, b < 5 → a ≠ b → (TX2 a).2.1 ≠ (TX2 b).2.1 := by decide +kernel
theorem tyX2_ok : ∀ k, k < 5 → parseFieldDescriptor (TX2 k).2.2.1 = some (tyX2 k) := by decide +kernel
abbrev cX2_init : ByteArray := prog_4_method_1_code
def yX2_init : MethodName := ⟨RX2, "<init>", "()V"⟩
abbrev cX2_measure : ByteArray := prog_4_method_2_code
def yX2_measure : MethodName := ⟨RX2, "measure", "(LOhmBridge$State;LOhmBridge$Sensor;)V"⟩
abbrev cX2_extrapolated : ByteArray := prog_4_method_3_code
def yX2_extrapolated : MethodName := ⟨RX2, "extrapolated", "(JJ)J"⟩
abbrev cX2_readingOf : ByteArray := prog_4_method_4_code
def yX2_readingOf : MethodName := ⟨RX2, "readingOf", "(LOhmBridge$Table;J)I"⟩
abbrev cX2_diagnosisOf : ByteArray := prog_4_method_5_code
def yX2_diagnosisOf : MethodName := ⟨RX2, "diagnosisOf", "(LOhmBridge$State;LOhmBridge$Sensor;)I"⟩
def RX3 : String := "OhmBridge$Sensor"
def TX3 : u_T := fun k => match k with
  | 0 => ("OhmBridge$Sensor", "table", "I", false)
  | 1 => ("OhmBridge$Sensor", "wires", "I", false)
  | 2 => ("OhmBridge$Sensor", "trueBase", "I", false)
  | 3 => ("OhmBridge$Sensor", "assumedBase", "I", false)
  | 4 => ("OhmBridge$Sensor", "temperature", "I", false)
  | 5 => ("OhmBridge$Sensor", "brokenWires", "I", false)
  | 6 => ("OhmBridge$Sensor", "place", "I", false)
  | 7 => ("OhmBridge$Sensor", "low", "I", false)
  | 8 => ("OhmBridge$Sensor", "high", "I", false)
  | 9 => ("OhmBridge$Sensor", "hysteresis", "I", false)
  | 10 => ("OhmBridge$Sensor", "alarm", "I", false)
  | 11 => ("OhmBridge$Sensor", "readings", "I", false)
  | 12 => ("OhmBridge$Sensor", "leads", "[I", true)
  | 13 => ("OhmBridge$Sensor", "strains", "[I", true)
  | _ => ("OhmBridge$Sensor", "latest", "[I", true)
def tyX3 : Nat → FieldType := fun k => match k with
  | 0 => .int
  | 1 => .int
  | 2 => .int
  | 3 => .int
  | 4 => .int
  | 5 => .int
  | 6 => .int
  | 7 => .int
  | 8 => .int
  | 9 => .int
  | 10 => .int
  | 11 => .int
  | 12 => .array .int
  | 13 => .array .int
  | _ => .array .int
abbrev wsX30 : List Cond := u_ws RX3 TX3 15
theorem nmX3 : ∀ a, a < 15 → ∀ b, b < 15 → a ≠ b → (TX3 a).2.1 ≠ (TX3 b).2.1 := by decide +kernel
theorem tyX3_ok : ∀ k, k < 15 → parseFieldDescriptor (TX3 k).2.2.1 = some (tyX3 k) := by decide +kernel
abbrev cX3_init : ByteArray := prog_5_method_1_code
def yX3_init : MethodName := ⟨RX3, "<init>", "()V"⟩
abbrev cX3_begin : ByteArray := prog_5_method_2_code
def yX3_begin : MethodName := ⟨RX3, "begin", "(IIII)V"⟩
abbrev cX3_copy : ByteArray := prog_5_method_3_code
def yX3_copy : MethodName := ⟨RX3, "copy", "(LOhmBridge$Sensor;)V"⟩
abbrev cX3_isPlugged : ByteArray := prog_5_method_4_code
def yX3_isPlugged : MethodName := ⟨RX3, "isPlugged", "()Z"⟩
abbrev cX3_fits : ByteArray := prog_5_method_5_code
def yX3_fits : MethodName := ⟨RX3, "fits", "(I)Z"⟩
abbrev cX3_isCompensated : ByteArray := prog_5_method_6_code
def yX3_isCompensated : MethodName := ⟨RX3, "isCompensated", "()Z"⟩
abbrev cX3_hasWire : ByteArray := prog_5_method_7_code
def yX3_hasWire : MethodName := ⟨RX3, "hasWire", "(I)Z"⟩
abbrev cX3_leadOf : ByteArray := prog_5_method_8_code
def yX3_leadOf : MethodName := ⟨RX3, "leadOf", "(I)I"⟩
abbrev cX3_setLead : ByteArray := prog_5_method_9_code
def yX3_setLead : MethodName := ⟨RX3, "setLead", "(II)V"⟩
abbrev cX3_strainOf : ByteArray := prog_5_method_10_code
def yX3_strainOf : MethodName := ⟨RX3, "strainOf", "(I)I"⟩
abbrev cX3_setStrain : ByteArray := prog_5_method_11_code
def yX3_setStrain : MethodName := ⟨RX3, "setStrain", "(II)V"⟩
abbrev cX3_isBroken : ByteArray := prog_5_method_12_code
def yX3_isBroken : MethodName := ⟨RX3, "isBroken", "(I)Z"⟩
abbrev cX3_turnWire : ByteArray := prog_5_method_13_code
def yX3_turnWire : MethodName := ⟨RX3, "turnWire", "(I)V"⟩
abbrev cX3_watch : ByteArray := prog_5_method_14_code
def yX3_watch : MethodName := ⟨RX3, "watch", "(III)V"⟩
abbrev cX3_keptReadings : ByteArray := prog_5_method_15_code
def yX3_keptReadings : MethodName := ⟨RX3, "keptReadings", "()I"⟩
abbrev cX3_reading : ByteArray := prog_5_method_16_code
def yX3_reading : MethodName := ⟨RX3, "reading", "(I)I"⟩
abbrev cX3_log : ByteArray := prog_5_method_17_code
def yX3_log : MethodName := ⟨RX3, "log", "(I)V"⟩
def RX4 : String := "OhmBridge$State"
def TX4 : u_T := fun k => match k with
  | 0 => ("OhmBridge$State", "tableCount", "I", false)
  | 1 => ("OhmBridge$State", "sensorCount", "I", false)
  | 2 => ("OhmBridge$State", "scanner", "I", false)
  | 3 => ("OhmBridge$State", "tables", "[LOhmBridge$Table;", true)
  | 4 => ("OhmBridge$State", "sensors", "[LOhmBridge$Sensor;", true)
  | _ => ("OhmBridge$State", "settings", "[I", true)
def tyX4 : Nat → FieldType := fun k => match k with
  | 0 => .int
  | 1 => .int
  | 2 => .int
  | 3 => .array (.object "OhmBridge$Table")
  | 4 => .array (.object "OhmBridge$Sensor")
  | _ => .array .int
abbrev wsX40 : List Cond := u_ws RX4 TX4 6
theorem nmX4 : ∀ a, a < 6 → ∀ b, b < 6 → a ≠ b → (TX4 a).2.1 ≠ (TX4 b).2.1 := by decide +kernel
theorem tyX4_ok : ∀ k, k < 6 → parseFieldDescriptor (TX4 k).2.2.1 = some (tyX4 k) := by decide +kernel
abbrev cX4_init : ByteArray := prog_6_method_1_code
def yX4_init : MethodName := ⟨RX4, "<init>", "()V"⟩
abbrev cX4_copy : ByteArray := prog_6_method_2_code
def yX4_copy : MethodName := ⟨RX4, "copy", "(LOhmBridge$State;)V"⟩
abbrev cX4_tableAt : ByteArray := prog_6_method_3_code
def yX4_tableAt : MethodName := ⟨RX4, "tableAt", "(I)LOhmBridge$Table;"⟩
abbrev cX4_sensorAt : ByteArray := prog_6_method_4_code
def yX4_sensorAt : MethodName := ⟨RX4, "sensorAt", "(I)LOhmBridge$Sensor;"⟩
abbrev cX4_setting : ByteArray := prog_6_method_5_code
def yX4_setting : MethodName := ⟨RX4, "setting", "(I)I"⟩
abbrev cX4_changeSetting : ByteArray := prog_6_method_6_code
def yX4_changeSetting : MethodName := ⟨RX4, "changeSetting", "(II)V"⟩
abbrev cX4_hasSensorOf : ByteArray := prog_6_method_7_code
def yX4_hasSensorOf : MethodName := ⟨RX4, "hasSensorOf", "(I)Z"⟩
abbrev cX4_sensorIn : ByteArray := prog_6_method_8_code
def yX4_sensorIn : MethodName := ⟨RX4, "sensorIn", "(I)I"⟩
abbrev cX4_takenSlots : ByteArray := prog_6_method_9_code
def yX4_takenSlots : MethodName := ⟨RX4, "takenSlots", "(I)I"⟩
abbrev cX4_pluggedSensors : ByteArray := prog_6_method_10_code
def yX4_pluggedSensors : MethodName := ⟨RX4, "pluggedSensors", "()I"⟩
abbrev cX4_alarmsOn : ByteArray := prog_6_method_11_code
def yX4_alarmsOn : MethodName := ⟨RX4, "alarmsOn", "()I"⟩
abbrev cX4_allReadings : ByteArray := prog_6_method_12_code
def yX4_allReadings : MethodName := ⟨RX4, "allReadings", "()I"⟩
abbrev cX4_nextPlugged : ByteArray := prog_6_method_13_code
def yX4_nextPlugged : MethodName := ⟨RX4, "nextPlugged", "()I"⟩
abbrev cX4_canBring : ByteArray := prog_6_method_14_code
def yX4_canBring : MethodName := ⟨RX4, "canBring", "(LOhmBridge$Sensor;I)Z"⟩
abbrev cX4_baseFor : ByteArray := prog_6_method_15_code
def yX4_baseFor : MethodName := ⟨RX4, "baseFor", "(LOhmBridge$Sensor;JI)J"⟩
def RX5 : String := "OhmBridge$Table"
def TX5 : u_T := fun k => match k with
  | 0 => ("OhmBridge$Table", "nodes", "I", false)
  | 1 => ("OhmBridge$Table", "temperatures", "[I", true)
  | _ => ("OhmBridge$Table", "ratios", "[I", true)
def tyX5 : Nat → FieldType := fun k => match k with
  | 0 => .int
  | 1 => .array .int
  | _ => .array .int
abbrev wsX50 : List Cond := u_ws RX5 TX5 3
theorem nmX5 : ∀ a, a < 3 → ∀ b, b < 3 → a ≠ b → (TX5 a).2.1 ≠ (TX5 b).2.1 := by decide +kernel
theorem tyX5_ok : ∀ k, k < 3 → parseFieldDescriptor (TX5 k).2.2.1 = some (tyX5 k) := by decide +kernel
abbrev cX5_init : ByteArray := prog_7_method_1_code
def yX5_init : MethodName := ⟨RX5, "<init>", "()V"⟩
abbrev cX5_copy : ByteArray := prog_7_method_2_code
def yX5_copy : MethodName := ⟨RX5, "copy", "(LOhmBridge$Table;)V"⟩
abbrev cX5_temperatureOf : ByteArray := prog_7_method_3_code
def yX5_temperatureOf : MethodName := ⟨RX5, "temperatureOf", "(I)I"⟩
abbrev cX5_ratioOf : ByteArray := prog_7_method_4_code
def yX5_ratioOf : MethodName := ⟨RX5, "ratioOf", "(I)I"⟩
abbrev cX5_mayGoOn : ByteArray := prog_7_method_5_code
def yX5_mayGoOn : MethodName := ⟨RX5, "mayGoOn", "(II)Z"⟩
abbrev cX5_append : ByteArray := prog_7_method_6_code
def yX5_append : MethodName := ⟨RX5, "append", "(II)V"⟩
abbrev cX5_goesTo : ByteArray := prog_7_method_7_code
def yX5_goesTo : MethodName := ⟨RX5, "goesTo", "(I)Z"⟩
abbrev cX5_nearest : ByteArray := prog_7_method_8_code
def yX5_nearest : MethodName := ⟨RX5, "nearest", "(I)I"⟩
abbrev cX5_ratioAt : ByteArray := prog_7_method_9_code
def yX5_ratioAt : MethodName := ⟨RX5, "ratioAt", "(I)I"⟩
abbrev cX5_temperatureFor : ByteArray := prog_7_method_10_code
def yX5_temperatureFor : MethodName := ⟨RX5, "temperatureFor", "(J)I"⟩
def RX6 : String := "OhmBridge$Text"
def TX6 : u_T := fun k => match k with
  | 0 => ("OhmBridge$Text", "length", "I", false)
  | 1 => ("OhmBridge$Text", "order", "C", false)
  | 2 => ("OhmBridge$Text", "sensor", "I", false)
  | 3 => ("OhmBridge$Text", "number", "I", false)
  | 4 => ("OhmBridge$Text", "next", "I", false)
  | _ => ("OhmBridge$Text", "characters", "[C", true)
def tyX6 : Nat → FieldType := fun k => match k with
  | 0 => .int
  | 1 => .char
  | 2 => .int
  | 3 => .int
  | 4 => .int
  | _ => .array .char
abbrev wsX60 : List Cond := u_ws RX6 TX6 6
theorem nmX6 : ∀ a, a < 6 → ∀ b, b < 6 → a ≠ b → (TX6 a).2.1 ≠ (TX6 b).2.1 := by decide +kernel
theorem tyX6_ok : ∀ k, k < 6 → parseFieldDescriptor (TX6 k).2.2.1 = some (tyX6 k) := by decide +kernel
abbrev cX6_init : ByteArray := prog_8_method_1_code
def yX6_init : MethodName := ⟨RX6, "<init>", "()V"⟩
abbrev cX6_append : ByteArray := prog_8_method_2_code
def yX6_append : MethodName := ⟨RX6, "append", "(C)V"⟩
abbrev cX6_parse : ByteArray := prog_8_method_3_code
def yX6_parse : MethodName := ⟨RX6, "parse", "(I)Z"⟩
abbrev cX6_parsesNumber : ByteArray := prog_8_method_4_code
def yX6_parsesNumber : MethodName := ⟨RX6, "parsesNumber", "()Z"⟩
abbrev cX6_parsedDigits : ByteArray := prog_8_method_5_code
def yX6_parsedDigits : MethodName := ⟨RX6, "parsedDigits", "()I"⟩
abbrev cX6_takes : ByteArray := prog_8_method_6_code
def yX6_takes : MethodName := ⟨RX6, "takes", "(C)Z"⟩
abbrev cX6_characterAt : ByteArray := prog_8_method_7_code
def yX6_characterAt : MethodName := ⟨RX6, "characterAt", "(I)C"⟩
def RX7 : String := "OhmBridge"
def TX7 : u_T := fun k => match k with
  | 0 => ("OhmBridge", "now", "LOhmBridge$State;", true)
  | 1 => ("OhmBridge", "trial", "LOhmBridge$State;", true)
  | 2 => ("OhmBridge", "history", "LOhmBridge$History;", true)
  | 3 => ("OhmBridge", "meter", "LOhmBridge$Meter;", true)
  | 4 => ("OhmBridge", "probe", "LOhmBridge$Measurement;", true)
  | 5 => ("OhmBridge", "text", "LOhmBridge$Text;", true)
  | 6 => ("OhmBridge", "sorted", "[I", true)
  | 7 => ("OhmBridge", "faultPlace", "I", false)
  | 8 => ("OhmBridge", "faultReason", "I", false)
  | _ => ("OhmBridge", "ordersDone", "I", false)
def tyX7 : Nat → FieldType := fun k => match k with
  | 0 => .object "OhmBridge$State"
  | 1 => .object "OhmBridge$State"
  | 2 => .object "OhmBridge$History"
  | 3 => .object "OhmBridge$Meter"
  | 4 => .object "OhmBridge$Measurement"
  | 5 => .object "OhmBridge$Text"
  | 6 => .array .int
  | 7 => .int
  | 8 => .int
  | _ => .int
abbrev wsX70 : List Cond := u_ws RX7 TX7 10
theorem nmX7 : ∀ a, a < 10 → ∀ b, b < 10 → a ≠ b → (TX7 a).2.1 ≠ (TX7 b).2.1 := by decide +kernel
theorem tyX7_ok : ∀ k, k < 10 → parseFieldDescriptor (TX7 k).2.2.1 = some (tyX7 k) := by decide +kernel
abbrev cX7_init : ByteArray := prog_1_method_1_code
def yX7_init : MethodName := ⟨RX7, "<init>", "()V"⟩
abbrev cX7_table : ByteArray := prog_1_method_2_code
def yX7_table : MethodName := ⟨RX7, "table", "()I"⟩
abbrev cX7_node : ByteArray := prog_1_method_3_code
def yX7_node : MethodName := ⟨RX7, "node", "(III)I"⟩
abbrev cX7_nodeAt : ByteArray := prog_1_method_4_code
def yX7_nodeAt : MethodName := ⟨RX7, "nodeAt", "(III)I"⟩
abbrev cX7_ratio : ByteArray := prog_1_method_5_code
def yX7_ratio : MethodName := ⟨RX7, "ratio", "(II)I"⟩
abbrev cX7_inverse : ByteArray := prog_1_method_6_code
def yX7_inverse : MethodName := ⟨RX7, "inverse", "(II)I"⟩
abbrev cX7_sensor : ByteArray := prog_1_method_7_code
def yX7_sensor : MethodName := ⟨RX7, "sensor", "(III)I"⟩
abbrev cX7_plug : ByteArray := prog_1_method_8_code
def yX7_plug : MethodName := ⟨RX7, "plug", "(III)I"⟩
abbrev cX7_unplug : ByteArray := prog_1_method_9_code
def yX7_unplug : MethodName := ⟨RX7, "unplug", "(I)I"⟩
abbrev cX7_slotAt : ByteArray := prog_1_method_10_code
def yX7_slotAt : MethodName := ⟨RX7, "slotAt", "(II)I"⟩
abbrev cX7_bath : ByteArray := prog_1_method_11_code
def yX7_bath : MethodName := ⟨RX7, "bath", "(II)I"⟩
abbrev cX7_lead : ByteArray := prog_1_method_12_code
def yX7_lead : MethodName := ⟨RX7, "lead", "(III)I"⟩
abbrev cX7_strain : ByteArray := prog_1_method_13_code
def yX7_strain : MethodName := ⟨RX7, "strain", "(III)I"⟩
abbrev cX7_cut : ByteArray := prog_1_method_14_code
def yX7_cut : MethodName := ⟨RX7, "cut", "(III)I"⟩
abbrev cX7_drift : ByteArray := prog_1_method_15_code
def yX7_drift : MethodName := ⟨RX7, "drift", "(II)I"⟩
abbrev cX7_calibrate : ByteArray := prog_1_method_16_code
def yX7_calibrate : MethodName := ⟨RX7, "calibrate", "(II)I"⟩
abbrev cX7_limits : ByteArray := prog_1_method_17_code
def yX7_limits : MethodName := ⟨RX7, "limits", "(IIII)I"⟩
abbrev cX7_sensorOf : ByteArray := prog_1_method_18_code
def yX7_sensorOf : MethodName := ⟨RX7, "sensorOf", "(II)I"⟩
abbrev cX7_set : ByteArray := prog_1_method_19_code
def yX7_set : MethodName := ⟨RX7, "set", "(II)I"⟩
abbrev cX7_counts : ByteArray := prog_1_method_20_code
def yX7_counts : MethodName := ⟨RX7, "counts", "(IIII)I"⟩
abbrev cX7_ohms : ByteArray := prog_1_method_21_code
def yX7_ohms : MethodName := ⟨RX7, "ohms", "(II)I"⟩
abbrev cX7_diagnosis : ByteArray := prog_1_method_22_code
def yX7_diagnosis : MethodName := ⟨RX7, "diagnosis", "(I)I"⟩
abbrev cX7_read : ByteArray := prog_1_method_23_code
def yX7_read : MethodName := ⟨RX7, "read", "(I)I"⟩
abbrev cX7_scan : ByteArray := prog_1_method_24_code
def yX7_scan : MethodName := ⟨RX7, "scan", "()I"⟩
abbrev cX7_readingAt : ByteArray := prog_1_method_25_code
def yX7_readingAt : MethodName := ⟨RX7, "readingAt", "(II)I"⟩
abbrev cX7_median : ByteArray := prog_1_method_26_code
def yX7_median : MethodName := ⟨RX7, "median", "(I)I"⟩
abbrev cX7_meanBits : ByteArray := prog_1_method_27_code
def yX7_meanBits : MethodName := ⟨RX7, "meanBits", "(I)I"⟩
abbrev cX7_count : ByteArray := prog_1_method_28_code
def yX7_count : MethodName := ⟨RX7, "count", "(I)I"⟩
abbrev cX7_undo : ByteArray := prog_1_method_29_code
def yX7_undo : MethodName := ⟨RX7, "undo", "()I"⟩
abbrev cX7_type : ByteArray := prog_1_method_30_code
def yX7_type : MethodName := ⟨RX7, "type", "(I)I"⟩
abbrev cX7_clearText : ByteArray := prog_1_method_31_code
def yX7_clearText : MethodName := ⟨RX7, "clearText", "()I"⟩
abbrev cX7_fault : ByteArray := prog_1_method_32_code
def yX7_fault : MethodName := ⟨RX7, "fault", "(I)I"⟩
abbrev cX7_play : ByteArray := prog_1_method_33_code
def yX7_play : MethodName := ⟨RX7, "play", "()I"⟩
abbrev cX7_tryOrders : ByteArray := prog_1_method_34_code
def yX7_tryOrders : MethodName := ⟨RX7, "tryOrders", "()V"⟩
abbrev cX7_obey : ByteArray := prog_1_method_35_code
def yX7_obey : MethodName := ⟨RX7, "obey", "()I"⟩
abbrev cX7_obeyBath : ByteArray := prog_1_method_36_code
def yX7_obeyBath : MethodName := ⟨RX7, "obeyBath", "(LOhmBridge$Sensor;)I"⟩
abbrev cX7_obeyCut : ByteArray := prog_1_method_37_code
def yX7_obeyCut : MethodName := ⟨RX7, "obeyCut", "(LOhmBridge$Sensor;)I"⟩
abbrev cX7_insertSorted : ByteArray := prog_1_method_38_code
def yX7_insertSorted : MethodName := ⟨RX7, "insertSorted", "(II)V"⟩
abbrev cX7_bitsOf : ByteArray := prog_1_method_39_code
def yX7_bitsOf : MethodName := ⟨RX7, "bitsOf", "(F)I"⟩
abbrev cX7_isWithin : ByteArray := prog_1_method_40_code
def yX7_isWithin : MethodName := ⟨RX7, "isWithin", "(JJJ)Z"⟩
abbrev cX7_isTemperature : ByteArray := prog_1_method_41_code
def yX7_isTemperature : MethodName := ⟨RX7, "isTemperature", "(I)Z"⟩
abbrev cX7_isBase : ByteArray := prog_1_method_42_code
def yX7_isBase : MethodName := ⟨RX7, "isBase", "(J)Z"⟩
abbrev cX7_isSlot : ByteArray := prog_1_method_43_code
def yX7_isSlot : MethodName := ⟨RX7, "isSlot", "(II)Z"⟩
abbrev cX7_isInRow : ByteArray := prog_1_method_44_code
def yX7_isInRow : MethodName := ⟨RX7, "isInRow", "(II[I[I)Z"⟩
abbrev cX7_toldPlace : ByteArray := prog_1_method_45_code
def yX7_toldPlace : MethodName := ⟨RX7, "toldPlace", "(I)I"⟩
def RX8 : String := "OhmBridgeModel"
def TX8 : u_T := fun k => match k with
  | 0 => ("OhmBridgeModel", "s", "[I", true)
  | 1 => ("OhmBridgeModel", "was", "[I", true)
  | 2 => ("OhmBridgeModel", "aside", "[I", true)
  | 3 => ("OhmBridgeModel", "begun", "[I", true)
  | 4 => ("OhmBridgeModel", "states", "I", false)
  | 5 => ("OhmBridgeModel", "text", "[C", true)
  | 6 => ("OhmBridgeModel", "typed", "I", false)
  | 7 => ("OhmBridgeModel", "at", "I", false)
  | 8 => ("OhmBridgeModel", "reason", "I", false)
  | 9 => ("OhmBridgeModel", "got", "[I", true)
  | _ => ("OhmBridgeModel", "sorted", "[I", true)
def tyX8 : Nat → FieldType := fun k => match k with
  | 0 => .array .int
  | 1 => .array .int
  | 2 => .array .int
  | 3 => .array .int
  | 4 => .int
  | 5 => .array .char
  | 6 => .int
  | 7 => .int
  | 8 => .int
  | 9 => .array .int
  | _ => .array .int
abbrev wsX80 : List Cond := u_ws RX8 TX8 11
theorem nmX8 : ∀ a, a < 11 → ∀ b, b < 11 → a ≠ b → (TX8 a).2.1 ≠ (TX8 b).2.1 := by decide +kernel
theorem tyX8_ok : ∀ k, k < 11 → parseFieldDescriptor (TX8 k).2.2.1 = some (tyX8 k) := by decide +kernel
abbrev cX8_init : ByteArray := prog_10_method_1_code
def yX8_init : MethodName := ⟨RX8, "<init>", "()V"⟩
abbrev cX8_in : ByteArray := prog_10_method_2_code
def yX8_in : MethodName := ⟨RX8, "in", "(III)Z"⟩
abbrev cX8_isDegree : ByteArray := prog_10_method_3_code
def yX8_isDegree : MethodName := ⟨RX8, "isDegree", "(I)Z"⟩
abbrev cX8_isTable : ByteArray := prog_10_method_4_code
def yX8_isTable : MethodName := ⟨RX8, "isTable", "(I)Z"⟩
abbrev cX8_isSensor : ByteArray := prog_10_method_5_code
def yX8_isSensor : MethodName := ⟨RX8, "isSensor", "(I)Z"⟩
abbrev cX8_of : ByteArray := prog_10_method_6_code
def yX8_of : MethodName := ⟨RX8, "of", "(II)I"⟩
abbrev cX8_put : ByteArray := prog_10_method_7_code
def yX8_put : MethodName := ⟨RX8, "put", "(III)V"⟩
abbrev cX8_isWire : ByteArray := prog_10_method_8_code
def yX8_isWire : MethodName := ⟨RX8, "isWire", "(II)Z"⟩
abbrev cX8_keeps : ByteArray := prog_10_method_9_code
def yX8_keeps : MethodName := ⟨RX8, "keeps", "()V"⟩
abbrev cX8_acted : ByteArray := prog_10_method_10_code
def yX8_acted : MethodName := ⟨RX8, "acted", "(I)I"⟩
abbrev cX8_nodes : ByteArray := prog_10_method_11_code
def yX8_nodes : MethodName := ⟨RX8, "nodes", "(I)I"⟩
abbrev cX8_degree : ByteArray := prog_10_method_12_code
def yX8_degree : MethodName := ⟨RX8, "degree", "(II)I"⟩
abbrev cX8_ratioOf : ByteArray := prog_10_method_13_code
def yX8_ratioOf : MethodName := ⟨RX8, "ratioOf", "(II)I"⟩
abbrev cX8_first : ByteArray := prog_10_method_14_code
def yX8_first : MethodName := ⟨RX8, "first", "(I)I"⟩
abbrev cX8_last : ByteArray := prog_10_method_15_code
def yX8_last : MethodName := ⟨RX8, "last", "(I)I"⟩
abbrev cX8_goes : ByteArray := prog_10_method_16_code
def yX8_goes : MethodName := ⟨RX8, "goes", "(II)Z"⟩
abbrev cX8_ratioAt : ByteArray := prog_10_method_17_code
def yX8_ratioAt : MethodName := ⟨RX8, "ratioAt", "(II)I"⟩
abbrev cX8_inverseOf : ByteArray := prog_10_method_18_code
def yX8_inverseOf : MethodName := ⟨RX8, "inverseOf", "(IJ)I"⟩
abbrev cX8_table : ByteArray := prog_10_method_19_code
def yX8_table : MethodName := ⟨RX8, "table", "()I"⟩
abbrev cX8_node : ByteArray := prog_10_method_20_code
def yX8_node : MethodName := ⟨RX8, "node", "(III)I"⟩
abbrev cX8_nodeAt : ByteArray := prog_10_method_21_code
def yX8_nodeAt : MethodName := ⟨RX8, "nodeAt", "(III)I"⟩
abbrev cX8_ratio : ByteArray := prog_10_method_22_code
def yX8_ratio : MethodName := ⟨RX8, "ratio", "(II)I"⟩
abbrev cX8_inverse : ByteArray := prog_10_method_23_code
def yX8_inverse : MethodName := ⟨RX8, "inverse", "(II)I"⟩
abbrev cX8_sensor : ByteArray := prog_10_method_24_code
def yX8_sensor : MethodName := ⟨RX8, "sensor", "(III)I"⟩
abbrev cX8_inside : ByteArray := prog_10_method_25_code
def yX8_inside : MethodName := ⟨RX8, "inside", "(I)I"⟩
abbrev cX8_plug : ByteArray := prog_10_method_26_code
def yX8_plug : MethodName := ⟨RX8, "plug", "(III)I"⟩
abbrev cX8_unplug : ByteArray := prog_10_method_27_code
def yX8_unplug : MethodName := ⟨RX8, "unplug", "(I)I"⟩
abbrev cX8_slotAt : ByteArray := prog_10_method_28_code
def yX8_slotAt : MethodName := ⟨RX8, "slotAt", "(II)I"⟩
abbrev cX8_baths : ByteArray := prog_10_method_29_code
def yX8_baths : MethodName := ⟨RX8, "baths", "(II)I"⟩
abbrev cX8_bath : ByteArray := prog_10_method_30_code
def yX8_bath : MethodName := ⟨RX8, "bath", "(II)I"⟩
abbrev cX8_lead : ByteArray := prog_10_method_31_code
def yX8_lead : MethodName := ⟨RX8, "lead", "(III)I"⟩
abbrev cX8_strain : ByteArray := prog_10_method_32_code
def yX8_strain : MethodName := ⟨RX8, "strain", "(III)I"⟩
abbrev cX8_bits : ByteArray := prog_10_method_33_code
def yX8_bits : MethodName := ⟨RX8, "bits", "(I)I"⟩
abbrev cX8_cuts : ByteArray := prog_10_method_34_code
def yX8_cuts : MethodName := ⟨RX8, "cuts", "(III)I"⟩
abbrev cX8_cut : ByteArray := prog_10_method_35_code
def yX8_cut : MethodName := ⟨RX8, "cut", "(III)I"⟩
abbrev cX8_isBase : ByteArray := prog_10_method_36_code
def yX8_isBase : MethodName := ⟨RX8, "isBase", "(J)Z"⟩
abbrev cX8_drift : ByteArray := prog_10_method_37_code
def yX8_drift : MethodName := ⟨RX8, "drift", "(II)I"⟩
abbrev cX8_calibrate : ByteArray := prog_10_method_38_code
def yX8_calibrate : MethodName := ⟨RX8, "calibrate", "(II)I"⟩
abbrev cX8_limits : ByteArray := prog_10_method_39_code
def yX8_limits : MethodName := ⟨RX8, "limits", "(IIII)I"⟩
abbrev cX8_sensorOf : ByteArray := prog_10_method_40_code
def yX8_sensorOf : MethodName := ⟨RX8, "sensorOf", "(II)I"⟩
abbrev cX8_least : ByteArray := prog_10_method_41_code
def yX8_least : MethodName := ⟨RX8, "least", "(I)I"⟩
abbrev cX8_most : ByteArray := prog_10_method_42_code
def yX8_most : MethodName := ⟨RX8, "most", "(I)I"⟩
abbrev cX8_set : ByteArray := prog_10_method_43_code
def yX8_set : MethodName := ⟨RX8, "set", "(II)I"⟩
abbrev cX8_resistance : ByteArray := prog_10_method_44_code
def yX8_resistance : MethodName := ⟨RX8, "resistance", "(II)J"⟩
abbrev cX8_heated : ByteArray := prog_10_method_45_code
def yX8_heated : MethodName := ⟨RX8, "heated", "(II)J"⟩
abbrev cX8_loop : ByteArray := prog_10_method_46_code
def yX8_loop : MethodName := ⟨RX8, "loop", "(II)J"⟩
abbrev cX8_countsOf : ByteArray := prog_10_method_47_code
def yX8_countsOf : MethodName := ⟨RX8, "countsOf", "(IIII)J"⟩
abbrev cX8_countsOneWay : ByteArray := prog_10_method_48_code
def yX8_countsOneWay : MethodName := ⟨RX8, "countsOneWay", "(IIII)J"⟩
abbrev cX8_byCounts : ByteArray := prog_10_method_49_code
def yX8_byCounts : MethodName := ⟨RX8, "byCounts", "(J)J"⟩
abbrev cX8_compensated : ByteArray := prog_10_method_50_code
def yX8_compensated : MethodName := ⟨RX8, "compensated", "(II)J"⟩
abbrev cX8_without : ByteArray := prog_10_method_51_code
def yX8_without : MethodName := ⟨RX8, "without", "(I)J"⟩
abbrev cX8_isBound : ByteArray := prog_10_method_52_code
def yX8_isBound : MethodName := ⟨RX8, "isBound", "(II)Z"⟩
abbrev cX8_degrees : ByteArray := prog_10_method_53_code
def yX8_degrees : MethodName := ⟨RX8, "degrees", "(I)I"⟩
abbrev cX8_size : ByteArray := prog_10_method_54_code
def yX8_size : MethodName := ⟨RX8, "size", "(I)I"⟩
abbrev cX8_diagnosed : ByteArray := prog_10_method_55_code
def yX8_diagnosed : MethodName := ⟨RX8, "diagnosed", "(I)I"⟩
abbrev cX8_counts : ByteArray := prog_10_method_56_code
def yX8_counts : MethodName := ⟨RX8, "counts", "(IIII)I"⟩
abbrev cX8_ohms : ByteArray := prog_10_method_57_code
def yX8_ohms : MethodName := ⟨RX8, "ohms", "(II)I"⟩
abbrev cX8_diagnosis : ByteArray := prog_10_method_58_code
def yX8_diagnosis : MethodName := ⟨RX8, "diagnosis", "(I)I"⟩
abbrev cX8_alarms : ByteArray := prog_10_method_59_code
def yX8_alarms : MethodName := ⟨RX8, "alarms", "(II)V"⟩
abbrev cX8_reads : ByteArray := prog_10_method_60_code
def yX8_reads : MethodName := ⟨RX8, "reads", "(I)I"⟩
abbrev cX8_read : ByteArray := prog_10_method_61_code
def yX8_read : MethodName := ⟨RX8, "read", "(I)I"⟩
abbrev cX8_scans : ByteArray := prog_10_method_62_code
def yX8_scans : MethodName := ⟨RX8, "scans", "()I"⟩
abbrev cX8_scan : ByteArray := prog_10_method_63_code
def yX8_scan : MethodName := ⟨RX8, "scan", "()I"⟩
abbrev cX8_readingAt : ByteArray := prog_10_method_64_code
def yX8_readingAt : MethodName := ⟨RX8, "readingAt", "(II)I"⟩
abbrev cX8_median : ByteArray := prog_10_method_65_code
def yX8_median : MethodName := ⟨RX8, "median", "(I)I"⟩
abbrev cX8_meanBits : ByteArray := prog_10_method_66_code
def yX8_meanBits : MethodName := ⟨RX8, "meanBits", "(I)I"⟩
abbrev cX8_count : ByteArray := prog_10_method_67_code
def yX8_count : MethodName := ⟨RX8, "count", "(I)I"⟩
abbrev cX8_undo : ByteArray := prog_10_method_68_code
def yX8_undo : MethodName := ⟨RX8, "undo", "()I"⟩
abbrev cX8_type : ByteArray := prog_10_method_69_code
def yX8_type : MethodName := ⟨RX8, "type", "(I)I"⟩
abbrev cX8_clearText : ByteArray := prog_10_method_70_code
def yX8_clearText : MethodName := ⟨RX8, "clearText", "()I"⟩
abbrev cX8_passes : ByteArray := prog_10_method_71_code
def yX8_passes : MethodName := ⟨RX8, "passes", "(C)Z"⟩
abbrev cX8_takes : ByteArray := prog_10_method_72_code
def yX8_takes : MethodName := ⟨RX8, "takes", "(I)Z"⟩
abbrev cX8_readsForm : ByteArray := prog_10_method_73_code
def yX8_readsForm : MethodName := ⟨RX8, "readsForm", "(C)Z"⟩
abbrev cX8_does : ByteArray := prog_10_method_74_code
def yX8_does : MethodName := ⟨RX8, "does", "(C)I"⟩
abbrev cX8_doesNext : ByteArray := prog_10_method_75_code
def yX8_doesNext : MethodName := ⟨RX8, "doesNext", "()I"⟩
abbrev cX8_faulty : ByteArray := prog_10_method_76_code
def yX8_faulty : MethodName := ⟨RX8, "faulty", "()I"⟩
abbrev cX8_fault : ByteArray := prog_10_method_77_code
def yX8_fault : MethodName := ⟨RX8, "fault", "(I)I"⟩
abbrev cX8_play : ByteArray := prog_10_method_78_code
def yX8_play : MethodName := ⟨RX8, "play", "()I"⟩
def RJxf58ca : String := "java/lang/Float"
def TJxf58ca : u_T := fun k => match k with
  | _ => ("", "", "", false)
def tyJxf58ca : Nat → FieldType := fun k => match k with
  | _ => .int
abbrev wsJxf58ca0 : List Cond := u_ws RJxf58ca TJxf58ca 0
theorem nmJxf58ca : ∀ a, a < 0 → ∀ b, b < 0 → a ≠ b → (TJxf58ca a).2.1 ≠ (TJxf58ca b).2.1 := by decide +kernel
theorem tyJxf58ca_ok : ∀ k, k < 0 → parseFieldDescriptor (TJxf58ca k).2.2.1 = some (tyJxf58ca k) := by decide +kernel
abbrev cJxf58ca_isNaN_12338 : ByteArray := prog_11_method_6_code
def yJxf58ca_isNaN_12338 : MethodName := ⟨RJxf58ca, "isNaN", "(F)Z"⟩
abbrev cJxf58ca_floatToIntBits_5c35a : ByteArray := prog_11_method_24_code
def yJxf58ca_floatToIntBits_5c35a : MethodName := ⟨RJxf58ca, "floatToIntBits", "(F)I"⟩
def RJ6 : String := "java/lang/Integer"
def TJ6 : u_T := fun k => match k with
  | _ => ("", "", "", false)
def tyJ6 : Nat → FieldType := fun k => match k with
  | _ => .int
abbrev wsJ60 : List Cond := u_ws RJ6 TJ6 0
theorem nmJ6 : ∀ a, a < 0 → ∀ b, b < 0 → a ≠ b → (TJ6 a).2.1 ≠ (TJ6 b).2.1 := by decide +kernel
theorem tyJ6_ok : ∀ k, k < 0 → parseFieldDescriptor (TJ6 k).2.2.1 = some (tyJ6 k) := by decide +kernel
abbrev cJ6_bitCount_0f7a4 : ByteArray := prog_12_method_49_code
def yJ6_bitCount_0f7a4 : MethodName := ⟨RJ6, "bitCount", "(I)I"⟩
def RJ9 : String := "java/lang/Math"
def TJ9 : u_T := fun k => match k with
  | _ => ("", "", "", false)
def tyJ9 : Nat → FieldType := fun k => match k with
  | _ => .int
abbrev wsJ90 : List Cond := u_ws RJ9 TJ9 0
theorem nmJ9 : ∀ a, a < 0 → ∀ b, b < 0 → a ≠ b → (TJ9 a).2.1 ≠ (TJ9 b).2.1 := by decide +kernel
theorem tyJ9_ok : ∀ k, k < 0 → parseFieldDescriptor (TJ9 k).2.2.1 = some (tyJ9 k) := by decide +kernel
abbrev cJ9_abs_0f7a4 : ByteArray := prog_13_method_59_code
def yJ9_abs_0f7a4 : MethodName := ⟨RJ9, "abs", "(I)I"⟩
abbrev cJ9_max_7cf53 : ByteArray := prog_13_method_65_code
def yJ9_max_7cf53 : MethodName := ⟨RJ9, "max", "(II)I"⟩
abbrev cJ9_max_f86c9 : ByteArray := prog_13_method_66_code
def yJ9_max_f86c9 : MethodName := ⟨RJ9, "max", "(JJ)J"⟩
abbrev cJ9_min_7cf53 : ByteArray := prog_13_method_69_code
def yJ9_min_7cf53 : MethodName := ⟨RJ9, "min", "(II)I"⟩
abbrev cJ9_min_f86c9 : ByteArray := prog_13_method_70_code
def yJ9_min_f86c9 : MethodName := ⟨RJ9, "min", "(JJ)J"⟩
def RJ10 : String := "java/lang/System"
def TJ10 : u_T := fun k => match k with
  | _ => ("", "", "", false)
def tyJ10 : Nat → FieldType := fun k => match k with
  | _ => .int
abbrev wsJ100 : List Cond := u_ws RJ10 TJ10 0
theorem nmJ10 : ∀ a, a < 0 → ∀ b, b < 0 → a ≠ b → (TJ10 a).2.1 ≠ (TJ10 b).2.1 := by decide +kernel
theorem tyJ10_ok : ∀ k, k < 0 → parseFieldDescriptor (TJ10 k).2.2.1 = some (tyJ10 k) := by decide +kernel
def RL : String := "OhmBridgeLaw"
abbrev cL_law : ByteArray := code
def yL_law : MethodName := ⟨RL, "law", "([I)Z"⟩
def wsL_law_r1 : List Cond := [Cond.classLink RL 7 RX7, Cond.instantiable RX7 10, Cond.initialized RX7, Cond.classLink RL 10 RX8, Cond.instantiable RX8 11, Cond.initialized RX8, Cond.methodLink RL 9 yX7_init, Cond.instanceMethod yX7_init, Cond.code yX7_init cX7_init 1 none, Cond.methodLink RX7 1 objectInit, Cond.instanceMethod objectInit, Cond.code objectInit ⟨#[0xb1]⟩ 1 none, Cond.classLink RX7 7 RX4, Cond.instantiable RX4 6, Cond.initialized RX4, Cond.fieldLink RX7 10 "OhmBridge" "now" "LOhmBridge$State;", Cond.fieldLink RX7 16 "OhmBridge" "trial" "LOhmBridge$State;", Cond.classLink RX7 19 RX0, Cond.instantiable RX0 2, Cond.initialized RX0, Cond.fieldLink RX7 22 "OhmBridge" "history" "LOhmBridge$History;", Cond.classLink RX7 26 RX2, Cond.instantiable RX2 5, Cond.initialized RX2]
def wsL_law_r2 : List Cond := [Cond.fieldLink RX7 29 "OhmBridge" "meter" "LOhmBridge$Meter;", Cond.classLink RX7 33 RX1, Cond.instantiable RX1 11, Cond.initialized RX1, Cond.fieldLink RX7 36 "OhmBridge" "probe" "LOhmBridge$Measurement;", Cond.classLink RX7 40 RX6, Cond.instantiable RX6 6, Cond.initialized RX6, Cond.fieldLink RX7 43 "OhmBridge" "text" "LOhmBridge$Text;", Cond.arrayClass .int, Cond.fieldLink RX7 47 "OhmBridge" "sorted" "[I", Cond.methodLink RX7 9 yX4_init, Cond.instanceMethod yX4_init, Cond.code yX4_init cX4_init 2 none, Cond.methodLink RX4 3 objectInit, Cond.fieldLink RX4 9 "OhmBridge$State" "scanner" "I", Cond.classLink RX4 15 RX5, Cond.fieldLink RX4 17 "OhmBridge$State" "tables" "[LOhmBridge$Table;", Cond.classLink RX4 21 RX3, Cond.fieldLink RX4 23 "OhmBridge$State" "sensors" "[LOhmBridge$Sensor;", Cond.fieldLink RX4 27 "OhmBridge$State" "settings" "[I", Cond.instantiable RX5 3, Cond.initialized RX5, Cond.instantiable RX3 15]
def wsL_law_r3 : List Cond := [Cond.initialized RX3, Cond.methodLink RX4 36 arraycopyName, Cond.native arraycopyName, Cond.static arraycopyName, Cond.initialized "java/lang/System", Cond.instanceMethod yX5_init, Cond.code yX5_init cX5_init 1 none, Cond.methodLink RX5 3 objectInit, Cond.fieldLink RX5 9 "OhmBridge$Table" "temperatures" "[I", Cond.fieldLink RX5 15 "OhmBridge$Table" "ratios" "[I", Cond.instanceMethod yX3_init, Cond.code yX3_init cX3_init 1 none, Cond.methodLink RX3 3 objectInit, Cond.fieldLink RX3 9 "OhmBridge$Sensor" "place" "I", Cond.fieldLink RX3 15 "OhmBridge$Sensor" "leads" "[I", Cond.fieldLink RX3 19 "OhmBridge$Sensor" "strains" "[I", Cond.fieldLink RX3 22 "OhmBridge$Sensor" "latest" "[I", Cond.methodLink RX7 21 yX0_init, Cond.instanceMethod yX0_init, Cond.code yX0_init cX0_init 2 none, Cond.methodLink RX0 3 objectInit, Cond.classLink RX0 9 RX4, Cond.fieldLink RX0 11 "OhmBridge$History" "kept" "[LOhmBridge$State;", Cond.methodLink RX0 17 yX4_init]
def wsL_law_r4 : List Cond := [Cond.instanceMethod yX2_init, Cond.code yX2_init cX2_init 1 none, Cond.methodLink RX2 3 objectInit, Cond.classLink RX2 9 RX1, Cond.fieldLink RX2 12 "OhmBridge$Meter" "first" "LOhmBridge$Measurement;", Cond.fieldLink RX2 18 "OhmBridge$Meter" "second" "LOhmBridge$Measurement;", Cond.instanceMethod yX1_init, Cond.code yX1_init cX1_init 1 none, Cond.methodLink RX1 3 objectInit, Cond.instanceMethod yX6_init, Cond.code yX6_init cX6_init 1 none, Cond.methodLink RX6 3 objectInit, Cond.arrayClass .char, Cond.fieldLink RX6 9 "OhmBridge$Text" "characters" "[C", Cond.methodLink RL 12 yX8_init, Cond.instanceMethod yX8_init, Cond.code yX8_init cX8_init 1 none, Cond.methodLink RX8 1 objectInit, Cond.fieldLink RX8 7 "OhmBridgeModel" "s" "[I", Cond.fieldLink RX8 13 "OhmBridgeModel" "was" "[I", Cond.fieldLink RX8 16 "OhmBridgeModel" "aside" "[I", Cond.fieldLink RX8 19 "OhmBridgeModel" "begun" "[I", Cond.fieldLink RX8 22 "OhmBridgeModel" "text" "[C", Cond.fieldLink RX8 26 "OhmBridgeModel" "got" "[I"]
def wsL_law_r5 : List Cond := [Cond.fieldLink RX8 29 "OhmBridgeModel" "sorted" "[I", Cond.constant RX8 32 (100000), Cond.methodLink RL 13 yX7_table, Cond.instanceMethod yX7_table, Cond.selects RX7 yX7_table yX7_table, Cond.code yX7_table cX7_table 1 (some .int), Cond.fieldLink RX7 51 "OhmBridge$State" "tableCount" "I", Cond.constant RX7 55 (-2000000003), Cond.methodLink RX7 56 yX0_record, Cond.instanceMethod yX0_record, Cond.selects RX0 yX0_record yX0_record, Cond.code yX0_record cX0_record 2 none, Cond.fieldLink RX0 18 "OhmBridge$History" "size" "I", Cond.methodLink RX0 22 yX0_dropOldest, Cond.instanceMethod yX0_dropOldest, Cond.selects RX0 yX0_dropOldest yX0_dropOldest, Cond.code yX0_dropOldest cX0_dropOldest 3 none, Cond.methodLink RX0 25 yX4_copy, Cond.instanceMethod yX4_copy, Cond.selects RX4 yX4_copy yX4_copy, Cond.code yX4_copy cX4_copy 3 none, Cond.fieldLink RX4 42 "OhmBridge$State" "tableCount" "I", Cond.fieldLink RX4 45 "OhmBridge$State" "sensorCount" "I", Cond.methodLink RX4 48 yX5_copy]
def wsL_law_r6 : List Cond := [Cond.instanceMethod yX5_copy, Cond.selects RX5 yX5_copy yX5_copy, Cond.code yX5_copy cX5_copy 2 none, Cond.fieldLink RX5 18 "OhmBridge$Table" "nodes" "I", Cond.methodLink RX5 22 arraycopyName, Cond.methodLink RX4 52 yX3_copy, Cond.instanceMethod yX3_copy, Cond.selects RX3 yX3_copy yX3_copy, Cond.code yX3_copy cX3_copy 2 none, Cond.fieldLink RX3 25 "OhmBridge$Sensor" "table" "I", Cond.fieldLink RX3 28 "OhmBridge$Sensor" "wires" "I", Cond.fieldLink RX3 31 "OhmBridge$Sensor" "trueBase" "I", Cond.fieldLink RX3 34 "OhmBridge$Sensor" "assumedBase" "I", Cond.fieldLink RX3 37 "OhmBridge$Sensor" "temperature" "I", Cond.fieldLink RX3 46 "OhmBridge$Sensor" "brokenWires" "I", Cond.fieldLink RX3 49 "OhmBridge$Sensor" "low" "I", Cond.fieldLink RX3 52 "OhmBridge$Sensor" "high" "I", Cond.fieldLink RX3 55 "OhmBridge$Sensor" "hysteresis" "I", Cond.fieldLink RX3 58 "OhmBridge$Sensor" "alarm" "I", Cond.fieldLink RX3 61 "OhmBridge$Sensor" "readings" "I", Cond.methodLink RX3 64 arraycopyName, Cond.methodLink RL 17 yX8_table, Cond.instanceMethod yX8_table, Cond.selects RX8 yX8_table yX8_table]
def wsL_law_r7 : List Cond := [Cond.code yX8_table cX8_table 1 (some .int), Cond.constant RX8 72 (-2000000003), Cond.methodLink RX8 73 yX8_keeps, Cond.instanceMethod yX8_keeps, Cond.selects RX8 yX8_keeps yX8_keeps, Cond.code yX8_keeps cX8_keeps 2 none, Cond.methodLink RX8 76 yX8_acted, Cond.instanceMethod yX8_acted, Cond.selects RX8 yX8_acted yX8_acted, Cond.code yX8_acted cX8_acted 3 (some .int), Cond.constant RX8 47 (-2000000001), Cond.fieldLink RX8 48 "OhmBridgeModel" "states" "I", Cond.methodLink RL 18 yX7_node, Cond.instanceMethod yX7_node, Cond.selects RX7 yX7_node yX7_node, Cond.code yX7_node cX7_node 5 (some .int), Cond.constantLong RX7 68 (10000000), Cond.constant RX7 74 (-2000000001), Cond.constant RX7 84 (-2000000002), Cond.fieldLink RX7 85 "OhmBridge$Table" "nodes" "I", Cond.methodLink RX7 60 yX4_tableAt, Cond.instanceMethod yX4_tableAt, Cond.selects RX4 yX4_tableAt yX4_tableAt, Cond.code yX4_tableAt cX4_tableAt 3 (some (.object "OhmBridge$Table"))]
def wsL_law_r8 : List Cond := [Cond.methodLink RX7 64 yX7_isTemperature, Cond.static yX7_isTemperature, Cond.code yX7_isTemperature cX7_isTemperature 1 (some .boolean), Cond.constantLong RX7 432 (-200000), Cond.constantLong RX7 232 (850000), Cond.methodLink RX7 70 yX7_isWithin, Cond.static yX7_isWithin, Cond.code yX7_isWithin cX7_isWithin 6 (some .boolean), Cond.methodLink RX7 75 yX4_hasSensorOf, Cond.instanceMethod yX4_hasSensorOf, Cond.selects RX4 yX4_hasSensorOf yX4_hasSensorOf, Cond.code yX4_hasSensorOf cX4_hasSensorOf 3 (some .boolean), Cond.fieldLink RX4 55 "OhmBridge$Sensor" "table" "I", Cond.methodLink RX7 78 yX5_mayGoOn, Cond.instanceMethod yX5_mayGoOn, Cond.selects RX5 yX5_mayGoOn yX5_mayGoOn, Cond.code yX5_mayGoOn cX5_mayGoOn 3 (some .boolean), Cond.methodLink RX5 28 yX5_temperatureOf, Cond.instanceMethod yX5_temperatureOf, Cond.selects RX5 yX5_temperatureOf yX5_temperatureOf, Cond.code yX5_temperatureOf cX5_temperatureOf 2 (some .int), Cond.methodLink RX5 32 yX5_ratioOf, Cond.instanceMethod yX5_ratioOf, Cond.selects RX5 yX5_ratioOf yX5_ratioOf]
def wsL_law_r9 : List Cond := [Cond.code yX5_ratioOf cX5_ratioOf 2 (some .int), Cond.methodLink RX7 88 yX5_append, Cond.instanceMethod yX5_append, Cond.selects RX5 yX5_append yX5_append, Cond.code yX5_append cX5_append 3 none, Cond.methodLink RL 22 yX8_node, Cond.instanceMethod yX8_node, Cond.selects RX8 yX8_node yX8_node, Cond.code yX8_node cX8_node 7 (some .int), Cond.constant RX8 85 (10000000), Cond.constant RX8 86 (-2000000002), Cond.methodLink RX8 79 yX8_isTable, Cond.instanceMethod yX8_isTable, Cond.selects RX8 yX8_isTable yX8_isTable, Cond.code yX8_isTable cX8_isTable 2 (some .boolean), Cond.methodLink RX8 35 yX8_in, Cond.static yX8_in, Cond.code yX8_in cX8_in 3 (some .boolean), Cond.methodLink RX8 82 yX8_isDegree, Cond.static yX8_isDegree, Cond.code yX8_isDegree cX8_isDegree 1 (some .boolean), Cond.constant RX8 33 (-200000), Cond.constant RX8 34 (850000), Cond.methodLink RX8 55 yX8_nodes]
def wsL_law_r10 : List Cond := [Cond.instanceMethod yX8_nodes, Cond.selects RX8 yX8_nodes yX8_nodes, Cond.code yX8_nodes cX8_nodes 2 (some .int), Cond.methodLink RX8 52 yX8_degree, Cond.instanceMethod yX8_degree, Cond.selects RX8 yX8_degree yX8_degree, Cond.code yX8_degree cX8_degree 3 (some .int), Cond.methodLink RX8 65 yX8_ratioOf, Cond.instanceMethod yX8_ratioOf, Cond.selects RX8 yX8_ratioOf yX8_ratioOf, Cond.code yX8_ratioOf cX8_ratioOf 3 (some .int), Cond.methodLink RX8 43 yX8_of, Cond.instanceMethod yX8_of, Cond.selects RX8 yX8_of yX8_of, Cond.code yX8_of cX8_of 3 (some .int), Cond.methodLink RL 23 yX7_nodeAt, Cond.instanceMethod yX7_nodeAt, Cond.selects RX7 yX7_nodeAt yX7_nodeAt, Cond.code yX7_nodeAt cX7_nodeAt 5 (some .int), Cond.constant RX7 92 (-2000000004), Cond.methodLink RX7 93 yX5_temperatureOf, Cond.methodLink RX7 97 yX5_ratioOf, Cond.methodLink RL 26 yX8_nodeAt, Cond.instanceMethod yX8_nodeAt]
def wsL_law_r11 : List Cond := [Cond.selects RX8 yX8_nodeAt yX8_nodeAt, Cond.code yX8_nodeAt cX8_nodeAt 4 (some .int), Cond.constant RX8 68 (-2000000004), Cond.methodLink RL 27 yX7_ratio, Cond.instanceMethod yX7_ratio, Cond.selects RX7 yX7_ratio yX7_ratio, Cond.code yX7_ratio cX7_ratio 4 (some .int), Cond.methodLink RX7 100 yX5_goesTo, Cond.instanceMethod yX5_goesTo, Cond.selects RX5 yX5_goesTo yX5_goesTo, Cond.code yX5_goesTo cX5_goesTo 2 (some .boolean), Cond.methodLink RX7 103 yX5_ratioAt, Cond.instanceMethod yX5_ratioAt, Cond.selects RX5 yX5_ratioAt yX5_ratioAt, Cond.code yX5_ratioAt cX5_ratioAt 9 (some .int), Cond.methodLink RL 31 yX8_ratio, Cond.instanceMethod yX8_ratio, Cond.selects RX8 yX8_ratio yX8_ratio, Cond.code yX8_ratio cX8_ratio 3 (some .int), Cond.methodLink RX8 87 yX8_goes, Cond.instanceMethod yX8_goes, Cond.selects RX8 yX8_goes yX8_goes, Cond.code yX8_goes cX8_goes 3 (some .boolean), Cond.methodLink RX8 59 yX8_first]
def wsL_law_r12 : List Cond := [Cond.instanceMethod yX8_first, Cond.selects RX8 yX8_first yX8_first, Cond.code yX8_first cX8_first 2 (some .int), Cond.methodLink RX8 62 yX8_last, Cond.instanceMethod yX8_last, Cond.selects RX8 yX8_last yX8_last, Cond.code yX8_last cX8_last 2 (some .int), Cond.methodLink RX8 69 yX8_ratioAt, Cond.instanceMethod yX8_ratioAt, Cond.selects RX8 yX8_ratioAt yX8_ratioAt, Cond.code yX8_ratioAt cX8_ratioAt 6 (some .int), Cond.methodLink RL 32 yX7_inverse, Cond.instanceMethod yX7_inverse, Cond.selects RX7 yX7_inverse yX7_inverse, Cond.code yX7_inverse cX7_inverse 4 (some .int), Cond.methodLink RX7 106 yX5_temperatureFor, Cond.instanceMethod yX5_temperatureFor, Cond.selects RX5 yX5_temperatureFor yX5_temperatureFor, Cond.code yX5_temperatureFor cX5_temperatureFor 7 (some .int), Cond.constant RX5 44 (-2000000004), Cond.methodLink RX5 45 yX5_ratioAt, Cond.methodLink RL 35 yX8_inverse, Cond.instanceMethod yX8_inverse, Cond.selects RX8 yX8_inverse yX8_inverse]
def wsL_law_r13 : List Cond := [Cond.code yX8_inverse cX8_inverse 3 (some .int), Cond.methodLink RX8 91 yX8_inverseOf, Cond.instanceMethod yX8_inverseOf, Cond.selects RX8 yX8_inverseOf yX8_inverseOf, Cond.code yX8_inverseOf cX8_inverseOf 7 (some .int), Cond.methodLink RL 36 yX7_sensor, Cond.instanceMethod yX7_sensor, Cond.selects RX7 yX7_sensor yX7_sensor, Cond.code yX7_sensor cX7_sensor 6 (some .int), Cond.constantLong RX7 110 (2), Cond.constantLong RX7 112 (4), Cond.fieldLink RX7 118 "OhmBridge$State" "sensorCount" "I", Cond.methodLink RX7 114 yX7_isBase, Cond.static yX7_isBase, Cond.code yX7_isBase cX7_isBase 2 (some .boolean), Cond.constantLong RX7 434 (1000), Cond.constantLong RX7 436 (2000000), Cond.methodLink RX7 121 yX4_sensorAt, Cond.instanceMethod yX4_sensorAt, Cond.selects RX4 yX4_sensorAt yX4_sensorAt, Cond.code yX4_sensorAt cX4_sensorAt 3 (some (.object "OhmBridge$Sensor")), Cond.methodLink RX7 125 yX5_nearest, Cond.instanceMethod yX5_nearest, Cond.selects RX5 yX5_nearest yX5_nearest]
def wsL_law_r14 : List Cond := [Cond.code yX5_nearest cX5_nearest 2 (some .int), Cond.methodLink RX5 35 Lib.Math.max.name, Cond.static Lib.Math.max.name, Cond.initialized "java/lang/Math", Cond.code Lib.Math.max.name Lib.Math.max.code 2 (some .int), Cond.methodLink RX5 41 Lib.Math.min.name, Cond.static Lib.Math.min.name, Cond.code Lib.Math.min.name Lib.Math.min.code 2 (some .int), Cond.methodLink RX7 128 yX3_begin, Cond.instanceMethod yX3_begin, Cond.selects RX3 yX3_begin yX3_begin, Cond.code yX3_begin cX3_begin 5 none, Cond.constant RX3 40 (-200000), Cond.constant RX3 41 (850000), Cond.methodLink RX3 42 yX3_watch, Cond.instanceMethod yX3_watch, Cond.selects RX3 yX3_watch yX3_watch, Cond.code yX3_watch cX3_watch 4 none, Cond.methodLink RL 39 yX8_sensor, Cond.instanceMethod yX8_sensor, Cond.selects RX8 yX8_sensor yX8_sensor, Cond.code yX8_sensor cX8_sensor 6 (some .int), Cond.constant RX8 95 (2000000), Cond.methodLink RX8 96 yX8_put]
def wsL_law_r15 : List Cond := [Cond.instanceMethod yX8_put, Cond.selects RX8 yX8_put yX8_put, Cond.code yX8_put cX8_put 4 none, Cond.methodLink RL 40 yX7_plug, Cond.instanceMethod yX7_plug, Cond.selects RX7 yX7_plug yX7_plug, Cond.code yX7_plug cX7_plug 6 (some .int), Cond.fieldLink RX7 147 "OhmBridge$Sensor" "place" "I", Cond.methodLink RX7 134 yX7_isSlot, Cond.static yX7_isSlot, Cond.code yX7_isSlot cX7_isSlot 2 (some .boolean), Cond.constantLong RX7 438 (3), Cond.methodLink RX7 137 yX3_isPlugged, Cond.instanceMethod yX3_isPlugged, Cond.selects RX3 yX3_isPlugged yX3_isPlugged, Cond.code yX3_isPlugged cX3_isPlugged 1 (some .boolean), Cond.methodLink RX7 141 yX4_sensorIn, Cond.instanceMethod yX4_sensorIn, Cond.selects RX4 yX4_sensorIn yX4_sensorIn, Cond.code yX4_sensorIn cX4_sensorIn 3 (some .int), Cond.fieldLink RX4 58 "OhmBridge$Sensor" "place" "I", Cond.methodLink RX7 144 yX3_fits, Cond.instanceMethod yX3_fits, Cond.selects RX3 yX3_fits yX3_fits]
def wsL_law_r16 : List Cond := [Cond.code yX3_fits cX3_fits 2 (some .boolean), Cond.methodLink RX7 150 yX4_takenSlots, Cond.instanceMethod yX4_takenSlots, Cond.selects RX4 yX4_takenSlots yX4_takenSlots, Cond.code yX4_takenSlots cX4_takenSlots 4 (some .int), Cond.methodLink RX4 61 yX4_sensorIn, Cond.methodLink RL 43 yX8_plug, Cond.instanceMethod yX8_plug, Cond.selects RX8 yX8_plug yX8_plug, Cond.code yX8_plug cX8_plug 6 (some .int), Cond.methodLink RX8 39 yX8_isSensor, Cond.instanceMethod yX8_isSensor, Cond.selects RX8 yX8_isSensor yX8_isSensor, Cond.code yX8_isSensor cX8_isSensor 2 (some .boolean), Cond.methodLink RX8 100 yX8_inside, Cond.instanceMethod yX8_inside, Cond.selects RX8 yX8_inside yX8_inside, Cond.code yX8_inside cX8_inside 3 (some .int), Cond.methodLink RL 44 yX7_unplug, Cond.instanceMethod yX7_unplug, Cond.selects RX7 yX7_unplug yX7_unplug, Cond.code yX7_unplug cX7_unplug 4 (some .int), Cond.methodLink RX7 153 yX7_toldPlace, Cond.static yX7_toldPlace]
def wsL_law_r17 : List Cond := [Cond.code yX7_toldPlace cX7_toldPlace 1 (some .int), Cond.methodLink RL 48 yX8_unplug, Cond.instanceMethod yX8_unplug, Cond.selects RX8 yX8_unplug yX8_unplug, Cond.code yX8_unplug cX8_unplug 3 (some .int), Cond.methodLink RL 49 yX7_slotAt, Cond.instanceMethod yX7_slotAt, Cond.selects RX7 yX7_slotAt yX7_slotAt, Cond.code yX7_slotAt cX7_slotAt 4 (some .int), Cond.methodLink RL 52 yX8_slotAt, Cond.instanceMethod yX8_slotAt, Cond.selects RX8 yX8_slotAt yX8_slotAt, Cond.code yX8_slotAt cX8_slotAt 4 (some .int), Cond.methodLink RL 53 yX7_bath, Cond.instanceMethod yX7_bath, Cond.selects RX7 yX7_bath yX7_bath, Cond.code yX7_bath cX7_bath 5 (some .int), Cond.fieldLink RX7 160 "OhmBridge$Sensor" "temperature" "I", Cond.methodLink RX7 156 yX4_canBring, Cond.instanceMethod yX4_canBring, Cond.selects RX4 yX4_canBring yX4_canBring, Cond.code yX4_canBring cX4_canBring 4 (some .boolean), Cond.methodLink RX4 74 yX4_tableAt, Cond.methodLink RX4 78 yX5_goesTo]
def wsL_law_r18 : List Cond := [Cond.methodLink RL 56 yX8_bath, Cond.instanceMethod yX8_bath, Cond.selects RX8 yX8_bath yX8_bath, Cond.code yX8_bath cX8_bath 3 (some .int), Cond.methodLink RX8 103 yX8_baths, Cond.instanceMethod yX8_baths, Cond.selects RX8 yX8_baths yX8_baths, Cond.code yX8_baths cX8_baths 4 (some .int), Cond.methodLink RL 57 yX7_lead, Cond.instanceMethod yX7_lead, Cond.selects RX7 yX7_lead yX7_lead, Cond.code yX7_lead cX7_lead 6 (some .int), Cond.constantLong RX7 166 (50000), Cond.methodLink RX7 163 yX3_hasWire, Cond.instanceMethod yX3_hasWire, Cond.selects RX3 yX3_hasWire yX3_hasWire, Cond.code yX3_hasWire cX3_hasWire 2 (some .boolean), Cond.methodLink RX7 168 yX3_leadOf, Cond.instanceMethod yX3_leadOf, Cond.selects RX3 yX3_leadOf yX3_leadOf, Cond.code yX3_leadOf cX3_leadOf 2 (some .int), Cond.methodLink RX7 171 yX3_setLead, Cond.instanceMethod yX3_setLead, Cond.selects RX3 yX3_setLead yX3_setLead]
def wsL_law_r19 : List Cond := [Cond.code yX3_setLead cX3_setLead 3 none, Cond.methodLink RL 60 yX8_lead, Cond.instanceMethod yX8_lead, Cond.selects RX8 yX8_lead yX8_lead, Cond.code yX8_lead cX8_lead 5 (some .int), Cond.constant RX8 109 (50000), Cond.methodLink RX8 106 yX8_isWire, Cond.instanceMethod yX8_isWire, Cond.selects RX8 yX8_isWire yX8_isWire, Cond.code yX8_isWire cX8_isWire 3 (some .boolean), Cond.methodLink RL 61 yX7_strain, Cond.instanceMethod yX7_strain, Cond.selects RX7 yX7_strain yX7_strain, Cond.code yX7_strain cX7_strain 6 (some .int), Cond.fieldLink RX7 174 "OhmBridge" "LEAST_STRAIN" "[I", Cond.fieldLink RX7 177 "OhmBridge" "GREATEST_STRAIN" "[I", Cond.methodLink RX7 180 yX7_isInRow, Cond.static yX7_isInRow, Cond.code yX7_isInRow cX7_isInRow 4 (some .boolean), Cond.methodLink RX7 184 yX3_strainOf, Cond.instanceMethod yX3_strainOf, Cond.selects RX3 yX3_strainOf yX3_strainOf, Cond.code yX3_strainOf cX3_strainOf 2 (some .int), Cond.methodLink RX7 187 yX3_setStrain]
def wsL_law_r20 : List Cond := [Cond.instanceMethod yX3_setStrain, Cond.selects RX3 yX3_setStrain yX3_setStrain, Cond.code yX3_setStrain cX3_setStrain 3 none, Cond.methodLink RL 64 yX8_strain, Cond.instanceMethod yX8_strain, Cond.selects RX8 yX8_strain yX8_strain, Cond.code yX8_strain cX8_strain 5 (some .int), Cond.constant RX8 110 (-100000), Cond.methodLink RL 65 yX7_cut, Cond.instanceMethod yX7_cut, Cond.selects RX7 yX7_cut yX7_cut, Cond.code yX7_cut cX7_cut 5 (some .int), Cond.fieldLink RX7 197 "OhmBridge$Sensor" "brokenWires" "I", Cond.methodLink RX7 190 yX3_isBroken, Cond.instanceMethod yX3_isBroken, Cond.selects RX3 yX3_isBroken yX3_isBroken, Cond.code yX3_isBroken cX3_isBroken 2 (some .boolean), Cond.methodLink RX7 193 yX3_turnWire, Cond.instanceMethod yX3_turnWire, Cond.selects RX3 yX3_turnWire yX3_turnWire, Cond.code yX3_turnWire cX3_turnWire 2 none, Cond.methodLink RX7 200 yJ6_bitCount_0f7a4, Cond.static yJ6_bitCount_0f7a4, Cond.initialized RJ6]
def wsL_law_r21 : List Cond := [Cond.code yJ6_bitCount_0f7a4 cJ6_bitCount_0f7a4 1 (some .int), Cond.constant RJ6 265 (1431655765), Cond.constant RJ6 266 (858993459), Cond.constant RJ6 267 (252645135), Cond.methodLink RL 68 yX8_cut, Cond.instanceMethod yX8_cut, Cond.selects RX8 yX8_cut yX8_cut, Cond.code yX8_cut cX8_cut 4 (some .int), Cond.methodLink RX8 114 yX8_cuts, Cond.instanceMethod yX8_cuts, Cond.selects RX8 yX8_cuts yX8_cuts, Cond.code yX8_cuts cX8_cuts 4 (some .int), Cond.methodLink RX8 111 yX8_bits, Cond.static yX8_bits, Cond.code yX8_bits cX8_bits 1 (some .int), Cond.methodLink RL 69 yX7_drift, Cond.instanceMethod yX7_drift, Cond.selects RX7 yX7_drift yX7_drift, Cond.code yX7_drift cX7_drift 6 (some .int), Cond.constantLong RX7 205 (-100000), Cond.constantLong RX7 207 (100000), Cond.fieldLink RX7 209 "OhmBridge$Sensor" "trueBase" "I", Cond.constantLong RX7 212 (1000000), Cond.methodLink RL 72 yX8_drift]
def wsL_law_r22 : List Cond := [Cond.instanceMethod yX8_drift, Cond.selects RX8 yX8_drift yX8_drift, Cond.code yX8_drift cX8_drift 5 (some .int), Cond.constantLong RX8 122 (1000000), Cond.methodLink RX8 124 yX8_isBase, Cond.static yX8_isBase, Cond.code yX8_isBase cX8_isBase 2 (some .boolean), Cond.constantLong RX8 118 (1000), Cond.constantLong RX8 120 (2000000), Cond.methodLink RL 73 yX7_calibrate, Cond.instanceMethod yX7_calibrate, Cond.selects RX7 yX7_calibrate yX7_calibrate, Cond.code yX7_calibrate cX7_calibrate 7 (some .int), Cond.fieldLink RX7 218 "OhmBridge$Meter" "diagnosed" "I", Cond.fieldLink RX7 221 "OhmBridge$Meter" "withoutPower" "J", Cond.fieldLink RX7 229 "OhmBridge$Sensor" "assumedBase" "I", Cond.methodLink RX7 214 yX2_measure, Cond.instanceMethod yX2_measure, Cond.selects RX2 yX2_measure yX2_measure, Cond.code yX2_measure cX2_measure 7 none, Cond.fieldLink RX2 35 "OhmBridge$Meter" "withoutPower" "J", Cond.fieldLink RX2 39 "OhmBridge$Sensor" "table" "I", Cond.fieldLink RX2 49 "OhmBridge$Sensor" "assumedBase" "I", Cond.fieldLink RX2 56 "OhmBridge$Meter" "reading" "I"]
def wsL_law_r23 : List Cond := [Cond.fieldLink RX2 63 "OhmBridge$Meter" "diagnosed" "I", Cond.methodLink RX2 21 yX4_setting, Cond.instanceMethod yX4_setting, Cond.selects RX4 yX4_setting yX4_setting, Cond.code yX4_setting cX4_setting 2 (some .int), Cond.methodLink RX2 27 yX1_take, Cond.instanceMethod yX1_take, Cond.selects RX1 yX1_take yX1_take, Cond.code yX1_take cX1_take 10 none, Cond.fieldLink RX1 9 "OhmBridge$Measurement" "current" "J", Cond.fieldLink RX1 21 "OhmBridge$Measurement" "reference" "J", Cond.fieldLink RX1 24 "OhmBridge$Measurement" "unit" "J", Cond.fieldLink RX1 32 "OhmBridge$Measurement" "stray" "J", Cond.fieldLink RX1 35 "OhmBridge$Sensor" "table" "I", Cond.fieldLink RX1 47 "OhmBridge$Measurement" "heated" "J", Cond.fieldLink RX1 50 "OhmBridge$Sensor" "wires" "I", Cond.fieldLink RX1 60 "OhmBridge$Measurement" "oneWay" "J", Cond.fieldLink RX1 63 "OhmBridge$Measurement" "otherWay" "J", Cond.fieldLink RX1 66 "OhmBridge$Measurement" "secondOneWay" "J", Cond.fieldLink RX1 69 "OhmBridge$Measurement" "secondOtherWay" "J", Cond.constantLong RX1 72 (2), Cond.fieldLink RX1 77 "OhmBridge$Measurement" "loopOhms" "J", Cond.fieldLink RX1 80 "OhmBridge$Measurement" "compensated" "J", Cond.methodLink RX1 15 yX4_setting]
def wsL_law_r24 : List Cond := [Cond.methodLink RX1 27 yX3_strainOf, Cond.methodLink RX1 39 yX4_tableAt, Cond.methodLink RX1 43 yX1_heatedOhms, Cond.instanceMethod yX1_heatedOhms, Cond.selects RX1 yX1_heatedOhms yX1_heatedOhms, Cond.code yX1_heatedOhms cX1_heatedOhms 9 (some .long), Cond.fieldLink RX1 87 "OhmBridge$Sensor" "trueBase" "I", Cond.fieldLink RX1 90 "OhmBridge$Sensor" "temperature" "I", Cond.constantLong RX1 98 (1000000), Cond.fieldLink RX1 100 "OhmBridge$Table" "nodes" "I", Cond.methodLink RX1 106 Lib.MathLoose.min_long.x, Cond.static Lib.MathLoose.min_long.x, Cond.code Lib.MathLoose.min_long.x Lib.MathLoose.min_long.code 4 (some .long), Cond.methodLink RX1 93 yX5_ratioAt, Cond.methodLink RX1 103 yX5_temperatureOf, Cond.methodLink RX1 53 yX3_leadOf, Cond.methodLink RX1 56 yX1_countsOf, Cond.instanceMethod yX1_countsOf, Cond.selects RX1 yX1_countsOf yX1_countsOf, Cond.code yX1_countsOf cX1_countsOf 7 (some .long), Cond.methodLink RX1 118 Lib.MathLoose.max_long.x, Cond.static Lib.MathLoose.max_long.x, Cond.code Lib.MathLoose.max_long.x Lib.MathLoose.max_long.code 4 (some .long), Cond.methodLink RX1 114 yX1_greatest]
def wsL_law_r25 : List Cond := [Cond.instanceMethod yX1_greatest, Cond.selects RX1 yX1_greatest yX1_greatest, Cond.code yX1_greatest cX1_greatest 1 (some .long), Cond.constantLong RX1 112 (4), Cond.methodLink RX1 74 yX1_ohmsBy, Cond.instanceMethod yX1_ohmsBy, Cond.selects RX1 yX1_ohmsBy yX1_ohmsBy, Cond.code yX1_ohmsBy cX1_ohmsBy 3 (some .long), Cond.methodLink RX1 83 yX3_isCompensated, Cond.instanceMethod yX3_isCompensated, Cond.selects RX3 yX3_isCompensated yX3_isCompensated, Cond.code yX3_isCompensated cX3_isCompensated 1 (some .boolean), Cond.methodLink RX2 31 yX2_extrapolated, Cond.instanceMethod yX2_extrapolated, Cond.selects RX2 yX2_extrapolated yX2_extrapolated, Cond.code yX2_extrapolated cX2_extrapolated 13 (some .long), Cond.fieldLink RX2 66 "OhmBridge$Measurement" "compensated" "J", Cond.constantLong RX2 69 (-2000000000), Cond.constantLong RX2 71 (2000000000), Cond.methodLink RX2 73 Lib.MathLoose.min_long.x, Cond.methodLink RX2 78 Lib.MathLoose.max_long.x, Cond.methodLink RX2 45 yX4_tableAt, Cond.methodLink RX2 52 yX2_readingOf, Cond.instanceMethod yX2_readingOf]
def wsL_law_r26 : List Cond := [Cond.selects RX2 yX2_readingOf yX2_readingOf, Cond.code yX2_readingOf cX2_readingOf 4 (some .int), Cond.constant RX2 81 (-2000000004), Cond.constantLong RX2 82 (1000000), Cond.methodLink RX2 84 yX5_temperatureFor, Cond.methodLink RX2 59 yX2_diagnosisOf, Cond.instanceMethod yX2_diagnosisOf, Cond.selects RX2 yX2_diagnosisOf yX2_diagnosisOf, Cond.code yX2_diagnosisOf cX2_diagnosisOf 4 (some .int), Cond.fieldLink RX2 94 "OhmBridge$Sensor" "brokenWires" "I", Cond.methodLink RX2 103 Lib.Math.abs.name, Cond.static Lib.Math.abs.name, Cond.code Lib.Math.abs.name Lib.Math.abs.code 1 (some .int), Cond.methodLink RX2 90 yX3_isPlugged, Cond.methodLink RX2 97 yX1_isAtBound, Cond.instanceMethod yX1_isAtBound, Cond.selects RX1 yX1_isAtBound yX1_isAtBound, Cond.code yX1_isAtBound cX1_isAtBound 1 (some .boolean), Cond.methodLink RX2 100 yX3_leadOf, Cond.methodLink RX2 106 yX3_isCompensated, Cond.methodLink RX2 109 yX3_strainOf, Cond.methodLink RX7 225 yX4_baseFor, Cond.instanceMethod yX4_baseFor, Cond.selects RX4 yX4_baseFor yX4_baseFor]
def wsL_law_r27 : List Cond := [Cond.code yX4_baseFor cX4_baseFor 8 (some .long), Cond.constantLong RX4 85 (1000000), Cond.methodLink RX4 82 yX5_ratioAt, Cond.methodLink RL 76 yX8_calibrate, Cond.instanceMethod yX8_calibrate, Cond.selects RX8 yX8_calibrate yX8_calibrate, Cond.code yX8_calibrate cX8_calibrate 5 (some .int), Cond.methodLink RX8 128 yX8_diagnosed, Cond.instanceMethod yX8_diagnosed, Cond.selects RX8 yX8_diagnosed yX8_diagnosed, Cond.code yX8_diagnosed cX8_diagnosed 2 (some .int), Cond.methodLink RX8 131 yX8_without, Cond.instanceMethod yX8_without, Cond.selects RX8 yX8_without yX8_without, Cond.code yX8_without cX8_without 12 (some .long), Cond.constantLong RX8 172 (-2000000000), Cond.constantLong RX8 174 (2000000000), Cond.methodLink RX8 169 yX8_compensated, Cond.instanceMethod yX8_compensated, Cond.selects RX8 yX8_compensated yX8_compensated, Cond.code yX8_compensated cX8_compensated 5 (some .long), Cond.methodLink RX8 162 yX8_countsOf, Cond.instanceMethod yX8_countsOf, Cond.selects RX8 yX8_countsOf yX8_countsOf]
def wsL_law_r28 : List Cond := [Cond.code yX8_countsOf cX8_countsOf 5 (some .long), Cond.constantLong RX8 153 (2), Cond.methodLink RX8 149 yX8_countsOneWay, Cond.instanceMethod yX8_countsOneWay, Cond.selects RX8 yX8_countsOneWay yX8_countsOneWay, Cond.code yX8_countsOneWay cX8_countsOneWay 13 (some .long), Cond.constantLong RX8 158 (4), Cond.constantLong RX8 160 (-4), Cond.methodLink RX8 155 yX8_loop, Cond.instanceMethod yX8_loop, Cond.selects RX8 yX8_loop yX8_loop, Cond.code yX8_loop cX8_loop 3 (some .long), Cond.methodLink RX8 146 yX8_heated, Cond.instanceMethod yX8_heated, Cond.selects RX8 yX8_heated yX8_heated, Cond.code yX8_heated cX8_heated 8 (some .long), Cond.methodLink RX8 142 yX8_resistance, Cond.instanceMethod yX8_resistance, Cond.selects RX8 yX8_resistance yX8_resistance, Cond.code yX8_resistance cX8_resistance 3 (some .long), Cond.methodLink RX8 165 yX8_byCounts, Cond.instanceMethod yX8_byCounts, Cond.selects RX8 yX8_byCounts yX8_byCounts, Cond.code yX8_byCounts cX8_byCounts 3 (some .long)]
def wsL_law_r29 : List Cond := [Cond.methodLink RX8 176 yX8_isBound, Cond.instanceMethod yX8_isBound, Cond.selects RX8 yX8_isBound yX8_isBound, Cond.code yX8_isBound cX8_isBound 9 (some .boolean), Cond.methodLink RX8 179 yX8_size, Cond.static yX8_size, Cond.code yX8_size cX8_size 1 (some .int), Cond.methodLink RX8 182 yX8_degrees, Cond.instanceMethod yX8_degrees, Cond.selects RX8 yX8_degrees yX8_degrees, Cond.code yX8_degrees cX8_degrees 2 (some .int), Cond.methodLink RL 77 yX7_limits, Cond.instanceMethod yX7_limits, Cond.selects RX7 yX7_limits yX7_limits, Cond.code yX7_limits cX7_limits 7 (some .int), Cond.fieldLink RX7 234 "OhmBridge$Sensor" "alarm" "I", Cond.methodLink RX7 237 yX3_watch, Cond.methodLink RL 81 yX8_limits, Cond.instanceMethod yX8_limits, Cond.selects RX8 yX8_limits yX8_limits, Cond.code yX8_limits cX8_limits 6 (some .int), Cond.methodLink RL 82 yX7_sensorOf, Cond.instanceMethod yX7_sensorOf, Cond.selects RX7 yX7_sensorOf yX7_sensorOf]
def wsL_law_r30 : List Cond := [Cond.code yX7_sensorOf cX7_sensorOf 4 (some .int), Cond.constantLong RX7 241 (18), Cond.constantLong RX7 243 (5), Cond.constantLong RX7 245 (8), Cond.constantLong RX7 247 (9), Cond.constantLong RX7 249 (11), Cond.fieldLink RX7 251 "OhmBridge$Sensor" "table" "I", Cond.fieldLink RX7 254 "OhmBridge$Sensor" "wires" "I", Cond.fieldLink RX7 257 "OhmBridge$Sensor" "low" "I", Cond.fieldLink RX7 260 "OhmBridge$Sensor" "high" "I", Cond.fieldLink RX7 263 "OhmBridge$Sensor" "hysteresis" "I", Cond.fieldLink RX7 266 "OhmBridge$Sensor" "readings" "I", Cond.methodLink RL 85 yX8_sensorOf, Cond.instanceMethod yX8_sensorOf, Cond.selects RX8 yX8_sensorOf yX8_sensorOf, Cond.code yX8_sensorOf cX8_sensorOf 4 (some .int), Cond.methodLink RL 86 yX7_set, Cond.instanceMethod yX7_set, Cond.selects RX7 yX7_set yX7_set, Cond.code yX7_set cX7_set 4 (some .int), Cond.fieldLink RX7 269 "OhmBridge" "LEAST_SETTING" "[I", Cond.fieldLink RX7 272 "OhmBridge" "GREATEST_SETTING" "[I", Cond.methodLink RX7 275 yX4_setting, Cond.methodLink RX7 278 yX4_changeSetting]
def wsL_law_r31 : List Cond := [Cond.instanceMethod yX4_changeSetting, Cond.selects RX4 yX4_changeSetting yX4_changeSetting, Cond.code yX4_changeSetting cX4_changeSetting 3 none, Cond.methodLink RL 89 yX8_set, Cond.instanceMethod yX8_set, Cond.selects RX8 yX8_set yX8_set, Cond.code yX8_set cX8_set 4 (some .int), Cond.methodLink RX8 136 yX8_least, Cond.static yX8_least, Cond.code yX8_least cX8_least 1 (some .int), Cond.methodLink RX8 139 yX8_most, Cond.static yX8_most, Cond.code yX8_most cX8_most 1 (some .int), Cond.constant RX8 135 (1000000), Cond.methodLink RL 90 yX7_counts, Cond.instanceMethod yX7_counts, Cond.selects RX7 yX7_counts yX7_counts, Cond.code yX7_counts cX7_counts 10 (some .int), Cond.constantLong RX7 281 (100), Cond.constantLong RX7 283 (5000), Cond.fieldLink RX7 292 "OhmBridge$Measurement" "oneWay" "J", Cond.fieldLink RX7 295 "OhmBridge$Measurement" "secondOneWay" "J", Cond.fieldLink RX7 298 "OhmBridge$Measurement" "otherWay" "J", Cond.fieldLink RX7 301 "OhmBridge$Measurement" "secondOtherWay" "J"]
def wsL_law_r32 : List Cond := [Cond.methodLink RX7 285 yX3_isCompensated, Cond.methodLink RX7 288 yX1_take, Cond.methodLink RL 93 yX8_counts, Cond.instanceMethod yX8_counts, Cond.selects RX8 yX8_counts yX8_counts, Cond.code yX8_counts cX8_counts 5 (some .int), Cond.methodLink RL 94 yX7_ohms, Cond.instanceMethod yX7_ohms, Cond.selects RX7 yX7_ohms yX7_ohms, Cond.code yX7_ohms cX7_ohms 4 (some .int), Cond.fieldLink RX7 304 "OhmBridge$Meter" "first" "LOhmBridge$Measurement;", Cond.fieldLink RX7 307 "OhmBridge$Measurement" "heated" "J", Cond.fieldLink RX7 314 "OhmBridge$Measurement" "loopOhms" "J", Cond.fieldLink RX7 317 "OhmBridge$Measurement" "compensated" "J", Cond.fieldLink RX7 320 "OhmBridge$Meter" "second" "LOhmBridge$Measurement;", Cond.methodLink RX7 310 yX1_ohmsBy, Cond.methodLink RL 97 yX8_ohms, Cond.instanceMethod yX8_ohms, Cond.selects RX8 yX8_ohms yX8_ohms, Cond.code yX8_ohms cX8_ohms 3 (some .int), Cond.methodLink RL 98 yX7_diagnosis, Cond.instanceMethod yX7_diagnosis, Cond.selects RX7 yX7_diagnosis yX7_diagnosis, Cond.code yX7_diagnosis cX7_diagnosis 3 (some .int)]
def wsL_law_r33 : List Cond := [Cond.methodLink RL 101 yX8_diagnosis, Cond.instanceMethod yX8_diagnosis, Cond.selects RX8 yX8_diagnosis yX8_diagnosis, Cond.code yX8_diagnosis cX8_diagnosis 2 (some .int), Cond.methodLink RL 102 yX7_read, Cond.instanceMethod yX7_read, Cond.selects RX7 yX7_read yX7_read, Cond.code yX7_read cX7_read 3 (some .int), Cond.fieldLink RX7 323 "OhmBridge$Meter" "reading" "I", Cond.methodLink RX7 326 yX3_log, Cond.instanceMethod yX3_log, Cond.selects RX3 yX3_log yX3_log, Cond.code yX3_log cX3_log 3 none, Cond.methodLink RL 105 yX8_read, Cond.instanceMethod yX8_read, Cond.selects RX8 yX8_read yX8_read, Cond.code yX8_read cX8_read 2 (some .int), Cond.methodLink RX8 189 yX8_reads, Cond.instanceMethod yX8_reads, Cond.selects RX8 yX8_reads yX8_reads, Cond.code yX8_reads cX8_reads 4 (some .int), Cond.methodLink RX8 185 yX8_alarms, Cond.instanceMethod yX8_alarms, Cond.selects RX8 yX8_alarms yX8_alarms]
def wsL_law_r34 : List Cond := [Cond.code yX8_alarms cX8_alarms 6 none, Cond.methodLink RL 106 yX7_scan, Cond.instanceMethod yX7_scan, Cond.selects RX7 yX7_scan yX7_scan, Cond.code yX7_scan cX7_scan 3 (some .int), Cond.fieldLink RX7 333 "OhmBridge$State" "scanner" "I", Cond.methodLink RX7 329 yX4_nextPlugged, Cond.instanceMethod yX4_nextPlugged, Cond.selects RX4 yX4_nextPlugged yX4_nextPlugged, Cond.code yX4_nextPlugged cX4_nextPlugged 3 (some .int), Cond.methodLink RL 109 yX8_scan, Cond.instanceMethod yX8_scan, Cond.selects RX8 yX8_scan yX8_scan, Cond.code yX8_scan cX8_scan 1 (some .int), Cond.methodLink RX8 192 yX8_scans, Cond.instanceMethod yX8_scans, Cond.selects RX8 yX8_scans yX8_scans, Cond.code yX8_scans cX8_scans 5 (some .int), Cond.methodLink RL 110 yX7_readingAt, Cond.instanceMethod yX7_readingAt, Cond.selects RX7 yX7_readingAt yX7_readingAt, Cond.code yX7_readingAt cX7_readingAt 4 (some .int), Cond.methodLink RX7 336 yX3_keptReadings, Cond.instanceMethod yX3_keptReadings]
def wsL_law_r35 : List Cond := [Cond.selects RX3 yX3_keptReadings yX3_keptReadings, Cond.code yX3_keptReadings cX3_keptReadings 1 (some .int), Cond.methodLink RX3 70 Lib.Math.min.name, Cond.methodLink RX7 339 yX3_reading, Cond.instanceMethod yX3_reading, Cond.selects RX3 yX3_reading yX3_reading, Cond.code yX3_reading cX3_reading 2 (some .int), Cond.methodLink RL 113 yX8_readingAt, Cond.instanceMethod yX8_readingAt, Cond.selects RX8 yX8_readingAt yX8_readingAt, Cond.code yX8_readingAt cX8_readingAt 4 (some .int), Cond.methodLink RL 114 yX7_median, Cond.instanceMethod yX7_median, Cond.selects RX7 yX7_median yX7_median, Cond.code yX7_median cX7_median 5 (some .int), Cond.methodLink RX7 341 Lib.Math.min.name, Cond.methodLink RX7 347 yX7_insertSorted, Cond.instanceMethod yX7_insertSorted, Cond.selects RX7 yX7_insertSorted yX7_insertSorted, Cond.code yX7_insertSorted cX7_insertSorted 4 none, Cond.methodLink RL 117 yX8_median, Cond.instanceMethod yX8_median, Cond.selects RX8 yX8_median yX8_median, Cond.code yX8_median cX8_median 7 (some .int)]
def wsL_law_r36 : List Cond := [Cond.methodLink RL 118 yX7_meanBits, Cond.instanceMethod yX7_meanBits, Cond.selects RX7 yX7_meanBits yX7_meanBits, Cond.code yX7_meanBits cX7_meanBits 7 (some .int), Cond.constantDouble RX7 350 (4652007308841189376), Cond.methodLink RX7 352 yX7_bitsOf, Cond.static yX7_bitsOf, Cond.code yX7_bitsOf cX7_bitsOf 5 (some .int), Cond.constantFloat RX7 430 (1258291200), Cond.constant RX7 431 (-2147483648), Cond.methodLink RL 121 yX8_meanBits, Cond.instanceMethod yX8_meanBits, Cond.selects RX8 yX8_meanBits yX8_meanBits, Cond.code yX8_meanBits cX8_meanBits 7 (some .int), Cond.constantDouble RX8 196 (4652007308841189376), Cond.methodLink RX8 198 yJxf58ca_floatToIntBits_5c35a, Cond.static yJxf58ca_floatToIntBits_5c35a, Cond.initialized RJxf58ca, Cond.code yJxf58ca_floatToIntBits_5c35a cJxf58ca_floatToIntBits_5c35a 1 (some .int), Cond.methodLink RJxf58ca 74 ⟨"java/lang/Float", "floatToRawIntBits", "(F)I"⟩, Cond.native ⟨"java/lang/Float", "floatToRawIntBits", "(F)I"⟩, Cond.static ⟨"java/lang/Float", "floatToRawIntBits", "(F)I"⟩, Cond.initialized "java/lang/Float", Cond.constant RJxf58ca 77 (2143289344)]
def wsL_law_r37 : List Cond := [Cond.methodLink RJxf58ca 59 yJxf58ca_isNaN_12338, Cond.static yJxf58ca_isNaN_12338, Cond.code yJxf58ca_isNaN_12338 cJxf58ca_isNaN_12338 1 (some .boolean), Cond.methodLink RL 122 yX7_count, Cond.instanceMethod yX7_count, Cond.selects RX7 yX7_count yX7_count, Cond.code yX7_count cX7_count 3 (some .int), Cond.constantLong RX7 356 (20), Cond.constantLong RX7 358 (26), Cond.constantLong RX7 360 (10), Cond.constantLong RX7 362 (12), Cond.fieldLink RX7 373 "OhmBridge$History" "size" "I", Cond.fieldLink RX7 376 "OhmBridge$Text" "length" "I", Cond.methodLink RX7 364 yX4_pluggedSensors, Cond.instanceMethod yX4_pluggedSensors, Cond.selects RX4 yX4_pluggedSensors yX4_pluggedSensors, Cond.code yX4_pluggedSensors cX4_pluggedSensors 3 (some .int), Cond.methodLink RX4 65 yX4_takenSlots, Cond.methodLink RX7 367 yX4_alarmsOn, Cond.instanceMethod yX4_alarmsOn, Cond.selects RX4 yX4_alarmsOn yX4_alarmsOn, Cond.code yX4_alarmsOn cX4_alarmsOn 3 (some .int), Cond.fieldLink RX4 68 "OhmBridge$Sensor" "alarm" "I", Cond.methodLink RX7 370 yX4_allReadings]
def wsL_law_r38 : List Cond := [Cond.instanceMethod yX4_allReadings, Cond.selects RX4 yX4_allReadings yX4_allReadings, Cond.code yX4_allReadings cX4_allReadings 3 (some .int), Cond.fieldLink RX4 71 "OhmBridge$Sensor" "readings" "I", Cond.methodLink RL 125 yX8_count, Cond.instanceMethod yX8_count, Cond.selects RX8 yX8_count yX8_count, Cond.code yX8_count cX8_count 6 (some .int), Cond.fieldLink RX8 204 "OhmBridgeModel" "typed" "I", Cond.methodLink RL 126 yX7_undo, Cond.instanceMethod yX7_undo, Cond.selects RX7 yX7_undo yX7_undo, Cond.code yX7_undo cX7_undo 1 (some .int), Cond.methodLink RX7 379 yX0_restore, Cond.instanceMethod yX0_restore, Cond.selects RX0 yX0_restore yX0_restore, Cond.code yX0_restore cX0_restore 2 none, Cond.methodLink RL 129 yX8_undo, Cond.instanceMethod yX8_undo, Cond.selects RX8 yX8_undo yX8_undo, Cond.code yX8_undo cX8_undo 2 (some .int), Cond.methodLink RL 130 yX7_type, Cond.instanceMethod yX7_type, Cond.selects RX7 yX7_type yX7_type]
def wsL_law_r39 : List Cond := [Cond.code yX7_type cX7_type 2 (some .int), Cond.constantLong RX7 382 (32), Cond.constantLong RX7 384 (126), Cond.methodLink RX7 386 yX6_append, Cond.instanceMethod yX6_append, Cond.selects RX6 yX6_append yX6_append, Cond.code yX6_append cX6_append 2 none, Cond.fieldLink RX6 15 "OhmBridge$Text" "length" "I", Cond.methodLink RL 133 yX8_type, Cond.instanceMethod yX8_type, Cond.selects RX8 yX8_type yX8_type, Cond.code yX8_type cX8_type 2 (some .int), Cond.methodLink RL 134 yX7_clearText, Cond.instanceMethod yX7_clearText, Cond.selects RX7 yX7_clearText yX7_clearText, Cond.code yX7_clearText cX7_clearText 2 (some .int), Cond.methodLink RL 137 yX8_clearText, Cond.instanceMethod yX8_clearText, Cond.selects RX8 yX8_clearText yX8_clearText, Cond.code yX8_clearText cX8_clearText 2 (some .int), Cond.methodLink RL 138 yX7_fault, Cond.instanceMethod yX7_fault, Cond.selects RX7 yX7_fault yX7_fault, Cond.code yX7_fault cX7_fault 2 (some .int)]
def wsL_law_r40 : List Cond := [Cond.fieldLink RX7 392 "OhmBridge" "faultReason" "I", Cond.fieldLink RX7 395 "OhmBridge" "faultPlace" "I", Cond.methodLink RX7 389 yX7_tryOrders, Cond.instanceMethod yX7_tryOrders, Cond.selects RX7 yX7_tryOrders yX7_tryOrders, Cond.code yX7_tryOrders cX7_tryOrders 2 none, Cond.fieldLink RX7 401 "OhmBridge" "ordersDone" "I", Cond.fieldLink RX7 410 "OhmBridge$Text" "next" "I", Cond.methodLink RX7 398 yX4_copy, Cond.methodLink RX7 404 yX6_parse, Cond.instanceMethod yX6_parse, Cond.selects RX6 yX6_parse yX6_parse, Cond.code yX6_parse cX6_parse 2 (some .boolean), Cond.fieldLink RX6 23 "OhmBridge$Text" "order" "C", Cond.fieldLink RX6 27 "OhmBridge$Text" "next" "I", Cond.fieldLink RX6 38 "OhmBridge$Text" "sensor" "I", Cond.methodLink RX6 19 yX6_characterAt, Cond.instanceMethod yX6_characterAt, Cond.selects RX6 yX6_characterAt yX6_characterAt, Cond.code yX6_characterAt cX6_characterAt 3 (some .char), Cond.methodLink RX6 30 yX6_takes, Cond.instanceMethod yX6_takes, Cond.selects RX6 yX6_takes yX6_takes, Cond.code yX6_takes cX6_takes 2 (some .boolean)]
def wsL_law_r41 : List Cond := [Cond.methodLink RX6 34 yX6_parsedDigits, Cond.instanceMethod yX6_parsedDigits, Cond.selects RX6 yX6_parsedDigits yX6_parsedDigits, Cond.code yX6_parsedDigits cX6_parsedDigits 3 (some .int), Cond.methodLink RX6 41 yX6_parsesNumber, Cond.instanceMethod yX6_parsesNumber, Cond.selects RX6 yX6_parsesNumber yX6_parsesNumber, Cond.code yX6_parsesNumber cX6_parsesNumber 3 (some .boolean), Cond.fieldLink RX6 45 "OhmBridge$Text" "number" "I", Cond.methodLink RX7 407 yX7_obey, Cond.instanceMethod yX7_obey, Cond.selects RX7 yX7_obey yX7_obey, Cond.code yX7_obey cX7_obey 3 (some .int), Cond.fieldLink RX7 413 "OhmBridge$Text" "order" "C", Cond.fieldLink RX7 417 "OhmBridge$Text" "sensor" "I", Cond.methodLink RX7 420 yX7_obeyBath, Cond.instanceMethod yX7_obeyBath, Cond.selects RX7 yX7_obeyBath yX7_obeyBath, Cond.code yX7_obeyBath cX7_obeyBath 2 (some .int), Cond.fieldLink RX7 427 "OhmBridge$Text" "number" "I", Cond.methodLink RX7 424 yX7_obeyCut, Cond.instanceMethod yX7_obeyCut, Cond.selects RX7 yX7_obeyCut yX7_obeyCut, Cond.code yX7_obeyCut cX7_obeyCut 2 (some .int)]
def wsL_law_r42 : List Cond := [Cond.methodLink RL 141 yX8_fault, Cond.instanceMethod yX8_fault, Cond.selects RX8 yX8_fault yX8_fault, Cond.code yX8_fault cX8_fault 3 (some .int), Cond.fieldLink RX8 227 "OhmBridgeModel" "reason" "I", Cond.methodLink RX8 230 yX8_faulty, Cond.instanceMethod yX8_faulty, Cond.selects RX8 yX8_faulty yX8_faulty, Cond.code yX8_faulty cX8_faulty 3 (some .int), Cond.fieldLink RX8 207 "OhmBridgeModel" "at" "I", Cond.methodLink RX8 224 yX8_doesNext, Cond.instanceMethod yX8_doesNext, Cond.selects RX8 yX8_doesNext yX8_doesNext, Cond.code yX8_doesNext cX8_doesNext 3 (some .int), Cond.methodLink RX8 217 yX8_readsForm, Cond.instanceMethod yX8_readsForm, Cond.selects RX8 yX8_readsForm yX8_readsForm, Cond.code yX8_readsForm cX8_readsForm 4 (some .boolean), Cond.methodLink RX8 210 yX8_takes, Cond.instanceMethod yX8_takes, Cond.selects RX8 yX8_takes yX8_takes, Cond.code yX8_takes cX8_takes 3 (some .boolean), Cond.methodLink RX8 213 yX8_passes, Cond.instanceMethod yX8_passes]
def wsL_law_r43 : List Cond := [Cond.selects RX8 yX8_passes yX8_passes, Cond.code yX8_passes cX8_passes 3 (some .boolean), Cond.methodLink RX8 220 yX8_does, Cond.instanceMethod yX8_does, Cond.selects RX8 yX8_does yX8_does, Cond.code yX8_does cX8_does 2 (some .int), Cond.methodLink RL 142 yX7_play, Cond.instanceMethod yX7_play, Cond.selects RX7 yX7_play yX7_play, Cond.code yX7_play cX7_play 1 (some .int), Cond.methodLink RL 145 yX8_play, Cond.instanceMethod yX8_play, Cond.selects RX8 yX8_play yX8_play, Cond.code yX8_play cX8_play 2 (some .int)]
def wsL_law : List Cond := (wsL_law_r1 ++ (wsL_law_r2 ++ (wsL_law_r3 ++ (wsL_law_r4 ++ (wsL_law_r5 ++ (wsL_law_r6 ++ (wsL_law_r7 ++ (wsL_law_r8 ++ (wsL_law_r9 ++ (wsL_law_r10 ++ (wsL_law_r11 ++ (wsL_law_r12 ++ (wsL_law_r13 ++ (wsL_law_r14 ++ (wsL_law_r15 ++ (wsL_law_r16 ++ (wsL_law_r17 ++ (wsL_law_r18 ++ (wsL_law_r19 ++ (wsL_law_r20 ++ (wsL_law_r21 ++ (wsL_law_r22 ++ (wsL_law_r23 ++ (wsL_law_r24 ++ (wsL_law_r25 ++ (wsL_law_r26 ++ (wsL_law_r27 ++ (wsL_law_r28 ++ (wsL_law_r29 ++ (wsL_law_r30 ++ (wsL_law_r31 ++ (wsL_law_r32 ++ (wsL_law_r33 ++ (wsL_law_r34 ++ (wsL_law_r35 ++ (wsL_law_r36 ++ (wsL_law_r37 ++ (wsL_law_r38 ++ (wsL_law_r39 ++ (wsL_law_r40 ++ (wsL_law_r41 ++ (wsL_law_r42 ++ wsL_law_r43)))))))))))))))))))))))))))))))))))))))))) ++ wsX70 ++ wsX80 ++ wsX40 ++ wsX00 ++ wsX20 ++ wsX10 ++ wsX60 ++ wsX50 ++ wsX30 ++ ([] : List Cond)
theorem inlX0 : ∀ w ∈ wsX00, w ∈ wsL_law := fun _ h => List.mem_append_left _ (List.mem_append_left _ (List.mem_append_left _ (List.mem_append_left _ (List.mem_append_left _ (List.mem_append_left _ (List.mem_append_right _ h))))))
theorem inlX1 : ∀ w ∈ wsX10, w ∈ wsL_law := fun _ h => List.mem_append_left _ (List.mem_append_left _ (List.mem_append_left _ (List.mem_append_left _ (List.mem_append_right _ h))))
theorem inlX2 : ∀ w ∈ wsX20, w ∈ wsL_law := fun _ h => List.mem_append_left _ (List.mem_append_left _ (List.mem_append_left _ (List.mem_append_left _ (List.mem_append_left _ (List.mem_append_right _ h)))))
theorem inlX3 : ∀ w ∈ wsX30, w ∈ wsL_law := fun _ h => List.mem_append_left _ (List.mem_append_right _ h)
theorem inlX4 : ∀ w ∈ wsX40, w ∈ wsL_law := fun _ h => List.mem_append_left _ (List.mem_append_left _ (List.mem_append_left _ (List.mem_append_left _ (List.mem_append_left _ (List.mem_append_left _ (List.mem_append_left _ (List.mem_append_right _ h)))))))
theorem inlX5 : ∀ w ∈ wsX50, w ∈ wsL_law := fun _ h => List.mem_append_left _ (List.mem_append_left _ (List.mem_append_right _ h))
theorem inlX6 : ∀ w ∈ wsX60, w ∈ wsL_law := fun _ h => List.mem_append_left _ (List.mem_append_left _ (List.mem_append_left _ (List.mem_append_right _ h)))
theorem inlX7 : ∀ w ∈ wsX70, w ∈ wsL_law := fun _ h => List.mem_append_left _ (List.mem_append_left _ (List.mem_append_left _ (List.mem_append_left _ (List.mem_append_left _ (List.mem_append_left _ (List.mem_append_left _ (List.mem_append_left _ (List.mem_append_left _ (List.mem_append_right _ h)))))))))
theorem inlX8 : ∀ w ∈ wsX80, w ∈ wsL_law := fun _ h => List.mem_append_left _ (List.mem_append_left _ (List.mem_append_left _ (List.mem_append_left _ (List.mem_append_left _ (List.mem_append_left _ (List.mem_append_left _ (List.mem_append_left _ (List.mem_append_right _ h))))))))
abbrev vwCl : List vw_C := [(RX0, TX0, 2), (RX1, TX1, 11), (RX2, TX2, 5), (RX3, TX3, 15), (RX4, TX4, 6), (RX5, TX5, 3), (RX6, TX6, 6), (RX7, TX7, 10), (RX8, TX8, 11)]
/-! ===== the words of wsL_law, one name each ===== -/
theorem lwc_1 : ∀ w ∈ wsL_law_r1, w ∈ wsL_law := fun _ h => List.mem_append_left _ (List.mem_append_left _ (List.mem_append_left _ (List.mem_append_left _ (List.mem_append_left _ (List.mem_append_left _ (List.mem_append_left _ (List.mem_append_left _ (List.mem_append_left _ (List.mem_append_left _ (List.mem_append_left _ h))))))))))
theorem q0 : Cond.classLink RL 7 RX7 ∈ wsL_law := lwc_1 _ (List.mem_of_getElem? (i := 0) rfl)
theorem q1 : Cond.instantiable RX7 10 ∈ wsL_law := lwc_1 _ (List.mem_of_getElem? (i := 1) rfl)
theorem q2 : Cond.initialized RX7 ∈ wsL_law := lwc_1 _ (List.mem_of_getElem? (i := 2) rfl)
theorem q3 : Cond.classLink RL 10 RX8 ∈ wsL_law := lwc_1 _ (List.mem_of_getElem? (i := 3) rfl)
theorem q4 : Cond.instantiable RX8 11 ∈ wsL_law := lwc_1 _ (List.mem_of_getElem? (i := 4) rfl)
theorem q5 : Cond.initialized RX8 ∈ wsL_law := lwc_1 _ (List.mem_of_getElem? (i := 5) rfl)
theorem q6 : Cond.methodLink RL 9 yX7_init ∈ wsL_law := lwc_1 _ (List.mem_of_getElem? (i := 6) rfl)
theorem q7 : Cond.instanceMethod yX7_init ∈ wsL_law := lwc_1 _ (List.mem_of_getElem? (i := 7) rfl)
theorem q8 : Cond.code yX7_init cX7_init 1 none ∈ wsL_law := lwc_1 _ (List.mem_of_getElem? (i := 8) rfl)
theorem q9 : Cond.methodLink RX7 1 objectInit ∈ wsL_law := lwc_1 _ (List.mem_of_getElem? (i := 9) rfl)
theorem q10 : Cond.instanceMethod objectInit ∈ wsL_law := lwc_1 _ (List.mem_of_getElem? (i := 10) rfl)
theorem q11 : Cond.code objectInit ⟨#[0xb1]⟩ 1 none ∈ wsL_law := lwc_1 _ (List.mem_of_getElem? (i := 11) rfl)
theorem q12 : Cond.classLink RX7 7 RX4 ∈ wsL_law := lwc_1 _ (List.mem_of_getElem? (i := 12) rfl)
theorem q13 : Cond.instantiable RX4 6 ∈ wsL_law := lwc_1 _ (List.mem_of_getElem? (i := 13) rfl)
theorem q14 : Cond.initialized RX4 ∈ wsL_law := lwc_1 _ (List.mem_of_getElem? (i := 14) rfl)
theorem q15 : Cond.fieldLink RX7 10 "OhmBridge" "now" "LOhmBridge$State;" ∈ wsL_law := lwc_1 _ (List.mem_of_getElem? (i := 15) rfl)
theorem q16 : Cond.fieldLink RX7 16 "OhmBridge" "trial" "LOhmBridge$State;" ∈ wsL_law := lwc_1 _ (List.mem_of_getElem? (i := 16) rfl)
theorem q17 : Cond.classLink RX7 19 RX0 ∈ wsL_law := lwc_1 _ (List.mem_of_getElem? (i := 17) rfl)
theorem q18 : Cond.instantiable RX0 2 ∈ wsL_law := lwc_1 _ (List.mem_of_getElem? (i := 18) rfl)
theorem q19 : Cond.initialized RX0 ∈ wsL_law := lwc_1 _ (List.mem_of_getElem? (i := 19) rfl)
theorem q20 : Cond.fieldLink RX7 22 "OhmBridge" "history" "LOhmBridge$History;" ∈ wsL_law := lwc_1 _ (List.mem_of_getElem? (i := 20) rfl)
theorem q21 : Cond.classLink RX7 26 RX2 ∈ wsL_law := lwc_1 _ (List.mem_of_getElem? (i := 21) rfl)
theorem q22 : Cond.instantiable RX2 5 ∈ wsL_law := lwc_1 _ (List.mem_of_getElem? (i := 22) rfl)
theorem q23 : Cond.initialized RX2 ∈ wsL_law := lwc_1 _ (List.mem_of_getElem? (i := 23) rfl)
theorem lwc_2 : ∀ w ∈ wsL_law_r2, w ∈ wsL_law := fun _ h => List.mem_append_left _ (List.mem_append_left _ (List.mem_append_left _ (List.mem_append_left _ (List.mem_append_left _ (List.mem_append_left _ (List.mem_append_left _ (List.mem_append_left _ (List.mem_append_left _ (List.mem_append_left _ (List.mem_append_right _ (List.mem_append_left _ h)))))))))))
theorem q24 : Cond.fieldLink RX7 29 "OhmBridge" "meter" "LOhmBridge$Meter;" ∈ wsL_law := lwc_2 _ (List.mem_of_getElem? (i := 0) rfl)
theorem q25 : Cond.classLink RX7 33 RX1 ∈ wsL_law := lwc_2 _ (List.mem_of_getElem? (i := 1) rfl)
theorem q26 : Cond.instantiable RX1 11 ∈ wsL_law := lwc_2 _ (List.mem_of_getElem? (i := 2) rfl)
theorem q27 : Cond.initialized RX1 ∈ wsL_law := lwc_2 _ (List.mem_of_getElem? (i := 3) rfl)
theorem q28 : Cond.fieldLink RX7 36 "OhmBridge" "probe" "LOhmBridge$Measurement;" ∈ wsL_law := lwc_2 _ (List.mem_of_getElem? (i := 4) rfl)
theorem q29 : Cond.classLink RX7 40 RX6 ∈ wsL_law := lwc_2 _ (List.mem_of_getElem? (i := 5) rfl)
theorem q30 : Cond.instantiable RX6 6 ∈ wsL_law := lwc_2 _ (List.mem_of_getElem? (i := 6) rfl)
theorem q31 : Cond.initialized RX6 ∈ wsL_law := lwc_2 _ (List.mem_of_getElem? (i := 7) rfl)
theorem q32 : Cond.fieldLink RX7 43 "OhmBridge" "text" "LOhmBridge$Text;" ∈ wsL_law := lwc_2 _ (List.mem_of_getElem? (i := 8) rfl)
theorem q33 : Cond.arrayClass .int ∈ wsL_law := lwc_2 _ (List.mem_of_getElem? (i := 9) rfl)
theorem q34 : Cond.fieldLink RX7 47 "OhmBridge" "sorted" "[I" ∈ wsL_law := lwc_2 _ (List.mem_of_getElem? (i := 10) rfl)
theorem q35 : Cond.methodLink RX7 9 yX4_init ∈ wsL_law := lwc_2 _ (List.mem_of_getElem? (i := 11) rfl)
theorem q36 : Cond.instanceMethod yX4_init ∈ wsL_law := lwc_2 _ (List.mem_of_getElem? (i := 12) rfl)
theorem q37 : Cond.code yX4_init cX4_init 2 none ∈ wsL_law := lwc_2 _ (List.mem_of_getElem? (i := 13) rfl)
theorem q38 : Cond.methodLink RX4 3 objectInit ∈ wsL_law := lwc_2 _ (List.mem_of_getElem? (i := 14) rfl)
theorem q39 : Cond.fieldLink RX4 9 "OhmBridge$State" "scanner" "I" ∈ wsL_law := lwc_2 _ (List.mem_of_getElem? (i := 15) rfl)
theorem q40 : Cond.classLink RX4 15 RX5 ∈ wsL_law := lwc_2 _ (List.mem_of_getElem? (i := 16) rfl)
theorem q41 : Cond.fieldLink RX4 17 "OhmBridge$State" "tables" "[LOhmBridge$Table;" ∈ wsL_law := lwc_2 _ (List.mem_of_getElem? (i := 17) rfl)
theorem q42 : Cond.classLink RX4 21 RX3 ∈ wsL_law := lwc_2 _ (List.mem_of_getElem? (i := 18) rfl)
theorem q43 : Cond.fieldLink RX4 23 "OhmBridge$State" "sensors" "[LOhmBridge$Sensor;" ∈ wsL_law := lwc_2 _ (List.mem_of_getElem? (i := 19) rfl)
theorem q44 : Cond.fieldLink RX4 27 "OhmBridge$State" "settings" "[I" ∈ wsL_law := lwc_2 _ (List.mem_of_getElem? (i := 20) rfl)
theorem q45 : Cond.instantiable RX5 3 ∈ wsL_law := lwc_2 _ (List.mem_of_getElem? (i := 21) rfl)
theorem q46 : Cond.initialized RX5 ∈ wsL_law := lwc_2 _ (List.mem_of_getElem? (i := 22) rfl)
theorem q47 : Cond.instantiable RX3 15 ∈ wsL_law := lwc_2 _ (List.mem_of_getElem? (i := 23) rfl)
theorem lwc_3 : ∀ w ∈ wsL_law_r3, w ∈ wsL_law := fun _ h => List.mem_append_left _ (List.mem_append_left _ (List.mem_append_left _ (List.mem_append_left _ (List.mem_append_left _ (List.mem_append_left _ (List.mem_append_left _ (List.mem_append_left _ (List.mem_append_left _ (List.mem_append_left _ (List.mem_append_right _ (List.mem_append_right _ (List.mem_append_left _ h))))))))))))
theorem q48 : Cond.initialized RX3 ∈ wsL_law := lwc_3 _ (List.mem_of_getElem? (i := 0) rfl)
theorem q49 : Cond.methodLink RX4 36 arraycopyName ∈ wsL_law := lwc_3 _ (List.mem_of_getElem? (i := 1) rfl)
theorem q50 : Cond.native arraycopyName ∈ wsL_law := lwc_3 _ (List.mem_of_getElem? (i := 2) rfl)
theorem q51 : Cond.static arraycopyName ∈ wsL_law := lwc_3 _ (List.mem_of_getElem? (i := 3) rfl)
theorem q52 : Cond.initialized "java/lang/System" ∈ wsL_law := lwc_3 _ (List.mem_of_getElem? (i := 4) rfl)
theorem q53 : Cond.instanceMethod yX5_init ∈ wsL_law := lwc_3 _ (List.mem_of_getElem? (i := 5) rfl)
theorem q54 : Cond.code yX5_init cX5_init 1 none ∈ wsL_law := lwc_3 _ (List.mem_of_getElem? (i := 6) rfl)
theorem q55 : Cond.methodLink RX5 3 objectInit ∈ wsL_law := lwc_3 _ (List.mem_of_getElem? (i := 7) rfl)
theorem q56 : Cond.fieldLink RX5 9 "OhmBridge$Table" "temperatures" "[I" ∈ wsL_law := lwc_3 _ (List.mem_of_getElem? (i := 8) rfl)
theorem q57 : Cond.fieldLink RX5 15 "OhmBridge$Table" "ratios" "[I" ∈ wsL_law := lwc_3 _ (List.mem_of_getElem? (i := 9) rfl)
theorem q58 : Cond.instanceMethod yX3_init ∈ wsL_law := lwc_3 _ (List.mem_of_getElem? (i := 10) rfl)
theorem q59 : Cond.code yX3_init cX3_init 1 none ∈ wsL_law := lwc_3 _ (List.mem_of_getElem? (i := 11) rfl)
theorem q60 : Cond.methodLink RX3 3 objectInit ∈ wsL_law := lwc_3 _ (List.mem_of_getElem? (i := 12) rfl)
theorem q61 : Cond.fieldLink RX3 9 "OhmBridge$Sensor" "place" "I" ∈ wsL_law := lwc_3 _ (List.mem_of_getElem? (i := 13) rfl)
theorem q62 : Cond.fieldLink RX3 15 "OhmBridge$Sensor" "leads" "[I" ∈ wsL_law := lwc_3 _ (List.mem_of_getElem? (i := 14) rfl)
theorem q63 : Cond.fieldLink RX3 19 "OhmBridge$Sensor" "strains" "[I" ∈ wsL_law := lwc_3 _ (List.mem_of_getElem? (i := 15) rfl)
theorem q64 : Cond.fieldLink RX3 22 "OhmBridge$Sensor" "latest" "[I" ∈ wsL_law := lwc_3 _ (List.mem_of_getElem? (i := 16) rfl)
theorem q65 : Cond.methodLink RX7 21 yX0_init ∈ wsL_law := lwc_3 _ (List.mem_of_getElem? (i := 17) rfl)
theorem q66 : Cond.instanceMethod yX0_init ∈ wsL_law := lwc_3 _ (List.mem_of_getElem? (i := 18) rfl)
theorem q67 : Cond.code yX0_init cX0_init 2 none ∈ wsL_law := lwc_3 _ (List.mem_of_getElem? (i := 19) rfl)
theorem q68 : Cond.methodLink RX0 3 objectInit ∈ wsL_law := lwc_3 _ (List.mem_of_getElem? (i := 20) rfl)
theorem q69 : Cond.classLink RX0 9 RX4 ∈ wsL_law := lwc_3 _ (List.mem_of_getElem? (i := 21) rfl)
theorem q70 : Cond.fieldLink RX0 11 "OhmBridge$History" "kept" "[LOhmBridge$State;" ∈ wsL_law := lwc_3 _ (List.mem_of_getElem? (i := 22) rfl)
theorem q71 : Cond.methodLink RX0 17 yX4_init ∈ wsL_law := lwc_3 _ (List.mem_of_getElem? (i := 23) rfl)
theorem lwc_4 : ∀ w ∈ wsL_law_r4, w ∈ wsL_law := fun _ h => List.mem_append_left _ (List.mem_append_left _ (List.mem_append_left _ (List.mem_append_left _ (List.mem_append_left _ (List.mem_append_left _ (List.mem_append_left _ (List.mem_append_left _ (List.mem_append_left _ (List.mem_append_left _ (List.mem_append_right _ (List.mem_append_right _ (List.mem_append_right _ (List.mem_append_left _ h)))))))))))))
theorem q72 : Cond.instanceMethod yX2_init ∈ wsL_law := lwc_4 _ (List.mem_of_getElem? (i := 0) rfl)
theorem q73 : Cond.code yX2_init cX2_init 1 none ∈ wsL_law := lwc_4 _ (List.mem_of_getElem? (i := 1) rfl)
theorem q74 : Cond.methodLink RX2 3 objectInit ∈ wsL_law := lwc_4 _ (List.mem_of_getElem? (i := 2) rfl)
theorem q75 : Cond.classLink RX2 9 RX1 ∈ wsL_law := lwc_4 _ (List.mem_of_getElem? (i := 3) rfl)
theorem q76 : Cond.fieldLink RX2 12 "OhmBridge$Meter" "first" "LOhmBridge$Measurement;" ∈ wsL_law := lwc_4 _ (List.mem_of_getElem? (i := 4) rfl)
theorem q77 : Cond.fieldLink RX2 18 "OhmBridge$Meter" "second" "LOhmBridge$Measurement;" ∈ wsL_law := lwc_4 _ (List.mem_of_getElem? (i := 5) rfl)
theorem q78 : Cond.instanceMethod yX1_init ∈ wsL_law := lwc_4 _ (List.mem_of_getElem? (i := 6) rfl)
theorem q79 : Cond.code yX1_init cX1_init 1 none ∈ wsL_law := lwc_4 _ (List.mem_of_getElem? (i := 7) rfl)
theorem q80 : Cond.methodLink RX1 3 objectInit ∈ wsL_law := lwc_4 _ (List.mem_of_getElem? (i := 8) rfl)
theorem q81 : Cond.instanceMethod yX6_init ∈ wsL_law := lwc_4 _ (List.mem_of_getElem? (i := 9) rfl)
theorem q82 : Cond.code yX6_init cX6_init 1 none ∈ wsL_law := lwc_4 _ (List.mem_of_getElem? (i := 10) rfl)
theorem q83 : Cond.methodLink RX6 3 objectInit ∈ wsL_law := lwc_4 _ (List.mem_of_getElem? (i := 11) rfl)
theorem q84 : Cond.arrayClass .char ∈ wsL_law := lwc_4 _ (List.mem_of_getElem? (i := 12) rfl)
theorem q85 : Cond.fieldLink RX6 9 "OhmBridge$Text" "characters" "[C" ∈ wsL_law := lwc_4 _ (List.mem_of_getElem? (i := 13) rfl)
theorem q86 : Cond.methodLink RL 12 yX8_init ∈ wsL_law := lwc_4 _ (List.mem_of_getElem? (i := 14) rfl)
theorem q87 : Cond.instanceMethod yX8_init ∈ wsL_law := lwc_4 _ (List.mem_of_getElem? (i := 15) rfl)
theorem q88 : Cond.code yX8_init cX8_init 1 none ∈ wsL_law := lwc_4 _ (List.mem_of_getElem? (i := 16) rfl)
theorem q89 : Cond.methodLink RX8 1 objectInit ∈ wsL_law := lwc_4 _ (List.mem_of_getElem? (i := 17) rfl)
theorem q90 : Cond.fieldLink RX8 7 "OhmBridgeModel" "s" "[I" ∈ wsL_law := lwc_4 _ (List.mem_of_getElem? (i := 18) rfl)
theorem q91 : Cond.fieldLink RX8 13 "OhmBridgeModel" "was" "[I" ∈ wsL_law := lwc_4 _ (List.mem_of_getElem? (i := 19) rfl)
theorem q92 : Cond.fieldLink RX8 16 "OhmBridgeModel" "aside" "[I" ∈ wsL_law := lwc_4 _ (List.mem_of_getElem? (i := 20) rfl)
theorem q93 : Cond.fieldLink RX8 19 "OhmBridgeModel" "begun" "[I" ∈ wsL_law := lwc_4 _ (List.mem_of_getElem? (i := 21) rfl)
theorem q94 : Cond.fieldLink RX8 22 "OhmBridgeModel" "text" "[C" ∈ wsL_law := lwc_4 _ (List.mem_of_getElem? (i := 22) rfl)
theorem q95 : Cond.fieldLink RX8 26 "OhmBridgeModel" "got" "[I" ∈ wsL_law := lwc_4 _ (List.mem_of_getElem? (i := 23) rfl)
theorem lwc_5 : ∀ w ∈ wsL_law_r5, w ∈ wsL_law := fun _ h => List.mem_append_left _ (List.mem_append_left _ (List.mem_append_left _ (List.mem_append_left _ (List.mem_append_left _ (List.mem_append_left _ (List.mem_append_left _ (List.mem_append_left _ (List.mem_append_left _ (List.mem_append_left _ (List.mem_append_right _ (List.mem_append_right _ (List.mem_append_right _ (List.mem_append_right _ (List.mem_append_left _ h))))))))))))))
theorem q96 : Cond.fieldLink RX8 29 "OhmBridgeModel" "sorted" "[I" ∈ wsL_law := lwc_5 _ (List.mem_of_getElem? (i := 0) rfl)
theorem q97 : Cond.constant RX8 32 (100000) ∈ wsL_law := lwc_5 _ (List.mem_of_getElem? (i := 1) rfl)
theorem q98 : Cond.methodLink RL 13 yX7_table ∈ wsL_law := lwc_5 _ (List.mem_of_getElem? (i := 2) rfl)
theorem q99 : Cond.instanceMethod yX7_table ∈ wsL_law := lwc_5 _ (List.mem_of_getElem? (i := 3) rfl)
theorem q100 : Cond.selects RX7 yX7_table yX7_table ∈ wsL_law := lwc_5 _ (List.mem_of_getElem? (i := 4) rfl)
theorem q101 : Cond.code yX7_table cX7_table 1 (some .int) ∈ wsL_law := lwc_5 _ (List.mem_of_getElem? (i := 5) rfl)
theorem q102 : Cond.fieldLink RX7 51 "OhmBridge$State" "tableCount" "I" ∈ wsL_law := lwc_5 _ (List.mem_of_getElem? (i := 6) rfl)
theorem q103 : Cond.constant RX7 55 (-2000000003) ∈ wsL_law := lwc_5 _ (List.mem_of_getElem? (i := 7) rfl)
theorem q104 : Cond.methodLink RX7 56 yX0_record ∈ wsL_law := lwc_5 _ (List.mem_of_getElem? (i := 8) rfl)
theorem q105 : Cond.instanceMethod yX0_record ∈ wsL_law := lwc_5 _ (List.mem_of_getElem? (i := 9) rfl)
theorem q106 : Cond.selects RX0 yX0_record yX0_record ∈ wsL_law := lwc_5 _ (List.mem_of_getElem? (i := 10) rfl)
theorem q107 : Cond.code yX0_record cX0_record 2 none ∈ wsL_law := lwc_5 _ (List.mem_of_getElem? (i := 11) rfl)
theorem q108 : Cond.fieldLink RX0 18 "OhmBridge$History" "size" "I" ∈ wsL_law := lwc_5 _ (List.mem_of_getElem? (i := 12) rfl)
theorem q109 : Cond.methodLink RX0 22 yX0_dropOldest ∈ wsL_law := lwc_5 _ (List.mem_of_getElem? (i := 13) rfl)
theorem q110 : Cond.instanceMethod yX0_dropOldest ∈ wsL_law := lwc_5 _ (List.mem_of_getElem? (i := 14) rfl)
theorem q111 : Cond.selects RX0 yX0_dropOldest yX0_dropOldest ∈ wsL_law := lwc_5 _ (List.mem_of_getElem? (i := 15) rfl)
theorem q112 : Cond.code yX0_dropOldest cX0_dropOldest 3 none ∈ wsL_law := lwc_5 _ (List.mem_of_getElem? (i := 16) rfl)
theorem q113 : Cond.methodLink RX0 25 yX4_copy ∈ wsL_law := lwc_5 _ (List.mem_of_getElem? (i := 17) rfl)
theorem q114 : Cond.instanceMethod yX4_copy ∈ wsL_law := lwc_5 _ (List.mem_of_getElem? (i := 18) rfl)
theorem q115 : Cond.selects RX4 yX4_copy yX4_copy ∈ wsL_law := lwc_5 _ (List.mem_of_getElem? (i := 19) rfl)
theorem q116 : Cond.code yX4_copy cX4_copy 3 none ∈ wsL_law := lwc_5 _ (List.mem_of_getElem? (i := 20) rfl)
theorem q117 : Cond.fieldLink RX4 42 "OhmBridge$State" "tableCount" "I" ∈ wsL_law := lwc_5 _ (List.mem_of_getElem? (i := 21) rfl)
theorem q118 : Cond.fieldLink RX4 45 "OhmBridge$State" "sensorCount" "I" ∈ wsL_law := lwc_5 _ (List.mem_of_getElem? (i := 22) rfl)
theorem q119 : Cond.methodLink RX4 48 yX5_copy ∈ wsL_law := lwc_5 _ (List.mem_of_getElem? (i := 23) rfl)
theorem lwc_6 : ∀ w ∈ wsL_law_r6, w ∈ wsL_law := fun _ h => List.mem_append_left _ (List.mem_append_left _ (List.mem_append_left _ (List.mem_append_left _ (List.mem_append_left _ (List.mem_append_left _ (List.mem_append_left _ (List.mem_append_left _ (List.mem_append_left _ (List.mem_append_left _ (List.mem_append_right _ (List.mem_append_right _ (List.mem_append_right _ (List.mem_append_right _ (List.mem_append_right _ (List.mem_append_left _ h)))))))))))))))
theorem q120 : Cond.instanceMethod yX5_copy ∈ wsL_law := lwc_6 _ (List.mem_of_getElem? (i := 0) rfl)
theorem q121 : Cond.selects RX5 yX5_copy yX5_copy ∈ wsL_law := lwc_6 _ (List.mem_of_getElem? (i := 1) rfl)
theorem q122 : Cond.code yX5_copy cX5_copy 2 none ∈ wsL_law := lwc_6 _ (List.mem_of_getElem? (i := 2) rfl)
theorem q123 : Cond.fieldLink RX5 18 "OhmBridge$Table" "nodes" "I" ∈ wsL_law := lwc_6 _ (List.mem_of_getElem? (i := 3) rfl)
theorem q124 : Cond.methodLink RX5 22 arraycopyName ∈ wsL_law := lwc_6 _ (List.mem_of_getElem? (i := 4) rfl)
theorem q125 : Cond.methodLink RX4 52 yX3_copy ∈ wsL_law := lwc_6 _ (List.mem_of_getElem? (i := 5) rfl)
theorem q126 : Cond.instanceMethod yX3_copy ∈ wsL_law := lwc_6 _ (List.mem_of_getElem? (i := 6) rfl)
theorem q127 : Cond.selects RX3 yX3_copy yX3_copy ∈ wsL_law := lwc_6 _ (List.mem_of_getElem? (i := 7) rfl)
theorem q128 : Cond.code yX3_copy cX3_copy 2 none ∈ wsL_law := lwc_6 _ (List.mem_of_getElem? (i := 8) rfl)
theorem q129 : Cond.fieldLink RX3 25 "OhmBridge$Sensor" "table" "I" ∈ wsL_law := lwc_6 _ (List.mem_of_getElem? (i := 9) rfl)
theorem q130 : Cond.fieldLink RX3 28 "OhmBridge$Sensor" "wires" "I" ∈ wsL_law := lwc_6 _ (List.mem_of_getElem? (i := 10) rfl)
theorem q131 : Cond.fieldLink RX3 31 "OhmBridge$Sensor" "trueBase" "I" ∈ wsL_law := lwc_6 _ (List.mem_of_getElem? (i := 11) rfl)
theorem q132 : Cond.fieldLink RX3 34 "OhmBridge$Sensor" "assumedBase" "I" ∈ wsL_law := lwc_6 _ (List.mem_of_getElem? (i := 12) rfl)
theorem q133 : Cond.fieldLink RX3 37 "OhmBridge$Sensor" "temperature" "I" ∈ wsL_law := lwc_6 _ (List.mem_of_getElem? (i := 13) rfl)
theorem q134 : Cond.fieldLink RX3 46 "OhmBridge$Sensor" "brokenWires" "I" ∈ wsL_law := lwc_6 _ (List.mem_of_getElem? (i := 14) rfl)
theorem q135 : Cond.fieldLink RX3 49 "OhmBridge$Sensor" "low" "I" ∈ wsL_law := lwc_6 _ (List.mem_of_getElem? (i := 15) rfl)
theorem q136 : Cond.fieldLink RX3 52 "OhmBridge$Sensor" "high" "I" ∈ wsL_law := lwc_6 _ (List.mem_of_getElem? (i := 16) rfl)
theorem q137 : Cond.fieldLink RX3 55 "OhmBridge$Sensor" "hysteresis" "I" ∈ wsL_law := lwc_6 _ (List.mem_of_getElem? (i := 17) rfl)
theorem q138 : Cond.fieldLink RX3 58 "OhmBridge$Sensor" "alarm" "I" ∈ wsL_law := lwc_6 _ (List.mem_of_getElem? (i := 18) rfl)
theorem q139 : Cond.fieldLink RX3 61 "OhmBridge$Sensor" "readings" "I" ∈ wsL_law := lwc_6 _ (List.mem_of_getElem? (i := 19) rfl)
theorem q140 : Cond.methodLink RX3 64 arraycopyName ∈ wsL_law := lwc_6 _ (List.mem_of_getElem? (i := 20) rfl)
theorem q141 : Cond.methodLink RL 17 yX8_table ∈ wsL_law := lwc_6 _ (List.mem_of_getElem? (i := 21) rfl)
theorem q142 : Cond.instanceMethod yX8_table ∈ wsL_law := lwc_6 _ (List.mem_of_getElem? (i := 22) rfl)
theorem q143 : Cond.selects RX8 yX8_table yX8_table ∈ wsL_law := lwc_6 _ (List.mem_of_getElem? (i := 23) rfl)
theorem lwc_7 : ∀ w ∈ wsL_law_r7, w ∈ wsL_law := fun _ h => List.mem_append_left _ (List.mem_append_left _ (List.mem_append_left _ (List.mem_append_left _ (List.mem_append_left _ (List.mem_append_left _ (List.mem_append_left _ (List.mem_append_left _ (List.mem_append_left _ (List.mem_append_left _ (List.mem_append_right _ (List.mem_append_right _ (List.mem_append_right _ (List.mem_append_right _ (List.mem_append_right _ (List.mem_append_right _ (List.mem_append_left _ h))))))))))))))))
theorem q144 : Cond.code yX8_table cX8_table 1 (some .int) ∈ wsL_law := lwc_7 _ (List.mem_of_getElem? (i := 0) rfl)
theorem q145 : Cond.constant RX8 72 (-2000000003) ∈ wsL_law := lwc_7 _ (List.mem_of_getElem? (i := 1) rfl)
theorem q146 : Cond.methodLink RX8 73 yX8_keeps ∈ wsL_law := lwc_7 _ (List.mem_of_getElem? (i := 2) rfl)
theorem q147 : Cond.instanceMethod yX8_keeps ∈ wsL_law := lwc_7 _ (List.mem_of_getElem? (i := 3) rfl)
theorem q148 : Cond.selects RX8 yX8_keeps yX8_keeps ∈ wsL_law := lwc_7 _ (List.mem_of_getElem? (i := 4) rfl)
theorem q149 : Cond.code yX8_keeps cX8_keeps 2 none ∈ wsL_law := lwc_7 _ (List.mem_of_getElem? (i := 5) rfl)
theorem q150 : Cond.methodLink RX8 76 yX8_acted ∈ wsL_law := lwc_7 _ (List.mem_of_getElem? (i := 6) rfl)
theorem q151 : Cond.instanceMethod yX8_acted ∈ wsL_law := lwc_7 _ (List.mem_of_getElem? (i := 7) rfl)
theorem q152 : Cond.selects RX8 yX8_acted yX8_acted ∈ wsL_law := lwc_7 _ (List.mem_of_getElem? (i := 8) rfl)
theorem q153 : Cond.code yX8_acted cX8_acted 3 (some .int) ∈ wsL_law := lwc_7 _ (List.mem_of_getElem? (i := 9) rfl)
theorem q154 : Cond.constant RX8 47 (-2000000001) ∈ wsL_law := lwc_7 _ (List.mem_of_getElem? (i := 10) rfl)
theorem q155 : Cond.fieldLink RX8 48 "OhmBridgeModel" "states" "I" ∈ wsL_law := lwc_7 _ (List.mem_of_getElem? (i := 11) rfl)
theorem q156 : Cond.methodLink RL 18 yX7_node ∈ wsL_law := lwc_7 _ (List.mem_of_getElem? (i := 12) rfl)
theorem q157 : Cond.instanceMethod yX7_node ∈ wsL_law := lwc_7 _ (List.mem_of_getElem? (i := 13) rfl)
theorem q158 : Cond.selects RX7 yX7_node yX7_node ∈ wsL_law := lwc_7 _ (List.mem_of_getElem? (i := 14) rfl)
theorem q159 : Cond.code yX7_node cX7_node 5 (some .int) ∈ wsL_law := lwc_7 _ (List.mem_of_getElem? (i := 15) rfl)
theorem q160 : Cond.constantLong RX7 68 (10000000) ∈ wsL_law := lwc_7 _ (List.mem_of_getElem? (i := 16) rfl)
theorem q161 : Cond.constant RX7 74 (-2000000001) ∈ wsL_law := lwc_7 _ (List.mem_of_getElem? (i := 17) rfl)
theorem q162 : Cond.constant RX7 84 (-2000000002) ∈ wsL_law := lwc_7 _ (List.mem_of_getElem? (i := 18) rfl)
theorem q163 : Cond.fieldLink RX7 85 "OhmBridge$Table" "nodes" "I" ∈ wsL_law := lwc_7 _ (List.mem_of_getElem? (i := 19) rfl)
theorem q164 : Cond.methodLink RX7 60 yX4_tableAt ∈ wsL_law := lwc_7 _ (List.mem_of_getElem? (i := 20) rfl)
theorem q165 : Cond.instanceMethod yX4_tableAt ∈ wsL_law := lwc_7 _ (List.mem_of_getElem? (i := 21) rfl)
theorem q166 : Cond.selects RX4 yX4_tableAt yX4_tableAt ∈ wsL_law := lwc_7 _ (List.mem_of_getElem? (i := 22) rfl)
theorem q167 : Cond.code yX4_tableAt cX4_tableAt 3 (some (.object "OhmBridge$Table")) ∈ wsL_law := lwc_7 _ (List.mem_of_getElem? (i := 23) rfl)
theorem lwc_8 : ∀ w ∈ wsL_law_r8, w ∈ wsL_law := fun _ h => List.mem_append_left _ (List.mem_append_left _ (List.mem_append_left _ (List.mem_append_left _ (List.mem_append_left _ (List.mem_append_left _ (List.mem_append_left _ (List.mem_append_left _ (List.mem_append_left _ (List.mem_append_left _ (List.mem_append_right _ (List.mem_append_right _ (List.mem_append_right _ (List.mem_append_right _ (List.mem_append_right _ (List.mem_append_right _ (List.mem_append_right _ (List.mem_append_left _ h)))))))))))))))))
theorem q168 : Cond.methodLink RX7 64 yX7_isTemperature ∈ wsL_law := lwc_8 _ (List.mem_of_getElem? (i := 0) rfl)
theorem q169 : Cond.static yX7_isTemperature ∈ wsL_law := lwc_8 _ (List.mem_of_getElem? (i := 1) rfl)
theorem q170 : Cond.code yX7_isTemperature cX7_isTemperature 1 (some .boolean) ∈ wsL_law := lwc_8 _ (List.mem_of_getElem? (i := 2) rfl)
theorem q171 : Cond.constantLong RX7 432 (-200000) ∈ wsL_law := lwc_8 _ (List.mem_of_getElem? (i := 3) rfl)
theorem q172 : Cond.constantLong RX7 232 (850000) ∈ wsL_law := lwc_8 _ (List.mem_of_getElem? (i := 4) rfl)
theorem q173 : Cond.methodLink RX7 70 yX7_isWithin ∈ wsL_law := lwc_8 _ (List.mem_of_getElem? (i := 5) rfl)
theorem q174 : Cond.static yX7_isWithin ∈ wsL_law := lwc_8 _ (List.mem_of_getElem? (i := 6) rfl)
theorem q175 : Cond.code yX7_isWithin cX7_isWithin 6 (some .boolean) ∈ wsL_law := lwc_8 _ (List.mem_of_getElem? (i := 7) rfl)
theorem q176 : Cond.methodLink RX7 75 yX4_hasSensorOf ∈ wsL_law := lwc_8 _ (List.mem_of_getElem? (i := 8) rfl)
theorem q177 : Cond.instanceMethod yX4_hasSensorOf ∈ wsL_law := lwc_8 _ (List.mem_of_getElem? (i := 9) rfl)
theorem q178 : Cond.selects RX4 yX4_hasSensorOf yX4_hasSensorOf ∈ wsL_law := lwc_8 _ (List.mem_of_getElem? (i := 10) rfl)
theorem q179 : Cond.code yX4_hasSensorOf cX4_hasSensorOf 3 (some .boolean) ∈ wsL_law := lwc_8 _ (List.mem_of_getElem? (i := 11) rfl)
theorem q180 : Cond.fieldLink RX4 55 "OhmBridge$Sensor" "table" "I" ∈ wsL_law := lwc_8 _ (List.mem_of_getElem? (i := 12) rfl)
theorem q181 : Cond.methodLink RX7 78 yX5_mayGoOn ∈ wsL_law := lwc_8 _ (List.mem_of_getElem? (i := 13) rfl)
theorem q182 : Cond.instanceMethod yX5_mayGoOn ∈ wsL_law := lwc_8 _ (List.mem_of_getElem? (i := 14) rfl)
theorem q183 : Cond.selects RX5 yX5_mayGoOn yX5_mayGoOn ∈ wsL_law := lwc_8 _ (List.mem_of_getElem? (i := 15) rfl)
theorem q184 : Cond.code yX5_mayGoOn cX5_mayGoOn 3 (some .boolean) ∈ wsL_law := lwc_8 _ (List.mem_of_getElem? (i := 16) rfl)
theorem q185 : Cond.methodLink RX5 28 yX5_temperatureOf ∈ wsL_law := lwc_8 _ (List.mem_of_getElem? (i := 17) rfl)
theorem q186 : Cond.instanceMethod yX5_temperatureOf ∈ wsL_law := lwc_8 _ (List.mem_of_getElem? (i := 18) rfl)
theorem q187 : Cond.selects RX5 yX5_temperatureOf yX5_temperatureOf ∈ wsL_law := lwc_8 _ (List.mem_of_getElem? (i := 19) rfl)
theorem q188 : Cond.code yX5_temperatureOf cX5_temperatureOf 2 (some .int) ∈ wsL_law := lwc_8 _ (List.mem_of_getElem? (i := 20) rfl)
theorem q189 : Cond.methodLink RX5 32 yX5_ratioOf ∈ wsL_law := lwc_8 _ (List.mem_of_getElem? (i := 21) rfl)
theorem q190 : Cond.instanceMethod yX5_ratioOf ∈ wsL_law := lwc_8 _ (List.mem_of_getElem? (i := 22) rfl)
theorem q191 : Cond.selects RX5 yX5_ratioOf yX5_ratioOf ∈ wsL_law := lwc_8 _ (List.mem_of_getElem? (i := 23) rfl)
theorem lwc_9 : ∀ w ∈ wsL_law_r9, w ∈ wsL_law := fun _ h => List.mem_append_left _ (List.mem_append_left _ (List.mem_append_left _ (List.mem_append_left _ (List.mem_append_left _ (List.mem_append_left _ (List.mem_append_left _ (List.mem_append_left _ (List.mem_append_left _ (List.mem_append_left _ (List.mem_append_right _ (List.mem_append_right _ (List.mem_append_right _ (List.mem_append_right _ (List.mem_append_right _ (List.mem_append_right _ (List.mem_append_right _ (List.mem_append_right _ (List.mem_append_left _ h))))))))))))))))))
theorem q192 : Cond.code yX5_ratioOf cX5_ratioOf 2 (some .int) ∈ wsL_law := lwc_9 _ (List.mem_of_getElem? (i := 0) rfl)
theorem q193 : Cond.methodLink RX7 88 yX5_append ∈ wsL_law := lwc_9 _ (List.mem_of_getElem? (i := 1) rfl)
theorem q194 : Cond.instanceMethod yX5_append ∈ wsL_law := lwc_9 _ (List.mem_of_getElem? (i := 2) rfl)
theorem q195 : Cond.selects RX5 yX5_append yX5_append ∈ wsL_law := lwc_9 _ (List.mem_of_getElem? (i := 3) rfl)
theorem q196 : Cond.code yX5_append cX5_append 3 none ∈ wsL_law := lwc_9 _ (List.mem_of_getElem? (i := 4) rfl)
theorem q197 : Cond.methodLink RL 22 yX8_node ∈ wsL_law := lwc_9 _ (List.mem_of_getElem? (i := 5) rfl)
theorem q198 : Cond.instanceMethod yX8_node ∈ wsL_law := lwc_9 _ (List.mem_of_getElem? (i := 6) rfl)
theorem q199 : Cond.selects RX8 yX8_node yX8_node ∈ wsL_law := lwc_9 _ (List.mem_of_getElem? (i := 7) rfl)
theorem q200 : Cond.code yX8_node cX8_node 7 (some .int) ∈ wsL_law := lwc_9 _ (List.mem_of_getElem? (i := 8) rfl)
theorem q201 : Cond.constant RX8 85 (10000000) ∈ wsL_law := lwc_9 _ (List.mem_of_getElem? (i := 9) rfl)
theorem q202 : Cond.constant RX8 86 (-2000000002) ∈ wsL_law := lwc_9 _ (List.mem_of_getElem? (i := 10) rfl)
theorem q203 : Cond.methodLink RX8 79 yX8_isTable ∈ wsL_law := lwc_9 _ (List.mem_of_getElem? (i := 11) rfl)
theorem q204 : Cond.instanceMethod yX8_isTable ∈ wsL_law := lwc_9 _ (List.mem_of_getElem? (i := 12) rfl)
theorem q205 : Cond.selects RX8 yX8_isTable yX8_isTable ∈ wsL_law := lwc_9 _ (List.mem_of_getElem? (i := 13) rfl)
theorem q206 : Cond.code yX8_isTable cX8_isTable 2 (some .boolean) ∈ wsL_law := lwc_9 _ (List.mem_of_getElem? (i := 14) rfl)
theorem q207 : Cond.methodLink RX8 35 yX8_in ∈ wsL_law := lwc_9 _ (List.mem_of_getElem? (i := 15) rfl)
theorem q208 : Cond.static yX8_in ∈ wsL_law := lwc_9 _ (List.mem_of_getElem? (i := 16) rfl)
theorem q209 : Cond.code yX8_in cX8_in 3 (some .boolean) ∈ wsL_law := lwc_9 _ (List.mem_of_getElem? (i := 17) rfl)
theorem q210 : Cond.methodLink RX8 82 yX8_isDegree ∈ wsL_law := lwc_9 _ (List.mem_of_getElem? (i := 18) rfl)
theorem q211 : Cond.static yX8_isDegree ∈ wsL_law := lwc_9 _ (List.mem_of_getElem? (i := 19) rfl)
theorem q212 : Cond.code yX8_isDegree cX8_isDegree 1 (some .boolean) ∈ wsL_law := lwc_9 _ (List.mem_of_getElem? (i := 20) rfl)
theorem q213 : Cond.constant RX8 33 (-200000) ∈ wsL_law := lwc_9 _ (List.mem_of_getElem? (i := 21) rfl)
theorem q214 : Cond.constant RX8 34 (850000) ∈ wsL_law := lwc_9 _ (List.mem_of_getElem? (i := 22) rfl)
theorem q215 : Cond.methodLink RX8 55 yX8_nodes ∈ wsL_law := lwc_9 _ (List.mem_of_getElem? (i := 23) rfl)
theorem lwc_10 : ∀ w ∈ wsL_law_r10, w ∈ wsL_law := fun _ h => List.mem_append_left _ (List.mem_append_left _ (List.mem_append_left _ (List.mem_append_left _ (List.mem_append_left _ (List.mem_append_left _ (List.mem_append_left _ (List.mem_append_left _ (List.mem_append_left _ (List.mem_append_left _ (List.mem_append_right _ (List.mem_append_right _ (List.mem_append_right _ (List.mem_append_right _ (List.mem_append_right _ (List.mem_append_right _ (List.mem_append_right _ (List.mem_append_right _ (List.mem_append_right _ (List.mem_append_left _ h)))))))))))))))))))
theorem q216 : Cond.instanceMethod yX8_nodes ∈ wsL_law := lwc_10 _ (List.mem_of_getElem? (i := 0) rfl)
theorem q217 : Cond.selects RX8 yX8_nodes yX8_nodes ∈ wsL_law := lwc_10 _ (List.mem_of_getElem? (i := 1) rfl)
theorem q218 : Cond.code yX8_nodes cX8_nodes 2 (some .int) ∈ wsL_law := lwc_10 _ (List.mem_of_getElem? (i := 2) rfl)
theorem q219 : Cond.methodLink RX8 52 yX8_degree ∈ wsL_law := lwc_10 _ (List.mem_of_getElem? (i := 3) rfl)
theorem q220 : Cond.instanceMethod yX8_degree ∈ wsL_law := lwc_10 _ (List.mem_of_getElem? (i := 4) rfl)
theorem q221 : Cond.selects RX8 yX8_degree yX8_degree ∈ wsL_law := lwc_10 _ (List.mem_of_getElem? (i := 5) rfl)
theorem q222 : Cond.code yX8_degree cX8_degree 3 (some .int) ∈ wsL_law := lwc_10 _ (List.mem_of_getElem? (i := 6) rfl)
theorem q223 : Cond.methodLink RX8 65 yX8_ratioOf ∈ wsL_law := lwc_10 _ (List.mem_of_getElem? (i := 7) rfl)
theorem q224 : Cond.instanceMethod yX8_ratioOf ∈ wsL_law := lwc_10 _ (List.mem_of_getElem? (i := 8) rfl)
theorem q225 : Cond.selects RX8 yX8_ratioOf yX8_ratioOf ∈ wsL_law := lwc_10 _ (List.mem_of_getElem? (i := 9) rfl)
theorem q226 : Cond.code yX8_ratioOf cX8_ratioOf 3 (some .int) ∈ wsL_law := lwc_10 _ (List.mem_of_getElem? (i := 10) rfl)
theorem q227 : Cond.methodLink RX8 43 yX8_of ∈ wsL_law := lwc_10 _ (List.mem_of_getElem? (i := 11) rfl)
theorem q228 : Cond.instanceMethod yX8_of ∈ wsL_law := lwc_10 _ (List.mem_of_getElem? (i := 12) rfl)
theorem q229 : Cond.selects RX8 yX8_of yX8_of ∈ wsL_law := lwc_10 _ (List.mem_of_getElem? (i := 13) rfl)
theorem q230 : Cond.code yX8_of cX8_of 3 (some .int) ∈ wsL_law := lwc_10 _ (List.mem_of_getElem? (i := 14) rfl)
theorem q231 : Cond.methodLink RL 23 yX7_nodeAt ∈ wsL_law := lwc_10 _ (List.mem_of_getElem? (i := 15) rfl)
theorem q232 : Cond.instanceMethod yX7_nodeAt ∈ wsL_law := lwc_10 _ (List.mem_of_getElem? (i := 16) rfl)
theorem q233 : Cond.selects RX7 yX7_nodeAt yX7_nodeAt ∈ wsL_law := lwc_10 _ (List.mem_of_getElem? (i := 17) rfl)
theorem q234 : Cond.code yX7_nodeAt cX7_nodeAt 5 (some .int) ∈ wsL_law := lwc_10 _ (List.mem_of_getElem? (i := 18) rfl)
theorem q235 : Cond.constant RX7 92 (-2000000004) ∈ wsL_law := lwc_10 _ (List.mem_of_getElem? (i := 19) rfl)
theorem q236 : Cond.methodLink RX7 93 yX5_temperatureOf ∈ wsL_law := lwc_10 _ (List.mem_of_getElem? (i := 20) rfl)
theorem q237 : Cond.methodLink RX7 97 yX5_ratioOf ∈ wsL_law := lwc_10 _ (List.mem_of_getElem? (i := 21) rfl)
theorem q238 : Cond.methodLink RL 26 yX8_nodeAt ∈ wsL_law := lwc_10 _ (List.mem_of_getElem? (i := 22) rfl)
theorem q239 : Cond.instanceMethod yX8_nodeAt ∈ wsL_law := lwc_10 _ (List.mem_of_getElem? (i := 23) rfl)
theorem lwc_11 : ∀ w ∈ wsL_law_r11, w ∈ wsL_law := fun _ h => List.mem_append_left _ (List.mem_append_left _ (List.mem_append_left _ (List.mem_append_left _ (List.mem_append_left _ (List.mem_append_left _ (List.mem_append_left _ (List.mem_append_left _ (List.mem_append_left _ (List.mem_append_left _ (List.mem_append_right _ (List.mem_append_right _ (List.mem_append_right _ (List.mem_append_right _ (List.mem_append_right _ (List.mem_append_right _ (List.mem_append_right _ (List.mem_append_right _ (List.mem_append_right _ (List.mem_append_right _ (List.mem_append_left _ h))))))))))))))))))))
theorem q240 : Cond.selects RX8 yX8_nodeAt yX8_nodeAt ∈ wsL_law := lwc_11 _ (List.mem_of_getElem? (i := 0) rfl)
theorem q241 : Cond.code yX8_nodeAt cX8_nodeAt 4 (some .int) ∈ wsL_law := lwc_11 _ (List.mem_of_getElem? (i := 1) rfl)
theorem q242 : Cond.constant RX8 68 (-2000000004) ∈ wsL_law := lwc_11 _ (List.mem_of_getElem? (i := 2) rfl)
theorem q243 : Cond.methodLink RL 27 yX7_ratio ∈ wsL_law := lwc_11 _ (List.mem_of_getElem? (i := 3) rfl)
theorem q244 : Cond.instanceMethod yX7_ratio ∈ wsL_law := lwc_11 _ (List.mem_of_getElem? (i := 4) rfl)
theorem q245 : Cond.selects RX7 yX7_ratio yX7_ratio ∈ wsL_law := lwc_11 _ (List.mem_of_getElem? (i := 5) rfl)
theorem q246 : Cond.code yX7_ratio cX7_ratio 4 (some .int) ∈ wsL_law := lwc_11 _ (List.mem_of_getElem? (i := 6) rfl)
theorem q247 : Cond.methodLink RX7 100 yX5_goesTo ∈ wsL_law := lwc_11 _ (List.mem_of_getElem? (i := 7) rfl)
theorem q248 : Cond.instanceMethod yX5_goesTo ∈ wsL_law := lwc_11 _ (List.mem_of_getElem? (i := 8) rfl)
theorem q249 : Cond.selects RX5 yX5_goesTo yX5_goesTo ∈ wsL_law := lwc_11 _ (List.mem_of_getElem? (i := 9) rfl)
theorem q250 : Cond.code yX5_goesTo cX5_goesTo 2 (some .boolean) ∈ wsL_law := lwc_11 _ (List.mem_of_getElem? (i := 10) rfl)
theorem q251 : Cond.methodLink RX7 103 yX5_ratioAt ∈ wsL_law := lwc_11 _ (List.mem_of_getElem? (i := 11) rfl)
theorem q252 : Cond.instanceMethod yX5_ratioAt ∈ wsL_law := lwc_11 _ (List.mem_of_getElem? (i := 12) rfl)
theorem q253 : Cond.selects RX5 yX5_ratioAt yX5_ratioAt ∈ wsL_law := lwc_11 _ (List.mem_of_getElem? (i := 13) rfl)
theorem q254 : Cond.code yX5_ratioAt cX5_ratioAt 9 (some .int) ∈ wsL_law := lwc_11 _ (List.mem_of_getElem? (i := 14) rfl)
theorem q255 : Cond.methodLink RL 31 yX8_ratio ∈ wsL_law := lwc_11 _ (List.mem_of_getElem? (i := 15) rfl)
theorem q256 : Cond.instanceMethod yX8_ratio ∈ wsL_law := lwc_11 _ (List.mem_of_getElem? (i := 16) rfl)
theorem q257 : Cond.selects RX8 yX8_ratio yX8_ratio ∈ wsL_law := lwc_11 _ (List.mem_of_getElem? (i := 17) rfl)
theorem q258 : Cond.code yX8_ratio cX8_ratio 3 (some .int) ∈ wsL_law := lwc_11 _ (List.mem_of_getElem? (i := 18) rfl)
theorem q259 : Cond.methodLink RX8 87 yX8_goes ∈ wsL_law := lwc_11 _ (List.mem_of_getElem? (i := 19) rfl)
theorem q260 : Cond.instanceMethod yX8_goes ∈ wsL_law := lwc_11 _ (List.mem_of_getElem? (i := 20) rfl)
theorem q261 : Cond.selects RX8 yX8_goes yX8_goes ∈ wsL_law := lwc_11 _ (List.mem_of_getElem? (i := 21) rfl)
theorem q262 : Cond.code yX8_goes cX8_goes 3 (some .boolean) ∈ wsL_law := lwc_11 _ (List.mem_of_getElem? (i := 22) rfl)
theorem q263 : Cond.methodLink RX8 59 yX8_first ∈ wsL_law := lwc_11 _ (List.mem_of_getElem? (i := 23) rfl)
theorem lwc_12 : ∀ w ∈ wsL_law_r12, w ∈ wsL_law := fun _ h => List.mem_append_left _ (List.mem_append_left _ (List.mem_append_left _ (List.mem_append_left _ (List.mem_append_left _ (List.mem_append_left _ (List.mem_append_left _ (List.mem_append_left _ (List.mem_append_left _ (List.mem_append_left _ (List.mem_append_right _ (List.mem_append_right _ (List.mem_append_right _ (List.mem_append_right _ (List.mem_append_right _ (List.mem_append_right _ (List.mem_append_right _ (List.mem_append_right _ (List.mem_append_right _ (List.mem_append_right _ (List.mem_append_right _ (List.mem_append_left _ h)))))))))))))))))))))
theorem q264 : Cond.instanceMethod yX8_first ∈ wsL_law := lwc_12 _ (List.mem_of_getElem? (i := 0) rfl)
theorem q265 : Cond.selects RX8 yX8_first yX8_first ∈ wsL_law := lwc_12 _ (List.mem_of_getElem? (i := 1) rfl)
theorem q266 : Cond.code yX8_first cX8_first 2 (some .int) ∈ wsL_law := lwc_12 _ (List.mem_of_getElem? (i := 2) rfl)
theorem q267 : Cond.methodLink RX8 62 yX8_last ∈ wsL_law := lwc_12 _ (List.mem_of_getElem? (i := 3) rfl)
theorem q268 : Cond.instanceMethod yX8_last ∈ wsL_law := lwc_12 _ (List.mem_of_getElem? (i := 4) rfl)
theorem q269 : Cond.selects RX8 yX8_last yX8_last ∈ wsL_law := lwc_12 _ (List.mem_of_getElem? (i := 5) rfl)
theorem q270 : Cond.code yX8_last cX8_last 2 (some .int) ∈ wsL_law := lwc_12 _ (List.mem_of_getElem? (i := 6) rfl)
theorem q271 : Cond.methodLink RX8 69 yX8_ratioAt ∈ wsL_law := lwc_12 _ (List.mem_of_getElem? (i := 7) rfl)
theorem q272 : Cond.instanceMethod yX8_ratioAt ∈ wsL_law := lwc_12 _ (List.mem_of_getElem? (i := 8) rfl)
theorem q273 : Cond.selects RX8 yX8_ratioAt yX8_ratioAt ∈ wsL_law := lwc_12 _ (List.mem_of_getElem? (i := 9) rfl)
theorem q274 : Cond.code yX8_ratioAt cX8_ratioAt 6 (some .int) ∈ wsL_law := lwc_12 _ (List.mem_of_getElem? (i := 10) rfl)
theorem q275 : Cond.methodLink RL 32 yX7_inverse ∈ wsL_law := lwc_12 _ (List.mem_of_getElem? (i := 11) rfl)
theorem q276 : Cond.instanceMethod yX7_inverse ∈ wsL_law := lwc_12 _ (List.mem_of_getElem? (i := 12) rfl)
theorem q277 : Cond.selects RX7 yX7_inverse yX7_inverse ∈ wsL_law := lwc_12 _ (List.mem_of_getElem? (i := 13) rfl)
theorem q278 : Cond.code yX7_inverse cX7_inverse 4 (some .int) ∈ wsL_law := lwc_12 _ (List.mem_of_getElem? (i := 14) rfl)
theorem q279 : Cond.methodLink RX7 106 yX5_temperatureFor ∈ wsL_law := lwc_12 _ (List.mem_of_getElem? (i := 15) rfl)
theorem q280 : Cond.instanceMethod yX5_temperatureFor ∈ wsL_law := lwc_12 _ (List.mem_of_getElem? (i := 16) rfl)
theorem q281 : Cond.selects RX5 yX5_temperatureFor yX5_temperatureFor ∈ wsL_law := lwc_12 _ (List.mem_of_getElem? (i := 17) rfl)
theorem q282 : Cond.code yX5_temperatureFor cX5_temperatureFor 7 (some .int) ∈ wsL_law := lwc_12 _ (List.mem_of_getElem? (i := 18) rfl)
theorem q283 : Cond.constant RX5 44 (-2000000004) ∈ wsL_law := lwc_12 _ (List.mem_of_getElem? (i := 19) rfl)
theorem q284 : Cond.methodLink RX5 45 yX5_ratioAt ∈ wsL_law := lwc_12 _ (List.mem_of_getElem? (i := 20) rfl)
theorem q285 : Cond.methodLink RL 35 yX8_inverse ∈ wsL_law := lwc_12 _ (List.mem_of_getElem? (i := 21) rfl)
theorem q286 : Cond.instanceMethod yX8_inverse ∈ wsL_law := lwc_12 _ (List.mem_of_getElem? (i := 22) rfl)
theorem q287 : Cond.selects RX8 yX8_inverse yX8_inverse ∈ wsL_law := lwc_12 _ (List.mem_of_getElem? (i := 23) rfl)
theorem lwc_13 : ∀ w ∈ wsL_law_r13, w ∈ wsL_law := fun _ h => List.mem_append_left _ (List.mem_append_left _ (List.mem_append_left _ (List.mem_append_left _ (List.mem_append_left _ (List.mem_append_left _ (List.mem_append_left _ (List.mem_append_left _ (List.mem_append_left _ (List.mem_append_left _ (List.mem_append_right _ (List.mem_append_right _ (List.mem_append_right _ (List.mem_append_right _ (List.mem_append_right _ (List.mem_append_right _ (List.mem_append_right _ (List.mem_append_right _ (List.mem_append_right _ (List.mem_append_right _ (List.mem_append_right _ (List.mem_append_right _ (List.mem_append_left _ h))))))))))))))))))))))
theorem q288 : Cond.code yX8_inverse cX8_inverse 3 (some .int) ∈ wsL_law := lwc_13 _ (List.mem_of_getElem? (i := 0) rfl)
theorem q289 : Cond.methodLink RX8 91 yX8_inverseOf ∈ wsL_law := lwc_13 _ (List.mem_of_getElem? (i := 1) rfl)
theorem q290 : Cond.instanceMethod yX8_inverseOf ∈ wsL_law := lwc_13 _ (List.mem_of_getElem? (i := 2) rfl)
theorem q291 : Cond.selects RX8 yX8_inverseOf yX8_inverseOf ∈ wsL_law := lwc_13 _ (List.mem_of_getElem? (i := 3) rfl)
theorem q292 : Cond.code yX8_inverseOf cX8_inverseOf 7 (some .int) ∈ wsL_law := lwc_13 _ (List.mem_of_getElem? (i := 4) rfl)
theorem q293 : Cond.methodLink RL 36 yX7_sensor ∈ wsL_law := lwc_13 _ (List.mem_of_getElem? (i := 5) rfl)
theorem q294 : Cond.instanceMethod yX7_sensor ∈ wsL_law := lwc_13 _ (List.mem_of_getElem? (i := 6) rfl)
theorem q295 : Cond.selects RX7 yX7_sensor yX7_sensor ∈ wsL_law := lwc_13 _ (List.mem_of_getElem? (i := 7) rfl)
theorem q296 : Cond.code yX7_sensor cX7_sensor 6 (some .int) ∈ wsL_law := lwc_13 _ (List.mem_of_getElem? (i := 8) rfl)
theorem q297 : Cond.constantLong RX7 110 (2) ∈ wsL_law := lwc_13 _ (List.mem_of_getElem? (i := 9) rfl)
theorem q298 : Cond.constantLong RX7 112 (4) ∈ wsL_law := lwc_13 _ (List.mem_of_getElem? (i := 10) rfl)
theorem q299 : Cond.fieldLink RX7 118 "OhmBridge$State" "sensorCount" "I" ∈ wsL_law := lwc_13 _ (List.mem_of_getElem? (i := 11) rfl)
theorem q300 : Cond.methodLink RX7 114 yX7_isBase ∈ wsL_law := lwc_13 _ (List.mem_of_getElem? (i := 12) rfl)
theorem q301 : Cond.static yX7_isBase ∈ wsL_law := lwc_13 _ (List.mem_of_getElem? (i := 13) rfl)
theorem q302 : Cond.code yX7_isBase cX7_isBase 2 (some .boolean) ∈ wsL_law := lwc_13 _ (List.mem_of_getElem? (i := 14) rfl)
theorem q303 : Cond.constantLong RX7 434 (1000) ∈ wsL_law := lwc_13 _ (List.mem_of_getElem? (i := 15) rfl)
theorem q304 : Cond.constantLong RX7 436 (2000000) ∈ wsL_law := lwc_13 _ (List.mem_of_getElem? (i := 16) rfl)
theorem q305 : Cond.methodLink RX7 121 yX4_sensorAt ∈ wsL_law := lwc_13 _ (List.mem_of_getElem? (i := 17) rfl)
theorem q306 : Cond.instanceMethod yX4_sensorAt ∈ wsL_law := lwc_13 _ (List.mem_of_getElem? (i := 18) rfl)
theorem q307 : Cond.selects RX4 yX4_sensorAt yX4_sensorAt ∈ wsL_law := lwc_13 _ (List.mem_of_getElem? (i := 19) rfl)
theorem q308 : Cond.code yX4_sensorAt cX4_sensorAt 3 (some (.object "OhmBridge$Sensor")) ∈ wsL_law := lwc_13 _ (List.mem_of_getElem? (i := 20) rfl)
theorem q309 : Cond.methodLink RX7 125 yX5_nearest ∈ wsL_law := lwc_13 _ (List.mem_of_getElem? (i := 21) rfl)
theorem q310 : Cond.instanceMethod yX5_nearest ∈ wsL_law := lwc_13 _ (List.mem_of_getElem? (i := 22) rfl)
theorem q311 : Cond.selects RX5 yX5_nearest yX5_nearest ∈ wsL_law := lwc_13 _ (List.mem_of_getElem? (i := 23) rfl)
theorem lwc_14 : ∀ w ∈ wsL_law_r14, w ∈ wsL_law := fun _ h => List.mem_append_left _ (List.mem_append_left _ (List.mem_append_left _ (List.mem_append_left _ (List.mem_append_left _ (List.mem_append_left _ (List.mem_append_left _ (List.mem_append_left _ (List.mem_append_left _ (List.mem_append_left _ (List.mem_append_right _ (List.mem_append_right _ (List.mem_append_right _ (List.mem_append_right _ (List.mem_append_right _ (List.mem_append_right _ (List.mem_append_right _ (List.mem_append_right _ (List.mem_append_right _ (List.mem_append_right _ (List.mem_append_right _ (List.mem_append_right _ (List.mem_append_right _ (List.mem_append_left _ h)))))))))))))))))))))))
theorem q312 : Cond.code yX5_nearest cX5_nearest 2 (some .int) ∈ wsL_law := lwc_14 _ (List.mem_of_getElem? (i := 0) rfl)
theorem q313 : Cond.methodLink RX5 35 Lib.Math.max.name ∈ wsL_law := lwc_14 _ (List.mem_of_getElem? (i := 1) rfl)
theorem q314 : Cond.static Lib.Math.max.name ∈ wsL_law := lwc_14 _ (List.mem_of_getElem? (i := 2) rfl)
theorem q315 : Cond.initialized "java/lang/Math" ∈ wsL_law := lwc_14 _ (List.mem_of_getElem? (i := 3) rfl)
theorem q316 : Cond.code Lib.Math.max.name Lib.Math.max.code 2 (some .int) ∈ wsL_law := lwc_14 _ (List.mem_of_getElem? (i := 4) rfl)
theorem q317 : Cond.methodLink RX5 41 Lib.Math.min.name ∈ wsL_law := lwc_14 _ (List.mem_of_getElem? (i := 5) rfl)
theorem q318 : Cond.static Lib.Math.min.name ∈ wsL_law := lwc_14 _ (List.mem_of_getElem? (i := 6) rfl)
theorem q319 : Cond.code Lib.Math.min.name Lib.Math.min.code 2 (some .int) ∈ wsL_law := lwc_14 _ (List.mem_of_getElem? (i := 7) rfl)
theorem q320 : Cond.methodLink RX7 128 yX3_begin ∈ wsL_law := lwc_14 _ (List.mem_of_getElem? (i := 8) rfl)
theorem q321 : Cond.instanceMethod yX3_begin ∈ wsL_law := lwc_14 _ (List.mem_of_getElem? (i := 9) rfl)
theorem q322 : Cond.selects RX3 yX3_begin yX3_begin ∈ wsL_law := lwc_14 _ (List.mem_of_getElem? (i := 10) rfl)
theorem q323 : Cond.code yX3_begin cX3_begin 5 none ∈ wsL_law := lwc_14 _ (List.mem_of_getElem? (i := 11) rfl)
theorem q324 : Cond.constant RX3 40 (-200000) ∈ wsL_law := lwc_14 _ (List.mem_of_getElem? (i := 12) rfl)
theorem q325 : Cond.constant RX3 41 (850000) ∈ wsL_law := lwc_14 _ (List.mem_of_getElem? (i := 13) rfl)
theorem q326 : Cond.methodLink RX3 42 yX3_watch ∈ wsL_law := lwc_14 _ (List.mem_of_getElem? (i := 14) rfl)
theorem q327 : Cond.instanceMethod yX3_watch ∈ wsL_law := lwc_14 _ (List.mem_of_getElem? (i := 15) rfl)
theorem q328 : Cond.selects RX3 yX3_watch yX3_watch ∈ wsL_law := lwc_14 _ (List.mem_of_getElem? (i := 16) rfl)
theorem q329 : Cond.code yX3_watch cX3_watch 4 none ∈ wsL_law := lwc_14 _ (List.mem_of_getElem? (i := 17) rfl)
theorem q330 : Cond.methodLink RL 39 yX8_sensor ∈ wsL_law := lwc_14 _ (List.mem_of_getElem? (i := 18) rfl)
theorem q331 : Cond.instanceMethod yX8_sensor ∈ wsL_law := lwc_14 _ (List.mem_of_getElem? (i := 19) rfl)
theorem q332 : Cond.selects RX8 yX8_sensor yX8_sensor ∈ wsL_law := lwc_14 _ (List.mem_of_getElem? (i := 20) rfl)
theorem q333 : Cond.code yX8_sensor cX8_sensor 6 (some .int) ∈ wsL_law := lwc_14 _ (List.mem_of_getElem? (i := 21) rfl)
theorem q334 : Cond.constant RX8 95 (2000000) ∈ wsL_law := lwc_14 _ (List.mem_of_getElem? (i := 22) rfl)
theorem q335 : Cond.methodLink RX8 96 yX8_put ∈ wsL_law := lwc_14 _ (List.mem_of_getElem? (i := 23) rfl)
theorem lwc_15 : ∀ w ∈ wsL_law_r15, w ∈ wsL_law := fun _ h => List.mem_append_left _ (List.mem_append_left _ (List.mem_append_left _ (List.mem_append_left _ (List.mem_append_left _ (List.mem_append_left _ (List.mem_append_left _ (List.mem_append_left _ (List.mem_append_left _ (List.mem_append_left _ (List.mem_append_right _ (List.mem_append_right _ (List.mem_append_right _ (List.mem_append_right _ (List.mem_append_right _ (List.mem_append_right _ (List.mem_append_right _ (List.mem_append_right _ (List.mem_append_right _ (List.mem_append_right _ (List.mem_append_right _ (List.mem_append_right _ (List.mem_append_right _ (List.mem_append_right _ (List.mem_append_left _ h))))))))))))))))))))))))
theorem q336 : Cond.instanceMethod yX8_put ∈ wsL_law := lwc_15 _ (List.mem_of_getElem? (i := 0) rfl)
theorem q337 : Cond.selects RX8 yX8_put yX8_put ∈ wsL_law := lwc_15 _ (List.mem_of_getElem? (i := 1) rfl)
theorem q338 : Cond.code yX8_put cX8_put 4 none ∈ wsL_law := lwc_15 _ (List.mem_of_getElem? (i := 2) rfl)
theorem q339 : Cond.methodLink RL 40 yX7_plug ∈ wsL_law := lwc_15 _ (List.mem_of_getElem? (i := 3) rfl)
theorem q340 : Cond.instanceMethod yX7_plug ∈ wsL_law := lwc_15 _ (List.mem_of_getElem? (i := 4) rfl)
theorem q341 : Cond.selects RX7 yX7_plug yX7_plug ∈ wsL_law := lwc_15 _ (List.mem_of_getElem? (i := 5) rfl)
theorem q342 : Cond.code yX7_plug cX7_plug 6 (some .int) ∈ wsL_law := lwc_15 _ (List.mem_of_getElem? (i := 6) rfl)
theorem q343 : Cond.fieldLink RX7 147 "OhmBridge$Sensor" "place" "I" ∈ wsL_law := lwc_15 _ (List.mem_of_getElem? (i := 7) rfl)
theorem q344 : Cond.methodLink RX7 134 yX7_isSlot ∈ wsL_law := lwc_15 _ (List.mem_of_getElem? (i := 8) rfl)
theorem q345 : Cond.static yX7_isSlot ∈ wsL_law := lwc_15 _ (List.mem_of_getElem? (i := 9) rfl)
theorem q346 : Cond.code yX7_isSlot cX7_isSlot 2 (some .boolean) ∈ wsL_law := lwc_15 _ (List.mem_of_getElem? (i := 10) rfl)
theorem q347 : Cond.constantLong RX7 438 (3) ∈ wsL_law := lwc_15 _ (List.mem_of_getElem? (i := 11) rfl)
theorem q348 : Cond.methodLink RX7 137 yX3_isPlugged ∈ wsL_law := lwc_15 _ (List.mem_of_getElem? (i := 12) rfl)
theorem q349 : Cond.instanceMethod yX3_isPlugged ∈ wsL_law := lwc_15 _ (List.mem_of_getElem? (i := 13) rfl)
theorem q350 : Cond.selects RX3 yX3_isPlugged yX3_isPlugged ∈ wsL_law := lwc_15 _ (List.mem_of_getElem? (i := 14) rfl)
theorem q351 : Cond.code yX3_isPlugged cX3_isPlugged 1 (some .boolean) ∈ wsL_law := lwc_15 _ (List.mem_of_getElem? (i := 15) rfl)
theorem q352 : Cond.methodLink RX7 141 yX4_sensorIn ∈ wsL_law := lwc_15 _ (List.mem_of_getElem? (i := 16) rfl)
theorem q353 : Cond.instanceMethod yX4_sensorIn ∈ wsL_law := lwc_15 _ (List.mem_of_getElem? (i := 17) rfl)
theorem q354 : Cond.selects RX4 yX4_sensorIn yX4_sensorIn ∈ wsL_law := lwc_15 _ (List.mem_of_getElem? (i := 18) rfl)
theorem q355 : Cond.code yX4_sensorIn cX4_sensorIn 3 (some .int) ∈ wsL_law := lwc_15 _ (List.mem_of_getElem? (i := 19) rfl)
theorem q356 : Cond.fieldLink RX4 58 "OhmBridge$Sensor" "place" "I" ∈ wsL_law := lwc_15 _ (List.mem_of_getElem? (i := 20) rfl)
theorem q357 : Cond.methodLink RX7 144 yX3_fits ∈ wsL_law := lwc_15 _ (List.mem_of_getElem? (i := 21) rfl)
theorem q358 : Cond.instanceMethod yX3_fits ∈ wsL_law := lwc_15 _ (List.mem_of_getElem? (i := 22) rfl)
theorem q359 : Cond.selects RX3 yX3_fits yX3_fits ∈ wsL_law := lwc_15 _ (List.mem_of_getElem? (i := 23) rfl)
theorem lwc_16 : ∀ w ∈ wsL_law_r16, w ∈ wsL_law := fun _ h => List.mem_append_left _ (List.mem_append_left _ (List.mem_append_left _ (List.mem_append_left _ (List.mem_append_left _ (List.mem_append_left _ (List.mem_append_left _ (List.mem_append_left _ (List.mem_append_left _ (List.mem_append_left _ (List.mem_append_right _ (List.mem_append_right _ (List.mem_append_right _ (List.mem_append_right _ (List.mem_append_right _ (List.mem_append_right _ (List.mem_append_right _ (List.mem_append_right _ (List.mem_append_right _ (List.mem_append_right _ (List.mem_append_right _ (List.mem_append_right _ (List.mem_append_right _ (List.mem_append_right _ (List.mem_append_right _ (List.mem_append_left _ h)))))))))))))))))))))))))
theorem q360 : Cond.code yX3_fits cX3_fits 2 (some .boolean) ∈ wsL_law := lwc_16 _ (List.mem_of_getElem? (i := 0) rfl)
theorem q361 : Cond.methodLink RX7 150 yX4_takenSlots ∈ wsL_law := lwc_16 _ (List.mem_of_getElem? (i := 1) rfl)
theorem q362 : Cond.instanceMethod yX4_takenSlots ∈ wsL_law := lwc_16 _ (List.mem_of_getElem? (i := 2) rfl)
theorem q363 : Cond.selects RX4 yX4_takenSlots yX4_takenSlots ∈ wsL_law := lwc_16 _ (List.mem_of_getElem? (i := 3) rfl)
theorem q364 : Cond.code yX4_takenSlots cX4_takenSlots 4 (some .int) ∈ wsL_law := lwc_16 _ (List.mem_of_getElem? (i := 4) rfl)
theorem q365 : Cond.methodLink RX4 61 yX4_sensorIn ∈ wsL_law := lwc_16 _ (List.mem_of_getElem? (i := 5) rfl)
theorem q366 : Cond.methodLink RL 43 yX8_plug ∈ wsL_law := lwc_16 _ (List.mem_of_getElem? (i := 6) rfl)
theorem q367 : Cond.instanceMethod yX8_plug ∈ wsL_law := lwc_16 _ (List.mem_of_getElem? (i := 7) rfl)
theorem q368 : Cond.selects RX8 yX8_plug yX8_plug ∈ wsL_law := lwc_16 _ (List.mem_of_getElem? (i := 8) rfl)
theorem q369 : Cond.code yX8_plug cX8_plug 6 (some .int) ∈ wsL_law := lwc_16 _ (List.mem_of_getElem? (i := 9) rfl)
theorem q370 : Cond.methodLink RX8 39 yX8_isSensor ∈ wsL_law := lwc_16 _ (List.mem_of_getElem? (i := 10) rfl)
theorem q371 : Cond.instanceMethod yX8_isSensor ∈ wsL_law := lwc_16 _ (List.mem_of_getElem? (i := 11) rfl)
theorem q372 : Cond.selects RX8 yX8_isSensor yX8_isSensor ∈ wsL_law := lwc_16 _ (List.mem_of_getElem? (i := 12) rfl)
theorem q373 : Cond.code yX8_isSensor cX8_isSensor 2 (some .boolean) ∈ wsL_law := lwc_16 _ (List.mem_of_getElem? (i := 13) rfl)
theorem q374 : Cond.methodLink RX8 100 yX8_inside ∈ wsL_law := lwc_16 _ (List.mem_of_getElem? (i := 14) rfl)
theorem q375 : Cond.instanceMethod yX8_inside ∈ wsL_law := lwc_16 _ (List.mem_of_getElem? (i := 15) rfl)
theorem q376 : Cond.selects RX8 yX8_inside yX8_inside ∈ wsL_law := lwc_16 _ (List.mem_of_getElem? (i := 16) rfl)
theorem q377 : Cond.code yX8_inside cX8_inside 3 (some .int) ∈ wsL_law := lwc_16 _ (List.mem_of_getElem? (i := 17) rfl)
theorem q378 : Cond.methodLink RL 44 yX7_unplug ∈ wsL_law := lwc_16 _ (List.mem_of_getElem? (i := 18) rfl)
theorem q379 : Cond.instanceMethod yX7_unplug ∈ wsL_law := lwc_16 _ (List.mem_of_getElem? (i := 19) rfl)
theorem q380 : Cond.selects RX7 yX7_unplug yX7_unplug ∈ wsL_law := lwc_16 _ (List.mem_of_getElem? (i := 20) rfl)
theorem q381 : Cond.code yX7_unplug cX7_unplug 4 (some .int) ∈ wsL_law := lwc_16 _ (List.mem_of_getElem? (i := 21) rfl)
theorem q382 : Cond.methodLink RX7 153 yX7_toldPlace ∈ wsL_law := lwc_16 _ (List.mem_of_getElem? (i := 22) rfl)
theorem q383 : Cond.static yX7_toldPlace ∈ wsL_law := lwc_16 _ (List.mem_of_getElem? (i := 23) rfl)
theorem lwc_17 : ∀ w ∈ wsL_law_r17, w ∈ wsL_law := fun _ h => List.mem_append_left _ (List.mem_append_left _ (List.mem_append_left _ (List.mem_append_left _ (List.mem_append_left _ (List.mem_append_left _ (List.mem_append_left _ (List.mem_append_left _ (List.mem_append_left _ (List.mem_append_left _ (List.mem_append_right _ (List.mem_append_right _ (List.mem_append_right _ (List.mem_append_right _ (List.mem_append_right _ (List.mem_append_right _ (List.mem_append_right _ (List.mem_append_right _ (List.mem_append_right _ (List.mem_append_right _ (List.mem_append_right _ (List.mem_append_right _ (List.mem_append_right _ (List.mem_append_right _ (List.mem_append_right _ (List.mem_append_right _ (List.mem_append_left _ h))))))))))))))))))))))))))
theorem q384 : Cond.code yX7_toldPlace cX7_toldPlace 1 (some .int) ∈ wsL_law := lwc_17 _ (List.mem_of_getElem? (i := 0) rfl)
theorem q385 : Cond.methodLink RL 48 yX8_unplug ∈ wsL_law := lwc_17 _ (List.mem_of_getElem? (i := 1) rfl)
theorem q386 : Cond.instanceMethod yX8_unplug ∈ wsL_law := lwc_17 _ (List.mem_of_getElem? (i := 2) rfl)
theorem q387 : Cond.selects RX8 yX8_unplug yX8_unplug ∈ wsL_law := lwc_17 _ (List.mem_of_getElem? (i := 3) rfl)
theorem q388 : Cond.code yX8_unplug cX8_unplug 3 (some .int) ∈ wsL_law := lwc_17 _ (List.mem_of_getElem? (i := 4) rfl)
theorem q389 : Cond.methodLink RL 49 yX7_slotAt ∈ wsL_law := lwc_17 _ (List.mem_of_getElem? (i := 5) rfl)
theorem q390 : Cond.instanceMethod yX7_slotAt ∈ wsL_law := lwc_17 _ (List.mem_of_getElem? (i := 6) rfl)
theorem q391 : Cond.selects RX7 yX7_slotAt yX7_slotAt ∈ wsL_law := lwc_17 _ (List.mem_of_getElem? (i := 7) rfl)
theorem q392 : Cond.code yX7_slotAt cX7_slotAt 4 (some .int) ∈ wsL_law := lwc_17 _ (List.mem_of_getElem? (i := 8) rfl)
theorem q393 : Cond.methodLink RL 52 yX8_slotAt ∈ wsL_law := lwc_17 _ (List.mem_of_getElem? (i := 9) rfl)
theorem q394 : Cond.instanceMethod yX8_slotAt ∈ wsL_law := lwc_17 _ (List.mem_of_getElem? (i := 10) rfl)
theorem q395 : Cond.selects RX8 yX8_slotAt yX8_slotAt ∈ wsL_law := lwc_17 _ (List.mem_of_getElem? (i := 11) rfl)
theorem q396 : Cond.code yX8_slotAt cX8_slotAt 4 (some .int) ∈ wsL_law := lwc_17 _ (List.mem_of_getElem? (i := 12) rfl)
theorem q397 : Cond.methodLink RL 53 yX7_bath ∈ wsL_law := lwc_17 _ (List.mem_of_getElem? (i := 13) rfl)
theorem q398 : Cond.instanceMethod yX7_bath ∈ wsL_law := lwc_17 _ (List.mem_of_getElem? (i := 14) rfl)
theorem q399 : Cond.selects RX7 yX7_bath yX7_bath ∈ wsL_law := lwc_17 _ (List.mem_of_getElem? (i := 15) rfl)
theorem q400 : Cond.code yX7_bath cX7_bath 5 (some .int) ∈ wsL_law := lwc_17 _ (List.mem_of_getElem? (i := 16) rfl)
theorem q401 : Cond.fieldLink RX7 160 "OhmBridge$Sensor" "temperature" "I" ∈ wsL_law := lwc_17 _ (List.mem_of_getElem? (i := 17) rfl)
theorem q402 : Cond.methodLink RX7 156 yX4_canBring ∈ wsL_law := lwc_17 _ (List.mem_of_getElem? (i := 18) rfl)
theorem q403 : Cond.instanceMethod yX4_canBring ∈ wsL_law := lwc_17 _ (List.mem_of_getElem? (i := 19) rfl)
theorem q404 : Cond.selects RX4 yX4_canBring yX4_canBring ∈ wsL_law := lwc_17 _ (List.mem_of_getElem? (i := 20) rfl)
theorem q405 : Cond.code yX4_canBring cX4_canBring 4 (some .boolean) ∈ wsL_law := lwc_17 _ (List.mem_of_getElem? (i := 21) rfl)
theorem q406 : Cond.methodLink RX4 74 yX4_tableAt ∈ wsL_law := lwc_17 _ (List.mem_of_getElem? (i := 22) rfl)
theorem q407 : Cond.methodLink RX4 78 yX5_goesTo ∈ wsL_law := lwc_17 _ (List.mem_of_getElem? (i := 23) rfl)
theorem lwc_18 : ∀ w ∈ wsL_law_r18, w ∈ wsL_law := fun _ h => List.mem_append_left _ (List.mem_append_left _ (List.mem_append_left _ (List.mem_append_left _ (List.mem_append_left _ (List.mem_append_left _ (List.mem_append_left _ (List.mem_append_left _ (List.mem_append_left _ (List.mem_append_left _ (List.mem_append_right _ (List.mem_append_right _ (List.mem_append_right _ (List.mem_append_right _ (List.mem_append_right _ (List.mem_append_right _ (List.mem_append_right _ (List.mem_append_right _ (List.mem_append_right _ (List.mem_append_right _ (List.mem_append_right _ (List.mem_append_right _ (List.mem_append_right _ (List.mem_append_right _ (List.mem_append_right _ (List.mem_append_right _ (List.mem_append_right _ (List.mem_append_left _ h)))))))))))))))))))))))))))
theorem q408 : Cond.methodLink RL 56 yX8_bath ∈ wsL_law := lwc_18 _ (List.mem_of_getElem? (i := 0) rfl)
theorem q409 : Cond.instanceMethod yX8_bath ∈ wsL_law := lwc_18 _ (List.mem_of_getElem? (i := 1) rfl)
theorem q410 : Cond.selects RX8 yX8_bath yX8_bath ∈ wsL_law := lwc_18 _ (List.mem_of_getElem? (i := 2) rfl)
theorem q411 : Cond.code yX8_bath cX8_bath 3 (some .int) ∈ wsL_law := lwc_18 _ (List.mem_of_getElem? (i := 3) rfl)
theorem q412 : Cond.methodLink RX8 103 yX8_baths ∈ wsL_law := lwc_18 _ (List.mem_of_getElem? (i := 4) rfl)
theorem q413 : Cond.instanceMethod yX8_baths ∈ wsL_law := lwc_18 _ (List.mem_of_getElem? (i := 5) rfl)
theorem q414 : Cond.selects RX8 yX8_baths yX8_baths ∈ wsL_law := lwc_18 _ (List.mem_of_getElem? (i := 6) rfl)
theorem q415 : Cond.code yX8_baths cX8_baths 4 (some .int) ∈ wsL_law := lwc_18 _ (List.mem_of_getElem? (i := 7) rfl)
theorem q416 : Cond.methodLink RL 57 yX7_lead ∈ wsL_law := lwc_18 _ (List.mem_of_getElem? (i := 8) rfl)
theorem q417 : Cond.instanceMethod yX7_lead ∈ wsL_law := lwc_18 _ (List.mem_of_getElem? (i := 9) rfl)
theorem q418 : Cond.selects RX7 yX7_lead yX7_lead ∈ wsL_law := lwc_18 _ (List.mem_of_getElem? (i := 10) rfl)
theorem q419 : Cond.code yX7_lead cX7_lead 6 (some .int) ∈ wsL_law := lwc_18 _ (List.mem_of_getElem? (i := 11) rfl)
theorem q420 : Cond.constantLong RX7 166 (50000) ∈ wsL_law := lwc_18 _ (List.mem_of_getElem? (i := 12) rfl)
theorem q421 : Cond.methodLink RX7 163 yX3_hasWire ∈ wsL_law := lwc_18 _ (List.mem_of_getElem? (i := 13) rfl)
theorem q422 : Cond.instanceMethod yX3_hasWire ∈ wsL_law := lwc_18 _ (List.mem_of_getElem? (i := 14) rfl)
theorem q423 : Cond.selects RX3 yX3_hasWire yX3_hasWire ∈ wsL_law := lwc_18 _ (List.mem_of_getElem? (i := 15) rfl)
theorem q424 : Cond.code yX3_hasWire cX3_hasWire 2 (some .boolean) ∈ wsL_law := lwc_18 _ (List.mem_of_getElem? (i := 16) rfl)
theorem q425 : Cond.methodLink RX7 168 yX3_leadOf ∈ wsL_law := lwc_18 _ (List.mem_of_getElem? (i := 17) rfl)
theorem q426 : Cond.instanceMethod yX3_leadOf ∈ wsL_law := lwc_18 _ (List.mem_of_getElem? (i := 18) rfl)
theorem q427 : Cond.selects RX3 yX3_leadOf yX3_leadOf ∈ wsL_law := lwc_18 _ (List.mem_of_getElem? (i := 19) rfl)
theorem q428 : Cond.code yX3_leadOf cX3_leadOf 2 (some .int) ∈ wsL_law := lwc_18 _ (List.mem_of_getElem? (i := 20) rfl)
theorem q429 : Cond.methodLink RX7 171 yX3_setLead ∈ wsL_law := lwc_18 _ (List.mem_of_getElem? (i := 21) rfl)
theorem q430 : Cond.instanceMethod yX3_setLead ∈ wsL_law := lwc_18 _ (List.mem_of_getElem? (i := 22) rfl)
theorem q431 : Cond.selects RX3 yX3_setLead yX3_setLead ∈ wsL_law := lwc_18 _ (List.mem_of_getElem? (i := 23) rfl)
theorem lwc_19 : ∀ w ∈ wsL_law_r19, w ∈ wsL_law := fun _ h => List.mem_append_left _ (List.mem_append_left _ (List.mem_append_left _ (List.mem_append_left _ (List.mem_append_left _ (List.mem_append_left _ (List.mem_append_left _ (List.mem_append_left _ (List.mem_append_left _ (List.mem_append_left _ (List.mem_append_right _ (List.mem_append_right _ (List.mem_append_right _ (List.mem_append_right _ (List.mem_append_right _ (List.mem_append_right _ (List.mem_append_right _ (List.mem_append_right _ (List.mem_append_right _ (List.mem_append_right _ (List.mem_append_right _ (List.mem_append_right _ (List.mem_append_right _ (List.mem_append_right _ (List.mem_append_right _ (List.mem_append_right _ (List.mem_append_right _ (List.mem_append_right _ (List.mem_append_left _ h))))))))))))))))))))))))))))
theorem q432 : Cond.code yX3_setLead cX3_setLead 3 none ∈ wsL_law := lwc_19 _ (List.mem_of_getElem? (i := 0) rfl)
theorem q433 : Cond.methodLink RL 60 yX8_lead ∈ wsL_law := lwc_19 _ (List.mem_of_getElem? (i := 1) rfl)
theorem q434 : Cond.instanceMethod yX8_lead ∈ wsL_law := lwc_19 _ (List.mem_of_getElem? (i := 2) rfl)
theorem q435 : Cond.selects RX8 yX8_lead yX8_lead ∈ wsL_law := lwc_19 _ (List.mem_of_getElem? (i := 3) rfl)
theorem q436 : Cond.code yX8_lead cX8_lead 5 (some .int) ∈ wsL_law := lwc_19 _ (List.mem_of_getElem? (i := 4) rfl)
theorem q437 : Cond.constant RX8 109 (50000) ∈ wsL_law := lwc_19 _ (List.mem_of_getElem? (i := 5) rfl)
theorem q438 : Cond.methodLink RX8 106 yX8_isWire ∈ wsL_law := lwc_19 _ (List.mem_of_getElem? (i := 6) rfl)
theorem q439 : Cond.instanceMethod yX8_isWire ∈ wsL_law := lwc_19 _ (List.mem_of_getElem? (i := 7) rfl)
theorem q440 : Cond.selects RX8 yX8_isWire yX8_isWire ∈ wsL_law := lwc_19 _ (List.mem_of_getElem? (i := 8) rfl)
theorem q441 : Cond.code yX8_isWire cX8_isWire 3 (some .boolean) ∈ wsL_law := lwc_19 _ (List.mem_of_getElem? (i := 9) rfl)
theorem q442 : Cond.methodLink RL 61 yX7_strain ∈ wsL_law := lwc_19 _ (List.mem_of_getElem? (i := 10) rfl)
theorem q443 : Cond.instanceMethod yX7_strain ∈ wsL_law := lwc_19 _ (List.mem_of_getElem? (i := 11) rfl)
theorem q444 : Cond.selects RX7 yX7_strain yX7_strain ∈ wsL_law := lwc_19 _ (List.mem_of_getElem? (i := 12) rfl)
theorem q445 : Cond.code yX7_strain cX7_strain 6 (some .int) ∈ wsL_law := lwc_19 _ (List.mem_of_getElem? (i := 13) rfl)
theorem q446 : Cond.fieldLink RX7 174 "OhmBridge" "LEAST_STRAIN" "[I" ∈ wsL_law := lwc_19 _ (List.mem_of_getElem? (i := 14) rfl)
theorem q447 : Cond.fieldLink RX7 177 "OhmBridge" "GREATEST_STRAIN" "[I" ∈ wsL_law := lwc_19 _ (List.mem_of_getElem? (i := 15) rfl)
theorem q448 : Cond.methodLink RX7 180 yX7_isInRow ∈ wsL_law := lwc_19 _ (List.mem_of_getElem? (i := 16) rfl)
theorem q449 : Cond.static yX7_isInRow ∈ wsL_law := lwc_19 _ (List.mem_of_getElem? (i := 17) rfl)
theorem q450 : Cond.code yX7_isInRow cX7_isInRow 4 (some .boolean) ∈ wsL_law := lwc_19 _ (List.mem_of_getElem? (i := 18) rfl)
theorem q451 : Cond.methodLink RX7 184 yX3_strainOf ∈ wsL_law := lwc_19 _ (List.mem_of_getElem? (i := 19) rfl)
theorem q452 : Cond.instanceMethod yX3_strainOf ∈ wsL_law := lwc_19 _ (List.mem_of_getElem? (i := 20) rfl)
theorem q453 : Cond.selects RX3 yX3_strainOf yX3_strainOf ∈ wsL_law := lwc_19 _ (List.mem_of_getElem? (i := 21) rfl)
theorem q454 : Cond.code yX3_strainOf cX3_strainOf 2 (some .int) ∈ wsL_law := lwc_19 _ (List.mem_of_getElem? (i := 22) rfl)
theorem q455 : Cond.methodLink RX7 187 yX3_setStrain ∈ wsL_law := lwc_19 _ (List.mem_of_getElem? (i := 23) rfl)
theorem lwc_20 : ∀ w ∈ wsL_law_r20, w ∈ wsL_law := fun _ h => List.mem_append_left _ (List.mem_append_left _ (List.mem_append_left _ (List.mem_append_left _ (List.mem_append_left _ (List.mem_append_left _ (List.mem_append_left _ (List.mem_append_left _ (List.mem_append_left _ (List.mem_append_left _ (List.mem_append_right _ (List.mem_append_right _ (List.mem_append_right _ (List.mem_append_right _ (List.mem_append_right _ (List.mem_append_right _ (List.mem_append_right _ (List.mem_append_right _ (List.mem_append_right _ (List.mem_append_right _ (List.mem_append_right _ (List.mem_append_right _ (List.mem_append_right _ (List.mem_append_right _ (List.mem_append_right _ (List.mem_append_right _ (List.mem_append_right _ (List.mem_append_right _ (List.mem_append_right _ (List.mem_append_left _ h)))))))))))))))))))))))))))))
theorem q456 : Cond.instanceMethod yX3_setStrain ∈ wsL_law := lwc_20 _ (List.mem_of_getElem? (i := 0) rfl)
theorem q457 : Cond.selects RX3 yX3_setStrain yX3_setStrain ∈ wsL_law := lwc_20 _ (List.mem_of_getElem? (i := 1) rfl)
theorem q458 : Cond.code yX3_setStrain cX3_setStrain 3 none ∈ wsL_law := lwc_20 _ (List.mem_of_getElem? (i := 2) rfl)
theorem q459 : Cond.methodLink RL 64 yX8_strain ∈ wsL_law := lwc_20 _ (List.mem_of_getElem? (i := 3) rfl)
theorem q460 : Cond.instanceMethod yX8_strain ∈ wsL_law := lwc_20 _ (List.mem_of_getElem? (i := 4) rfl)
theorem q461 : Cond.selects RX8 yX8_strain yX8_strain ∈ wsL_law := lwc_20 _ (List.mem_of_getElem? (i := 5) rfl)
theorem q462 : Cond.code yX8_strain cX8_strain 5 (some .int) ∈ wsL_law := lwc_20 _ (List.mem_of_getElem? (i := 6) rfl)
theorem q463 : Cond.constant RX8 110 (-100000) ∈ wsL_law := lwc_20 _ (List.mem_of_getElem? (i := 7) rfl)
theorem q464 : Cond.methodLink RL 65 yX7_cut ∈ wsL_law := lwc_20 _ (List.mem_of_getElem? (i := 8) rfl)
theorem q465 : Cond.instanceMethod yX7_cut ∈ wsL_law := lwc_20 _ (List.mem_of_getElem? (i := 9) rfl)
theorem q466 : Cond.selects RX7 yX7_cut yX7_cut ∈ wsL_law := lwc_20 _ (List.mem_of_getElem? (i := 10) rfl)
theorem q467 : Cond.code yX7_cut cX7_cut 5 (some .int) ∈ wsL_law := lwc_20 _ (List.mem_of_getElem? (i := 11) rfl)
theorem q468 : Cond.fieldLink RX7 197 "OhmBridge$Sensor" "brokenWires" "I" ∈ wsL_law := lwc_20 _ (List.mem_of_getElem? (i := 12) rfl)
theorem q469 : Cond.methodLink RX7 190 yX3_isBroken ∈ wsL_law := lwc_20 _ (List.mem_of_getElem? (i := 13) rfl)
theorem q470 : Cond.instanceMethod yX3_isBroken ∈ wsL_law := lwc_20 _ (List.mem_of_getElem? (i := 14) rfl)
theorem q471 : Cond.selects RX3 yX3_isBroken yX3_isBroken ∈ wsL_law := lwc_20 _ (List.mem_of_getElem? (i := 15) rfl)
theorem q472 : Cond.code yX3_isBroken cX3_isBroken 2 (some .boolean) ∈ wsL_law := lwc_20 _ (List.mem_of_getElem? (i := 16) rfl)
theorem q473 : Cond.methodLink RX7 193 yX3_turnWire ∈ wsL_law := lwc_20 _ (List.mem_of_getElem? (i := 17) rfl)
theorem q474 : Cond.instanceMethod yX3_turnWire ∈ wsL_law := lwc_20 _ (List.mem_of_getElem? (i := 18) rfl)
theorem q475 : Cond.selects RX3 yX3_turnWire yX3_turnWire ∈ wsL_law := lwc_20 _ (List.mem_of_getElem? (i := 19) rfl)
theorem q476 : Cond.code yX3_turnWire cX3_turnWire 2 none ∈ wsL_law := lwc_20 _ (List.mem_of_getElem? (i := 20) rfl)
theorem q477 : Cond.methodLink RX7 200 yJ6_bitCount_0f7a4 ∈ wsL_law := lwc_20 _ (List.mem_of_getElem? (i := 21) rfl)
theorem q478 : Cond.static yJ6_bitCount_0f7a4 ∈ wsL_law := lwc_20 _ (List.mem_of_getElem? (i := 22) rfl)
theorem q479 : Cond.initialized RJ6 ∈ wsL_law := lwc_20 _ (List.mem_of_getElem? (i := 23) rfl)
theorem lwc_21 : ∀ w ∈ wsL_law_r21, w ∈ wsL_law := fun _ h => List.mem_append_left _ (List.mem_append_left _ (List.mem_append_left _ (List.mem_append_left _ (List.mem_append_left _ (List.mem_append_left _ (List.mem_append_left _ (List.mem_append_left _ (List.mem_append_left _ (List.mem_append_left _ (List.mem_append_right _ (List.mem_append_right _ (List.mem_append_right _ (List.mem_append_right _ (List.mem_append_right _ (List.mem_append_right _ (List.mem_append_right _ (List.mem_append_right _ (List.mem_append_right _ (List.mem_append_right _ (List.mem_append_right _ (List.mem_append_right _ (List.mem_append_right _ (List.mem_append_right _ (List.mem_append_right _ (List.mem_append_right _ (List.mem_append_right _ (List.mem_append_right _ (List.mem_append_right _ (List.mem_append_right _ (List.mem_append_left _ h))))))))))))))))))))))))))))))
theorem q480 : Cond.code yJ6_bitCount_0f7a4 cJ6_bitCount_0f7a4 1 (some .int) ∈ wsL_law := lwc_21 _ (List.mem_of_getElem? (i := 0) rfl)
theorem q481 : Cond.constant RJ6 265 (1431655765) ∈ wsL_law := lwc_21 _ (List.mem_of_getElem? (i := 1) rfl)
theorem q482 : Cond.constant RJ6 266 (858993459) ∈ wsL_law := lwc_21 _ (List.mem_of_getElem? (i := 2) rfl)
theorem q483 : Cond.constant RJ6 267 (252645135) ∈ wsL_law := lwc_21 _ (List.mem_of_getElem? (i := 3) rfl)
theorem q484 : Cond.methodLink RL 68 yX8_cut ∈ wsL_law := lwc_21 _ (List.mem_of_getElem? (i := 4) rfl)
theorem q485 : Cond.instanceMethod yX8_cut ∈ wsL_law := lwc_21 _ (List.mem_of_getElem? (i := 5) rfl)
theorem q486 : Cond.selects RX8 yX8_cut yX8_cut ∈ wsL_law := lwc_21 _ (List.mem_of_getElem? (i := 6) rfl)
theorem q487 : Cond.code yX8_cut cX8_cut 4 (some .int) ∈ wsL_law := lwc_21 _ (List.mem_of_getElem? (i := 7) rfl)
theorem q488 : Cond.methodLink RX8 114 yX8_cuts ∈ wsL_law := lwc_21 _ (List.mem_of_getElem? (i := 8) rfl)
theorem q489 : Cond.instanceMethod yX8_cuts ∈ wsL_law := lwc_21 _ (List.mem_of_getElem? (i := 9) rfl)
theorem q490 : Cond.selects RX8 yX8_cuts yX8_cuts ∈ wsL_law := lwc_21 _ (List.mem_of_getElem? (i := 10) rfl)
theorem q491 : Cond.code yX8_cuts cX8_cuts 4 (some .int) ∈ wsL_law := lwc_21 _ (List.mem_of_getElem? (i := 11) rfl)
theorem q492 : Cond.methodLink RX8 111 yX8_bits ∈ wsL_law := lwc_21 _ (List.mem_of_getElem? (i := 12) rfl)
theorem q493 : Cond.static yX8_bits ∈ wsL_law := lwc_21 _ (List.mem_of_getElem? (i := 13) rfl)
theorem q494 : Cond.code yX8_bits cX8_bits 1 (some .int) ∈ wsL_law := lwc_21 _ (List.mem_of_getElem? (i := 14) rfl)
theorem q495 : Cond.methodLink RL 69 yX7_drift ∈ wsL_law := lwc_21 _ (List.mem_of_getElem? (i := 15) rfl)
theorem q496 : Cond.instanceMethod yX7_drift ∈ wsL_law := lwc_21 _ (List.mem_of_getElem? (i := 16) rfl)
theorem q497 : Cond.selects RX7 yX7_drift yX7_drift ∈ wsL_law := lwc_21 _ (List.mem_of_getElem? (i := 17) rfl)
theorem q498 : Cond.code yX7_drift cX7_drift 6 (some .int) ∈ wsL_law := lwc_21 _ (List.mem_of_getElem? (i := 18) rfl)
theorem q499 : Cond.constantLong RX7 205 (-100000) ∈ wsL_law := lwc_21 _ (List.mem_of_getElem? (i := 19) rfl)
theorem q500 : Cond.constantLong RX7 207 (100000) ∈ wsL_law := lwc_21 _ (List.mem_of_getElem? (i := 20) rfl)
theorem q501 : Cond.fieldLink RX7 209 "OhmBridge$Sensor" "trueBase" "I" ∈ wsL_law := lwc_21 _ (List.mem_of_getElem? (i := 21) rfl)
theorem q502 : Cond.constantLong RX7 212 (1000000) ∈ wsL_law := lwc_21 _ (List.mem_of_getElem? (i := 22) rfl)
theorem q503 : Cond.methodLink RL 72 yX8_drift ∈ wsL_law := lwc_21 _ (List.mem_of_getElem? (i := 23) rfl)
theorem lwc_22 : ∀ w ∈ wsL_law_r22, w ∈ wsL_law := fun _ h => List.mem_append_left _ (List.mem_append_left _ (List.mem_append_left _ (List.mem_append_left _ (List.mem_append_left _ (List.mem_append_left _ (List.mem_append_left _ (List.mem_append_left _ (List.mem_append_left _ (List.mem_append_left _ (List.mem_append_right _ (List.mem_append_right _ (List.mem_append_right _ (List.mem_append_right _ (List.mem_append_right _ (List.mem_append_right _ (List.mem_append_right _ (List.mem_append_right _ (List.mem_append_right _ (List.mem_append_right _ (List.mem_append_right _ (List.mem_append_right _ (List.mem_append_right _ (List.mem_append_right _ (List.mem_append_right _ (List.mem_append_right _ (List.mem_append_right _ (List.mem_append_right _ (List.mem_append_right _ (List.mem_append_right _ (List.mem_append_right _ (List.mem_append_left _ h)))))))))))))))))))))))))))))))
theorem q504 : Cond.instanceMethod yX8_drift ∈ wsL_law := lwc_22 _ (List.mem_of_getElem? (i := 0) rfl)
theorem q505 : Cond.selects RX8 yX8_drift yX8_drift ∈ wsL_law := lwc_22 _ (List.mem_of_getElem? (i := 1) rfl)
theorem q506 : Cond.code yX8_drift cX8_drift 5 (some .int) ∈ wsL_law := lwc_22 _ (List.mem_of_getElem? (i := 2) rfl)
theorem q507 : Cond.constantLong RX8 122 (1000000) ∈ wsL_law := lwc_22 _ (List.mem_of_getElem? (i := 3) rfl)
theorem q508 : Cond.methodLink RX8 124 yX8_isBase ∈ wsL_law := lwc_22 _ (List.mem_of_getElem? (i := 4) rfl)
theorem q509 : Cond.static yX8_isBase ∈ wsL_law := lwc_22 _ (List.mem_of_getElem? (i := 5) rfl)
theorem q510 : Cond.code yX8_isBase cX8_isBase 2 (some .boolean) ∈ wsL_law := lwc_22 _ (List.mem_of_getElem? (i := 6) rfl)
theorem q511 : Cond.constantLong RX8 118 (1000) ∈ wsL_law := lwc_22 _ (List.mem_of_getElem? (i := 7) rfl)
theorem q512 : Cond.constantLong RX8 120 (2000000) ∈ wsL_law := lwc_22 _ (List.mem_of_getElem? (i := 8) rfl)
theorem q513 : Cond.methodLink RL 73 yX7_calibrate ∈ wsL_law := lwc_22 _ (List.mem_of_getElem? (i := 9) rfl)
theorem q514 : Cond.instanceMethod yX7_calibrate ∈ wsL_law := lwc_22 _ (List.mem_of_getElem? (i := 10) rfl)
theorem q515 : Cond.selects RX7 yX7_calibrate yX7_calibrate ∈ wsL_law := lwc_22 _ (List.mem_of_getElem? (i := 11) rfl)
theorem q516 : Cond.code yX7_calibrate cX7_calibrate 7 (some .int) ∈ wsL_law := lwc_22 _ (List.mem_of_getElem? (i := 12) rfl)
theorem q517 : Cond.fieldLink RX7 218 "OhmBridge$Meter" "diagnosed" "I" ∈ wsL_law := lwc_22 _ (List.mem_of_getElem? (i := 13) rfl)
theorem q518 : Cond.fieldLink RX7 221 "OhmBridge$Meter" "withoutPower" "J" ∈ wsL_law := lwc_22 _ (List.mem_of_getElem? (i := 14) rfl)
theorem q519 : Cond.fieldLink RX7 229 "OhmBridge$Sensor" "assumedBase" "I" ∈ wsL_law := lwc_22 _ (List.mem_of_getElem? (i := 15) rfl)
theorem q520 : Cond.methodLink RX7 214 yX2_measure ∈ wsL_law := lwc_22 _ (List.mem_of_getElem? (i := 16) rfl)
theorem q521 : Cond.instanceMethod yX2_measure ∈ wsL_law := lwc_22 _ (List.mem_of_getElem? (i := 17) rfl)
theorem q522 : Cond.selects RX2 yX2_measure yX2_measure ∈ wsL_law := lwc_22 _ (List.mem_of_getElem? (i := 18) rfl)
theorem q523 : Cond.code yX2_measure cX2_measure 7 none ∈ wsL_law := lwc_22 _ (List.mem_of_getElem? (i := 19) rfl)
theorem q524 : Cond.fieldLink RX2 35 "OhmBridge$Meter" "withoutPower" "J" ∈ wsL_law := lwc_22 _ (List.mem_of_getElem? (i := 20) rfl)
theorem q525 : Cond.fieldLink RX2 39 "OhmBridge$Sensor" "table" "I" ∈ wsL_law := lwc_22 _ (List.mem_of_getElem? (i := 21) rfl)
theorem q526 : Cond.fieldLink RX2 49 "OhmBridge$Sensor" "assumedBase" "I" ∈ wsL_law := lwc_22 _ (List.mem_of_getElem? (i := 22) rfl)
theorem q527 : Cond.fieldLink RX2 56 "OhmBridge$Meter" "reading" "I" ∈ wsL_law := lwc_22 _ (List.mem_of_getElem? (i := 23) rfl)
theorem lwc_23 : ∀ w ∈ wsL_law_r23, w ∈ wsL_law := fun _ h => List.mem_append_left _ (List.mem_append_left _ (List.mem_append_left _ (List.mem_append_left _ (List.mem_append_left _ (List.mem_append_left _ (List.mem_append_left _ (List.mem_append_left _ (List.mem_append_left _ (List.mem_append_left _ (List.mem_append_right _ (List.mem_append_right _ (List.mem_append_right _ (List.mem_append_right _ (List.mem_append_right _ (List.mem_append_right _ (List.mem_append_right _ (List.mem_append_right _ (List.mem_append_right _ (List.mem_append_right _ (List.mem_append_right _ (List.mem_append_right _ (List.mem_append_right _ (List.mem_append_right _ (List.mem_append_right _ (List.mem_append_right _ (List.mem_append_right _ (List.mem_append_right _ (List.mem_append_right _ (List.mem_append_right _ (List.mem_append_right _ (List.mem_append_right _ (List.mem_append_left _ h))))))))))))))))))))))))))))))))
theorem q528 : Cond.fieldLink RX2 63 "OhmBridge$Meter" "diagnosed" "I" ∈ wsL_law := lwc_23 _ (List.mem_of_getElem? (i := 0) rfl)
theorem q529 : Cond.methodLink RX2 21 yX4_setting ∈ wsL_law := lwc_23 _ (List.mem_of_getElem? (i := 1) rfl)
theorem q530 : Cond.instanceMethod yX4_setting ∈ wsL_law := lwc_23 _ (List.mem_of_getElem? (i := 2) rfl)
theorem q531 : Cond.selects RX4 yX4_setting yX4_setting ∈ wsL_law := lwc_23 _ (List.mem_of_getElem? (i := 3) rfl)
theorem q532 : Cond.code yX4_setting cX4_setting 2 (some .int) ∈ wsL_law := lwc_23 _ (List.mem_of_getElem? (i := 4) rfl)
theorem q533 : Cond.methodLink RX2 27 yX1_take ∈ wsL_law := lwc_23 _ (List.mem_of_getElem? (i := 5) rfl)
theorem q534 : Cond.instanceMethod yX1_take ∈ wsL_law := lwc_23 _ (List.mem_of_getElem? (i := 6) rfl)
theorem q535 : Cond.selects RX1 yX1_take yX1_take ∈ wsL_law := lwc_23 _ (List.mem_of_getElem? (i := 7) rfl)
theorem q536 : Cond.code yX1_take cX1_take 10 none ∈ wsL_law := lwc_23 _ (List.mem_of_getElem? (i := 8) rfl)
theorem q537 : Cond.fieldLink RX1 9 "OhmBridge$Measurement" "current" "J" ∈ wsL_law := lwc_23 _ (List.mem_of_getElem? (i := 9) rfl)
theorem q538 : Cond.fieldLink RX1 21 "OhmBridge$Measurement" "reference" "J" ∈ wsL_law := lwc_23 _ (List.mem_of_getElem? (i := 10) rfl)
theorem q539 : Cond.fieldLink RX1 24 "OhmBridge$Measurement" "unit" "J" ∈ wsL_law := lwc_23 _ (List.mem_of_getElem? (i := 11) rfl)
theorem q540 : Cond.fieldLink RX1 32 "OhmBridge$Measurement" "stray" "J" ∈ wsL_law := lwc_23 _ (List.mem_of_getElem? (i := 12) rfl)
theorem q541 : Cond.fieldLink RX1 35 "OhmBridge$Sensor" "table" "I" ∈ wsL_law := lwc_23 _ (List.mem_of_getElem? (i := 13) rfl)
theorem q542 : Cond.fieldLink RX1 47 "OhmBridge$Measurement" "heated" "J" ∈ wsL_law := lwc_23 _ (List.mem_of_getElem? (i := 14) rfl)
theorem q543 : Cond.fieldLink RX1 50 "OhmBridge$Sensor" "wires" "I" ∈ wsL_law := lwc_23 _ (List.mem_of_getElem? (i := 15) rfl)
theorem q544 : Cond.fieldLink RX1 60 "OhmBridge$Measurement" "oneWay" "J" ∈ wsL_law := lwc_23 _ (List.mem_of_getElem? (i := 16) rfl)
theorem q545 : Cond.fieldLink RX1 63 "OhmBridge$Measurement" "otherWay" "J" ∈ wsL_law := lwc_23 _ (List.mem_of_getElem? (i := 17) rfl)
theorem q546 : Cond.fieldLink RX1 66 "OhmBridge$Measurement" "secondOneWay" "J" ∈ wsL_law := lwc_23 _ (List.mem_of_getElem? (i := 18) rfl)
theorem q547 : Cond.fieldLink RX1 69 "OhmBridge$Measurement" "secondOtherWay" "J" ∈ wsL_law := lwc_23 _ (List.mem_of_getElem? (i := 19) rfl)
theorem q548 : Cond.constantLong RX1 72 (2) ∈ wsL_law := lwc_23 _ (List.mem_of_getElem? (i := 20) rfl)
theorem q549 : Cond.fieldLink RX1 77 "OhmBridge$Measurement" "loopOhms" "J" ∈ wsL_law := lwc_23 _ (List.mem_of_getElem? (i := 21) rfl)
theorem q550 : Cond.fieldLink RX1 80 "OhmBridge$Measurement" "compensated" "J" ∈ wsL_law := lwc_23 _ (List.mem_of_getElem? (i := 22) rfl)
theorem q551 : Cond.methodLink RX1 15 yX4_setting ∈ wsL_law := lwc_23 _ (List.mem_of_getElem? (i := 23) rfl)
theorem lwc_24 : ∀ w ∈ wsL_law_r24, w ∈ wsL_law := fun _ h => List.mem_append_left _ (List.mem_append_left _ (List.mem_append_left _ (List.mem_append_left _ (List.mem_append_left _ (List.mem_append_left _ (List.mem_append_left _ (List.mem_append_left _ (List.mem_append_left _ (List.mem_append_left _ (List.mem_append_right _ (List.mem_append_right _ (List.mem_append_right _ (List.mem_append_right _ (List.mem_append_right _ (List.mem_append_right _ (List.mem_append_right _ (List.mem_append_right _ (List.mem_append_right _ (List.mem_append_right _ (List.mem_append_right _ (List.mem_append_right _ (List.mem_append_right _ (List.mem_append_right _ (List.mem_append_right _ (List.mem_append_right _ (List.mem_append_right _ (List.mem_append_right _ (List.mem_append_right _ (List.mem_append_right _ (List.mem_append_right _ (List.mem_append_right _ (List.mem_append_right _ (List.mem_append_left _ h)))))))))))))))))))))))))))))))))
theorem q552 : Cond.methodLink RX1 27 yX3_strainOf ∈ wsL_law := lwc_24 _ (List.mem_of_getElem? (i := 0) rfl)
theorem q553 : Cond.methodLink RX1 39 yX4_tableAt ∈ wsL_law := lwc_24 _ (List.mem_of_getElem? (i := 1) rfl)
theorem q554 : Cond.methodLink RX1 43 yX1_heatedOhms ∈ wsL_law := lwc_24 _ (List.mem_of_getElem? (i := 2) rfl)
theorem q555 : Cond.instanceMethod yX1_heatedOhms ∈ wsL_law := lwc_24 _ (List.mem_of_getElem? (i := 3) rfl)
theorem q556 : Cond.selects RX1 yX1_heatedOhms yX1_heatedOhms ∈ wsL_law := lwc_24 _ (List.mem_of_getElem? (i := 4) rfl)
theorem q557 : Cond.code yX1_heatedOhms cX1_heatedOhms 9 (some .long) ∈ wsL_law := lwc_24 _ (List.mem_of_getElem? (i := 5) rfl)
theorem q558 : Cond.fieldLink RX1 87 "OhmBridge$Sensor" "trueBase" "I" ∈ wsL_law := lwc_24 _ (List.mem_of_getElem? (i := 6) rfl)
theorem q559 : Cond.fieldLink RX1 90 "OhmBridge$Sensor" "temperature" "I" ∈ wsL_law := lwc_24 _ (List.mem_of_getElem? (i := 7) rfl)
theorem q560 : Cond.constantLong RX1 98 (1000000) ∈ wsL_law := lwc_24 _ (List.mem_of_getElem? (i := 8) rfl)
theorem q561 : Cond.fieldLink RX1 100 "OhmBridge$Table" "nodes" "I" ∈ wsL_law := lwc_24 _ (List.mem_of_getElem? (i := 9) rfl)
theorem q562 : Cond.methodLink RX1 106 Lib.MathLoose.min_long.x ∈ wsL_law := lwc_24 _ (List.mem_of_getElem? (i := 10) rfl)
theorem q563 : Cond.static Lib.MathLoose.min_long.x ∈ wsL_law := lwc_24 _ (List.mem_of_getElem? (i := 11) rfl)
theorem q564 : Cond.code Lib.MathLoose.min_long.x Lib.MathLoose.min_long.code 4 (some .long) ∈ wsL_law := lwc_24 _ (List.mem_of_getElem? (i := 12) rfl)
theorem q565 : Cond.methodLink RX1 93 yX5_ratioAt ∈ wsL_law := lwc_24 _ (List.mem_of_getElem? (i := 13) rfl)
theorem q566 : Cond.methodLink RX1 103 yX5_temperatureOf ∈ wsL_law := lwc_24 _ (List.mem_of_getElem? (i := 14) rfl)
theorem q567 : Cond.methodLink RX1 53 yX3_leadOf ∈ wsL_law := lwc_24 _ (List.mem_of_getElem? (i := 15) rfl)
theorem q568 : Cond.methodLink RX1 56 yX1_countsOf ∈ wsL_law := lwc_24 _ (List.mem_of_getElem? (i := 16) rfl)
theorem q569 : Cond.instanceMethod yX1_countsOf ∈ wsL_law := lwc_24 _ (List.mem_of_getElem? (i := 17) rfl)
theorem q570 : Cond.selects RX1 yX1_countsOf yX1_countsOf ∈ wsL_law := lwc_24 _ (List.mem_of_getElem? (i := 18) rfl)
theorem q571 : Cond.code yX1_countsOf cX1_countsOf 7 (some .long) ∈ wsL_law := lwc_24 _ (List.mem_of_getElem? (i := 19) rfl)
theorem q572 : Cond.methodLink RX1 118 Lib.MathLoose.max_long.x ∈ wsL_law := lwc_24 _ (List.mem_of_getElem? (i := 20) rfl)
theorem q573 : Cond.static Lib.MathLoose.max_long.x ∈ wsL_law := lwc_24 _ (List.mem_of_getElem? (i := 21) rfl)
theorem q574 : Cond.code Lib.MathLoose.max_long.x Lib.MathLoose.max_long.code 4 (some .long) ∈ wsL_law := lwc_24 _ (List.mem_of_getElem? (i := 22) rfl)
theorem q575 : Cond.methodLink RX1 114 yX1_greatest ∈ wsL_law := lwc_24 _ (List.mem_of_getElem? (i := 23) rfl)
theorem lwc_25 : ∀ w ∈ wsL_law_r25, w ∈ wsL_law := fun _ h => List.mem_append_left _ (List.mem_append_left _ (List.mem_append_left _ (List.mem_append_left _ (List.mem_append_left _ (List.mem_append_left _ (List.mem_append_left _ (List.mem_append_left _ (List.mem_append_left _ (List.mem_append_left _ (List.mem_append_right _ (List.mem_append_right _ (List.mem_append_right _ (List.mem_append_right _ (List.mem_append_right _ (List.mem_append_right _ (List.mem_append_right _ (List.mem_append_right _ (List.mem_append_right _ (List.mem_append_right _ (List.mem_append_right _ (List.mem_append_right _ (List.mem_append_right _ (List.mem_append_right _ (List.mem_append_right _ (List.mem_append_right _ (List.mem_append_right _ (List.mem_append_right _ (List.mem_append_right _ (List.mem_append_right _ (List.mem_append_right _ (List.mem_append_right _ (List.mem_append_right _ (List.mem_append_right _ (List.mem_append_left _ h))))))))))))))))))))))))))))))))))
theorem q576 : Cond.instanceMethod yX1_greatest ∈ wsL_law := lwc_25 _ (List.mem_of_getElem? (i := 0) rfl)
theorem q577 : Cond.selects RX1 yX1_greatest yX1_greatest ∈ wsL_law := lwc_25 _ (List.mem_of_getElem? (i := 1) rfl)
theorem q578 : Cond.code yX1_greatest cX1_greatest 1 (some .long) ∈ wsL_law := lwc_25 _ (List.mem_of_getElem? (i := 2) rfl)
theorem q579 : Cond.constantLong RX1 112 (4) ∈ wsL_law := lwc_25 _ (List.mem_of_getElem? (i := 3) rfl)
theorem q580 : Cond.methodLink RX1 74 yX1_ohmsBy ∈ wsL_law := lwc_25 _ (List.mem_of_getElem? (i := 4) rfl)
theorem q581 : Cond.instanceMethod yX1_ohmsBy ∈ wsL_law := lwc_25 _ (List.mem_of_getElem? (i := 5) rfl)
theorem q582 : Cond.selects RX1 yX1_ohmsBy yX1_ohmsBy ∈ wsL_law := lwc_25 _ (List.mem_of_getElem? (i := 6) rfl)
theorem q583 : Cond.code yX1_ohmsBy cX1_ohmsBy 3 (some .long) ∈ wsL_law := lwc_25 _ (List.mem_of_getElem? (i := 7) rfl)
theorem q584 : Cond.methodLink RX1 83 yX3_isCompensated ∈ wsL_law := lwc_25 _ (List.mem_of_getElem? (i := 8) rfl)
theorem q585 : Cond.instanceMethod yX3_isCompensated ∈ wsL_law := lwc_25 _ (List.mem_of_getElem? (i := 9) rfl)
theorem q586 : Cond.selects RX3 yX3_isCompensated yX3_isCompensated ∈ wsL_law := lwc_25 _ (List.mem_of_getElem? (i := 10) rfl)
theorem q587 : Cond.code yX3_isCompensated cX3_isCompensated 1 (some .boolean) ∈ wsL_law := lwc_25 _ (List.mem_of_getElem? (i := 11) rfl)
theorem q588 : Cond.methodLink RX2 31 yX2_extrapolated ∈ wsL_law := lwc_25 _ (List.mem_of_getElem? (i := 12) rfl)
theorem q589 : Cond.instanceMethod yX2_extrapolated ∈ wsL_law := lwc_25 _ (List.mem_of_getElem? (i := 13) rfl)
theorem q590 : Cond.selects RX2 yX2_extrapolated yX2_extrapolated ∈ wsL_law := lwc_25 _ (List.mem_of_getElem? (i := 14) rfl)
theorem q591 : Cond.code yX2_extrapolated cX2_extrapolated 13 (some .long) ∈ wsL_law := lwc_25 _ (List.mem_of_getElem? (i := 15) rfl)
theorem q592 : Cond.fieldLink RX2 66 "OhmBridge$Measurement" "compensated" "J" ∈ wsL_law := lwc_25 _ (List.mem_of_getElem? (i := 16) rfl)
theorem q593 : Cond.constantLong RX2 69 (-2000000000) ∈ wsL_law := lwc_25 _ (List.mem_of_getElem? (i := 17) rfl)
theorem q594 : Cond.constantLong RX2 71 (2000000000) ∈ wsL_law := lwc_25 _ (List.mem_of_getElem? (i := 18) rfl)
theorem q595 : Cond.methodLink RX2 73 Lib.MathLoose.min_long.x ∈ wsL_law := lwc_25 _ (List.mem_of_getElem? (i := 19) rfl)
theorem q596 : Cond.methodLink RX2 78 Lib.MathLoose.max_long.x ∈ wsL_law := lwc_25 _ (List.mem_of_getElem? (i := 20) rfl)
theorem q597 : Cond.methodLink RX2 45 yX4_tableAt ∈ wsL_law := lwc_25 _ (List.mem_of_getElem? (i := 21) rfl)
theorem q598 : Cond.methodLink RX2 52 yX2_readingOf ∈ wsL_law := lwc_25 _ (List.mem_of_getElem? (i := 22) rfl)
theorem q599 : Cond.instanceMethod yX2_readingOf ∈ wsL_law := lwc_25 _ (List.mem_of_getElem? (i := 23) rfl)
theorem lwc_26 : ∀ w ∈ wsL_law_r26, w ∈ wsL_law := fun _ h => List.mem_append_left _ (List.mem_append_left _ (List.mem_append_left _ (List.mem_append_left _ (List.mem_append_left _ (List.mem_append_left _ (List.mem_append_left _ (List.mem_append_left _ (List.mem_append_left _ (List.mem_append_left _ (List.mem_append_right _ (List.mem_append_right _ (List.mem_append_right _ (List.mem_append_right _ (List.mem_append_right _ (List.mem_append_right _ (List.mem_append_right _ (List.mem_append_right _ (List.mem_append_right _ (List.mem_append_right _ (List.mem_append_right _ (List.mem_append_right _ (List.mem_append_right _ (List.mem_append_right _ (List.mem_append_right _ (List.mem_append_right _ (List.mem_append_right _ (List.mem_append_right _ (List.mem_append_right _ (List.mem_append_right _ (List.mem_append_right _ (List.mem_append_right _ (List.mem_append_right _ (List.mem_append_right _ (List.mem_append_right _ (List.mem_append_left _ h)))))))))))))))))))))))))))))))))))
theorem q600 : Cond.selects RX2 yX2_readingOf yX2_readingOf ∈ wsL_law := lwc_26 _ (List.mem_of_getElem? (i := 0) rfl)
theorem q601 : Cond.code yX2_readingOf cX2_readingOf 4 (some .int) ∈ wsL_law := lwc_26 _ (List.mem_of_getElem? (i := 1) rfl)
theorem q602 : Cond.constant RX2 81 (-2000000004) ∈ wsL_law := lwc_26 _ (List.mem_of_getElem? (i := 2) rfl)
theorem q603 : Cond.constantLong RX2 82 (1000000) ∈ wsL_law := lwc_26 _ (List.mem_of_getElem? (i := 3) rfl)
theorem q604 : Cond.methodLink RX2 84 yX5_temperatureFor ∈ wsL_law := lwc_26 _ (List.mem_of_getElem? (i := 4) rfl)
theorem q605 : Cond.methodLink RX2 59 yX2_diagnosisOf ∈ wsL_law := lwc_26 _ (List.mem_of_getElem? (i := 5) rfl)
theorem q606 : Cond.instanceMethod yX2_diagnosisOf ∈ wsL_law := lwc_26 _ (List.mem_of_getElem? (i := 6) rfl)
theorem q607 : Cond.selects RX2 yX2_diagnosisOf yX2_diagnosisOf ∈ wsL_law := lwc_26 _ (List.mem_of_getElem? (i := 7) rfl)
theorem q608 : Cond.code yX2_diagnosisOf cX2_diagnosisOf 4 (some .int) ∈ wsL_law := lwc_26 _ (List.mem_of_getElem? (i := 8) rfl)
theorem q609 : Cond.fieldLink RX2 94 "OhmBridge$Sensor" "brokenWires" "I" ∈ wsL_law := lwc_26 _ (List.mem_of_getElem? (i := 9) rfl)
theorem q610 : Cond.methodLink RX2 103 Lib.Math.abs.name ∈ wsL_law := lwc_26 _ (List.mem_of_getElem? (i := 10) rfl)
theorem q611 : Cond.static Lib.Math.abs.name ∈ wsL_law := lwc_26 _ (List.mem_of_getElem? (i := 11) rfl)
theorem q612 : Cond.code Lib.Math.abs.name Lib.Math.abs.code 1 (some .int) ∈ wsL_law := lwc_26 _ (List.mem_of_getElem? (i := 12) rfl)
theorem q613 : Cond.methodLink RX2 90 yX3_isPlugged ∈ wsL_law := lwc_26 _ (List.mem_of_getElem? (i := 13) rfl)
theorem q614 : Cond.methodLink RX2 97 yX1_isAtBound ∈ wsL_law := lwc_26 _ (List.mem_of_getElem? (i := 14) rfl)
theorem q615 : Cond.instanceMethod yX1_isAtBound ∈ wsL_law := lwc_26 _ (List.mem_of_getElem? (i := 15) rfl)
theorem q616 : Cond.selects RX1 yX1_isAtBound yX1_isAtBound ∈ wsL_law := lwc_26 _ (List.mem_of_getElem? (i := 16) rfl)
theorem q617 : Cond.code yX1_isAtBound cX1_isAtBound 1 (some .boolean) ∈ wsL_law := lwc_26 _ (List.mem_of_getElem? (i := 17) rfl)
theorem q618 : Cond.methodLink RX2 100 yX3_leadOf ∈ wsL_law := lwc_26 _ (List.mem_of_getElem? (i := 18) rfl)
theorem q619 : Cond.methodLink RX2 106 yX3_isCompensated ∈ wsL_law := lwc_26 _ (List.mem_of_getElem? (i := 19) rfl)
theorem q620 : Cond.methodLink RX2 109 yX3_strainOf ∈ wsL_law := lwc_26 _ (List.mem_of_getElem? (i := 20) rfl)
theorem q621 : Cond.methodLink RX7 225 yX4_baseFor ∈ wsL_law := lwc_26 _ (List.mem_of_getElem? (i := 21) rfl)
theorem q622 : Cond.instanceMethod yX4_baseFor ∈ wsL_law := lwc_26 _ (List.mem_of_getElem? (i := 22) rfl)
theorem q623 : Cond.selects RX4 yX4_baseFor yX4_baseFor ∈ wsL_law := lwc_26 _ (List.mem_of_getElem? (i := 23) rfl)
theorem lwc_27 : ∀ w ∈ wsL_law_r27, w ∈ wsL_law := fun _ h => List.mem_append_left _ (List.mem_append_left _ (List.mem_append_left _ (List.mem_append_left _ (List.mem_append_left _ (List.mem_append_left _ (List.mem_append_left _ (List.mem_append_left _ (List.mem_append_left _ (List.mem_append_left _ (List.mem_append_right _ (List.mem_append_right _ (List.mem_append_right _ (List.mem_append_right _ (List.mem_append_right _ (List.mem_append_right _ (List.mem_append_right _ (List.mem_append_right _ (List.mem_append_right _ (List.mem_append_right _ (List.mem_append_right _ (List.mem_append_right _ (List.mem_append_right _ (List.mem_append_right _ (List.mem_append_right _ (List.mem_append_right _ (List.mem_append_right _ (List.mem_append_right _ (List.mem_append_right _ (List.mem_append_right _ (List.mem_append_right _ (List.mem_append_right _ (List.mem_append_right _ (List.mem_append_right _ (List.mem_append_right _ (List.mem_append_right _ (List.mem_append_left _ h))))))))))))))))))))))))))))))))))))
theorem q624 : Cond.code yX4_baseFor cX4_baseFor 8 (some .long) ∈ wsL_law := lwc_27 _ (List.mem_of_getElem? (i := 0) rfl)
theorem q625 : Cond.constantLong RX4 85 (1000000) ∈ wsL_law := lwc_27 _ (List.mem_of_getElem? (i := 1) rfl)
theorem q626 : Cond.methodLink RX4 82 yX5_ratioAt ∈ wsL_law := lwc_27 _ (List.mem_of_getElem? (i := 2) rfl)
theorem q627 : Cond.methodLink RL 76 yX8_calibrate ∈ wsL_law := lwc_27 _ (List.mem_of_getElem? (i := 3) rfl)
theorem q628 : Cond.instanceMethod yX8_calibrate ∈ wsL_law := lwc_27 _ (List.mem_of_getElem? (i := 4) rfl)
theorem q629 : Cond.selects RX8 yX8_calibrate yX8_calibrate ∈ wsL_law := lwc_27 _ (List.mem_of_getElem? (i := 5) rfl)
theorem q630 : Cond.code yX8_calibrate cX8_calibrate 5 (some .int) ∈ wsL_law := lwc_27 _ (List.mem_of_getElem? (i := 6) rfl)
theorem q631 : Cond.methodLink RX8 128 yX8_diagnosed ∈ wsL_law := lwc_27 _ (List.mem_of_getElem? (i := 7) rfl)
theorem q632 : Cond.instanceMethod yX8_diagnosed ∈ wsL_law := lwc_27 _ (List.mem_of_getElem? (i := 8) rfl)
theorem q633 : Cond.selects RX8 yX8_diagnosed yX8_diagnosed ∈ wsL_law := lwc_27 _ (List.mem_of_getElem? (i := 9) rfl)
theorem q634 : Cond.code yX8_diagnosed cX8_diagnosed 2 (some .int) ∈ wsL_law := lwc_27 _ (List.mem_of_getElem? (i := 10) rfl)
theorem q635 : Cond.methodLink RX8 131 yX8_without ∈ wsL_law := lwc_27 _ (List.mem_of_getElem? (i := 11) rfl)
theorem q636 : Cond.instanceMethod yX8_without ∈ wsL_law := lwc_27 _ (List.mem_of_getElem? (i := 12) rfl)
theorem q637 : Cond.selects RX8 yX8_without yX8_without ∈ wsL_law := lwc_27 _ (List.mem_of_getElem? (i := 13) rfl)
theorem q638 : Cond.code yX8_without cX8_without 12 (some .long) ∈ wsL_law := lwc_27 _ (List.mem_of_getElem? (i := 14) rfl)
theorem q639 : Cond.constantLong RX8 172 (-2000000000) ∈ wsL_law := lwc_27 _ (List.mem_of_getElem? (i := 15) rfl)
theorem q640 : Cond.constantLong RX8 174 (2000000000) ∈ wsL_law := lwc_27 _ (List.mem_of_getElem? (i := 16) rfl)
theorem q641 : Cond.methodLink RX8 169 yX8_compensated ∈ wsL_law := lwc_27 _ (List.mem_of_getElem? (i := 17) rfl)
theorem q642 : Cond.instanceMethod yX8_compensated ∈ wsL_law := lwc_27 _ (List.mem_of_getElem? (i := 18) rfl)
theorem q643 : Cond.selects RX8 yX8_compensated yX8_compensated ∈ wsL_law := lwc_27 _ (List.mem_of_getElem? (i := 19) rfl)
theorem q644 : Cond.code yX8_compensated cX8_compensated 5 (some .long) ∈ wsL_law := lwc_27 _ (List.mem_of_getElem? (i := 20) rfl)
theorem q645 : Cond.methodLink RX8 162 yX8_countsOf ∈ wsL_law := lwc_27 _ (List.mem_of_getElem? (i := 21) rfl)
theorem q646 : Cond.instanceMethod yX8_countsOf ∈ wsL_law := lwc_27 _ (List.mem_of_getElem? (i := 22) rfl)
theorem q647 : Cond.selects RX8 yX8_countsOf yX8_countsOf ∈ wsL_law := lwc_27 _ (List.mem_of_getElem? (i := 23) rfl)
theorem lwc_28 : ∀ w ∈ wsL_law_r28, w ∈ wsL_law := fun _ h => List.mem_append_left _ (List.mem_append_left _ (List.mem_append_left _ (List.mem_append_left _ (List.mem_append_left _ (List.mem_append_left _ (List.mem_append_left _ (List.mem_append_left _ (List.mem_append_left _ (List.mem_append_left _ (List.mem_append_right _ (List.mem_append_right _ (List.mem_append_right _ (List.mem_append_right _ (List.mem_append_right _ (List.mem_append_right _ (List.mem_append_right _ (List.mem_append_right _ (List.mem_append_right _ (List.mem_append_right _ (List.mem_append_right _ (List.mem_append_right _ (List.mem_append_right _ (List.mem_append_right _ (List.mem_append_right _ (List.mem_append_right _ (List.mem_append_right _ (List.mem_append_right _ (List.mem_append_right _ (List.mem_append_right _ (List.mem_append_right _ (List.mem_append_right _ (List.mem_append_right _ (List.mem_append_right _ (List.mem_append_right _ (List.mem_append_right _ (List.mem_append_right _ (List.mem_append_left _ h)))))))))))))))))))))))))))))))))))))
theorem q648 : Cond.code yX8_countsOf cX8_countsOf 5 (some .long) ∈ wsL_law := lwc_28 _ (List.mem_of_getElem? (i := 0) rfl)
theorem q649 : Cond.constantLong RX8 153 (2) ∈ wsL_law := lwc_28 _ (List.mem_of_getElem? (i := 1) rfl)
theorem q650 : Cond.methodLink RX8 149 yX8_countsOneWay ∈ wsL_law := lwc_28 _ (List.mem_of_getElem? (i := 2) rfl)
theorem q651 : Cond.instanceMethod yX8_countsOneWay ∈ wsL_law := lwc_28 _ (List.mem_of_getElem? (i := 3) rfl)
theorem q652 : Cond.selects RX8 yX8_countsOneWay yX8_countsOneWay ∈ wsL_law := lwc_28 _ (List.mem_of_getElem? (i := 4) rfl)
theorem q653 : Cond.code yX8_countsOneWay cX8_countsOneWay 13 (some .long) ∈ wsL_law := lwc_28 _ (List.mem_of_getElem? (i := 5) rfl)
theorem q654 : Cond.constantLong RX8 158 (4) ∈ wsL_law := lwc_28 _ (List.mem_of_getElem? (i := 6) rfl)
theorem q655 : Cond.constantLong RX8 160 (-4) ∈ wsL_law := lwc_28 _ (List.mem_of_getElem? (i := 7) rfl)
theorem q656 : Cond.methodLink RX8 155 yX8_loop ∈ wsL_law := lwc_28 _ (List.mem_of_getElem? (i := 8) rfl)
theorem q657 : Cond.instanceMethod yX8_loop ∈ wsL_law := lwc_28 _ (List.mem_of_getElem? (i := 9) rfl)
theorem q658 : Cond.selects RX8 yX8_loop yX8_loop ∈ wsL_law := lwc_28 _ (List.mem_of_getElem? (i := 10) rfl)
theorem q659 : Cond.code yX8_loop cX8_loop 3 (some .long) ∈ wsL_law := lwc_28 _ (List.mem_of_getElem? (i := 11) rfl)
theorem q660 : Cond.methodLink RX8 146 yX8_heated ∈ wsL_law := lwc_28 _ (List.mem_of_getElem? (i := 12) rfl)
theorem q661 : Cond.instanceMethod yX8_heated ∈ wsL_law := lwc_28 _ (List.mem_of_getElem? (i := 13) rfl)
theorem q662 : Cond.selects RX8 yX8_heated yX8_heated ∈ wsL_law := lwc_28 _ (List.mem_of_getElem? (i := 14) rfl)
theorem q663 : Cond.code yX8_heated cX8_heated 8 (some .long) ∈ wsL_law := lwc_28 _ (List.mem_of_getElem? (i := 15) rfl)
theorem q664 : Cond.methodLink RX8 142 yX8_resistance ∈ wsL_law := lwc_28 _ (List.mem_of_getElem? (i := 16) rfl)
theorem q665 : Cond.instanceMethod yX8_resistance ∈ wsL_law := lwc_28 _ (List.mem_of_getElem? (i := 17) rfl)
theorem q666 : Cond.selects RX8 yX8_resistance yX8_resistance ∈ wsL_law := lwc_28 _ (List.mem_of_getElem? (i := 18) rfl)
theorem q667 : Cond.code yX8_resistance cX8_resistance 3 (some .long) ∈ wsL_law := lwc_28 _ (List.mem_of_getElem? (i := 19) rfl)
theorem q668 : Cond.methodLink RX8 165 yX8_byCounts ∈ wsL_law := lwc_28 _ (List.mem_of_getElem? (i := 20) rfl)
theorem q669 : Cond.instanceMethod yX8_byCounts ∈ wsL_law := lwc_28 _ (List.mem_of_getElem? (i := 21) rfl)
theorem q670 : Cond.selects RX8 yX8_byCounts yX8_byCounts ∈ wsL_law := lwc_28 _ (List.mem_of_getElem? (i := 22) rfl)
theorem q671 : Cond.code yX8_byCounts cX8_byCounts 3 (some .long) ∈ wsL_law := lwc_28 _ (List.mem_of_getElem? (i := 23) rfl)
theorem lwc_29 : ∀ w ∈ wsL_law_r29, w ∈ wsL_law := fun _ h => List.mem_append_left _ (List.mem_append_left _ (List.mem_append_left _ (List.mem_append_left _ (List.mem_append_left _ (List.mem_append_left _ (List.mem_append_left _ (List.mem_append_left _ (List.mem_append_left _ (List.mem_append_left _ (List.mem_append_right _ (List.mem_append_right _ (List.mem_append_right _ (List.mem_append_right _ (List.mem_append_right _ (List.mem_append_right _ (List.mem_append_right _ (List.mem_append_right _ (List.mem_append_right _ (List.mem_append_right _ (List.mem_append_right _ (List.mem_append_right _ (List.mem_append_right _ (List.mem_append_right _ (List.mem_append_right _ (List.mem_append_right _ (List.mem_append_right _ (List.mem_append_right _ (List.mem_append_right _ (List.mem_append_right _ (List.mem_append_right _ (List.mem_append_right _ (List.mem_append_right _ (List.mem_append_right _ (List.mem_append_right _ (List.mem_append_right _ (List.mem_append_right _ (List.mem_append_right _ (List.mem_append_left _ h))))))))))))))))))))))))))))))))))))))
theorem q672 : Cond.methodLink RX8 176 yX8_isBound ∈ wsL_law := lwc_29 _ (List.mem_of_getElem? (i := 0) rfl)
theorem q673 : Cond.instanceMethod yX8_isBound ∈ wsL_law := lwc_29 _ (List.mem_of_getElem? (i := 1) rfl)
theorem q674 : Cond.selects RX8 yX8_isBound yX8_isBound ∈ wsL_law := lwc_29 _ (List.mem_of_getElem? (i := 2) rfl)
theorem q675 : Cond.code yX8_isBound cX8_isBound 9 (some .boolean) ∈ wsL_law := lwc_29 _ (List.mem_of_getElem? (i := 3) rfl)
theorem q676 : Cond.methodLink RX8 179 yX8_size ∈ wsL_law := lwc_29 _ (List.mem_of_getElem? (i := 4) rfl)
theorem q677 : Cond.static yX8_size ∈ wsL_law := lwc_29 _ (List.mem_of_getElem? (i := 5) rfl)
theorem q678 : Cond.code yX8_size cX8_size 1 (some .int) ∈ wsL_law := lwc_29 _ (List.mem_of_getElem? (i := 6) rfl)
theorem q679 : Cond.methodLink RX8 182 yX8_degrees ∈ wsL_law := lwc_29 _ (List.mem_of_getElem? (i := 7) rfl)
theorem q680 : Cond.instanceMethod yX8_degrees ∈ wsL_law := lwc_29 _ (List.mem_of_getElem? (i := 8) rfl)
theorem q681 : Cond.selects RX8 yX8_degrees yX8_degrees ∈ wsL_law := lwc_29 _ (List.mem_of_getElem? (i := 9) rfl)
theorem q682 : Cond.code yX8_degrees cX8_degrees 2 (some .int) ∈ wsL_law := lwc_29 _ (List.mem_of_getElem? (i := 10) rfl)
theorem q683 : Cond.methodLink RL 77 yX7_limits ∈ wsL_law := lwc_29 _ (List.mem_of_getElem? (i := 11) rfl)
theorem q684 : Cond.instanceMethod yX7_limits ∈ wsL_law := lwc_29 _ (List.mem_of_getElem? (i := 12) rfl)
theorem q685 : Cond.selects RX7 yX7_limits yX7_limits ∈ wsL_law := lwc_29 _ (List.mem_of_getElem? (i := 13) rfl)
theorem q686 : Cond.code yX7_limits cX7_limits 7 (some .int) ∈ wsL_law := lwc_29 _ (List.mem_of_getElem? (i := 14) rfl)
theorem q687 : Cond.fieldLink RX7 234 "OhmBridge$Sensor" "alarm" "I" ∈ wsL_law := lwc_29 _ (List.mem_of_getElem? (i := 15) rfl)
theorem q688 : Cond.methodLink RX7 237 yX3_watch ∈ wsL_law := lwc_29 _ (List.mem_of_getElem? (i := 16) rfl)
theorem q689 : Cond.methodLink RL 81 yX8_limits ∈ wsL_law := lwc_29 _ (List.mem_of_getElem? (i := 17) rfl)
theorem q690 : Cond.instanceMethod yX8_limits ∈ wsL_law := lwc_29 _ (List.mem_of_getElem? (i := 18) rfl)
theorem q691 : Cond.selects RX8 yX8_limits yX8_limits ∈ wsL_law := lwc_29 _ (List.mem_of_getElem? (i := 19) rfl)
theorem q692 : Cond.code yX8_limits cX8_limits 6 (some .int) ∈ wsL_law := lwc_29 _ (List.mem_of_getElem? (i := 20) rfl)
theorem q693 : Cond.methodLink RL 82 yX7_sensorOf ∈ wsL_law := lwc_29 _ (List.mem_of_getElem? (i := 21) rfl)
theorem q694 : Cond.instanceMethod yX7_sensorOf ∈ wsL_law := lwc_29 _ (List.mem_of_getElem? (i := 22) rfl)
theorem q695 : Cond.selects RX7 yX7_sensorOf yX7_sensorOf ∈ wsL_law := lwc_29 _ (List.mem_of_getElem? (i := 23) rfl)
theorem lwc_30 : ∀ w ∈ wsL_law_r30, w ∈ wsL_law := fun _ h => List.mem_append_left _ (List.mem_append_left _ (List.mem_append_left _ (List.mem_append_left _ (List.mem_append_left _ (List.mem_append_left _ (List.mem_append_left _ (List.mem_append_left _ (List.mem_append_left _ (List.mem_append_left _ (List.mem_append_right _ (List.mem_append_right _ (List.mem_append_right _ (List.mem_append_right _ (List.mem_append_right _ (List.mem_append_right _ (List.mem_append_right _ (List.mem_append_right _ (List.mem_append_right _ (List.mem_append_right _ (List.mem_append_right _ (List.mem_append_right _ (List.mem_append_right _ (List.mem_append_right _ (List.mem_append_right _ (List.mem_append_right _ (List.mem_append_right _ (List.mem_append_right _ (List.mem_append_right _ (List.mem_append_right _ (List.mem_append_right _ (List.mem_append_right _ (List.mem_append_right _ (List.mem_append_right _ (List.mem_append_right _ (List.mem_append_right _ (List.mem_append_right _ (List.mem_append_right _ (List.mem_append_right _ (List.mem_append_left _ h)))))))))))))))))))))))))))))))))))))))
theorem q696 : Cond.code yX7_sensorOf cX7_sensorOf 4 (some .int) ∈ wsL_law := lwc_30 _ (List.mem_of_getElem? (i := 0) rfl)
theorem q697 : Cond.constantLong RX7 241 (18) ∈ wsL_law := lwc_30 _ (List.mem_of_getElem? (i := 1) rfl)
theorem q698 : Cond.constantLong RX7 243 (5) ∈ wsL_law := lwc_30 _ (List.mem_of_getElem? (i := 2) rfl)
theorem q699 : Cond.constantLong RX7 245 (8) ∈ wsL_law := lwc_30 _ (List.mem_of_getElem? (i := 3) rfl)
theorem q700 : Cond.constantLong RX7 247 (9) ∈ wsL_law := lwc_30 _ (List.mem_of_getElem? (i := 4) rfl)
theorem q701 : Cond.constantLong RX7 249 (11) ∈ wsL_law := lwc_30 _ (List.mem_of_getElem? (i := 5) rfl)
theorem q702 : Cond.fieldLink RX7 251 "OhmBridge$Sensor" "table" "I" ∈ wsL_law := lwc_30 _ (List.mem_of_getElem? (i := 6) rfl)
theorem q703 : Cond.fieldLink RX7 254 "OhmBridge$Sensor" "wires" "I" ∈ wsL_law := lwc_30 _ (List.mem_of_getElem? (i := 7) rfl)
theorem q704 : Cond.fieldLink RX7 257 "OhmBridge$Sensor" "low" "I" ∈ wsL_law := lwc_30 _ (List.mem_of_getElem? (i := 8) rfl)
theorem q705 : Cond.fieldLink RX7 260 "OhmBridge$Sensor" "high" "I" ∈ wsL_law := lwc_30 _ (List.mem_of_getElem? (i := 9) rfl)
theorem q706 : Cond.fieldLink RX7 263 "OhmBridge$Sensor" "hysteresis" "I" ∈ wsL_law := lwc_30 _ (List.mem_of_getElem? (i := 10) rfl)
theorem q707 : Cond.fieldLink RX7 266 "OhmBridge$Sensor" "readings" "I" ∈ wsL_law := lwc_30 _ (List.mem_of_getElem? (i := 11) rfl)
theorem q708 : Cond.methodLink RL 85 yX8_sensorOf ∈ wsL_law := lwc_30 _ (List.mem_of_getElem? (i := 12) rfl)
theorem q709 : Cond.instanceMethod yX8_sensorOf ∈ wsL_law := lwc_30 _ (List.mem_of_getElem? (i := 13) rfl)
theorem q710 : Cond.selects RX8 yX8_sensorOf yX8_sensorOf ∈ wsL_law := lwc_30 _ (List.mem_of_getElem? (i := 14) rfl)
theorem q711 : Cond.code yX8_sensorOf cX8_sensorOf 4 (some .int) ∈ wsL_law := lwc_30 _ (List.mem_of_getElem? (i := 15) rfl)
theorem q712 : Cond.methodLink RL 86 yX7_set ∈ wsL_law := lwc_30 _ (List.mem_of_getElem? (i := 16) rfl)
theorem q713 : Cond.instanceMethod yX7_set ∈ wsL_law := lwc_30 _ (List.mem_of_getElem? (i := 17) rfl)
theorem q714 : Cond.selects RX7 yX7_set yX7_set ∈ wsL_law := lwc_30 _ (List.mem_of_getElem? (i := 18) rfl)
theorem q715 : Cond.code yX7_set cX7_set 4 (some .int) ∈ wsL_law := lwc_30 _ (List.mem_of_getElem? (i := 19) rfl)
theorem q716 : Cond.fieldLink RX7 269 "OhmBridge" "LEAST_SETTING" "[I" ∈ wsL_law := lwc_30 _ (List.mem_of_getElem? (i := 20) rfl)
theorem q717 : Cond.fieldLink RX7 272 "OhmBridge" "GREATEST_SETTING" "[I" ∈ wsL_law := lwc_30 _ (List.mem_of_getElem? (i := 21) rfl)
theorem q718 : Cond.methodLink RX7 275 yX4_setting ∈ wsL_law := lwc_30 _ (List.mem_of_getElem? (i := 22) rfl)
theorem q719 : Cond.methodLink RX7 278 yX4_changeSetting ∈ wsL_law := lwc_30 _ (List.mem_of_getElem? (i := 23) rfl)
theorem lwc_31 : ∀ w ∈ wsL_law_r31, w ∈ wsL_law := fun _ h => List.mem_append_left _ (List.mem_append_left _ (List.mem_append_left _ (List.mem_append_left _ (List.mem_append_left _ (List.mem_append_left _ (List.mem_append_left _ (List.mem_append_left _ (List.mem_append_left _ (List.mem_append_left _ (List.mem_append_right _ (List.mem_append_right _ (List.mem_append_right _ (List.mem_append_right _ (List.mem_append_right _ (List.mem_append_right _ (List.mem_append_right _ (List.mem_append_right _ (List.mem_append_right _ (List.mem_append_right _ (List.mem_append_right _ (List.mem_append_right _ (List.mem_append_right _ (List.mem_append_right _ (List.mem_append_right _ (List.mem_append_right _ (List.mem_append_right _ (List.mem_append_right _ (List.mem_append_right _ (List.mem_append_right _ (List.mem_append_right _ (List.mem_append_right _ (List.mem_append_right _ (List.mem_append_right _ (List.mem_append_right _ (List.mem_append_right _ (List.mem_append_right _ (List.mem_append_right _ (List.mem_append_right _ (List.mem_append_right _ (List.mem_append_left _ h))))))))))))))))))))))))))))))))))))))))
theorem q720 : Cond.instanceMethod yX4_changeSetting ∈ wsL_law := lwc_31 _ (List.mem_of_getElem? (i := 0) rfl)
theorem q721 : Cond.selects RX4 yX4_changeSetting yX4_changeSetting ∈ wsL_law := lwc_31 _ (List.mem_of_getElem? (i := 1) rfl)
theorem q722 : Cond.code yX4_changeSetting cX4_changeSetting 3 none ∈ wsL_law := lwc_31 _ (List.mem_of_getElem? (i := 2) rfl)
theorem q723 : Cond.methodLink RL 89 yX8_set ∈ wsL_law := lwc_31 _ (List.mem_of_getElem? (i := 3) rfl)
theorem q724 : Cond.instanceMethod yX8_set ∈ wsL_law := lwc_31 _ (List.mem_of_getElem? (i := 4) rfl)
theorem q725 : Cond.selects RX8 yX8_set yX8_set ∈ wsL_law := lwc_31 _ (List.mem_of_getElem? (i := 5) rfl)
theorem q726 : Cond.code yX8_set cX8_set 4 (some .int) ∈ wsL_law := lwc_31 _ (List.mem_of_getElem? (i := 6) rfl)
theorem q727 : Cond.methodLink RX8 136 yX8_least ∈ wsL_law := lwc_31 _ (List.mem_of_getElem? (i := 7) rfl)
theorem q728 : Cond.static yX8_least ∈ wsL_law := lwc_31 _ (List.mem_of_getElem? (i := 8) rfl)
theorem q729 : Cond.code yX8_least cX8_least 1 (some .int) ∈ wsL_law := lwc_31 _ (List.mem_of_getElem? (i := 9) rfl)
theorem q730 : Cond.methodLink RX8 139 yX8_most ∈ wsL_law := lwc_31 _ (List.mem_of_getElem? (i := 10) rfl)
theorem q731 : Cond.static yX8_most ∈ wsL_law := lwc_31 _ (List.mem_of_getElem? (i := 11) rfl)
theorem q732 : Cond.code yX8_most cX8_most 1 (some .int) ∈ wsL_law := lwc_31 _ (List.mem_of_getElem? (i := 12) rfl)
theorem q733 : Cond.constant RX8 135 (1000000) ∈ wsL_law := lwc_31 _ (List.mem_of_getElem? (i := 13) rfl)
theorem q734 : Cond.methodLink RL 90 yX7_counts ∈ wsL_law := lwc_31 _ (List.mem_of_getElem? (i := 14) rfl)
theorem q735 : Cond.instanceMethod yX7_counts ∈ wsL_law := lwc_31 _ (List.mem_of_getElem? (i := 15) rfl)
theorem q736 : Cond.selects RX7 yX7_counts yX7_counts ∈ wsL_law := lwc_31 _ (List.mem_of_getElem? (i := 16) rfl)
theorem q737 : Cond.code yX7_counts cX7_counts 10 (some .int) ∈ wsL_law := lwc_31 _ (List.mem_of_getElem? (i := 17) rfl)
theorem q738 : Cond.constantLong RX7 281 (100) ∈ wsL_law := lwc_31 _ (List.mem_of_getElem? (i := 18) rfl)
theorem q739 : Cond.constantLong RX7 283 (5000) ∈ wsL_law := lwc_31 _ (List.mem_of_getElem? (i := 19) rfl)
theorem q740 : Cond.fieldLink RX7 292 "OhmBridge$Measurement" "oneWay" "J" ∈ wsL_law := lwc_31 _ (List.mem_of_getElem? (i := 20) rfl)
theorem q741 : Cond.fieldLink RX7 295 "OhmBridge$Measurement" "secondOneWay" "J" ∈ wsL_law := lwc_31 _ (List.mem_of_getElem? (i := 21) rfl)
theorem q742 : Cond.fieldLink RX7 298 "OhmBridge$Measurement" "otherWay" "J" ∈ wsL_law := lwc_31 _ (List.mem_of_getElem? (i := 22) rfl)
theorem q743 : Cond.fieldLink RX7 301 "OhmBridge$Measurement" "secondOtherWay" "J" ∈ wsL_law := lwc_31 _ (List.mem_of_getElem? (i := 23) rfl)
theorem lwc_32 : ∀ w ∈ wsL_law_r32, w ∈ wsL_law := fun _ h => List.mem_append_left _ (List.mem_append_left _ (List.mem_append_left _ (List.mem_append_left _ (List.mem_append_left _ (List.mem_append_left _ (List.mem_append_left _ (List.mem_append_left _ (List.mem_append_left _ (List.mem_append_left _ (List.mem_append_right _ (List.mem_append_right _ (List.mem_append_right _ (List.mem_append_right _ (List.mem_append_right _ (List.mem_append_right _ (List.mem_append_right _ (List.mem_append_right _ (List.mem_append_right _ (List.mem_append_right _ (List.mem_append_right _ (List.mem_append_right _ (List.mem_append_right _ (List.mem_append_right _ (List.mem_append_right _ (List.mem_append_right _ (List.mem_append_right _ (List.mem_append_right _ (List.mem_append_right _ (List.mem_append_right _ (List.mem_append_right _ (List.mem_append_right _ (List.mem_append_right _ (List.mem_append_right _ (List.mem_append_right _ (List.mem_append_right _ (List.mem_append_right _ (List.mem_append_right _ (List.mem_append_right _ (List.mem_append_right _ (List.mem_append_right _ (List.mem_append_left _ h)))))))))))))))))))))))))))))))))))))))))
theorem q744 : Cond.methodLink RX7 285 yX3_isCompensated ∈ wsL_law := lwc_32 _ (List.mem_of_getElem? (i := 0) rfl)
theorem q745 : Cond.methodLink RX7 288 yX1_take ∈ wsL_law := lwc_32 _ (List.mem_of_getElem? (i := 1) rfl)
theorem q746 : Cond.methodLink RL 93 yX8_counts ∈ wsL_law := lwc_32 _ (List.mem_of_getElem? (i := 2) rfl)
theorem q747 : Cond.instanceMethod yX8_counts ∈ wsL_law := lwc_32 _ (List.mem_of_getElem? (i := 3) rfl)
theorem q748 : Cond.selects RX8 yX8_counts yX8_counts ∈ wsL_law := lwc_32 _ (List.mem_of_getElem? (i := 4) rfl)
theorem q749 : Cond.code yX8_counts cX8_counts 5 (some .int) ∈ wsL_law := lwc_32 _ (List.mem_of_getElem? (i := 5) rfl)
theorem q750 : Cond.methodLink RL 94 yX7_ohms ∈ wsL_law := lwc_32 _ (List.mem_of_getElem? (i := 6) rfl)
theorem q751 : Cond.instanceMethod yX7_ohms ∈ wsL_law := lwc_32 _ (List.mem_of_getElem? (i := 7) rfl)
theorem q752 : Cond.selects RX7 yX7_ohms yX7_ohms ∈ wsL_law := lwc_32 _ (List.mem_of_getElem? (i := 8) rfl)
theorem q753 : Cond.code yX7_ohms cX7_ohms 4 (some .int) ∈ wsL_law := lwc_32 _ (List.mem_of_getElem? (i := 9) rfl)
theorem q754 : Cond.fieldLink RX7 304 "OhmBridge$Meter" "first" "LOhmBridge$Measurement;" ∈ wsL_law := lwc_32 _ (List.mem_of_getElem? (i := 10) rfl)
theorem q755 : Cond.fieldLink RX7 307 "OhmBridge$Measurement" "heated" "J" ∈ wsL_law := lwc_32 _ (List.mem_of_getElem? (i := 11) rfl)
theorem q756 : Cond.fieldLink RX7 314 "OhmBridge$Measurement" "loopOhms" "J" ∈ wsL_law := lwc_32 _ (List.mem_of_getElem? (i := 12) rfl)
theorem q757 : Cond.fieldLink RX7 317 "OhmBridge$Measurement" "compensated" "J" ∈ wsL_law := lwc_32 _ (List.mem_of_getElem? (i := 13) rfl)
theorem q758 : Cond.fieldLink RX7 320 "OhmBridge$Meter" "second" "LOhmBridge$Measurement;" ∈ wsL_law := lwc_32 _ (List.mem_of_getElem? (i := 14) rfl)
theorem q759 : Cond.methodLink RX7 310 yX1_ohmsBy ∈ wsL_law := lwc_32 _ (List.mem_of_getElem? (i := 15) rfl)
theorem q760 : Cond.methodLink RL 97 yX8_ohms ∈ wsL_law := lwc_32 _ (List.mem_of_getElem? (i := 16) rfl)
theorem q761 : Cond.instanceMethod yX8_ohms ∈ wsL_law := lwc_32 _ (List.mem_of_getElem? (i := 17) rfl)
theorem q762 : Cond.selects RX8 yX8_ohms yX8_ohms ∈ wsL_law := lwc_32 _ (List.mem_of_getElem? (i := 18) rfl)
theorem q763 : Cond.code yX8_ohms cX8_ohms 3 (some .int) ∈ wsL_law := lwc_32 _ (List.mem_of_getElem? (i := 19) rfl)
theorem q764 : Cond.methodLink RL 98 yX7_diagnosis ∈ wsL_law := lwc_32 _ (List.mem_of_getElem? (i := 20) rfl)
theorem q765 : Cond.instanceMethod yX7_diagnosis ∈ wsL_law := lwc_32 _ (List.mem_of_getElem? (i := 21) rfl)
theorem q766 : Cond.selects RX7 yX7_diagnosis yX7_diagnosis ∈ wsL_law := lwc_32 _ (List.mem_of_getElem? (i := 22) rfl)
theorem q767 : Cond.code yX7_diagnosis cX7_diagnosis 3 (some .int) ∈ wsL_law := lwc_32 _ (List.mem_of_getElem? (i := 23) rfl)
theorem lwc_33 : ∀ w ∈ wsL_law_r33, w ∈ wsL_law := fun _ h => List.mem_append_left _ (List.mem_append_left _ (List.mem_append_left _ (List.mem_append_left _ (List.mem_append_left _ (List.mem_append_left _ (List.mem_append_left _ (List.mem_append_left _ (List.mem_append_left _ (List.mem_append_left _ (List.mem_append_right _ (List.mem_append_right _ (List.mem_append_right _ (List.mem_append_right _ (List.mem_append_right _ (List.mem_append_right _ (List.mem_append_right _ (List.mem_append_right _ (List.mem_append_right _ (List.mem_append_right _ (List.mem_append_right _ (List.mem_append_right _ (List.mem_append_right _ (List.mem_append_right _ (List.mem_append_right _ (List.mem_append_right _ (List.mem_append_right _ (List.mem_append_right _ (List.mem_append_right _ (List.mem_append_right _ (List.mem_append_right _ (List.mem_append_right _ (List.mem_append_right _ (List.mem_append_right _ (List.mem_append_right _ (List.mem_append_right _ (List.mem_append_right _ (List.mem_append_right _ (List.mem_append_right _ (List.mem_append_right _ (List.mem_append_right _ (List.mem_append_right _ (List.mem_append_left _ h))))))))))))))))))))))))))))))))))))))))))
theorem q768 : Cond.methodLink RL 101 yX8_diagnosis ∈ wsL_law := lwc_33 _ (List.mem_of_getElem? (i := 0) rfl)
theorem q769 : Cond.instanceMethod yX8_diagnosis ∈ wsL_law := lwc_33 _ (List.mem_of_getElem? (i := 1) rfl)
theorem q770 : Cond.selects RX8 yX8_diagnosis yX8_diagnosis ∈ wsL_law := lwc_33 _ (List.mem_of_getElem? (i := 2) rfl)
theorem q771 : Cond.code yX8_diagnosis cX8_diagnosis 2 (some .int) ∈ wsL_law := lwc_33 _ (List.mem_of_getElem? (i := 3) rfl)
theorem q772 : Cond.methodLink RL 102 yX7_read ∈ wsL_law := lwc_33 _ (List.mem_of_getElem? (i := 4) rfl)
theorem q773 : Cond.instanceMethod yX7_read ∈ wsL_law := lwc_33 _ (List.mem_of_getElem? (i := 5) rfl)
theorem q774 : Cond.selects RX7 yX7_read yX7_read ∈ wsL_law := lwc_33 _ (List.mem_of_getElem? (i := 6) rfl)
theorem q775 : Cond.code yX7_read cX7_read 3 (some .int) ∈ wsL_law := lwc_33 _ (List.mem_of_getElem? (i := 7) rfl)
theorem q776 : Cond.fieldLink RX7 323 "OhmBridge$Meter" "reading" "I" ∈ wsL_law := lwc_33 _ (List.mem_of_getElem? (i := 8) rfl)
theorem q777 : Cond.methodLink RX7 326 yX3_log ∈ wsL_law := lwc_33 _ (List.mem_of_getElem? (i := 9) rfl)
theorem q778 : Cond.instanceMethod yX3_log ∈ wsL_law := lwc_33 _ (List.mem_of_getElem? (i := 10) rfl)
theorem q779 : Cond.selects RX3 yX3_log yX3_log ∈ wsL_law := lwc_33 _ (List.mem_of_getElem? (i := 11) rfl)
theorem q780 : Cond.code yX3_log cX3_log 3 none ∈ wsL_law := lwc_33 _ (List.mem_of_getElem? (i := 12) rfl)
theorem q781 : Cond.methodLink RL 105 yX8_read ∈ wsL_law := lwc_33 _ (List.mem_of_getElem? (i := 13) rfl)
theorem q782 : Cond.instanceMethod yX8_read ∈ wsL_law := lwc_33 _ (List.mem_of_getElem? (i := 14) rfl)
theorem q783 : Cond.selects RX8 yX8_read yX8_read ∈ wsL_law := lwc_33 _ (List.mem_of_getElem? (i := 15) rfl)
theorem q784 : Cond.code yX8_read cX8_read 2 (some .int) ∈ wsL_law := lwc_33 _ (List.mem_of_getElem? (i := 16) rfl)
theorem q785 : Cond.methodLink RX8 189 yX8_reads ∈ wsL_law := lwc_33 _ (List.mem_of_getElem? (i := 17) rfl)
theorem q786 : Cond.instanceMethod yX8_reads ∈ wsL_law := lwc_33 _ (List.mem_of_getElem? (i := 18) rfl)
theorem q787 : Cond.selects RX8 yX8_reads yX8_reads ∈ wsL_law := lwc_33 _ (List.mem_of_getElem? (i := 19) rfl)
theorem q788 : Cond.code yX8_reads cX8_reads 4 (some .int) ∈ wsL_law := lwc_33 _ (List.mem_of_getElem? (i := 20) rfl)
theorem q789 : Cond.methodLink RX8 185 yX8_alarms ∈ wsL_law := lwc_33 _ (List.mem_of_getElem? (i := 21) rfl)
theorem q790 : Cond.instanceMethod yX8_alarms ∈ wsL_law := lwc_33 _ (List.mem_of_getElem? (i := 22) rfl)
theorem q791 : Cond.selects RX8 yX8_alarms yX8_alarms ∈ wsL_law := lwc_33 _ (List.mem_of_getElem? (i := 23) rfl)
theorem lwc_34 : ∀ w ∈ wsL_law_r34, w ∈ wsL_law := fun _ h => List.mem_append_left _ (List.mem_append_left _ (List.mem_append_left _ (List.mem_append_left _ (List.mem_append_left _ (List.mem_append_left _ (List.mem_append_left _ (List.mem_append_left _ (List.mem_append_left _ (List.mem_append_left _ (List.mem_append_right _ (List.mem_append_right _ (List.mem_append_right _ (List.mem_append_right _ (List.mem_append_right _ (List.mem_append_right _ (List.mem_append_right _ (List.mem_append_right _ (List.mem_append_right _ (List.mem_append_right _ (List.mem_append_right _ (List.mem_append_right _ (List.mem_append_right _ (List.mem_append_right _ (List.mem_append_right _ (List.mem_append_right _ (List.mem_append_right _ (List.mem_append_right _ (List.mem_append_right _ (List.mem_append_right _ (List.mem_append_right _ (List.mem_append_right _ (List.mem_append_right _ (List.mem_append_right _ (List.mem_append_right _ (List.mem_append_right _ (List.mem_append_right _ (List.mem_append_right _ (List.mem_append_right _ (List.mem_append_right _ (List.mem_append_right _ (List.mem_append_right _ (List.mem_append_right _ (List.mem_append_left _ h)))))))))))))))))))))))))))))))))))))))))))
theorem q792 : Cond.code yX8_alarms cX8_alarms 6 none ∈ wsL_law := lwc_34 _ (List.mem_of_getElem? (i := 0) rfl)
theorem q793 : Cond.methodLink RL 106 yX7_scan ∈ wsL_law := lwc_34 _ (List.mem_of_getElem? (i := 1) rfl)
theorem q794 : Cond.instanceMethod yX7_scan ∈ wsL_law := lwc_34 _ (List.mem_of_getElem? (i := 2) rfl)
theorem q795 : Cond.selects RX7 yX7_scan yX7_scan ∈ wsL_law := lwc_34 _ (List.mem_of_getElem? (i := 3) rfl)
theorem q796 : Cond.code yX7_scan cX7_scan 3 (some .int) ∈ wsL_law := lwc_34 _ (List.mem_of_getElem? (i := 4) rfl)
theorem q797 : Cond.fieldLink RX7 333 "OhmBridge$State" "scanner" "I" ∈ wsL_law := lwc_34 _ (List.mem_of_getElem? (i := 5) rfl)
theorem q798 : Cond.methodLink RX7 329 yX4_nextPlugged ∈ wsL_law := lwc_34 _ (List.mem_of_getElem? (i := 6) rfl)
theorem q799 : Cond.instanceMethod yX4_nextPlugged ∈ wsL_law := lwc_34 _ (List.mem_of_getElem? (i := 7) rfl)
theorem q800 : Cond.selects RX4 yX4_nextPlugged yX4_nextPlugged ∈ wsL_law := lwc_34 _ (List.mem_of_getElem? (i := 8) rfl)
theorem q801 : Cond.code yX4_nextPlugged cX4_nextPlugged 3 (some .int) ∈ wsL_law := lwc_34 _ (List.mem_of_getElem? (i := 9) rfl)
theorem q802 : Cond.methodLink RL 109 yX8_scan ∈ wsL_law := lwc_34 _ (List.mem_of_getElem? (i := 10) rfl)
theorem q803 : Cond.instanceMethod yX8_scan ∈ wsL_law := lwc_34 _ (List.mem_of_getElem? (i := 11) rfl)
theorem q804 : Cond.selects RX8 yX8_scan yX8_scan ∈ wsL_law := lwc_34 _ (List.mem_of_getElem? (i := 12) rfl)
theorem q805 : Cond.code yX8_scan cX8_scan 1 (some .int) ∈ wsL_law := lwc_34 _ (List.mem_of_getElem? (i := 13) rfl)
theorem q806 : Cond.methodLink RX8 192 yX8_scans ∈ wsL_law := lwc_34 _ (List.mem_of_getElem? (i := 14) rfl)
theorem q807 : Cond.instanceMethod yX8_scans ∈ wsL_law := lwc_34 _ (List.mem_of_getElem? (i := 15) rfl)
theorem q808 : Cond.selects RX8 yX8_scans yX8_scans ∈ wsL_law := lwc_34 _ (List.mem_of_getElem? (i := 16) rfl)
theorem q809 : Cond.code yX8_scans cX8_scans 5 (some .int) ∈ wsL_law := lwc_34 _ (List.mem_of_getElem? (i := 17) rfl)
theorem q810 : Cond.methodLink RL 110 yX7_readingAt ∈ wsL_law := lwc_34 _ (List.mem_of_getElem? (i := 18) rfl)
theorem q811 : Cond.instanceMethod yX7_readingAt ∈ wsL_law := lwc_34 _ (List.mem_of_getElem? (i := 19) rfl)
theorem q812 : Cond.selects RX7 yX7_readingAt yX7_readingAt ∈ wsL_law := lwc_34 _ (List.mem_of_getElem? (i := 20) rfl)
theorem q813 : Cond.code yX7_readingAt cX7_readingAt 4 (some .int) ∈ wsL_law := lwc_34 _ (List.mem_of_getElem? (i := 21) rfl)
theorem q814 : Cond.methodLink RX7 336 yX3_keptReadings ∈ wsL_law := lwc_34 _ (List.mem_of_getElem? (i := 22) rfl)
theorem q815 : Cond.instanceMethod yX3_keptReadings ∈ wsL_law := lwc_34 _ (List.mem_of_getElem? (i := 23) rfl)
theorem lwc_35 : ∀ w ∈ wsL_law_r35, w ∈ wsL_law := fun _ h => List.mem_append_left _ (List.mem_append_left _ (List.mem_append_left _ (List.mem_append_left _ (List.mem_append_left _ (List.mem_append_left _ (List.mem_append_left _ (List.mem_append_left _ (List.mem_append_left _ (List.mem_append_left _ (List.mem_append_right _ (List.mem_append_right _ (List.mem_append_right _ (List.mem_append_right _ (List.mem_append_right _ (List.mem_append_right _ (List.mem_append_right _ (List.mem_append_right _ (List.mem_append_right _ (List.mem_append_right _ (List.mem_append_right _ (List.mem_append_right _ (List.mem_append_right _ (List.mem_append_right _ (List.mem_append_right _ (List.mem_append_right _ (List.mem_append_right _ (List.mem_append_right _ (List.mem_append_right _ (List.mem_append_right _ (List.mem_append_right _ (List.mem_append_right _ (List.mem_append_right _ (List.mem_append_right _ (List.mem_append_right _ (List.mem_append_right _ (List.mem_append_right _ (List.mem_append_right _ (List.mem_append_right _ (List.mem_append_right _ (List.mem_append_right _ (List.mem_append_right _ (List.mem_append_right _ (List.mem_append_right _ (List.mem_append_left _ h))))))))))))))))))))))))))))))))))))))))))))
theorem q816 : Cond.selects RX3 yX3_keptReadings yX3_keptReadings ∈ wsL_law := lwc_35 _ (List.mem_of_getElem? (i := 0) rfl)
theorem q817 : Cond.code yX3_keptReadings cX3_keptReadings 1 (some .int) ∈ wsL_law := lwc_35 _ (List.mem_of_getElem? (i := 1) rfl)
theorem q818 : Cond.methodLink RX3 70 Lib.Math.min.name ∈ wsL_law := lwc_35 _ (List.mem_of_getElem? (i := 2) rfl)
theorem q819 : Cond.methodLink RX7 339 yX3_reading ∈ wsL_law := lwc_35 _ (List.mem_of_getElem? (i := 3) rfl)
theorem q820 : Cond.instanceMethod yX3_reading ∈ wsL_law := lwc_35 _ (List.mem_of_getElem? (i := 4) rfl)
theorem q821 : Cond.selects RX3 yX3_reading yX3_reading ∈ wsL_law := lwc_35 _ (List.mem_of_getElem? (i := 5) rfl)
theorem q822 : Cond.code yX3_reading cX3_reading 2 (some .int) ∈ wsL_law := lwc_35 _ (List.mem_of_getElem? (i := 6) rfl)
theorem q823 : Cond.methodLink RL 113 yX8_readingAt ∈ wsL_law := lwc_35 _ (List.mem_of_getElem? (i := 7) rfl)
theorem q824 : Cond.instanceMethod yX8_readingAt ∈ wsL_law := lwc_35 _ (List.mem_of_getElem? (i := 8) rfl)
theorem q825 : Cond.selects RX8 yX8_readingAt yX8_readingAt ∈ wsL_law := lwc_35 _ (List.mem_of_getElem? (i := 9) rfl)
theorem q826 : Cond.code yX8_readingAt cX8_readingAt 4 (some .int) ∈ wsL_law := lwc_35 _ (List.mem_of_getElem? (i := 10) rfl)
theorem q827 : Cond.methodLink RL 114 yX7_median ∈ wsL_law := lwc_35 _ (List.mem_of_getElem? (i := 11) rfl)
theorem q828 : Cond.instanceMethod yX7_median ∈ wsL_law := lwc_35 _ (List.mem_of_getElem? (i := 12) rfl)
theorem q829 : Cond.selects RX7 yX7_median yX7_median ∈ wsL_law := lwc_35 _ (List.mem_of_getElem? (i := 13) rfl)
theorem q830 : Cond.code yX7_median cX7_median 5 (some .int) ∈ wsL_law := lwc_35 _ (List.mem_of_getElem? (i := 14) rfl)
theorem q831 : Cond.methodLink RX7 341 Lib.Math.min.name ∈ wsL_law := lwc_35 _ (List.mem_of_getElem? (i := 15) rfl)
theorem q832 : Cond.methodLink RX7 347 yX7_insertSorted ∈ wsL_law := lwc_35 _ (List.mem_of_getElem? (i := 16) rfl)
theorem q833 : Cond.instanceMethod yX7_insertSorted ∈ wsL_law := lwc_35 _ (List.mem_of_getElem? (i := 17) rfl)
theorem q834 : Cond.selects RX7 yX7_insertSorted yX7_insertSorted ∈ wsL_law := lwc_35 _ (List.mem_of_getElem? (i := 18) rfl)
theorem q835 : Cond.code yX7_insertSorted cX7_insertSorted 4 none ∈ wsL_law := lwc_35 _ (List.mem_of_getElem? (i := 19) rfl)
theorem q836 : Cond.methodLink RL 117 yX8_median ∈ wsL_law := lwc_35 _ (List.mem_of_getElem? (i := 20) rfl)
theorem q837 : Cond.instanceMethod yX8_median ∈ wsL_law := lwc_35 _ (List.mem_of_getElem? (i := 21) rfl)
theorem q838 : Cond.selects RX8 yX8_median yX8_median ∈ wsL_law := lwc_35 _ (List.mem_of_getElem? (i := 22) rfl)
theorem q839 : Cond.code yX8_median cX8_median 7 (some .int) ∈ wsL_law := lwc_35 _ (List.mem_of_getElem? (i := 23) rfl)
theorem lwc_36 : ∀ w ∈ wsL_law_r36, w ∈ wsL_law := fun _ h => List.mem_append_left _ (List.mem_append_left _ (List.mem_append_left _ (List.mem_append_left _ (List.mem_append_left _ (List.mem_append_left _ (List.mem_append_left _ (List.mem_append_left _ (List.mem_append_left _ (List.mem_append_left _ (List.mem_append_right _ (List.mem_append_right _ (List.mem_append_right _ (List.mem_append_right _ (List.mem_append_right _ (List.mem_append_right _ (List.mem_append_right _ (List.mem_append_right _ (List.mem_append_right _ (List.mem_append_right _ (List.mem_append_right _ (List.mem_append_right _ (List.mem_append_right _ (List.mem_append_right _ (List.mem_append_right _ (List.mem_append_right _ (List.mem_append_right _ (List.mem_append_right _ (List.mem_append_right _ (List.mem_append_right _ (List.mem_append_right _ (List.mem_append_right _ (List.mem_append_right _ (List.mem_append_right _ (List.mem_append_right _ (List.mem_append_right _ (List.mem_append_right _ (List.mem_append_right _ (List.mem_append_right _ (List.mem_append_right _ (List.mem_append_right _ (List.mem_append_right _ (List.mem_append_right _ (List.mem_append_right _ (List.mem_append_right _ (List.mem_append_left _ h)))))))))))))))))))))))))))))))))))))))))))))
theorem q840 : Cond.methodLink RL 118 yX7_meanBits ∈ wsL_law := lwc_36 _ (List.mem_of_getElem? (i := 0) rfl)
theorem q841 : Cond.instanceMethod yX7_meanBits ∈ wsL_law := lwc_36 _ (List.mem_of_getElem? (i := 1) rfl)
theorem q842 : Cond.selects RX7 yX7_meanBits yX7_meanBits ∈ wsL_law := lwc_36 _ (List.mem_of_getElem? (i := 2) rfl)
theorem q843 : Cond.code yX7_meanBits cX7_meanBits 7 (some .int) ∈ wsL_law := lwc_36 _ (List.mem_of_getElem? (i := 3) rfl)
theorem q844 : Cond.constantDouble RX7 350 (4652007308841189376) ∈ wsL_law := lwc_36 _ (List.mem_of_getElem? (i := 4) rfl)
theorem q845 : Cond.methodLink RX7 352 yX7_bitsOf ∈ wsL_law := lwc_36 _ (List.mem_of_getElem? (i := 5) rfl)
theorem q846 : Cond.static yX7_bitsOf ∈ wsL_law := lwc_36 _ (List.mem_of_getElem? (i := 6) rfl)
theorem q847 : Cond.code yX7_bitsOf cX7_bitsOf 5 (some .int) ∈ wsL_law := lwc_36 _ (List.mem_of_getElem? (i := 7) rfl)
theorem q848 : Cond.constantFloat RX7 430 (1258291200) ∈ wsL_law := lwc_36 _ (List.mem_of_getElem? (i := 8) rfl)
theorem q849 : Cond.constant RX7 431 (-2147483648) ∈ wsL_law := lwc_36 _ (List.mem_of_getElem? (i := 9) rfl)
theorem q850 : Cond.methodLink RL 121 yX8_meanBits ∈ wsL_law := lwc_36 _ (List.mem_of_getElem? (i := 10) rfl)
theorem q851 : Cond.instanceMethod yX8_meanBits ∈ wsL_law := lwc_36 _ (List.mem_of_getElem? (i := 11) rfl)
theorem q852 : Cond.selects RX8 yX8_meanBits yX8_meanBits ∈ wsL_law := lwc_36 _ (List.mem_of_getElem? (i := 12) rfl)
theorem q853 : Cond.code yX8_meanBits cX8_meanBits 7 (some .int) ∈ wsL_law := lwc_36 _ (List.mem_of_getElem? (i := 13) rfl)
theorem q854 : Cond.constantDouble RX8 196 (4652007308841189376) ∈ wsL_law := lwc_36 _ (List.mem_of_getElem? (i := 14) rfl)
theorem q855 : Cond.methodLink RX8 198 yJxf58ca_floatToIntBits_5c35a ∈ wsL_law := lwc_36 _ (List.mem_of_getElem? (i := 15) rfl)
theorem q856 : Cond.static yJxf58ca_floatToIntBits_5c35a ∈ wsL_law := lwc_36 _ (List.mem_of_getElem? (i := 16) rfl)
theorem q857 : Cond.initialized RJxf58ca ∈ wsL_law := lwc_36 _ (List.mem_of_getElem? (i := 17) rfl)
theorem q858 : Cond.code yJxf58ca_floatToIntBits_5c35a cJxf58ca_floatToIntBits_5c35a 1 (some .int) ∈ wsL_law := lwc_36 _ (List.mem_of_getElem? (i := 18) rfl)
theorem q859 : Cond.methodLink RJxf58ca 74 ⟨"java/lang/Float", "floatToRawIntBits", "(F)I"⟩ ∈ wsL_law := lwc_36 _ (List.mem_of_getElem? (i := 19) rfl)
theorem q860 : Cond.native ⟨"java/lang/Float", "floatToRawIntBits", "(F)I"⟩ ∈ wsL_law := lwc_36 _ (List.mem_of_getElem? (i := 20) rfl)
theorem q861 : Cond.static ⟨"java/lang/Float", "floatToRawIntBits", "(F)I"⟩ ∈ wsL_law := lwc_36 _ (List.mem_of_getElem? (i := 21) rfl)
theorem q862 : Cond.initialized "java/lang/Float" ∈ wsL_law := lwc_36 _ (List.mem_of_getElem? (i := 22) rfl)
theorem q863 : Cond.constant RJxf58ca 77 (2143289344) ∈ wsL_law := lwc_36 _ (List.mem_of_getElem? (i := 23) rfl)
theorem lwc_37 : ∀ w ∈ wsL_law_r37, w ∈ wsL_law := fun _ h => List.mem_append_left _ (List.mem_append_left _ (List.mem_append_left _ (List.mem_append_left _ (List.mem_append_left _ (List.mem_append_left _ (List.mem_append_left _ (List.mem_append_left _ (List.mem_append_left _ (List.mem_append_left _ (List.mem_append_right _ (List.mem_append_right _ (List.mem_append_right _ (List.mem_append_right _ (List.mem_append_right _ (List.mem_append_right _ (List.mem_append_right _ (List.mem_append_right _ (List.mem_append_right _ (List.mem_append_right _ (List.mem_append_right _ (List.mem_append_right _ (List.mem_append_right _ (List.mem_append_right _ (List.mem_append_right _ (List.mem_append_right _ (List.mem_append_right _ (List.mem_append_right _ (List.mem_append_right _ (List.mem_append_right _ (List.mem_append_right _ (List.mem_append_right _ (List.mem_append_right _ (List.mem_append_right _ (List.mem_append_right _ (List.mem_append_right _ (List.mem_append_right _ (List.mem_append_right _ (List.mem_append_right _ (List.mem_append_right _ (List.mem_append_right _ (List.mem_append_right _ (List.mem_append_right _ (List.mem_append_right _ (List.mem_append_right _ (List.mem_append_right _ (List.mem_append_left _ h))))))))))))))))))))))))))))))))))))))))))))))
theorem q864 : Cond.methodLink RJxf58ca 59 yJxf58ca_isNaN_12338 ∈ wsL_law := lwc_37 _ (List.mem_of_getElem? (i := 0) rfl)
theorem q865 : Cond.static yJxf58ca_isNaN_12338 ∈ wsL_law := lwc_37 _ (List.mem_of_getElem? (i := 1) rfl)
theorem q866 : Cond.code yJxf58ca_isNaN_12338 cJxf58ca_isNaN_12338 1 (some .boolean) ∈ wsL_law := lwc_37 _ (List.mem_of_getElem? (i := 2) rfl)
theorem q867 : Cond.methodLink RL 122 yX7_count ∈ wsL_law := lwc_37 _ (List.mem_of_getElem? (i := 3) rfl)
theorem q868 : Cond.instanceMethod yX7_count ∈ wsL_law := lwc_37 _ (List.mem_of_getElem? (i := 4) rfl)
theorem q869 : Cond.selects RX7 yX7_count yX7_count ∈ wsL_law := lwc_37 _ (List.mem_of_getElem? (i := 5) rfl)
theorem q870 : Cond.code yX7_count cX7_count 3 (some .int) ∈ wsL_law := lwc_37 _ (List.mem_of_getElem? (i := 6) rfl)
theorem q871 : Cond.constantLong RX7 356 (20) ∈ wsL_law := lwc_37 _ (List.mem_of_getElem? (i := 7) rfl)
theorem q872 : Cond.constantLong RX7 358 (26) ∈ wsL_law := lwc_37 _ (List.mem_of_getElem? (i := 8) rfl)
theorem q873 : Cond.constantLong RX7 360 (10) ∈ wsL_law := lwc_37 _ (List.mem_of_getElem? (i := 9) rfl)
theorem q874 : Cond.constantLong RX7 362 (12) ∈ wsL_law := lwc_37 _ (List.mem_of_getElem? (i := 10) rfl)
theorem q875 : Cond.fieldLink RX7 373 "OhmBridge$History" "size" "I" ∈ wsL_law := lwc_37 _ (List.mem_of_getElem? (i := 11) rfl)
theorem q876 : Cond.fieldLink RX7 376 "OhmBridge$Text" "length" "I" ∈ wsL_law := lwc_37 _ (List.mem_of_getElem? (i := 12) rfl)
theorem q877 : Cond.methodLink RX7 364 yX4_pluggedSensors ∈ wsL_law := lwc_37 _ (List.mem_of_getElem? (i := 13) rfl)
theorem q878 : Cond.instanceMethod yX4_pluggedSensors ∈ wsL_law := lwc_37 _ (List.mem_of_getElem? (i := 14) rfl)
theorem q879 : Cond.selects RX4 yX4_pluggedSensors yX4_pluggedSensors ∈ wsL_law := lwc_37 _ (List.mem_of_getElem? (i := 15) rfl)
theorem q880 : Cond.code yX4_pluggedSensors cX4_pluggedSensors 3 (some .int) ∈ wsL_law := lwc_37 _ (List.mem_of_getElem? (i := 16) rfl)
theorem q881 : Cond.methodLink RX4 65 yX4_takenSlots ∈ wsL_law := lwc_37 _ (List.mem_of_getElem? (i := 17) rfl)
theorem q882 : Cond.methodLink RX7 367 yX4_alarmsOn ∈ wsL_law := lwc_37 _ (List.mem_of_getElem? (i := 18) rfl)
theorem q883 : Cond.instanceMethod yX4_alarmsOn ∈ wsL_law := lwc_37 _ (List.mem_of_getElem? (i := 19) rfl)
theorem q884 : Cond.selects RX4 yX4_alarmsOn yX4_alarmsOn ∈ wsL_law := lwc_37 _ (List.mem_of_getElem? (i := 20) rfl)
theorem q885 : Cond.code yX4_alarmsOn cX4_alarmsOn 3 (some .int) ∈ wsL_law := lwc_37 _ (List.mem_of_getElem? (i := 21) rfl)
theorem q886 : Cond.fieldLink RX4 68 "OhmBridge$Sensor" "alarm" "I" ∈ wsL_law := lwc_37 _ (List.mem_of_getElem? (i := 22) rfl)
theorem q887 : Cond.methodLink RX7 370 yX4_allReadings ∈ wsL_law := lwc_37 _ (List.mem_of_getElem? (i := 23) rfl)
theorem lwc_38 : ∀ w ∈ wsL_law_r38, w ∈ wsL_law := fun _ h => List.mem_append_left _ (List.mem_append_left _ (List.mem_append_left _ (List.mem_append_left _ (List.mem_append_left _ (List.mem_append_left _ (List.mem_append_left _ (List.mem_append_left _ (List.mem_append_left _ (List.mem_append_left _ (List.mem_append_right _ (List.mem_append_right _ (List.mem_append_right _ (List.mem_append_right _ (List.mem_append_right _ (List.mem_append_right _ (List.mem_append_right _ (List.mem_append_right _ (List.mem_append_right _ (List.mem_append_right _ (List.mem_append_right _ (List.mem_append_right _ (List.mem_append_right _ (List.mem_append_right _ (List.mem_append_right _ (List.mem_append_right _ (List.mem_append_right _ (List.mem_append_right _ (List.mem_append_right _ (List.mem_append_right _ (List.mem_append_right _ (List.mem_append_right _ (List.mem_append_right _ (List.mem_append_right _ (List.mem_append_right _ (List.mem_append_right _ (List.mem_append_right _ (List.mem_append_right _ (List.mem_append_right _ (List.mem_append_right _ (List.mem_append_right _ (List.mem_append_right _ (List.mem_append_right _ (List.mem_append_right _ (List.mem_append_right _ (List.mem_append_right _ (List.mem_append_right _ (List.mem_append_left _ h)))))))))))))))))))))))))))))))))))))))))))))))
theorem q888 : Cond.instanceMethod yX4_allReadings ∈ wsL_law := lwc_38 _ (List.mem_of_getElem? (i := 0) rfl)
theorem q889 : Cond.selects RX4 yX4_allReadings yX4_allReadings ∈ wsL_law := lwc_38 _ (List.mem_of_getElem? (i := 1) rfl)
theorem q890 : Cond.code yX4_allReadings cX4_allReadings 3 (some .int) ∈ wsL_law := lwc_38 _ (List.mem_of_getElem? (i := 2) rfl)
theorem q891 : Cond.fieldLink RX4 71 "OhmBridge$Sensor" "readings" "I" ∈ wsL_law := lwc_38 _ (List.mem_of_getElem? (i := 3) rfl)
theorem q892 : Cond.methodLink RL 125 yX8_count ∈ wsL_law := lwc_38 _ (List.mem_of_getElem? (i := 4) rfl)
theorem q893 : Cond.instanceMethod yX8_count ∈ wsL_law := lwc_38 _ (List.mem_of_getElem? (i := 5) rfl)
theorem q894 : Cond.selects RX8 yX8_count yX8_count ∈ wsL_law := lwc_38 _ (List.mem_of_getElem? (i := 6) rfl)
theorem q895 : Cond.code yX8_count cX8_count 6 (some .int) ∈ wsL_law := lwc_38 _ (List.mem_of_getElem? (i := 7) rfl)
theorem q896 : Cond.fieldLink RX8 204 "OhmBridgeModel" "typed" "I" ∈ wsL_law := lwc_38 _ (List.mem_of_getElem? (i := 8) rfl)
theorem q897 : Cond.methodLink RL 126 yX7_undo ∈ wsL_law := lwc_38 _ (List.mem_of_getElem? (i := 9) rfl)
theorem q898 : Cond.instanceMethod yX7_undo ∈ wsL_law := lwc_38 _ (List.mem_of_getElem? (i := 10) rfl)
theorem q899 : Cond.selects RX7 yX7_undo yX7_undo ∈ wsL_law := lwc_38 _ (List.mem_of_getElem? (i := 11) rfl)
theorem q900 : Cond.code yX7_undo cX7_undo 1 (some .int) ∈ wsL_law := lwc_38 _ (List.mem_of_getElem? (i := 12) rfl)
theorem q901 : Cond.methodLink RX7 379 yX0_restore ∈ wsL_law := lwc_38 _ (List.mem_of_getElem? (i := 13) rfl)
theorem q902 : Cond.instanceMethod yX0_restore ∈ wsL_law := lwc_38 _ (List.mem_of_getElem? (i := 14) rfl)
theorem q903 : Cond.selects RX0 yX0_restore yX0_restore ∈ wsL_law := lwc_38 _ (List.mem_of_getElem? (i := 15) rfl)
theorem q904 : Cond.code yX0_restore cX0_restore 2 none ∈ wsL_law := lwc_38 _ (List.mem_of_getElem? (i := 16) rfl)
theorem q905 : Cond.methodLink RL 129 yX8_undo ∈ wsL_law := lwc_38 _ (List.mem_of_getElem? (i := 17) rfl)
theorem q906 : Cond.instanceMethod yX8_undo ∈ wsL_law := lwc_38 _ (List.mem_of_getElem? (i := 18) rfl)
theorem q907 : Cond.selects RX8 yX8_undo yX8_undo ∈ wsL_law := lwc_38 _ (List.mem_of_getElem? (i := 19) rfl)
theorem q908 : Cond.code yX8_undo cX8_undo 2 (some .int) ∈ wsL_law := lwc_38 _ (List.mem_of_getElem? (i := 20) rfl)
theorem q909 : Cond.methodLink RL 130 yX7_type ∈ wsL_law := lwc_38 _ (List.mem_of_getElem? (i := 21) rfl)
theorem q910 : Cond.instanceMethod yX7_type ∈ wsL_law := lwc_38 _ (List.mem_of_getElem? (i := 22) rfl)
theorem q911 : Cond.selects RX7 yX7_type yX7_type ∈ wsL_law := lwc_38 _ (List.mem_of_getElem? (i := 23) rfl)
theorem lwc_39 : ∀ w ∈ wsL_law_r39, w ∈ wsL_law := fun _ h => List.mem_append_left _ (List.mem_append_left _ (List.mem_append_left _ (List.mem_append_left _ (List.mem_append_left _ (List.mem_append_left _ (List.mem_append_left _ (List.mem_append_left _ (List.mem_append_left _ (List.mem_append_left _ (List.mem_append_right _ (List.mem_append_right _ (List.mem_append_right _ (List.mem_append_right _ (List.mem_append_right _ (List.mem_append_right _ (List.mem_append_right _ (List.mem_append_right _ (List.mem_append_right _ (List.mem_append_right _ (List.mem_append_right _ (List.mem_append_right _ (List.mem_append_right _ (List.mem_append_right _ (List.mem_append_right _ (List.mem_append_right _ (List.mem_append_right _ (List.mem_append_right _ (List.mem_append_right _ (List.mem_append_right _ (List.mem_append_right _ (List.mem_append_right _ (List.mem_append_right _ (List.mem_append_right _ (List.mem_append_right _ (List.mem_append_right _ (List.mem_append_right _ (List.mem_append_right _ (List.mem_append_right _ (List.mem_append_right _ (List.mem_append_right _ (List.mem_append_right _ (List.mem_append_right _ (List.mem_append_right _ (List.mem_append_right _ (List.mem_append_right _ (List.mem_append_right _ (List.mem_append_right _ (List.mem_append_left _ h))))))))))))))))))))))))))))))))))))))))))))))))
theorem q912 : Cond.code yX7_type cX7_type 2 (some .int) ∈ wsL_law := lwc_39 _ (List.mem_of_getElem? (i := 0) rfl)
theorem q913 : Cond.constantLong RX7 382 (32) ∈ wsL_law := lwc_39 _ (List.mem_of_getElem? (i := 1) rfl)
theorem q914 : Cond.constantLong RX7 384 (126) ∈ wsL_law := lwc_39 _ (List.mem_of_getElem? (i := 2) rfl)
theorem q915 : Cond.methodLink RX7 386 yX6_append ∈ wsL_law := lwc_39 _ (List.mem_of_getElem? (i := 3) rfl)
theorem q916 : Cond.instanceMethod yX6_append ∈ wsL_law := lwc_39 _ (List.mem_of_getElem? (i := 4) rfl)
theorem q917 : Cond.selects RX6 yX6_append yX6_append ∈ wsL_law := lwc_39 _ (List.mem_of_getElem? (i := 5) rfl)
theorem q918 : Cond.code yX6_append cX6_append 2 none ∈ wsL_law := lwc_39 _ (List.mem_of_getElem? (i := 6) rfl)
theorem q919 : Cond.fieldLink RX6 15 "OhmBridge$Text" "length" "I" ∈ wsL_law := lwc_39 _ (List.mem_of_getElem? (i := 7) rfl)
theorem q920 : Cond.methodLink RL 133 yX8_type ∈ wsL_law := lwc_39 _ (List.mem_of_getElem? (i := 8) rfl)
theorem q921 : Cond.instanceMethod yX8_type ∈ wsL_law := lwc_39 _ (List.mem_of_getElem? (i := 9) rfl)
theorem q922 : Cond.selects RX8 yX8_type yX8_type ∈ wsL_law := lwc_39 _ (List.mem_of_getElem? (i := 10) rfl)
theorem q923 : Cond.code yX8_type cX8_type 2 (some .int) ∈ wsL_law := lwc_39 _ (List.mem_of_getElem? (i := 11) rfl)
theorem q924 : Cond.methodLink RL 134 yX7_clearText ∈ wsL_law := lwc_39 _ (List.mem_of_getElem? (i := 12) rfl)
theorem q925 : Cond.instanceMethod yX7_clearText ∈ wsL_law := lwc_39 _ (List.mem_of_getElem? (i := 13) rfl)
theorem q926 : Cond.selects RX7 yX7_clearText yX7_clearText ∈ wsL_law := lwc_39 _ (List.mem_of_getElem? (i := 14) rfl)
theorem q927 : Cond.code yX7_clearText cX7_clearText 2 (some .int) ∈ wsL_law := lwc_39 _ (List.mem_of_getElem? (i := 15) rfl)
theorem q928 : Cond.methodLink RL 137 yX8_clearText ∈ wsL_law := lwc_39 _ (List.mem_of_getElem? (i := 16) rfl)
theorem q929 : Cond.instanceMethod yX8_clearText ∈ wsL_law := lwc_39 _ (List.mem_of_getElem? (i := 17) rfl)
theorem q930 : Cond.selects RX8 yX8_clearText yX8_clearText ∈ wsL_law := lwc_39 _ (List.mem_of_getElem? (i := 18) rfl)
theorem q931 : Cond.code yX8_clearText cX8_clearText 2 (some .int) ∈ wsL_law := lwc_39 _ (List.mem_of_getElem? (i := 19) rfl)
theorem q932 : Cond.methodLink RL 138 yX7_fault ∈ wsL_law := lwc_39 _ (List.mem_of_getElem? (i := 20) rfl)
theorem q933 : Cond.instanceMethod yX7_fault ∈ wsL_law := lwc_39 _ (List.mem_of_getElem? (i := 21) rfl)
theorem q934 : Cond.selects RX7 yX7_fault yX7_fault ∈ wsL_law := lwc_39 _ (List.mem_of_getElem? (i := 22) rfl)
theorem q935 : Cond.code yX7_fault cX7_fault 2 (some .int) ∈ wsL_law := lwc_39 _ (List.mem_of_getElem? (i := 23) rfl)
theorem lwc_40 : ∀ w ∈ wsL_law_r40, w ∈ wsL_law := fun _ h => List.mem_append_left _ (List.mem_append_left _ (List.mem_append_left _ (List.mem_append_left _ (List.mem_append_left _ (List.mem_append_left _ (List.mem_append_left _ (List.mem_append_left _ (List.mem_append_left _ (List.mem_append_left _ (List.mem_append_right _ (List.mem_append_right _ (List.mem_append_right _ (List.mem_append_right _ (List.mem_append_right _ (List.mem_append_right _ (List.mem_append_right _ (List.mem_append_right _ (List.mem_append_right _ (List.mem_append_right _ (List.mem_append_right _ (List.mem_append_right _ (List.mem_append_right _ (List.mem_append_right _ (List.mem_append_right _ (List.mem_append_right _ (List.mem_append_right _ (List.mem_append_right _ (List.mem_append_right _ (List.mem_append_right _ (List.mem_append_right _ (List.mem_append_right _ (List.mem_append_right _ (List.mem_append_right _ (List.mem_append_right _ (List.mem_append_right _ (List.mem_append_right _ (List.mem_append_right _ (List.mem_append_right _ (List.mem_append_right _ (List.mem_append_right _ (List.mem_append_right _ (List.mem_append_right _ (List.mem_append_right _ (List.mem_append_right _ (List.mem_append_right _ (List.mem_append_right _ (List.mem_append_right _ (List.mem_append_right _ (List.mem_append_left _ h)))))))))))))))))))))))))))))))))))))))))))))))))
theorem q936 : Cond.fieldLink RX7 392 "OhmBridge" "faultReason" "I" ∈ wsL_law := lwc_40 _ (List.mem_of_getElem? (i := 0) rfl)
theorem q937 : Cond.fieldLink RX7 395 "OhmBridge" "faultPlace" "I" ∈ wsL_law := lwc_40 _ (List.mem_of_getElem? (i := 1) rfl)
theorem q938 : Cond.methodLink RX7 389 yX7_tryOrders ∈ wsL_law := lwc_40 _ (List.mem_of_getElem? (i := 2) rfl)
theorem q939 : Cond.instanceMethod yX7_tryOrders ∈ wsL_law := lwc_40 _ (List.mem_of_getElem? (i := 3) rfl)
theorem q940 : Cond.selects RX7 yX7_tryOrders yX7_tryOrders ∈ wsL_law := lwc_40 _ (List.mem_of_getElem? (i := 4) rfl)
theorem q941 : Cond.code yX7_tryOrders cX7_tryOrders 2 none ∈ wsL_law := lwc_40 _ (List.mem_of_getElem? (i := 5) rfl)
theorem q942 : Cond.fieldLink RX7 401 "OhmBridge" "ordersDone" "I" ∈ wsL_law := lwc_40 _ (List.mem_of_getElem? (i := 6) rfl)
theorem q943 : Cond.fieldLink RX7 410 "OhmBridge$Text" "next" "I" ∈ wsL_law := lwc_40 _ (List.mem_of_getElem? (i := 7) rfl)
theorem q944 : Cond.methodLink RX7 398 yX4_copy ∈ wsL_law := lwc_40 _ (List.mem_of_getElem? (i := 8) rfl)
theorem q945 : Cond.methodLink RX7 404 yX6_parse ∈ wsL_law := lwc_40 _ (List.mem_of_getElem? (i := 9) rfl)
theorem q946 : Cond.instanceMethod yX6_parse ∈ wsL_law := lwc_40 _ (List.mem_of_getElem? (i := 10) rfl)
theorem q947 : Cond.selects RX6 yX6_parse yX6_parse ∈ wsL_law := lwc_40 _ (List.mem_of_getElem? (i := 11) rfl)
theorem q948 : Cond.code yX6_parse cX6_parse 2 (some .boolean) ∈ wsL_law := lwc_40 _ (List.mem_of_getElem? (i := 12) rfl)
theorem q949 : Cond.fieldLink RX6 23 "OhmBridge$Text" "order" "C" ∈ wsL_law := lwc_40 _ (List.mem_of_getElem? (i := 13) rfl)
theorem q950 : Cond.fieldLink RX6 27 "OhmBridge$Text" "next" "I" ∈ wsL_law := lwc_40 _ (List.mem_of_getElem? (i := 14) rfl)
theorem q951 : Cond.fieldLink RX6 38 "OhmBridge$Text" "sensor" "I" ∈ wsL_law := lwc_40 _ (List.mem_of_getElem? (i := 15) rfl)
theorem q952 : Cond.methodLink RX6 19 yX6_characterAt ∈ wsL_law := lwc_40 _ (List.mem_of_getElem? (i := 16) rfl)
theorem q953 : Cond.instanceMethod yX6_characterAt ∈ wsL_law := lwc_40 _ (List.mem_of_getElem? (i := 17) rfl)
theorem q954 : Cond.selects RX6 yX6_characterAt yX6_characterAt ∈ wsL_law := lwc_40 _ (List.mem_of_getElem? (i := 18) rfl)
theorem q955 : Cond.code yX6_characterAt cX6_characterAt 3 (some .char) ∈ wsL_law := lwc_40 _ (List.mem_of_getElem? (i := 19) rfl)
theorem q956 : Cond.methodLink RX6 30 yX6_takes ∈ wsL_law := lwc_40 _ (List.mem_of_getElem? (i := 20) rfl)
theorem q957 : Cond.instanceMethod yX6_takes ∈ wsL_law := lwc_40 _ (List.mem_of_getElem? (i := 21) rfl)
theorem q958 : Cond.selects RX6 yX6_takes yX6_takes ∈ wsL_law := lwc_40 _ (List.mem_of_getElem? (i := 22) rfl)
theorem q959 : Cond.code yX6_takes cX6_takes 2 (some .boolean) ∈ wsL_law := lwc_40 _ (List.mem_of_getElem? (i := 23) rfl)
theorem lwc_41 : ∀ w ∈ wsL_law_r41, w ∈ wsL_law := fun _ h => List.mem_append_left _ (List.mem_append_left _ (List.mem_append_left _ (List.mem_append_left _ (List.mem_append_left _ (List.mem_append_left _ (List.mem_append_left _ (List.mem_append_left _ (List.mem_append_left _ (List.mem_append_left _ (List.mem_append_right _ (List.mem_append_right _ (List.mem_append_right _ (List.mem_append_right _ (List.mem_append_right _ (List.mem_append_right _ (List.mem_append_right _ (List.mem_append_right _ (List.mem_append_right _ (List.mem_append_right _ (List.mem_append_right _ (List.mem_append_right _ (List.mem_append_right _ (List.mem_append_right _ (List.mem_append_right _ (List.mem_append_right _ (List.mem_append_right _ (List.mem_append_right _ (List.mem_append_right _ (List.mem_append_right _ (List.mem_append_right _ (List.mem_append_right _ (List.mem_append_right _ (List.mem_append_right _ (List.mem_append_right _ (List.mem_append_right _ (List.mem_append_right _ (List.mem_append_right _ (List.mem_append_right _ (List.mem_append_right _ (List.mem_append_right _ (List.mem_append_right _ (List.mem_append_right _ (List.mem_append_right _ (List.mem_append_right _ (List.mem_append_right _ (List.mem_append_right _ (List.mem_append_right _ (List.mem_append_right _ (List.mem_append_right _ (List.mem_append_left _ h))))))))))))))))))))))))))))))))))))))))))))))))))
theorem q960 : Cond.methodLink RX6 34 yX6_parsedDigits ∈ wsL_law := lwc_41 _ (List.mem_of_getElem? (i := 0) rfl)
theorem q961 : Cond.instanceMethod yX6_parsedDigits ∈ wsL_law := lwc_41 _ (List.mem_of_getElem? (i := 1) rfl)
theorem q962 : Cond.selects RX6 yX6_parsedDigits yX6_parsedDigits ∈ wsL_law := lwc_41 _ (List.mem_of_getElem? (i := 2) rfl)
theorem q963 : Cond.code yX6_parsedDigits cX6_parsedDigits 3 (some .int) ∈ wsL_law := lwc_41 _ (List.mem_of_getElem? (i := 3) rfl)
theorem q964 : Cond.methodLink RX6 41 yX6_parsesNumber ∈ wsL_law := lwc_41 _ (List.mem_of_getElem? (i := 4) rfl)
theorem q965 : Cond.instanceMethod yX6_parsesNumber ∈ wsL_law := lwc_41 _ (List.mem_of_getElem? (i := 5) rfl)
theorem q966 : Cond.selects RX6 yX6_parsesNumber yX6_parsesNumber ∈ wsL_law := lwc_41 _ (List.mem_of_getElem? (i := 6) rfl)
theorem q967 : Cond.code yX6_parsesNumber cX6_parsesNumber 3 (some .boolean) ∈ wsL_law := lwc_41 _ (List.mem_of_getElem? (i := 7) rfl)
theorem q968 : Cond.fieldLink RX6 45 "OhmBridge$Text" "number" "I" ∈ wsL_law := lwc_41 _ (List.mem_of_getElem? (i := 8) rfl)
theorem q969 : Cond.methodLink RX7 407 yX7_obey ∈ wsL_law := lwc_41 _ (List.mem_of_getElem? (i := 9) rfl)
theorem q970 : Cond.instanceMethod yX7_obey ∈ wsL_law := lwc_41 _ (List.mem_of_getElem? (i := 10) rfl)
theorem q971 : Cond.selects RX7 yX7_obey yX7_obey ∈ wsL_law := lwc_41 _ (List.mem_of_getElem? (i := 11) rfl)
theorem q972 : Cond.code yX7_obey cX7_obey 3 (some .int) ∈ wsL_law := lwc_41 _ (List.mem_of_getElem? (i := 12) rfl)
theorem q973 : Cond.fieldLink RX7 413 "OhmBridge$Text" "order" "C" ∈ wsL_law := lwc_41 _ (List.mem_of_getElem? (i := 13) rfl)
theorem q974 : Cond.fieldLink RX7 417 "OhmBridge$Text" "sensor" "I" ∈ wsL_law := lwc_41 _ (List.mem_of_getElem? (i := 14) rfl)
theorem q975 : Cond.methodLink RX7 420 yX7_obeyBath ∈ wsL_law := lwc_41 _ (List.mem_of_getElem? (i := 15) rfl)
theorem q976 : Cond.instanceMethod yX7_obeyBath ∈ wsL_law := lwc_41 _ (List.mem_of_getElem? (i := 16) rfl)
theorem q977 : Cond.selects RX7 yX7_obeyBath yX7_obeyBath ∈ wsL_law := lwc_41 _ (List.mem_of_getElem? (i := 17) rfl)
theorem q978 : Cond.code yX7_obeyBath cX7_obeyBath 2 (some .int) ∈ wsL_law := lwc_41 _ (List.mem_of_getElem? (i := 18) rfl)
theorem q979 : Cond.fieldLink RX7 427 "OhmBridge$Text" "number" "I" ∈ wsL_law := lwc_41 _ (List.mem_of_getElem? (i := 19) rfl)
theorem q980 : Cond.methodLink RX7 424 yX7_obeyCut ∈ wsL_law := lwc_41 _ (List.mem_of_getElem? (i := 20) rfl)
theorem q981 : Cond.instanceMethod yX7_obeyCut ∈ wsL_law := lwc_41 _ (List.mem_of_getElem? (i := 21) rfl)
theorem q982 : Cond.selects RX7 yX7_obeyCut yX7_obeyCut ∈ wsL_law := lwc_41 _ (List.mem_of_getElem? (i := 22) rfl)
theorem q983 : Cond.code yX7_obeyCut cX7_obeyCut 2 (some .int) ∈ wsL_law := lwc_41 _ (List.mem_of_getElem? (i := 23) rfl)
theorem lwc_42 : ∀ w ∈ wsL_law_r42, w ∈ wsL_law := fun _ h => List.mem_append_left _ (List.mem_append_left _ (List.mem_append_left _ (List.mem_append_left _ (List.mem_append_left _ (List.mem_append_left _ (List.mem_append_left _ (List.mem_append_left _ (List.mem_append_left _ (List.mem_append_left _ (List.mem_append_right _ (List.mem_append_right _ (List.mem_append_right _ (List.mem_append_right _ (List.mem_append_right _ (List.mem_append_right _ (List.mem_append_right _ (List.mem_append_right _ (List.mem_append_right _ (List.mem_append_right _ (List.mem_append_right _ (List.mem_append_right _ (List.mem_append_right _ (List.mem_append_right _ (List.mem_append_right _ (List.mem_append_right _ (List.mem_append_right _ (List.mem_append_right _ (List.mem_append_right _ (List.mem_append_right _ (List.mem_append_right _ (List.mem_append_right _ (List.mem_append_right _ (List.mem_append_right _ (List.mem_append_right _ (List.mem_append_right _ (List.mem_append_right _ (List.mem_append_right _ (List.mem_append_right _ (List.mem_append_right _ (List.mem_append_right _ (List.mem_append_right _ (List.mem_append_right _ (List.mem_append_right _ (List.mem_append_right _ (List.mem_append_right _ (List.mem_append_right _ (List.mem_append_right _ (List.mem_append_right _ (List.mem_append_right _ (List.mem_append_right _ (List.mem_append_left _ h)))))))))))))))))))))))))))))))))))))))))))))))))))
theorem q984 : Cond.methodLink RL 141 yX8_fault ∈ wsL_law := lwc_42 _ (List.mem_of_getElem? (i := 0) rfl)
theorem q985 : Cond.instanceMethod yX8_fault ∈ wsL_law := lwc_42 _ (List.mem_of_getElem? (i := 1) rfl)
theorem q986 : Cond.selects RX8 yX8_fault yX8_fault ∈ wsL_law := lwc_42 _ (List.mem_of_getElem? (i := 2) rfl)
theorem q987 : Cond.code yX8_fault cX8_fault 3 (some .int) ∈ wsL_law := lwc_42 _ (List.mem_of_getElem? (i := 3) rfl)
theorem q988 : Cond.fieldLink RX8 227 "OhmBridgeModel" "reason" "I" ∈ wsL_law := lwc_42 _ (List.mem_of_getElem? (i := 4) rfl)
theorem q989 : Cond.methodLink RX8 230 yX8_faulty ∈ wsL_law := lwc_42 _ (List.mem_of_getElem? (i := 5) rfl)
theorem q990 : Cond.instanceMethod yX8_faulty ∈ wsL_law := lwc_42 _ (List.mem_of_getElem? (i := 6) rfl)
theorem q991 : Cond.selects RX8 yX8_faulty yX8_faulty ∈ wsL_law := lwc_42 _ (List.mem_of_getElem? (i := 7) rfl)
theorem q992 : Cond.code yX8_faulty cX8_faulty 3 (some .int) ∈ wsL_law := lwc_42 _ (List.mem_of_getElem? (i := 8) rfl)
theorem q993 : Cond.fieldLink RX8 207 "OhmBridgeModel" "at" "I" ∈ wsL_law := lwc_42 _ (List.mem_of_getElem? (i := 9) rfl)
theorem q994 : Cond.methodLink RX8 224 yX8_doesNext ∈ wsL_law := lwc_42 _ (List.mem_of_getElem? (i := 10) rfl)
theorem q995 : Cond.instanceMethod yX8_doesNext ∈ wsL_law := lwc_42 _ (List.mem_of_getElem? (i := 11) rfl)
theorem q996 : Cond.selects RX8 yX8_doesNext yX8_doesNext ∈ wsL_law := lwc_42 _ (List.mem_of_getElem? (i := 12) rfl)
theorem q997 : Cond.code yX8_doesNext cX8_doesNext 3 (some .int) ∈ wsL_law := lwc_42 _ (List.mem_of_getElem? (i := 13) rfl)
theorem q998 : Cond.methodLink RX8 217 yX8_readsForm ∈ wsL_law := lwc_42 _ (List.mem_of_getElem? (i := 14) rfl)
theorem q999 : Cond.instanceMethod yX8_readsForm ∈ wsL_law := lwc_42 _ (List.mem_of_getElem? (i := 15) rfl)
theorem q1000 : Cond.selects RX8 yX8_readsForm yX8_readsForm ∈ wsL_law := lwc_42 _ (List.mem_of_getElem? (i := 16) rfl)
theorem q1001 : Cond.code yX8_readsForm cX8_readsForm 4 (some .boolean) ∈ wsL_law := lwc_42 _ (List.mem_of_getElem? (i := 17) rfl)
theorem q1002 : Cond.methodLink RX8 210 yX8_takes ∈ wsL_law := lwc_42 _ (List.mem_of_getElem? (i := 18) rfl)
theorem q1003 : Cond.instanceMethod yX8_takes ∈ wsL_law := lwc_42 _ (List.mem_of_getElem? (i := 19) rfl)
theorem q1004 : Cond.selects RX8 yX8_takes yX8_takes ∈ wsL_law := lwc_42 _ (List.mem_of_getElem? (i := 20) rfl)
theorem q1005 : Cond.code yX8_takes cX8_takes 3 (some .boolean) ∈ wsL_law := lwc_42 _ (List.mem_of_getElem? (i := 21) rfl)
theorem q1006 : Cond.methodLink RX8 213 yX8_passes ∈ wsL_law := lwc_42 _ (List.mem_of_getElem? (i := 22) rfl)
theorem q1007 : Cond.instanceMethod yX8_passes ∈ wsL_law := lwc_42 _ (List.mem_of_getElem? (i := 23) rfl)
theorem lwc_43 : ∀ w ∈ wsL_law_r43, w ∈ wsL_law := fun _ h => List.mem_append_left _ (List.mem_append_left _ (List.mem_append_left _ (List.mem_append_left _ (List.mem_append_left _ (List.mem_append_left _ (List.mem_append_left _ (List.mem_append_left _ (List.mem_append_left _ (List.mem_append_left _ (List.mem_append_right _ (List.mem_append_right _ (List.mem_append_right _ (List.mem_append_right _ (List.mem_append_right _ (List.mem_append_right _ (List.mem_append_right _ (List.mem_append_right _ (List.mem_append_right _ (List.mem_append_right _ (List.mem_append_right _ (List.mem_append_right _ (List.mem_append_right _ (List.mem_append_right _ (List.mem_append_right _ (List.mem_append_right _ (List.mem_append_right _ (List.mem_append_right _ (List.mem_append_right _ (List.mem_append_right _ (List.mem_append_right _ (List.mem_append_right _ (List.mem_append_right _ (List.mem_append_right _ (List.mem_append_right _ (List.mem_append_right _ (List.mem_append_right _ (List.mem_append_right _ (List.mem_append_right _ (List.mem_append_right _ (List.mem_append_right _ (List.mem_append_right _ (List.mem_append_right _ (List.mem_append_right _ (List.mem_append_right _ (List.mem_append_right _ (List.mem_append_right _ (List.mem_append_right _ (List.mem_append_right _ (List.mem_append_right _ (List.mem_append_right _ (List.mem_append_right _ (h))))))))))))))))))))))))))))))))))))))))))))))))))))
theorem q1008 : Cond.selects RX8 yX8_passes yX8_passes ∈ wsL_law := lwc_43 _ (List.mem_of_getElem? (i := 0) rfl)
theorem q1009 : Cond.code yX8_passes cX8_passes 3 (some .boolean) ∈ wsL_law := lwc_43 _ (List.mem_of_getElem? (i := 1) rfl)
theorem q1010 : Cond.methodLink RX8 220 yX8_does ∈ wsL_law := lwc_43 _ (List.mem_of_getElem? (i := 2) rfl)
theorem q1011 : Cond.instanceMethod yX8_does ∈ wsL_law := lwc_43 _ (List.mem_of_getElem? (i := 3) rfl)
theorem q1012 : Cond.selects RX8 yX8_does yX8_does ∈ wsL_law := lwc_43 _ (List.mem_of_getElem? (i := 4) rfl)
theorem q1013 : Cond.code yX8_does cX8_does 2 (some .int) ∈ wsL_law := lwc_43 _ (List.mem_of_getElem? (i := 5) rfl)
theorem q1014 : Cond.methodLink RL 142 yX7_play ∈ wsL_law := lwc_43 _ (List.mem_of_getElem? (i := 6) rfl)
theorem q1015 : Cond.instanceMethod yX7_play ∈ wsL_law := lwc_43 _ (List.mem_of_getElem? (i := 7) rfl)
theorem q1016 : Cond.selects RX7 yX7_play yX7_play ∈ wsL_law := lwc_43 _ (List.mem_of_getElem? (i := 8) rfl)
theorem q1017 : Cond.code yX7_play cX7_play 1 (some .int) ∈ wsL_law := lwc_43 _ (List.mem_of_getElem? (i := 9) rfl)
theorem q1018 : Cond.methodLink RL 145 yX8_play ∈ wsL_law := lwc_43 _ (List.mem_of_getElem? (i := 10) rfl)
theorem q1019 : Cond.instanceMethod yX8_play ∈ wsL_law := lwc_43 _ (List.mem_of_getElem? (i := 11) rfl)
theorem q1020 : Cond.selects RX8 yX8_play yX8_play ∈ wsL_law := lwc_43 _ (List.mem_of_getElem? (i := 12) rfl)
theorem q1021 : Cond.code yX8_play cX8_play 2 (some .int) ∈ wsL_law := lwc_43 _ (List.mem_of_getElem? (i := 13) rfl)
theorem wsL_good : wsL_law.all goodWord = true := by decide +kernel
theorem wsL_good1 : ∀ w ∈ wsL_law, w ∈ wsL_law ∧ ((w.onTables && w.keeps) = true ∨ ∃ ty, w = .arrayClass ty) := fun w h => ⟨h, good_of_word (List.all_eq_true.mp wsL_good w h)⟩
abbrev wsM (y : MethodName) (cc : ByteArray) (n : Nat) (r : Option FieldType) : List Cond := Cond.code y cc n r :: wsL_law
theorem wsM_good {y : MethodName} {cc : ByteArray} {n : Nat} {r : Option FieldType} (h : Cond.code y cc n r ∈ wsL_law) : GoodIn wsL_law (wsM y cc n r) := fun w hw => (List.mem_cons.mp hw).elim (fun e => e ▸ wsL_good1 _ h) (wsL_good1 w)
theorem gl_V {own C : String} {idx : Nat} {y : MethodName} {cc : ByteArray} {n : Nat} {r : Option FieldType} (h1 : Cond.methodLink own idx y ∈ wsL_law) (h2 : Cond.instanceMethod y ∈ wsL_law) (h3 : Cond.selects C y y ∈ wsL_law) (h4 : Cond.initialized C ∈ wsL_law) (h5 : Cond.code y cc n r ∈ wsL_law) : GoodIn wsL_law (wsV own idx C y (wsM y cc n r)) := goodIn_app (fun w hw => by
  simp only [List.mem_cons, List.not_mem_nil, or_false] at hw
  rcases hw with rfl | rfl | rfl | rfl
  · exact wsL_good1 _ h1
  · exact wsL_good1 _ h2
  · exact wsL_good1 _ h3
  · exact wsL_good1 _ h4) (wsM_good h5)
theorem gl_S {own : String} {idx : Nat} {y : MethodName} {cc : ByteArray} {n : Nat} {r : Option FieldType} (h1 : Cond.methodLink own idx y ∈ wsL_law) (h2 : Cond.static y ∈ wsL_law) (h4 : Cond.initialized y.cls ∈ wsL_law) (h5 : Cond.code y cc n r ∈ wsL_law) : GoodIn wsL_law (va_wsS own idx y (wsM y cc n r)) := goodIn_app (fun w hw => by
  simp only [List.mem_cons, List.not_mem_nil, or_false] at hw
  rcases hw with rfl | rfl | rfl
  · exact wsL_good1 _ h1
  · exact wsL_good1 _ h2
  · exact wsL_good1 _ h4) (wsM_good h5)
