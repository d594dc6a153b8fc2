section
theorem goodIn_r {big : List Cond} (ws : List Cond) (ps : List Nat) (hp : ws = ps.filterMap (fun i => big[i]?)) (h : ws.all goodWord = true) : GoodIn big ws := by
  intro w hw
  have h1 := List.all_eq_true.mp h w hw
  rw [hp] at hw
  obtain ⟨i, -, hi⟩ := List.mem_filterMap.mp hw
  have hm : w ∈ big := by first | exact List.mem_of_getElem? hi | exact List.getElem?_mem hi
  exact ⟨hm, good_of_word h1⟩
theorem goodIn_app {big a b : List Cond} (ha : GoodIn big a) (hb : GoodIn big b) : GoodIn big (a ++ b) := fun w h => (List.mem_append.mp h).elim (ha w) (hb w)
theorem goodIn_ca {big a b : List Cond} {c : Cond} (ha : GoodIn big (c :: a)) (hb : GoodIn big b) : GoodIn big (c :: (a ++ b)) := fun w h => (List.mem_cons.mp h).elim (fun e => ha w (List.mem_cons.mpr (Or.inl e))) (fun h => (List.mem_append.mp h).elim (fun h => ha w (List.mem_cons.mpr (Or.inr h))) (hb w))
theorem goodIn_sub {big ws : List Cond} (hm : ∀ w ∈ ws, w ∈ big) (h : ws.all goodWord = true) : GoodIn big ws := fun w hw => ⟨hm w hw, good_of_word (List.all_eq_true.mp h w hw)⟩
def RX0 : String := "RelayTrays$Act"
def TX0 : u_T := fun k => match k with
  | 0 => ("RelayTrays$Act", "what", "I", true)
  | 1 => ("RelayTrays$Act", "tray", "I", true)
  | 2 => ("RelayTrays$Act", "a", "I", true)
  | 3 => ("RelayTrays$Act", "kind", "I", true)
  | _ => ("RelayTrays$Act", "e", "I", true)
def tyX0 : Nat → FieldType := fun k => match k with
  | 0 => .int
  | 1 => .int
  | 2 => .int
  | 3 => .int
  | _ => .int
abbrev wsX00 : List Cond := u_ws RX0 TX0 5
theorem nmX0 : ∀ a, a < 5 → ∀ b, b < 5 → a ≠ b → (TX0 a).2.1 ≠ (TX0 b).2.1 := by decide +kernel
theorem tyX0_ok : ∀ k, k < 5 → parseFieldDescriptor (TX0 k).2.2.1 = some (tyX0 k) := by decide +kernel
abbrev cX0_init : ByteArray := prog_2_method_1_code
def yX0_init : MethodName := ⟨RX0, "<init>", "(IIIII)V"⟩
def RX1 : String := "RelayTrays$Numbers"
def TX1 : u_T := fun k => match k with
  | _ => ("", "", "", false)
def tyX1 : Nat → FieldType := fun k => match k with
  | _ => .int
abbrev wsX10 : List Cond := u_ws RX1 TX1 0
theorem nmX1 : ∀ a, a < 0 → ∀ b, b < 0 → a ≠ b → (TX1 a).2.1 ≠ (TX1 b).2.1 := by decide +kernel
theorem tyX1_ok : ∀ k, k < 0 → parseFieldDescriptor (TX1 k).2.2.1 = some (tyX1 k) := by decide +kernel
abbrev cX1_isKind : ByteArray := prog_3_method_2_code
def yX1_isKind : MethodName := ⟨RX1, "isKind", "(I)Z"⟩
abbrev cX1_goesInto : ByteArray := prog_3_method_3_code
def yX1_goesInto : MethodName := ⟨RX1, "goesInto", "(II)Z"⟩
abbrev cX1_told : ByteArray := prog_3_method_4_code
def yX1_told : MethodName := ⟨RX1, "told", "(IJ)J"⟩
abbrev cX1_turned : ByteArray := prog_3_method_5_code
def yX1_turned : MethodName := ⟨RX1, "turned", "(IIJ)J"⟩
abbrev cX1_nearest : ByteArray := prog_3_method_6_code
def yX1_nearest : MethodName := ⟨RX1, "nearest", "(JIII)J"⟩
abbrev cX1_shortened : ByteArray := prog_3_method_7_code
def yX1_shortened : MethodName := ⟨RX1, "shortened", "(JI)J"⟩
abbrev cX1_doubleOfFloat : ByteArray := prog_3_method_8_code
def yX1_doubleOfFloat : MethodName := ⟨RX1, "doubleOfFloat", "(J)J"⟩
def RX2 : String := "RelayTrays$Row"
def TX2 : u_T := fun k => match k with
  | 0 => ("RelayTrays$Row", "kind", "I", true)
  | _ => ("RelayTrays$Row", "places", "[J", true)
def tyX2 : Nat → FieldType := fun k => match k with
  | 0 => .int
  | _ => .array .long
abbrev wsX20 : List Cond := u_ws RX2 TX2 2
theorem nmX2 : ∀ a, a < 2 → ∀ b, b < 2 → a ≠ b → (TX2 a).2.1 ≠ (TX2 b).2.1 := by decide +kernel
theorem tyX2_ok : ∀ k, k < 2 → parseFieldDescriptor (TX2 k).2.2.1 = some (tyX2 k) := by decide +kernel
abbrev cX2_init : ByteArray := prog_4_method_1_code
def yX2_init : MethodName := ⟨RX2, "<init>", "(II)V"⟩
abbrev cX2_hasPlace : ByteArray := prog_4_method_2_code
def yX2_hasPlace : MethodName := ⟨RX2, "hasPlace", "(I)Z"⟩
def RX3 : String := "RelayTrays"
def TX3 : u_T := fun k => match k with
  | 0 => ("RelayTrays", "trays", "[LRelayTrays$Row;", true)
  | 1 => ("RelayTrays", "order", "[LRelayTrays$Act;", true)
  | 2 => ("RelayTrays", "acts", "I", false)
  | 3 => ("RelayTrays", "handKind", "I", false)
  | 4 => ("RelayTrays", "handBits", "J", false)
  | 5 => ("RelayTrays", "seenBits", "J", false)
  | 6 => ("RelayTrays", "point", "I", false)
  | 7 => ("RelayTrays", "goesOnAt", "I", false)
  | 8 => ("RelayTrays", "stepsBegun", "I", false)
  | 9 => ("RelayTrays", "causeAct", "I", false)
  | 10 => ("RelayTrays", "rowsMade", "I", false)
  | 11 => ("RelayTrays", "runs", "I", false)
  | 12 => ("RelayTrays", "runsOverByCause", "I", false)
  | 13 => ("RelayTrays", "runsSpent", "I", false)
  | _ => ("RelayTrays", "timesMet", "[I", true)
def tyX3 : Nat → FieldType := fun k => match k with
  | 0 => .array (.object "RelayTrays$Row")
  | 1 => .array (.object "RelayTrays$Act")
  | 2 => .int
  | 3 => .int
  | 4 => .long
  | 5 => .long
  | 6 => .int
  | 7 => .int
  | 8 => .int
  | 9 => .int
  | 10 => .int
  | 11 => .int
  | 12 => .int
  | 13 => .int
  | _ => .array .int
abbrev wsX30 : List Cond := u_ws RX3 TX3 15
theorem nmX3 : ∀ a, a < 15 → ∀ b, b < 15 → a ≠ b → (TX3 a).2.1 ≠ (TX3 b).2.1 := by decide +kernel
theorem tyX3_ok : ∀ k, k < 15 → parseFieldDescriptor (TX3 k).2.2.1 = some (tyX3 k) := by decide +kernel
abbrev cX3_init : ByteArray := prog_1_method_1_code
def yX3_init : MethodName := ⟨RX3, "<init>", "()V"⟩
abbrev cX3_make : ByteArray := prog_1_method_2_code
def yX3_make : MethodName := ⟨RX3, "make", "(III)I"⟩
abbrev cX3_put : ByteArray := prog_1_method_3_code
def yX3_put : MethodName := ⟨RX3, "put", "(IIIJ)I"⟩
abbrev cX3_look : ByteArray := prog_1_method_4_code
def yX3_look : MethodName := ⟨RX3, "look", "(II)I"⟩
abbrev cX3_kind : ByteArray := prog_1_method_5_code
def yX3_kind : MethodName := ⟨RX3, "kind", "(I)I"⟩
abbrev cX3_size : ByteArray := prog_1_method_6_code
def yX3_size : MethodName := ⟨RX3, "size", "(I)I"⟩
abbrev cX3_same : ByteArray := prog_1_method_7_code
def yX3_same : MethodName := ⟨RX3, "same", "(II)I"⟩
abbrev cX3_give : ByteArray := prog_1_method_8_code
def yX3_give : MethodName := ⟨RX3, "give", "(IJ)I"⟩
abbrev cX3_hand : ByteArray := prog_1_method_9_code
def yX3_hand : MethodName := ⟨RX3, "hand", "()I"⟩
abbrev cX3_seen : ByteArray := prog_1_method_10_code
def yX3_seen : MethodName := ⟨RX3, "seen", "()J"⟩
abbrev cX3_point : ByteArray := prog_1_method_11_code
def yX3_point : MethodName := ⟨RX3, "point", "()I"⟩
abbrev cX3_step : ByteArray := prog_1_method_12_code
def yX3_step : MethodName := ⟨RX3, "step", "(IIIII)I"⟩
abbrev cX3_alter : ByteArray := prog_1_method_13_code
def yX3_alter : MethodName := ⟨RX3, "alter", "(IIIIII)I"⟩
abbrev cX3_clear : ByteArray := prog_1_method_14_code
def yX3_clear : MethodName := ⟨RX3, "clear", "()I"⟩
abbrev cX3_run : ByteArray := prog_1_method_15_code
def yX3_run : MethodName := ⟨RX3, "run", "()I"⟩
abbrev cX3_answerOfRun : ByteArray := prog_1_method_16_code
def yX3_answerOfRun : MethodName := ⟨RX3, "answerOfRun", "(ZI)I"⟩
abbrev cX3_begun : ByteArray := prog_1_method_17_code
def yX3_begun : MethodName := ⟨RX3, "begun", "()I"⟩
abbrev cX3_where : ByteArray := prog_1_method_18_code
def yX3_where : MethodName := ⟨RX3, "where", "()I"⟩
abbrev cX3_count : ByteArray := prog_1_method_19_code
def yX3_count : MethodName := ⟨RX3, "count", "(I)I"⟩
abbrev cX3_countOfCause : ByteArray := prog_1_method_20_code
def yX3_countOfCause : MethodName := ⟨RX3, "countOfCause", "(I)I"⟩
abbrev cX3_isTray : ByteArray := prog_1_method_21_code
def yX3_isTray : MethodName := ⟨RX3, "isTray", "(I)Z"⟩
abbrev cX3_isAct : ByteArray := prog_1_method_22_code
def yX3_isAct : MethodName := ⟨RX3, "isAct", "(III)Z"⟩
abbrev cX3_actNumbered : ByteArray := prog_1_method_23_code
def yX3_actNumbered : MethodName := ⟨RX3, "actNumbered", "(I)LRelayTrays$Act;"⟩
abbrev cX3_answerBehind : ByteArray := prog_1_method_24_code
def yX3_answerBehind : MethodName := ⟨RX3, "answerBehind", "(I)I"⟩
abbrev cX3_countCause : ByteArray := prog_1_method_25_code
def yX3_countCause : MethodName := ⟨RX3, "countCause", "(I)V"⟩
abbrev cX3_perform : ByteArray := prog_1_method_26_code
def yX3_perform : MethodName := ⟨RX3, "perform", "(LRelayTrays$Act;)I"⟩
abbrev cX3_performWithoutCause : ByteArray := prog_1_method_27_code
def yX3_performWithoutCause : MethodName := ⟨RX3, "performWithoutCause", "(LRelayTrays$Act;)V"⟩
abbrev cX3_takeNumber : ByteArray := prog_1_method_28_code
def yX3_takeNumber : MethodName := ⟨RX3, "takeNumber", "(LRelayTrays$Row;I)I"⟩
abbrev cX3_readNumber : ByteArray := prog_1_method_29_code
def yX3_readNumber : MethodName := ⟨RX3, "readNumber", "(LRelayTrays$Row;II)I"⟩
abbrev cX3_layNumber : ByteArray := prog_1_method_30_code
def yX3_layNumber : MethodName := ⟨RX3, "layNumber", "(LRelayTrays$Row;IIJ)I"⟩
abbrev cX3_countPlaces : ByteArray := prog_1_method_31_code
def yX3_countPlaces : MethodName := ⟨RX3, "countPlaces", "(LRelayTrays$Row;)I"⟩
abbrev cX3_layNewRow : ByteArray := prog_1_method_32_code
def yX3_layNewRow : MethodName := ⟨RX3, "layNewRow", "(III)I"⟩
abbrev cX3_goOnWhilePlace : ByteArray := prog_1_method_33_code
def yX3_goOnWhilePlace : MethodName := ⟨RX3, "goOnWhilePlace", "(LRelayTrays$Row;I)I"⟩
abbrev cX3_addNumber : ByteArray := prog_1_method_34_code
def yX3_addNumber : MethodName := ⟨RX3, "addNumber", "(LRelayTrays$Row;I)I"⟩
abbrev cX3_swapNumber : ByteArray := prog_1_method_35_code
def yX3_swapNumber : MethodName := ⟨RX3, "swapNumber", "(LRelayTrays$Row;I)I"⟩
abbrev cX3_carry : ByteArray := prog_1_method_36_code
def yX3_carry : MethodName := ⟨RX3, "carry", "(IJ)V"⟩
def RX4 : String := "RelayTraysModel"
def TX4 : u_T := fun k => match k with
  | 0 => ("RelayTraysModel", "made", "I", false)
  | 1 => ("RelayTraysModel", "kindOf", "[I", true)
  | 2 => ("RelayTraysModel", "sizeOf", "[I", true)
  | 3 => ("RelayTraysModel", "number", "[J", true)
  | 4 => ("RelayTraysModel", "on", "[I", true)
  | 5 => ("RelayTraysModel", "handKind", "I", false)
  | 6 => ("RelayTraysModel", "handBits", "J", false)
  | 7 => ("RelayTraysModel", "seen", "J", false)
  | 8 => ("RelayTraysModel", "point", "I", false)
  | 9 => ("RelayTraysModel", "acts", "I", false)
  | 10 => ("RelayTraysModel", "what", "[I", true)
  | 11 => ("RelayTraysModel", "tray", "[I", true)
  | 12 => ("RelayTraysModel", "number1", "[I", true)
  | 13 => ("RelayTraysModel", "kind", "[I", true)
  | 14 => ("RelayTraysModel", "otherwise", "[I", true)
  | 15 => ("RelayTraysModel", "runs", "I", false)
  | 16 => ("RelayTraysModel", "broken", "I", false)
  | 17 => ("RelayTraysModel", "spent", "I", false)
  | 18 => ("RelayTraysModel", "begun", "I", false)
  | 19 => ("RelayTraysModel", "where", "I", false)
  | 20 => ("RelayTraysModel", "met", "[I", true)
  | _ => ("RelayTraysModel", "next", "I", false)
def tyX4 : Nat → FieldType := fun k => match k with
  | 0 => .int
  | 1 => .array .int
  | 2 => .array .int
  | 3 => .array .long
  | 4 => .array .int
  | 5 => .int
  | 6 => .long
  | 7 => .long
  | 8 => .int
  | 9 => .int
  | 10 => .array .int
  | 11 => .array .int
  | 12 => .array .int
  | 13 => .array .int
  | 14 => .array .int
  | 15 => .int
  | 16 => .int
  | 17 => .int
  | 18 => .int
  | 19 => .int
  | 20 => .array .int
  | _ => .int
abbrev wsX40 : List Cond := u_ws RX4 TX4 22
theorem nmX4 : ∀ a, a < 22 → ∀ b, b < 22 → a ≠ b → (TX4 a).2.1 ≠ (TX4 b).2.1 := by decide +kernel
theorem tyX4_ok : ∀ k, k < 22 → parseFieldDescriptor (TX4 k).2.2.1 = some (tyX4 k) := by decide +kernel
abbrev cX4_init : ByteArray := prog_6_method_1_code
def yX4_init : MethodName := ⟨RX4, "<init>", "()V"⟩
abbrev cX4_in : ByteArray := prog_6_method_2_code
def yX4_in : MethodName := ⟨RX4, "in", "(III)Z"⟩
abbrev cX4_fails : ByteArray := prog_6_method_3_code
def yX4_fails : MethodName := ⟨RX4, "fails", "(I)I"⟩
abbrev cX4_told : ByteArray := prog_6_method_4_code
def yX4_told : MethodName := ⟨RX4, "told", "(IJ)J"⟩
abbrev cX4_goes : ByteArray := prog_6_method_5_code
def yX4_goes : MethodName := ⟨RX4, "goes", "(II)Z"⟩
abbrev cX4_into : ByteArray := prog_6_method_6_code
def yX4_into : MethodName := ⟨RX4, "into", "(IIJ)J"⟩
abbrev cX4_makes : ByteArray := prog_6_method_7_code
def yX4_makes : MethodName := ⟨RX4, "makes", "(III)I"⟩
abbrev cX4_isTray : ByteArray := prog_6_method_8_code
def yX4_isTray : MethodName := ⟨RX4, "isTray", "(I)Z"⟩
abbrev cX4_isKind : ByteArray := prog_6_method_9_code
def yX4_isKind : MethodName := ⟨RX4, "isKind", "(I)Z"⟩
abbrev cX4_make : ByteArray := prog_6_method_10_code
def yX4_make : MethodName := ⟨RX4, "make", "(III)I"⟩
abbrev cX4_has : ByteArray := prog_6_method_11_code
def yX4_has : MethodName := ⟨RX4, "has", "(II)Z"⟩
abbrev cX4_put : ByteArray := prog_6_method_12_code
def yX4_put : MethodName := ⟨RX4, "put", "(IIIJ)I"⟩
abbrev cX4_look : ByteArray := prog_6_method_13_code
def yX4_look : MethodName := ⟨RX4, "look", "(II)I"⟩
abbrev cX4_give : ByteArray := prog_6_method_14_code
def yX4_give : MethodName := ⟨RX4, "give", "(IJ)I"⟩
abbrev cX4_holds : ByteArray := prog_6_method_15_code
def yX4_holds : MethodName := ⟨RX4, "holds", "(IJ)V"⟩
abbrev cX4_hand : ByteArray := prog_6_method_16_code
def yX4_hand : MethodName := ⟨RX4, "hand", "()I"⟩
abbrev cX4_seen : ByteArray := prog_6_method_17_code
def yX4_seen : MethodName := ⟨RX4, "seen", "()J"⟩
abbrev cX4_kind : ByteArray := prog_6_method_18_code
def yX4_kind : MethodName := ⟨RX4, "kind", "(I)I"⟩
abbrev cX4_size : ByteArray := prog_6_method_19_code
def yX4_size : MethodName := ⟨RX4, "size", "(I)I"⟩
abbrev cX4_same : ByteArray := prog_6_method_20_code
def yX4_same : MethodName := ⟨RX4, "same", "(II)I"⟩
abbrev cX4_tells : ByteArray := prog_6_method_21_code
def yX4_tells : MethodName := ⟨RX4, "tells", "(IIIIII)V"⟩
abbrev cX4_isAct : ByteArray := prog_6_method_22_code
def yX4_isAct : MethodName := ⟨RX4, "isAct", "(III)Z"⟩
abbrev cX4_step : ByteArray := prog_6_method_23_code
def yX4_step : MethodName := ⟨RX4, "step", "(IIIII)I"⟩
abbrev cX4_alter : ByteArray := prog_6_method_24_code
def yX4_alter : MethodName := ⟨RX4, "alter", "(IIIIII)I"⟩
abbrev cX4_clear : ByteArray := prog_6_method_25_code
def yX4_clear : MethodName := ⟨RX4, "clear", "()I"⟩
abbrev cX4_atPlace : ByteArray := prog_6_method_26_code
def yX4_atPlace : MethodName := ⟨RX4, "atPlace", "(IIII)I"⟩
abbrev cX4_plain : ByteArray := prog_6_method_27_code
def yX4_plain : MethodName := ⟨RX4, "plain", "(I)I"⟩
abbrev cX4_run : ByteArray := prog_6_method_28_code
def yX4_run : MethodName := ⟨RX4, "run", "()I"⟩
abbrev cX4_point : ByteArray := prog_6_method_29_code
def yX4_point : MethodName := ⟨RX4, "point", "()I"⟩
abbrev cX4_begun : ByteArray := prog_6_method_30_code
def yX4_begun : MethodName := ⟨RX4, "begun", "()I"⟩
abbrev cX4_where : ByteArray := prog_6_method_31_code
def yX4_where : MethodName := ⟨RX4, "where", "()I"⟩
abbrev cX4_count : ByteArray := prog_6_method_32_code
def yX4_count : MethodName := ⟨RX4, "count", "(I)I"⟩
def RJxe99ae : String := "java/lang/Double"
def TJxe99ae : u_T := fun k => match k with
  | _ => ("", "", "", false)
def tyJxe99ae : Nat → FieldType := fun k => match k with
  | _ => .int
abbrev wsJxe99ae0 : List Cond := u_ws RJxe99ae TJxe99ae 0
theorem nmJxe99ae : ∀ a, a < 0 → ∀ b, b < 0 → a ≠ b → (TJxe99ae a).2.1 ≠ (TJxe99ae b).2.1 := by decide +kernel
theorem tyJxe99ae_ok : ∀ k, k < 0 → parseFieldDescriptor (TJxe99ae k).2.2.1 = some (tyJxe99ae k) := by decide +kernel
abbrev cJxe99ae_isNaN_b9ae7 : ByteArray := prog_7_method_6_code
def yJxe99ae_isNaN_b9ae7 : MethodName := ⟨RJxe99ae, "isNaN", "(D)Z"⟩
abbrev cJxe99ae_doubleToLongBits_ccdee : ByteArray := prog_7_method_23_code
def yJxe99ae_doubleToLongBits_ccdee : MethodName := ⟨RJxe99ae, "doubleToLongBits", "(D)J"⟩
def RJxf58ca : String := "java/lang/Float"
def TJxf58ca : u_T := fun k => match k with
  | _ => ("", "", "", false)
def tyJxf58ca : Nat → FieldType := fun k => match k with
  | _ => .int
abbrev wsJxf58ca0 : List Cond := u_ws RJxf58ca TJxf58ca 0
theorem nmJxf58ca : ∀ a, a < 0 → ∀ b, b < 0 → a ≠ b → (TJxf58ca a).2.1 ≠ (TJxf58ca b).2.1 := by decide +kernel
theorem tyJxf58ca_ok : ∀ k, k < 0 → parseFieldDescriptor (TJxf58ca k).2.2.1 = some (tyJxf58ca k) := by decide +kernel
abbrev cJxf58ca_isNaN_12338 : ByteArray := prog_8_method_6_code
def yJxf58ca_isNaN_12338 : MethodName := ⟨RJxf58ca, "isNaN", "(F)Z"⟩
abbrev cJxf58ca_floatToIntBits_5c35a : ByteArray := prog_8_method_24_code
def yJxf58ca_floatToIntBits_5c35a : MethodName := ⟨RJxf58ca, "floatToIntBits", "(F)I"⟩
def RJ6 : String := "java/lang/Integer"
def TJ6 : u_T := fun k => match k with
  | _ => ("", "", "", false)
def tyJ6 : Nat → FieldType := fun k => match k with
  | _ => .int
abbrev wsJ60 : List Cond := u_ws RJ6 TJ6 0
theorem nmJ6 : ∀ a, a < 0 → ∀ b, b < 0 → a ≠ b → (TJ6 a).2.1 ≠ (TJ6 b).2.1 := by decide +kernel
theorem tyJ6_ok : ∀ k, k < 0 → parseFieldDescriptor (TJ6 k).2.2.1 = some (tyJ6 k) := by decide +kernel
abbrev cJ6_numberOfLeadingZeros_0f7a4 : ByteArray := prog_9_method_47_code
def yJ6_numberOfLeadingZeros_0f7a4 : MethodName := ⟨RJ6, "numberOfLeadingZeros", "(I)I"⟩
def RJ13 : String := "java/lang/Long"
def TJ13 : u_T := fun k => match k with
  | _ => ("", "", "", false)
def tyJ13 : Nat → FieldType := fun k => match k with
  | _ => .int
abbrev wsJ130 : List Cond := u_ws RJ13 TJ13 0
theorem nmJ13 : ∀ a, a < 0 → ∀ b, b < 0 → a ≠ b → (TJ13 a).2.1 ≠ (TJ13 b).2.1 := by decide +kernel
theorem tyJ13_ok : ∀ k, k < 0 → parseFieldDescriptor (TJ13 k).2.2.1 = some (tyJ13 k) := by decide +kernel
abbrev cJ13_numberOfLeadingZeros_95d88 : ByteArray := prog_10_method_48_code
def yJ13_numberOfLeadingZeros_95d88 : MethodName := ⟨RJ13, "numberOfLeadingZeros", "(J)I"⟩
def RJ9 : String := "java/lang/Math"
def TJ9 : u_T := fun k => match k with
  | _ => ("", "", "", false)
def tyJ9 : Nat → FieldType := fun k => match k with
  | _ => .int
abbrev wsJ90 : List Cond := u_ws RJ9 TJ9 0
theorem nmJ9 : ∀ a, a < 0 → ∀ b, b < 0 → a ≠ b → (TJ9 a).2.1 ≠ (TJ9 b).2.1 := by decide +kernel
theorem tyJ9_ok : ∀ k, k < 0 → parseFieldDescriptor (TJ9 k).2.2.1 = some (tyJ9 k) := by decide +kernel
abbrev cJ9_floorMod_7cf53 : ByteArray := prog_11_method_50_code
def yJ9_floorMod_7cf53 : MethodName := ⟨RJ9, "floorMod", "(II)I"⟩
def RL : String := "RelayTraysLaw"
abbrev cL_law : ByteArray := code
def yL_law : MethodName := ⟨RL, "law", "([I)Z"⟩
def wsX0_init : List Cond := .code yX0_init cX0_init 6 none :: ([.methodLink RX0 1 objectInit, .instanceMethod objectInit, .code objectInit ⟨#[0xb1]⟩ 1 none, .fieldLink RX0 7 "RelayTrays$Act" "what" "I", .fieldLink RX0 13 "RelayTrays$Act" "tray" "I", .fieldLink RX0 16 "RelayTrays$Act" "a" "I", .fieldLink RX0 19 "RelayTrays$Act" "kind" "I", .fieldLink RX0 22 "RelayTrays$Act" "e" "I"] ++ wsX00)
def wsX1_isKind : List Cond := .code yX1_isKind cX1_isKind 1 (some .boolean) :: ([])
def wsX1_goesInto : List Cond := .code yX1_goesInto cX1_goesInto 2 (some .boolean) :: ([.fieldLink RX1 13 "RelayTrays$Numbers" "GOES_INTO" "[I", .methodLink RX1 9 yX1_isKind, .static yX1_isKind, .initialized RX1, .code yX1_isKind cX1_isKind 1 (some .boolean)])
def wsX1_told : List Cond := .code yX1_told cX1_told 3 (some .long) :: ([.constantLong RX1 17 (2147483647), .constantLong RX1 19 (2139095040), .constantLong RX1 21 (2143289344), .constantLong RX1 23 (9223372036854775807), .constantLong RX1 25 (9218868437227405312), .constantLong RX1 27 (9221120237041090560)])
def wsJ6_numberOfLeadingZeros_0f7a4 : List Cond := .code yJ6_numberOfLeadingZeros_0f7a4 cJ6_numberOfLeadingZeros_0f7a4 2 (some .int) :: ([.constant RJ6 264 (65536)])
def wsJ13_numberOfLeadingZeros_95d88 : List Cond := .code yJ13_numberOfLeadingZeros_95d88 cJ13_numberOfLeadingZeros_95d88 3 (some .int) :: ([.methodLink RJ13 308 yJ6_numberOfLeadingZeros_0f7a4, .static yJ6_numberOfLeadingZeros_0f7a4, .initialized RJ6, .code yJ6_numberOfLeadingZeros_0f7a4 cJ6_numberOfLeadingZeros_0f7a4 2 (some .int), .constant RJ6 264 (65536)])
def wsX1_shortened : List Cond := .code yX1_shortened cX1_shortened 10 (some .long) :: ([])
def wsX1_nearest : List Cond := .code yX1_nearest cX1_nearest 12 (some .long) :: ([.constantLong RX1 47 (-1), .methodLink RX1 37 yJ13_numberOfLeadingZeros_95d88, .static yJ13_numberOfLeadingZeros_95d88, .initialized RJ13, .code yJ13_numberOfLeadingZeros_95d88 cJ13_numberOfLeadingZeros_95d88 3 (some .int), .methodLink RJ13 308 yJ6_numberOfLeadingZeros_0f7a4, .static yJ6_numberOfLeadingZeros_0f7a4, .initialized RJ6, .code yJ6_numberOfLeadingZeros_0f7a4 cJ6_numberOfLeadingZeros_0f7a4 2 (some .int), .constant RJ6 264 (65536), .methodLink RX1 43 yX1_shortened, .static yX1_shortened, .initialized RX1, .code yX1_shortened cX1_shortened 10 (some .long)])
def wsX1_doubleOfFloat_r1 : List Cond := [Cond.constantLong RX1 17 (2147483647), Cond.constantLong RX1 49 (8388608), Cond.constantLong RX1 51 (671036344478203904), Cond.constantLong RX1 19 (2139095040), Cond.constantLong RX1 53 (4035225266123964416), Cond.constantLong RX1 25 (9218868437227405312), Cond.constantLong RX1 27 (9221120237041090560), Cond.constantLong RX1 55 (-9223372036854775808), Cond.methodLink RX1 29 yX1_nearest, Cond.static yX1_nearest, Cond.initialized RX1, Cond.code yX1_nearest cX1_nearest 12 (some .long), Cond.constantLong RX1 47 (-1), Cond.methodLink RX1 37 yJ13_numberOfLeadingZeros_95d88, Cond.static yJ13_numberOfLeadingZeros_95d88, Cond.initialized RJ13, Cond.code yJ13_numberOfLeadingZeros_95d88 cJ13_numberOfLeadingZeros_95d88 3 (some .int), Cond.methodLink RJ13 308 yJ6_numberOfLeadingZeros_0f7a4, Cond.static yJ6_numberOfLeadingZeros_0f7a4, Cond.initialized RJ6, Cond.code yJ6_numberOfLeadingZeros_0f7a4 cJ6_numberOfLeadingZeros_0f7a4 2 (some .int), Cond.constant RJ6 264 (65536), Cond.methodLink RX1 43 yX1_shortened, Cond.static yX1_shortened]
def wsX1_doubleOfFloat_r2 : List Cond := [Cond.code yX1_shortened cX1_shortened 10 (some .long)]
def wsX1_doubleOfFloat : List Cond := .code yX1_doubleOfFloat cX1_doubleOfFloat 6 (some .long) :: ((wsX1_doubleOfFloat_r1 ++ wsX1_doubleOfFloat_r2))
def wsX1_turned_r1 : List Cond := [Cond.methodLink RX1 29 yX1_nearest, Cond.static yX1_nearest, Cond.initialized RX1, Cond.code yX1_nearest cX1_nearest 12 (some .long), Cond.constantLong RX1 47 (-1), Cond.methodLink RX1 37 yJ13_numberOfLeadingZeros_95d88, Cond.static yJ13_numberOfLeadingZeros_95d88, Cond.initialized RJ13, Cond.code yJ13_numberOfLeadingZeros_95d88 cJ13_numberOfLeadingZeros_95d88 3 (some .int), Cond.methodLink RJ13 308 yJ6_numberOfLeadingZeros_0f7a4, Cond.static yJ6_numberOfLeadingZeros_0f7a4, Cond.initialized RJ6, Cond.code yJ6_numberOfLeadingZeros_0f7a4 cJ6_numberOfLeadingZeros_0f7a4 2 (some .int), Cond.constant RJ6 264 (65536), Cond.methodLink RX1 43 yX1_shortened, Cond.static yX1_shortened, Cond.code yX1_shortened cX1_shortened 10 (some .long), Cond.methodLink RX1 33 yX1_doubleOfFloat, Cond.static yX1_doubleOfFloat, Cond.code yX1_doubleOfFloat cX1_doubleOfFloat 6 (some .long), Cond.constantLong RX1 17 (2147483647), Cond.constantLong RX1 49 (8388608), Cond.constantLong RX1 51 (671036344478203904), Cond.constantLong RX1 19 (2139095040)]
def wsX1_turned_r2 : List Cond := [Cond.constantLong RX1 53 (4035225266123964416), Cond.constantLong RX1 25 (9218868437227405312), Cond.constantLong RX1 27 (9221120237041090560), Cond.constantLong RX1 55 (-9223372036854775808)]
def wsX1_turned : List Cond := .code yX1_turned cX1_turned 4 (some .long) :: ((wsX1_turned_r1 ++ wsX1_turned_r2))
def wsX2_init : List Cond := .code yX2_init cX2_init 3 none :: ([.methodLink RX2 1 objectInit, .instanceMethod objectInit, .code objectInit ⟨#[0xb1]⟩ 1 none, .fieldLink RX2 7 "RelayTrays$Row" "kind" "I", .arrayClass .long, .fieldLink RX2 13 "RelayTrays$Row" "places" "[J"] ++ wsX20)
def wsX2_hasPlace : List Cond := .code yX2_hasPlace cX2_hasPlace 2 (some .boolean) :: ([.fieldLink RX2 13 "RelayTrays$Row" "places" "[J"] ++ wsX20)
def wsX3_init : List Cond := .code yX3_init cX3_init 1 none :: ([.methodLink RX3 1 objectInit, .instanceMethod objectInit, .code objectInit ⟨#[0xb1]⟩ 1 none, .classLink RX3 9 RX2, .fieldLink RX3 11 "RelayTrays" "trays" "[LRelayTrays$Row;", .classLink RX3 15 RX0, .fieldLink RX3 17 "RelayTrays" "order" "[LRelayTrays$Act;", .fieldLink RX3 21 "RelayTrays" "acts" "I", .fieldLink RX3 25 "RelayTrays" "handKind" "I", .fieldLink RX3 28 "RelayTrays" "handBits" "J", .fieldLink RX3 32 "RelayTrays" "seenBits" "J", .fieldLink RX3 35 "RelayTrays" "point" "I", .fieldLink RX3 38 "RelayTrays" "goesOnAt" "I", .fieldLink RX3 41 "RelayTrays" "stepsBegun" "I", .fieldLink RX3 44 "RelayTrays" "causeAct" "I", .fieldLink RX3 47 "RelayTrays" "rowsMade" "I", .fieldLink RX3 50 "RelayTrays" "runs" "I", .fieldLink RX3 53 "RelayTrays" "runsOverByCause" "I", .fieldLink RX3 56 "RelayTrays" "runsSpent" "I", .arrayClass .int, .fieldLink RX3 59 "RelayTrays" "timesMet" "[I"] ++ wsX30)
def wsX3_isTray : List Cond := .code yX3_isTray cX3_isTray 1 (some .boolean) :: ([])
def wsX3_layNewRow : List Cond := .code yX3_layNewRow cX3_layNewRow 4 (some .int) :: ([.fieldLink RX3 47 "RelayTrays" "rowsMade" "I", .fieldLink RX3 11 "RelayTrays" "trays" "[LRelayTrays$Row;", .classLink RX3 9 RX2, .instantiable RX2 2, .initialized RX2, .methodLink RX3 180 yX2_init, .instanceMethod yX2_init, .code yX2_init cX2_init 3 none, .methodLink RX2 1 objectInit, .instanceMethod objectInit, .code objectInit ⟨#[0xb1]⟩ 1 none, .fieldLink RX2 7 "RelayTrays$Row" "kind" "I", .arrayClass .long, .fieldLink RX2 13 "RelayTrays$Row" "places" "[J"] ++ wsX30 ++ wsX20)
def wsX3_countCause : List Cond := .code yX3_countCause cX3_countCause 2 none :: ([.fieldLink RX3 59 "RelayTrays" "timesMet" "[I"] ++ wsX30)
def wsX3_answerBehind : List Cond := .code yX3_answerBehind cX3_answerBehind 2 (some .int) :: ([.methodLink RX3 120 yX3_countCause, .instanceMethod yX3_countCause, .selects RX3 yX3_countCause yX3_countCause, .initialized RX3, .code yX3_countCause cX3_countCause 2 none, .fieldLink RX3 59 "RelayTrays" "timesMet" "[I"] ++ wsX30)
def wsX3_make_r1 : List Cond := [Cond.methodLink RX3 63 yX3_isTray, Cond.static yX3_isTray, Cond.initialized RX3, Cond.code yX3_isTray cX3_isTray 1 (some .boolean), Cond.methodLink RX3 67 yX1_isKind, Cond.static yX1_isKind, Cond.initialized RX1, Cond.code yX1_isKind cX1_isKind 1 (some .boolean), Cond.methodLink RX3 72 yX3_layNewRow, Cond.instanceMethod yX3_layNewRow, Cond.selects RX3 yX3_layNewRow yX3_layNewRow, Cond.code yX3_layNewRow cX3_layNewRow 4 (some .int), Cond.fieldLink RX3 47 "RelayTrays" "rowsMade" "I", Cond.fieldLink RX3 11 "RelayTrays" "trays" "[LRelayTrays$Row;", Cond.classLink RX3 9 RX2, Cond.instantiable RX2 2, Cond.initialized RX2, Cond.methodLink RX3 180 yX2_init, Cond.instanceMethod yX2_init, Cond.code yX2_init cX2_init 3 none, Cond.methodLink RX2 1 objectInit, Cond.instanceMethod objectInit, Cond.code objectInit ⟨#[0xb1]⟩ 1 none, Cond.fieldLink RX2 7 "RelayTrays$Row" "kind" "I"]
def wsX3_make_r2 : List Cond := [Cond.arrayClass .long, Cond.fieldLink RX2 13 "RelayTrays$Row" "places" "[J", Cond.methodLink RX3 76 yX3_answerBehind, Cond.instanceMethod yX3_answerBehind, Cond.selects RX3 yX3_answerBehind yX3_answerBehind, Cond.code yX3_answerBehind cX3_answerBehind 2 (some .int), Cond.methodLink RX3 120 yX3_countCause, Cond.instanceMethod yX3_countCause, Cond.selects RX3 yX3_countCause yX3_countCause, Cond.code yX3_countCause cX3_countCause 2 none, Cond.fieldLink RX3 59 "RelayTrays" "timesMet" "[I"]
def wsX3_make : List Cond := .code yX3_make cX3_make 4 (some .int) :: ((wsX3_make_r1 ++ wsX3_make_r2) ++ wsX30 ++ wsX20)
def wsX3_layNumber_r1 : List Cond := [Cond.fieldLink RX3 95 "RelayTrays$Row" "kind" "I", Cond.fieldLink RX3 91 "RelayTrays$Row" "places" "[J", Cond.methodLink RX3 88 yX2_hasPlace, Cond.instanceMethod yX2_hasPlace, Cond.selects RX2 yX2_hasPlace yX2_hasPlace, Cond.initialized RX2, Cond.code yX2_hasPlace cX2_hasPlace 2 (some .boolean), Cond.fieldLink RX2 13 "RelayTrays$Row" "places" "[J", Cond.methodLink RX3 172 yX1_goesInto, Cond.static yX1_goesInto, Cond.initialized RX1, Cond.code yX1_goesInto cX1_goesInto 2 (some .boolean), Cond.fieldLink RX1 13 "RelayTrays$Numbers" "GOES_INTO" "[I", Cond.methodLink RX1 9 yX1_isKind, Cond.static yX1_isKind, Cond.code yX1_isKind cX1_isKind 1 (some .boolean), Cond.methodLink RX3 176 yX1_turned, Cond.static yX1_turned, Cond.code yX1_turned cX1_turned 4 (some .long), Cond.methodLink RX1 29 yX1_nearest, Cond.static yX1_nearest, Cond.code yX1_nearest cX1_nearest 12 (some .long), Cond.constantLong RX1 47 (-1), Cond.methodLink RX1 37 yJ13_numberOfLeadingZeros_95d88]
def wsX3_layNumber_r2 : List Cond := [Cond.static yJ13_numberOfLeadingZeros_95d88, Cond.initialized RJ13, Cond.code yJ13_numberOfLeadingZeros_95d88 cJ13_numberOfLeadingZeros_95d88 3 (some .int), Cond.methodLink RJ13 308 yJ6_numberOfLeadingZeros_0f7a4, Cond.static yJ6_numberOfLeadingZeros_0f7a4, Cond.initialized RJ6, Cond.code yJ6_numberOfLeadingZeros_0f7a4 cJ6_numberOfLeadingZeros_0f7a4 2 (some .int), Cond.constant RJ6 264 (65536), Cond.methodLink RX1 43 yX1_shortened, Cond.static yX1_shortened, Cond.code yX1_shortened cX1_shortened 10 (some .long), Cond.methodLink RX1 33 yX1_doubleOfFloat, Cond.static yX1_doubleOfFloat, Cond.code yX1_doubleOfFloat cX1_doubleOfFloat 6 (some .long), Cond.constantLong RX1 17 (2147483647), Cond.constantLong RX1 49 (8388608), Cond.constantLong RX1 51 (671036344478203904), Cond.constantLong RX1 19 (2139095040), Cond.constantLong RX1 53 (4035225266123964416), Cond.constantLong RX1 25 (9218868437227405312), Cond.constantLong RX1 27 (9221120237041090560), Cond.constantLong RX1 55 (-9223372036854775808)]
def wsX3_layNumber : List Cond := .code yX3_layNumber cX3_layNumber 6 (some .int) :: ((wsX3_layNumber_r1 ++ wsX3_layNumber_r2) ++ wsX20)
def wsX3_put_r1 : List Cond := [Cond.fieldLink RX3 11 "RelayTrays" "trays" "[LRelayTrays$Row;", Cond.methodLink RX3 63 yX3_isTray, Cond.static yX3_isTray, Cond.initialized RX3, Cond.code yX3_isTray cX3_isTray 1 (some .boolean), Cond.methodLink RX3 67 yX1_isKind, Cond.static yX1_isKind, Cond.initialized RX1, Cond.code yX1_isKind cX1_isKind 1 (some .boolean), Cond.methodLink RX3 80 yX1_told, Cond.static yX1_told, Cond.code yX1_told cX1_told 3 (some .long), Cond.constantLong RX1 17 (2147483647), Cond.constantLong RX1 19 (2139095040), Cond.constantLong RX1 21 (2143289344), Cond.constantLong RX1 23 (9223372036854775807), Cond.constantLong RX1 25 (9218868437227405312), Cond.constantLong RX1 27 (9221120237041090560), Cond.methodLink RX3 84 yX3_layNumber, Cond.instanceMethod yX3_layNumber, Cond.selects RX3 yX3_layNumber yX3_layNumber, Cond.code yX3_layNumber cX3_layNumber 6 (some .int), Cond.fieldLink RX3 95 "RelayTrays$Row" "kind" "I", Cond.fieldLink RX3 91 "RelayTrays$Row" "places" "[J"]
def wsX3_put_r2 : List Cond := [Cond.methodLink RX3 88 yX2_hasPlace, Cond.instanceMethod yX2_hasPlace, Cond.selects RX2 yX2_hasPlace yX2_hasPlace, Cond.initialized RX2, Cond.code yX2_hasPlace cX2_hasPlace 2 (some .boolean), Cond.fieldLink RX2 13 "RelayTrays$Row" "places" "[J", Cond.methodLink RX3 172 yX1_goesInto, Cond.static yX1_goesInto, Cond.code yX1_goesInto cX1_goesInto 2 (some .boolean), Cond.fieldLink RX1 13 "RelayTrays$Numbers" "GOES_INTO" "[I", Cond.methodLink RX1 9 yX1_isKind, Cond.methodLink RX3 176 yX1_turned, Cond.static yX1_turned, Cond.code yX1_turned cX1_turned 4 (some .long), Cond.methodLink RX1 29 yX1_nearest, Cond.static yX1_nearest, Cond.code yX1_nearest cX1_nearest 12 (some .long), Cond.constantLong RX1 47 (-1), Cond.methodLink RX1 37 yJ13_numberOfLeadingZeros_95d88, Cond.static yJ13_numberOfLeadingZeros_95d88, Cond.initialized RJ13, Cond.code yJ13_numberOfLeadingZeros_95d88 cJ13_numberOfLeadingZeros_95d88 3 (some .int), Cond.methodLink RJ13 308 yJ6_numberOfLeadingZeros_0f7a4, Cond.static yJ6_numberOfLeadingZeros_0f7a4]
def wsX3_put_r3 : List Cond := [Cond.initialized RJ6, Cond.code yJ6_numberOfLeadingZeros_0f7a4 cJ6_numberOfLeadingZeros_0f7a4 2 (some .int), Cond.constant RJ6 264 (65536), Cond.methodLink RX1 43 yX1_shortened, Cond.static yX1_shortened, Cond.code yX1_shortened cX1_shortened 10 (some .long), Cond.methodLink RX1 33 yX1_doubleOfFloat, Cond.static yX1_doubleOfFloat, Cond.code yX1_doubleOfFloat cX1_doubleOfFloat 6 (some .long), Cond.constantLong RX1 49 (8388608), Cond.constantLong RX1 51 (671036344478203904), Cond.constantLong RX1 53 (4035225266123964416), Cond.constantLong RX1 55 (-9223372036854775808), Cond.methodLink RX3 76 yX3_answerBehind, Cond.instanceMethod yX3_answerBehind, Cond.selects RX3 yX3_answerBehind yX3_answerBehind, Cond.code yX3_answerBehind cX3_answerBehind 2 (some .int), Cond.methodLink RX3 120 yX3_countCause, Cond.instanceMethod yX3_countCause, Cond.selects RX3 yX3_countCause yX3_countCause, Cond.code yX3_countCause cX3_countCause 2 none, Cond.fieldLink RX3 59 "RelayTrays" "timesMet" "[I"]
def wsX3_put : List Cond := .code yX3_put cX3_put 6 (some .int) :: ((wsX3_put_r1 ++ (wsX3_put_r2 ++ wsX3_put_r3)) ++ wsX30 ++ wsX20)
def wsX3_look : List Cond := .code yX3_look cX3_look 4 (some .int) :: ([.fieldLink RX3 11 "RelayTrays" "trays" "[LRelayTrays$Row;", .fieldLink RX3 91 "RelayTrays$Row" "places" "[J", .fieldLink RX3 32 "RelayTrays" "seenBits" "J", .fieldLink RX3 95 "RelayTrays$Row" "kind" "I", .methodLink RX3 63 yX3_isTray, .static yX3_isTray, .initialized RX3, .code yX3_isTray cX3_isTray 1 (some .boolean), .methodLink RX3 76 yX3_answerBehind, .instanceMethod yX3_answerBehind, .selects RX3 yX3_answerBehind yX3_answerBehind, .code yX3_answerBehind cX3_answerBehind 2 (some .int), .methodLink RX3 120 yX3_countCause, .instanceMethod yX3_countCause, .selects RX3 yX3_countCause yX3_countCause, .code yX3_countCause cX3_countCause 2 none, .fieldLink RX3 59 "RelayTrays" "timesMet" "[I", .methodLink RX3 88 yX2_hasPlace, .instanceMethod yX2_hasPlace, .selects RX2 yX2_hasPlace yX2_hasPlace, .initialized RX2, .code yX2_hasPlace cX2_hasPlace 2 (some .boolean), .fieldLink RX2 13 "RelayTrays$Row" "places" "[J"] ++ wsX30 ++ wsX20)
def wsX3_kind : List Cond := .code yX3_kind cX3_kind 3 (some .int) :: ([.fieldLink RX3 11 "RelayTrays" "trays" "[LRelayTrays$Row;", .fieldLink RX3 95 "RelayTrays$Row" "kind" "I", .methodLink RX3 63 yX3_isTray, .static yX3_isTray, .initialized RX3, .code yX3_isTray cX3_isTray 1 (some .boolean)] ++ wsX30 ++ wsX20)
def wsX3_size : List Cond := .code yX3_size cX3_size 3 (some .int) :: ([.fieldLink RX3 11 "RelayTrays" "trays" "[LRelayTrays$Row;", .fieldLink RX3 91 "RelayTrays$Row" "places" "[J", .methodLink RX3 63 yX3_isTray, .static yX3_isTray, .initialized RX3, .code yX3_isTray cX3_isTray 1 (some .boolean)] ++ wsX30 ++ wsX20)
def wsX3_same : List Cond := .code yX3_same cX3_same 3 (some .int) :: ([.fieldLink RX3 11 "RelayTrays" "trays" "[LRelayTrays$Row;", .methodLink RX3 63 yX3_isTray, .static yX3_isTray, .initialized RX3, .code yX3_isTray cX3_isTray 1 (some .boolean)] ++ wsX30)
def wsX3_carry : List Cond := .code yX3_carry cX3_carry 4 none :: ([.fieldLink RX3 25 "RelayTrays" "handKind" "I", .fieldLink RX3 28 "RelayTrays" "handBits" "J"] ++ wsX30)
def wsX3_give : List Cond := .code yX3_give cX3_give 5 (some .int) :: ([.fieldLink RX3 25 "RelayTrays" "handKind" "I", .methodLink RX3 67 yX1_isKind, .static yX1_isKind, .initialized RX1, .code yX1_isKind cX1_isKind 1 (some .boolean), .methodLink RX3 80 yX1_told, .static yX1_told, .code yX1_told cX1_told 3 (some .long), .constantLong RX1 17 (2147483647), .constantLong RX1 19 (2139095040), .constantLong RX1 21 (2143289344), .constantLong RX1 23 (9223372036854775807), .constantLong RX1 25 (9218868437227405312), .constantLong RX1 27 (9221120237041090560), .methodLink RX3 98 yX3_carry, .instanceMethod yX3_carry, .selects RX3 yX3_carry yX3_carry, .initialized RX3, .code yX3_carry cX3_carry 4 none, .fieldLink RX3 28 "RelayTrays" "handBits" "J"] ++ wsX30)
def wsX3_hand : List Cond := .code yX3_hand cX3_hand 1 (some .int) :: ([.fieldLink RX3 25 "RelayTrays" "handKind" "I", .fieldLink RX3 28 "RelayTrays" "handBits" "J", .fieldLink RX3 32 "RelayTrays" "seenBits" "J"] ++ wsX30)
def wsX3_seen : List Cond := .code yX3_seen cX3_seen 1 (some .long) :: ([.fieldLink RX3 32 "RelayTrays" "seenBits" "J"] ++ wsX30)
def wsX3_point : List Cond := .code yX3_point cX3_point 1 (some .int) :: ([.fieldLink RX3 35 "RelayTrays" "point" "I"] ++ wsX30)
def wsX3_isAct : List Cond := .code yX3_isAct cX3_isAct 3 (some .boolean) :: ([.methodLink RX3 63 yX3_isTray, .static yX3_isTray, .initialized RX3, .code yX3_isTray cX3_isTray 1 (some .boolean), .methodLink RX3 67 yX1_isKind, .static yX1_isKind, .initialized RX1, .code yX1_isKind cX1_isKind 1 (some .boolean)])
def wsX3_step_r1 : List Cond := [Cond.fieldLink RX3 21 "RelayTrays" "acts" "I", Cond.fieldLink RX3 17 "RelayTrays" "order" "[LRelayTrays$Act;", Cond.classLink RX3 15 RX0, Cond.instantiable RX0 5, Cond.initialized RX0, Cond.methodLink RX3 102 yX3_isAct, Cond.static yX3_isAct, Cond.initialized RX3, Cond.code yX3_isAct cX3_isAct 3 (some .boolean), Cond.methodLink RX3 63 yX3_isTray, Cond.static yX3_isTray, Cond.code yX3_isTray cX3_isTray 1 (some .boolean), Cond.methodLink RX3 67 yX1_isKind, Cond.static yX1_isKind, Cond.initialized RX1, Cond.code yX1_isKind cX1_isKind 1 (some .boolean), Cond.methodLink RX3 106 yX0_init, Cond.instanceMethod yX0_init, Cond.code yX0_init cX0_init 6 none, Cond.methodLink RX0 1 objectInit, Cond.instanceMethod objectInit, Cond.code objectInit ⟨#[0xb1]⟩ 1 none, Cond.fieldLink RX0 7 "RelayTrays$Act" "what" "I", Cond.fieldLink RX0 13 "RelayTrays$Act" "tray" "I"]
def wsX3_step_r2 : List Cond := [Cond.fieldLink RX0 16 "RelayTrays$Act" "a" "I", Cond.fieldLink RX0 19 "RelayTrays$Act" "kind" "I", Cond.fieldLink RX0 22 "RelayTrays$Act" "e" "I"]
def wsX3_step : List Cond := .code yX3_step cX3_step 6 (some .int) :: ((wsX3_step_r1 ++ wsX3_step_r2) ++ wsX30 ++ wsX00)
def wsX3_actNumbered : List Cond := .code yX3_actNumbered cX3_actNumbered 2 (some (.object "RelayTrays$Act")) :: ([.fieldLink RX3 21 "RelayTrays" "acts" "I", .fieldLink RX3 17 "RelayTrays" "order" "[LRelayTrays$Act;"] ++ wsX30)
def wsX3_alter_r1 : List Cond := [Cond.fieldLink RX3 17 "RelayTrays" "order" "[LRelayTrays$Act;", Cond.classLink RX3 15 RX0, Cond.instantiable RX0 5, Cond.initialized RX0, Cond.fieldLink RX3 113 "RelayTrays$Act" "what" "I", Cond.methodLink RX3 109 yX3_actNumbered, Cond.instanceMethod yX3_actNumbered, Cond.selects RX3 yX3_actNumbered yX3_actNumbered, Cond.initialized RX3, Cond.code yX3_actNumbered cX3_actNumbered 2 (some (.object "RelayTrays$Act")), Cond.fieldLink RX3 21 "RelayTrays" "acts" "I", Cond.methodLink RX3 102 yX3_isAct, Cond.static yX3_isAct, Cond.code yX3_isAct cX3_isAct 3 (some .boolean), Cond.methodLink RX3 63 yX3_isTray, Cond.static yX3_isTray, Cond.code yX3_isTray cX3_isTray 1 (some .boolean), Cond.methodLink RX3 67 yX1_isKind, Cond.static yX1_isKind, Cond.initialized RX1, Cond.code yX1_isKind cX1_isKind 1 (some .boolean), Cond.methodLink RX3 106 yX0_init, Cond.instanceMethod yX0_init, Cond.code yX0_init cX0_init 6 none]
def wsX3_alter_r2 : List Cond := [Cond.methodLink RX0 1 objectInit, Cond.instanceMethod objectInit, Cond.code objectInit ⟨#[0xb1]⟩ 1 none, Cond.fieldLink RX0 7 "RelayTrays$Act" "what" "I", Cond.fieldLink RX0 13 "RelayTrays$Act" "tray" "I", Cond.fieldLink RX0 16 "RelayTrays$Act" "a" "I", Cond.fieldLink RX0 19 "RelayTrays$Act" "kind" "I", Cond.fieldLink RX0 22 "RelayTrays$Act" "e" "I"]
def wsX3_alter : List Cond := .code yX3_alter cX3_alter 8 (some .int) :: ((wsX3_alter_r1 ++ wsX3_alter_r2) ++ wsX30 ++ wsX00)
def wsX3_clear : List Cond := .code yX3_clear cX3_clear 2 (some .int) :: ([.fieldLink RX3 21 "RelayTrays" "acts" "I"] ++ wsX30)
def wsX3_takeNumber : List Cond := .code yX3_takeNumber cX3_takeNumber 3 (some .int) :: ([.fieldLink RX3 95 "RelayTrays$Row" "kind" "I", .fieldLink RX3 91 "RelayTrays$Row" "places" "[J", .methodLink RX3 88 yX2_hasPlace, .instanceMethod yX2_hasPlace, .selects RX2 yX2_hasPlace yX2_hasPlace, .initialized RX2, .code yX2_hasPlace cX2_hasPlace 2 (some .boolean), .fieldLink RX2 13 "RelayTrays$Row" "places" "[J", .methodLink RX3 98 yX3_carry, .instanceMethod yX3_carry, .selects RX3 yX3_carry yX3_carry, .initialized RX3, .code yX3_carry cX3_carry 4 none, .fieldLink RX3 25 "RelayTrays" "handKind" "I", .fieldLink RX3 28 "RelayTrays" "handBits" "J"] ++ wsX20 ++ wsX30)
def wsX3_readNumber_r1 : List Cond := [Cond.fieldLink RX3 95 "RelayTrays$Row" "kind" "I", Cond.fieldLink RX3 91 "RelayTrays$Row" "places" "[J", Cond.methodLink RX3 88 yX2_hasPlace, Cond.instanceMethod yX2_hasPlace, Cond.selects RX2 yX2_hasPlace yX2_hasPlace, Cond.initialized RX2, Cond.code yX2_hasPlace cX2_hasPlace 2 (some .boolean), Cond.fieldLink RX2 13 "RelayTrays$Row" "places" "[J", Cond.methodLink RX3 172 yX1_goesInto, Cond.static yX1_goesInto, Cond.initialized RX1, Cond.code yX1_goesInto cX1_goesInto 2 (some .boolean), Cond.fieldLink RX1 13 "RelayTrays$Numbers" "GOES_INTO" "[I", Cond.methodLink RX1 9 yX1_isKind, Cond.static yX1_isKind, Cond.code yX1_isKind cX1_isKind 1 (some .boolean), Cond.methodLink RX3 176 yX1_turned, Cond.static yX1_turned, Cond.code yX1_turned cX1_turned 4 (some .long), Cond.methodLink RX1 29 yX1_nearest, Cond.static yX1_nearest, Cond.code yX1_nearest cX1_nearest 12 (some .long), Cond.constantLong RX1 47 (-1), Cond.methodLink RX1 37 yJ13_numberOfLeadingZeros_95d88]
def wsX3_readNumber_r2 : List Cond := [Cond.static yJ13_numberOfLeadingZeros_95d88, Cond.initialized RJ13, Cond.code yJ13_numberOfLeadingZeros_95d88 cJ13_numberOfLeadingZeros_95d88 3 (some .int), Cond.methodLink RJ13 308 yJ6_numberOfLeadingZeros_0f7a4, Cond.static yJ6_numberOfLeadingZeros_0f7a4, Cond.initialized RJ6, Cond.code yJ6_numberOfLeadingZeros_0f7a4 cJ6_numberOfLeadingZeros_0f7a4 2 (some .int), Cond.constant RJ6 264 (65536), Cond.methodLink RX1 43 yX1_shortened, Cond.static yX1_shortened, Cond.code yX1_shortened cX1_shortened 10 (some .long), Cond.methodLink RX1 33 yX1_doubleOfFloat, Cond.static yX1_doubleOfFloat, Cond.code yX1_doubleOfFloat cX1_doubleOfFloat 6 (some .long), Cond.constantLong RX1 17 (2147483647), Cond.constantLong RX1 49 (8388608), Cond.constantLong RX1 51 (671036344478203904), Cond.constantLong RX1 19 (2139095040), Cond.constantLong RX1 53 (4035225266123964416), Cond.constantLong RX1 25 (9218868437227405312), Cond.constantLong RX1 27 (9221120237041090560), Cond.constantLong RX1 55 (-9223372036854775808), Cond.methodLink RX3 98 yX3_carry, Cond.instanceMethod yX3_carry]
def wsX3_readNumber_r3 : List Cond := [Cond.selects RX3 yX3_carry yX3_carry, Cond.initialized RX3, Cond.code yX3_carry cX3_carry 4 none, Cond.fieldLink RX3 25 "RelayTrays" "handKind" "I", Cond.fieldLink RX3 28 "RelayTrays" "handBits" "J"]
def wsX3_readNumber : List Cond := .code yX3_readNumber cX3_readNumber 4 (some .int) :: ((wsX3_readNumber_r1 ++ (wsX3_readNumber_r2 ++ wsX3_readNumber_r3)) ++ wsX20 ++ wsX30)
def wsX3_countPlaces : List Cond := .code yX3_countPlaces cX3_countPlaces 2 (some .int) :: ([.fieldLink RX3 91 "RelayTrays$Row" "places" "[J", .methodLink RX3 98 yX3_carry, .instanceMethod yX3_carry, .selects RX3 yX3_carry yX3_carry, .initialized RX3, .code yX3_carry cX3_carry 4 none, .fieldLink RX3 25 "RelayTrays" "handKind" "I", .fieldLink RX3 28 "RelayTrays" "handBits" "J"] ++ wsX20 ++ wsX30)
def wsX3_goOnWhilePlace : List Cond := .code yX3_goOnWhilePlace cX3_goOnWhilePlace 3 (some .int) :: ([.fieldLink RX3 35 "RelayTrays" "point" "I", .fieldLink RX3 38 "RelayTrays" "goesOnAt" "I", .methodLink RX3 88 yX2_hasPlace, .instanceMethod yX2_hasPlace, .selects RX2 yX2_hasPlace yX2_hasPlace, .initialized RX2, .code yX2_hasPlace cX2_hasPlace 2 (some .boolean), .fieldLink RX2 13 "RelayTrays$Row" "places" "[J"] ++ wsX30 ++ wsX20)
def wsX3_addNumber_r1 : List Cond := [Cond.fieldLink RX3 25 "RelayTrays" "handKind" "I", Cond.fieldLink RX3 95 "RelayTrays$Row" "kind" "I", Cond.fieldLink RX3 28 "RelayTrays" "handBits" "J", Cond.fieldLink RX3 91 "RelayTrays$Row" "places" "[J", Cond.methodLink RX3 172 yX1_goesInto, Cond.static yX1_goesInto, Cond.initialized RX1, Cond.code yX1_goesInto cX1_goesInto 2 (some .boolean), Cond.fieldLink RX1 13 "RelayTrays$Numbers" "GOES_INTO" "[I", Cond.methodLink RX1 9 yX1_isKind, Cond.static yX1_isKind, Cond.code yX1_isKind cX1_isKind 1 (some .boolean), Cond.methodLink RX3 88 yX2_hasPlace, Cond.instanceMethod yX2_hasPlace, Cond.selects RX2 yX2_hasPlace yX2_hasPlace, Cond.initialized RX2, Cond.code yX2_hasPlace cX2_hasPlace 2 (some .boolean), Cond.fieldLink RX2 13 "RelayTrays$Row" "places" "[J", Cond.methodLink RX3 176 yX1_turned, Cond.static yX1_turned, Cond.code yX1_turned cX1_turned 4 (some .long), Cond.methodLink RX1 29 yX1_nearest, Cond.static yX1_nearest, Cond.code yX1_nearest cX1_nearest 12 (some .long)]
def wsX3_addNumber_r2 : List Cond := [Cond.constantLong RX1 47 (-1), Cond.methodLink RX1 37 yJ13_numberOfLeadingZeros_95d88, Cond.static yJ13_numberOfLeadingZeros_95d88, Cond.initialized RJ13, Cond.code yJ13_numberOfLeadingZeros_95d88 cJ13_numberOfLeadingZeros_95d88 3 (some .int), Cond.methodLink RJ13 308 yJ6_numberOfLeadingZeros_0f7a4, Cond.static yJ6_numberOfLeadingZeros_0f7a4, Cond.initialized RJ6, Cond.code yJ6_numberOfLeadingZeros_0f7a4 cJ6_numberOfLeadingZeros_0f7a4 2 (some .int), Cond.constant RJ6 264 (65536), Cond.methodLink RX1 43 yX1_shortened, Cond.static yX1_shortened, Cond.code yX1_shortened cX1_shortened 10 (some .long), Cond.methodLink RX1 33 yX1_doubleOfFloat, Cond.static yX1_doubleOfFloat, Cond.code yX1_doubleOfFloat cX1_doubleOfFloat 6 (some .long), Cond.constantLong RX1 17 (2147483647), Cond.constantLong RX1 49 (8388608), Cond.constantLong RX1 51 (671036344478203904), Cond.constantLong RX1 19 (2139095040), Cond.constantLong RX1 53 (4035225266123964416), Cond.constantLong RX1 25 (9218868437227405312), Cond.constantLong RX1 27 (9221120237041090560), Cond.constantLong RX1 55 (-9223372036854775808)]
def wsX3_addNumber_r3 : List Cond := [Cond.methodLink RX3 98 yX3_carry, Cond.instanceMethod yX3_carry, Cond.selects RX3 yX3_carry yX3_carry, Cond.initialized RX3, Cond.code yX3_carry cX3_carry 4 none]
def wsX3_addNumber : List Cond := .code yX3_addNumber cX3_addNumber 5 (some .int) :: ((wsX3_addNumber_r1 ++ (wsX3_addNumber_r2 ++ wsX3_addNumber_r3)) ++ wsX30 ++ wsX20)
def wsX3_swapNumber_r1 : List Cond := [Cond.fieldLink RX3 25 "RelayTrays" "handKind" "I", Cond.fieldLink RX3 95 "RelayTrays$Row" "kind" "I", Cond.fieldLink RX3 91 "RelayTrays$Row" "places" "[J", Cond.fieldLink RX3 28 "RelayTrays" "handBits" "J", Cond.methodLink RX3 88 yX2_hasPlace, Cond.instanceMethod yX2_hasPlace, Cond.selects RX2 yX2_hasPlace yX2_hasPlace, Cond.initialized RX2, Cond.code yX2_hasPlace cX2_hasPlace 2 (some .boolean), Cond.fieldLink RX2 13 "RelayTrays$Row" "places" "[J", Cond.methodLink RX3 172 yX1_goesInto, Cond.static yX1_goesInto, Cond.initialized RX1, Cond.code yX1_goesInto cX1_goesInto 2 (some .boolean), Cond.fieldLink RX1 13 "RelayTrays$Numbers" "GOES_INTO" "[I", Cond.methodLink RX1 9 yX1_isKind, Cond.static yX1_isKind, Cond.code yX1_isKind cX1_isKind 1 (some .boolean), Cond.methodLink RX3 176 yX1_turned, Cond.static yX1_turned, Cond.code yX1_turned cX1_turned 4 (some .long), Cond.methodLink RX1 29 yX1_nearest, Cond.static yX1_nearest, Cond.code yX1_nearest cX1_nearest 12 (some .long)]
def wsX3_swapNumber_r2 : List Cond := [Cond.constantLong RX1 47 (-1), Cond.methodLink RX1 37 yJ13_numberOfLeadingZeros_95d88, Cond.static yJ13_numberOfLeadingZeros_95d88, Cond.initialized RJ13, Cond.code yJ13_numberOfLeadingZeros_95d88 cJ13_numberOfLeadingZeros_95d88 3 (some .int), Cond.methodLink RJ13 308 yJ6_numberOfLeadingZeros_0f7a4, Cond.static yJ6_numberOfLeadingZeros_0f7a4, Cond.initialized RJ6, Cond.code yJ6_numberOfLeadingZeros_0f7a4 cJ6_numberOfLeadingZeros_0f7a4 2 (some .int), Cond.constant RJ6 264 (65536), Cond.methodLink RX1 43 yX1_shortened, Cond.static yX1_shortened, Cond.code yX1_shortened cX1_shortened 10 (some .long), Cond.methodLink RX1 33 yX1_doubleOfFloat, Cond.static yX1_doubleOfFloat, Cond.code yX1_doubleOfFloat cX1_doubleOfFloat 6 (some .long), Cond.constantLong RX1 17 (2147483647), Cond.constantLong RX1 49 (8388608), Cond.constantLong RX1 51 (671036344478203904), Cond.constantLong RX1 19 (2139095040), Cond.constantLong RX1 53 (4035225266123964416), Cond.constantLong RX1 25 (9218868437227405312), Cond.constantLong RX1 27 (9221120237041090560), Cond.constantLong RX1 55 (-9223372036854775808)]
def wsX3_swapNumber_r3 : List Cond := [Cond.methodLink RX3 98 yX3_carry, Cond.instanceMethod yX3_carry, Cond.selects RX3 yX3_carry yX3_carry, Cond.initialized RX3, Cond.code yX3_carry cX3_carry 4 none]
def wsX3_swapNumber : List Cond := .code yX3_swapNumber cX3_swapNumber 5 (some .int) :: ((wsX3_swapNumber_r1 ++ (wsX3_swapNumber_r2 ++ wsX3_swapNumber_r3)) ++ wsX30 ++ wsX20)
def wsJ9_floorMod_7cf53 : List Cond := .code yJ9_floorMod_7cf53 cJ9_floorMod_7cf53 3 (some .int) :: ([])
def wsX3_performWithoutCause : List Cond := .code yX3_performWithoutCause cX3_performWithoutCause 2 none :: ([.fieldLink RX3 113 "RelayTrays$Act" "what" "I", .fieldLink RX3 11 "RelayTrays" "trays" "[LRelayTrays$Row;", .fieldLink RX3 134 "RelayTrays$Act" "tray" "I", .fieldLink RX3 137 "RelayTrays$Act" "a" "I", .fieldLink RX3 35 "RelayTrays" "point" "I", .fieldLink RX3 38 "RelayTrays" "goesOnAt" "I", .fieldLink RX3 25 "RelayTrays" "handKind" "I", .methodLink RX3 166 yJ9_floorMod_7cf53, .static yJ9_floorMod_7cf53, .initialized RJ9, .code yJ9_floorMod_7cf53 cJ9_floorMod_7cf53 3 (some .int)] ++ wsX00 ++ wsX30)
def wsX3_perform_r1 : List Cond := [Cond.fieldLink RX3 113 "RelayTrays$Act" "what" "I", Cond.fieldLink RX3 11 "RelayTrays" "trays" "[LRelayTrays$Row;", Cond.fieldLink RX3 134 "RelayTrays$Act" "tray" "I", Cond.fieldLink RX3 35 "RelayTrays" "point" "I", Cond.fieldLink RX3 137 "RelayTrays$Act" "a" "I", Cond.fieldLink RX3 144 "RelayTrays$Act" "kind" "I", Cond.fieldLink RX3 25 "RelayTrays" "handKind" "I", Cond.fieldLink RX3 28 "RelayTrays" "handBits" "J", Cond.methodLink RX3 140 yX3_takeNumber, Cond.instanceMethod yX3_takeNumber, Cond.selects RX3 yX3_takeNumber yX3_takeNumber, Cond.initialized RX3, Cond.code yX3_takeNumber cX3_takeNumber 3 (some .int), Cond.fieldLink RX3 95 "RelayTrays$Row" "kind" "I", Cond.fieldLink RX3 91 "RelayTrays$Row" "places" "[J", Cond.methodLink RX3 88 yX2_hasPlace, Cond.instanceMethod yX2_hasPlace, Cond.selects RX2 yX2_hasPlace yX2_hasPlace, Cond.initialized RX2, Cond.code yX2_hasPlace cX2_hasPlace 2 (some .boolean), Cond.fieldLink RX2 13 "RelayTrays$Row" "places" "[J", Cond.methodLink RX3 98 yX3_carry, Cond.instanceMethod yX3_carry, Cond.selects RX3 yX3_carry yX3_carry]
def wsX3_perform_r2 : List Cond := [Cond.code yX3_carry cX3_carry 4 none, Cond.methodLink RX3 145 yX3_readNumber, Cond.instanceMethod yX3_readNumber, Cond.selects RX3 yX3_readNumber yX3_readNumber, Cond.code yX3_readNumber cX3_readNumber 4 (some .int), Cond.methodLink RX3 172 yX1_goesInto, Cond.static yX1_goesInto, Cond.initialized RX1, Cond.code yX1_goesInto cX1_goesInto 2 (some .boolean), Cond.fieldLink RX1 13 "RelayTrays$Numbers" "GOES_INTO" "[I", Cond.methodLink RX1 9 yX1_isKind, Cond.static yX1_isKind, Cond.code yX1_isKind cX1_isKind 1 (some .boolean), Cond.methodLink RX3 176 yX1_turned, Cond.static yX1_turned, Cond.code yX1_turned cX1_turned 4 (some .long), Cond.methodLink RX1 29 yX1_nearest, Cond.static yX1_nearest, Cond.code yX1_nearest cX1_nearest 12 (some .long), Cond.constantLong RX1 47 (-1), Cond.methodLink RX1 37 yJ13_numberOfLeadingZeros_95d88, Cond.static yJ13_numberOfLeadingZeros_95d88, Cond.initialized RJ13, Cond.code yJ13_numberOfLeadingZeros_95d88 cJ13_numberOfLeadingZeros_95d88 3 (some .int)]
def wsX3_perform_r3 : List Cond := [Cond.methodLink RJ13 308 yJ6_numberOfLeadingZeros_0f7a4, Cond.static yJ6_numberOfLeadingZeros_0f7a4, Cond.initialized RJ6, Cond.code yJ6_numberOfLeadingZeros_0f7a4 cJ6_numberOfLeadingZeros_0f7a4 2 (some .int), Cond.constant RJ6 264 (65536), Cond.methodLink RX1 43 yX1_shortened, Cond.static yX1_shortened, Cond.code yX1_shortened cX1_shortened 10 (some .long), Cond.methodLink RX1 33 yX1_doubleOfFloat, Cond.static yX1_doubleOfFloat, Cond.code yX1_doubleOfFloat cX1_doubleOfFloat 6 (some .long), Cond.constantLong RX1 17 (2147483647), Cond.constantLong RX1 49 (8388608), Cond.constantLong RX1 51 (671036344478203904), Cond.constantLong RX1 19 (2139095040), Cond.constantLong RX1 53 (4035225266123964416), Cond.constantLong RX1 25 (9218868437227405312), Cond.constantLong RX1 27 (9221120237041090560), Cond.constantLong RX1 55 (-9223372036854775808), Cond.methodLink RX3 84 yX3_layNumber, Cond.instanceMethod yX3_layNumber, Cond.selects RX3 yX3_layNumber yX3_layNumber, Cond.code yX3_layNumber cX3_layNumber 6 (some .int), Cond.methodLink RX3 149 yX3_countPlaces]
def wsX3_perform_r4 : List Cond := [Cond.instanceMethod yX3_countPlaces, Cond.selects RX3 yX3_countPlaces yX3_countPlaces, Cond.code yX3_countPlaces cX3_countPlaces 2 (some .int), Cond.methodLink RX3 72 yX3_layNewRow, Cond.instanceMethod yX3_layNewRow, Cond.selects RX3 yX3_layNewRow yX3_layNewRow, Cond.code yX3_layNewRow cX3_layNewRow 4 (some .int), Cond.fieldLink RX3 47 "RelayTrays" "rowsMade" "I", Cond.classLink RX3 9 RX2, Cond.instantiable RX2 2, Cond.methodLink RX3 180 yX2_init, Cond.instanceMethod yX2_init, Cond.code yX2_init cX2_init 3 none, Cond.methodLink RX2 1 objectInit, Cond.instanceMethod objectInit, Cond.code objectInit ⟨#[0xb1]⟩ 1 none, Cond.fieldLink RX2 7 "RelayTrays$Row" "kind" "I", Cond.arrayClass .long, Cond.methodLink RX3 153 yX3_goOnWhilePlace, Cond.instanceMethod yX3_goOnWhilePlace, Cond.selects RX3 yX3_goOnWhilePlace yX3_goOnWhilePlace, Cond.code yX3_goOnWhilePlace cX3_goOnWhilePlace 3 (some .int), Cond.fieldLink RX3 38 "RelayTrays" "goesOnAt" "I", Cond.methodLink RX3 156 yX3_addNumber]
def wsX3_perform_r5 : List Cond := [Cond.instanceMethod yX3_addNumber, Cond.selects RX3 yX3_addNumber yX3_addNumber, Cond.code yX3_addNumber cX3_addNumber 5 (some .int), Cond.methodLink RX3 159 yX3_swapNumber, Cond.instanceMethod yX3_swapNumber, Cond.selects RX3 yX3_swapNumber yX3_swapNumber, Cond.code yX3_swapNumber cX3_swapNumber 5 (some .int), Cond.methodLink RX3 162 yX3_performWithoutCause, Cond.instanceMethod yX3_performWithoutCause, Cond.selects RX3 yX3_performWithoutCause yX3_performWithoutCause, Cond.code yX3_performWithoutCause cX3_performWithoutCause 2 none, Cond.methodLink RX3 166 yJ9_floorMod_7cf53, Cond.static yJ9_floorMod_7cf53, Cond.initialized RJ9, Cond.code yJ9_floorMod_7cf53 cJ9_floorMod_7cf53 3 (some .int)]
def wsX3_perform : List Cond := .code yX3_perform cX3_perform 2 (some .int) :: ((wsX3_perform_r1 ++ (wsX3_perform_r2 ++ (wsX3_perform_r3 ++ (wsX3_perform_r4 ++ wsX3_perform_r5)))) ++ wsX00 ++ wsX30 ++ wsX20)
def wsX3_answerOfRun : List Cond := .code yX3_answerOfRun cX3_answerOfRun 3 (some .int) :: ([.fieldLink RX3 50 "RelayTrays" "runs" "I", .fieldLink RX3 56 "RelayTrays" "runsSpent" "I", .fieldLink RX3 53 "RelayTrays" "runsOverByCause" "I", .fieldLink RX3 41 "RelayTrays" "stepsBegun" "I"] ++ wsX30)
def wsX3_run_r1 : List Cond := [Cond.fieldLink RX3 38 "RelayTrays" "goesOnAt" "I", Cond.fieldLink RX3 44 "RelayTrays" "causeAct" "I", Cond.fieldLink RX3 124 "RelayTrays$Act" "e" "I", Cond.fieldLink RX3 41 "RelayTrays" "stepsBegun" "I", Cond.methodLink RX3 109 yX3_actNumbered, Cond.instanceMethod yX3_actNumbered, Cond.selects RX3 yX3_actNumbered yX3_actNumbered, Cond.initialized RX3, Cond.code yX3_actNumbered cX3_actNumbered 2 (some (.object "RelayTrays$Act")), Cond.fieldLink RX3 21 "RelayTrays" "acts" "I", Cond.fieldLink RX3 17 "RelayTrays" "order" "[LRelayTrays$Act;", Cond.methodLink RX3 116 yX3_perform, Cond.instanceMethod yX3_perform, Cond.selects RX3 yX3_perform yX3_perform, Cond.code yX3_perform cX3_perform 2 (some .int), Cond.fieldLink RX3 113 "RelayTrays$Act" "what" "I", Cond.fieldLink RX3 11 "RelayTrays" "trays" "[LRelayTrays$Row;", Cond.fieldLink RX3 134 "RelayTrays$Act" "tray" "I", Cond.fieldLink RX3 35 "RelayTrays" "point" "I", Cond.fieldLink RX3 137 "RelayTrays$Act" "a" "I", Cond.fieldLink RX3 144 "RelayTrays$Act" "kind" "I", Cond.fieldLink RX3 25 "RelayTrays" "handKind" "I", Cond.fieldLink RX3 28 "RelayTrays" "handBits" "J", Cond.methodLink RX3 140 yX3_takeNumber]
def wsX3_run_r2 : List Cond := [Cond.instanceMethod yX3_takeNumber, Cond.selects RX3 yX3_takeNumber yX3_takeNumber, Cond.code yX3_takeNumber cX3_takeNumber 3 (some .int), Cond.fieldLink RX3 95 "RelayTrays$Row" "kind" "I", Cond.fieldLink RX3 91 "RelayTrays$Row" "places" "[J", Cond.methodLink RX3 88 yX2_hasPlace, Cond.instanceMethod yX2_hasPlace, Cond.selects RX2 yX2_hasPlace yX2_hasPlace, Cond.initialized RX2, Cond.code yX2_hasPlace cX2_hasPlace 2 (some .boolean), Cond.fieldLink RX2 13 "RelayTrays$Row" "places" "[J", Cond.methodLink RX3 98 yX3_carry, Cond.instanceMethod yX3_carry, Cond.selects RX3 yX3_carry yX3_carry, Cond.code yX3_carry cX3_carry 4 none, Cond.methodLink RX3 145 yX3_readNumber, Cond.instanceMethod yX3_readNumber, Cond.selects RX3 yX3_readNumber yX3_readNumber, Cond.code yX3_readNumber cX3_readNumber 4 (some .int), Cond.methodLink RX3 172 yX1_goesInto, Cond.static yX1_goesInto, Cond.initialized RX1, Cond.code yX1_goesInto cX1_goesInto 2 (some .boolean), Cond.fieldLink RX1 13 "RelayTrays$Numbers" "GOES_INTO" "[I"]
def wsX3_run_r3 : List Cond := [Cond.methodLink RX1 9 yX1_isKind, Cond.static yX1_isKind, Cond.code yX1_isKind cX1_isKind 1 (some .boolean), Cond.methodLink RX3 176 yX1_turned, Cond.static yX1_turned, Cond.code yX1_turned cX1_turned 4 (some .long), Cond.methodLink RX1 29 yX1_nearest, Cond.static yX1_nearest, Cond.code yX1_nearest cX1_nearest 12 (some .long), Cond.constantLong RX1 47 (-1), Cond.methodLink RX1 37 yJ13_numberOfLeadingZeros_95d88, Cond.static yJ13_numberOfLeadingZeros_95d88, Cond.initialized RJ13, Cond.code yJ13_numberOfLeadingZeros_95d88 cJ13_numberOfLeadingZeros_95d88 3 (some .int), Cond.methodLink RJ13 308 yJ6_numberOfLeadingZeros_0f7a4, Cond.static yJ6_numberOfLeadingZeros_0f7a4, Cond.initialized RJ6, Cond.code yJ6_numberOfLeadingZeros_0f7a4 cJ6_numberOfLeadingZeros_0f7a4 2 (some .int), Cond.constant RJ6 264 (65536), Cond.methodLink RX1 43 yX1_shortened, Cond.static yX1_shortened, Cond.code yX1_shortened cX1_shortened 10 (some .long), Cond.methodLink RX1 33 yX1_doubleOfFloat, Cond.static yX1_doubleOfFloat]
def wsX3_run_r4 : List Cond := [Cond.code yX1_doubleOfFloat cX1_doubleOfFloat 6 (some .long), Cond.constantLong RX1 17 (2147483647), Cond.constantLong RX1 49 (8388608), Cond.constantLong RX1 51 (671036344478203904), Cond.constantLong RX1 19 (2139095040), Cond.constantLong RX1 53 (4035225266123964416), Cond.constantLong RX1 25 (9218868437227405312), Cond.constantLong RX1 27 (9221120237041090560), Cond.constantLong RX1 55 (-9223372036854775808), Cond.methodLink RX3 84 yX3_layNumber, Cond.instanceMethod yX3_layNumber, Cond.selects RX3 yX3_layNumber yX3_layNumber, Cond.code yX3_layNumber cX3_layNumber 6 (some .int), Cond.methodLink RX3 149 yX3_countPlaces, Cond.instanceMethod yX3_countPlaces, Cond.selects RX3 yX3_countPlaces yX3_countPlaces, Cond.code yX3_countPlaces cX3_countPlaces 2 (some .int), Cond.methodLink RX3 72 yX3_layNewRow, Cond.instanceMethod yX3_layNewRow, Cond.selects RX3 yX3_layNewRow yX3_layNewRow, Cond.code yX3_layNewRow cX3_layNewRow 4 (some .int), Cond.fieldLink RX3 47 "RelayTrays" "rowsMade" "I", Cond.classLink RX3 9 RX2, Cond.instantiable RX2 2]
def wsX3_run_r5 : List Cond := [Cond.methodLink RX3 180 yX2_init, Cond.instanceMethod yX2_init, Cond.code yX2_init cX2_init 3 none, Cond.methodLink RX2 1 objectInit, Cond.instanceMethod objectInit, Cond.code objectInit ⟨#[0xb1]⟩ 1 none, Cond.fieldLink RX2 7 "RelayTrays$Row" "kind" "I", Cond.arrayClass .long, Cond.methodLink RX3 153 yX3_goOnWhilePlace, Cond.instanceMethod yX3_goOnWhilePlace, Cond.selects RX3 yX3_goOnWhilePlace yX3_goOnWhilePlace, Cond.code yX3_goOnWhilePlace cX3_goOnWhilePlace 3 (some .int), Cond.methodLink RX3 156 yX3_addNumber, Cond.instanceMethod yX3_addNumber, Cond.selects RX3 yX3_addNumber yX3_addNumber, Cond.code yX3_addNumber cX3_addNumber 5 (some .int), Cond.methodLink RX3 159 yX3_swapNumber, Cond.instanceMethod yX3_swapNumber, Cond.selects RX3 yX3_swapNumber yX3_swapNumber, Cond.code yX3_swapNumber cX3_swapNumber 5 (some .int), Cond.methodLink RX3 162 yX3_performWithoutCause, Cond.instanceMethod yX3_performWithoutCause, Cond.selects RX3 yX3_performWithoutCause yX3_performWithoutCause, Cond.code yX3_performWithoutCause cX3_performWithoutCause 2 none]
def wsX3_run_r6 : List Cond := [Cond.methodLink RX3 166 yJ9_floorMod_7cf53, Cond.static yJ9_floorMod_7cf53, Cond.initialized RJ9, Cond.code yJ9_floorMod_7cf53 cJ9_floorMod_7cf53 3 (some .int), Cond.methodLink RX3 120 yX3_countCause, Cond.instanceMethod yX3_countCause, Cond.selects RX3 yX3_countCause yX3_countCause, Cond.code yX3_countCause cX3_countCause 2 none, Cond.fieldLink RX3 59 "RelayTrays" "timesMet" "[I", Cond.methodLink RX3 127 yX3_answerOfRun, Cond.instanceMethod yX3_answerOfRun, Cond.selects RX3 yX3_answerOfRun yX3_answerOfRun, Cond.code yX3_answerOfRun cX3_answerOfRun 3 (some .int), Cond.fieldLink RX3 50 "RelayTrays" "runs" "I", Cond.fieldLink RX3 56 "RelayTrays" "runsSpent" "I", Cond.fieldLink RX3 53 "RelayTrays" "runsOverByCause" "I"]
def wsX3_run : List Cond := .code yX3_run cX3_run 5 (some .int) :: ((wsX3_run_r1 ++ (wsX3_run_r2 ++ (wsX3_run_r3 ++ (wsX3_run_r4 ++ (wsX3_run_r5 ++ wsX3_run_r6))))) ++ wsX30 ++ wsX00 ++ wsX20)
def wsX3_begun : List Cond := .code yX3_begun cX3_begun 1 (some .int) :: ([.fieldLink RX3 41 "RelayTrays" "stepsBegun" "I"] ++ wsX30)
def wsX3_where : List Cond := .code yX3_where cX3_where 1 (some .int) :: ([.fieldLink RX3 44 "RelayTrays" "causeAct" "I"] ++ wsX30)
def wsX3_countOfCause : List Cond := .code yX3_countOfCause cX3_countOfCause 2 (some .int) :: ([.fieldLink RX3 59 "RelayTrays" "timesMet" "[I"] ++ wsX30)
def wsX3_count : List Cond := .code yX3_count cX3_count 2 (some .int) :: ([.fieldLink RX3 47 "RelayTrays" "rowsMade" "I", .fieldLink RX3 21 "RelayTrays" "acts" "I", .fieldLink RX3 50 "RelayTrays" "runs" "I", .fieldLink RX3 53 "RelayTrays" "runsOverByCause" "I", .fieldLink RX3 56 "RelayTrays" "runsSpent" "I", .methodLink RX3 131 yX3_countOfCause, .instanceMethod yX3_countOfCause, .selects RX3 yX3_countOfCause yX3_countOfCause, .initialized RX3, .code yX3_countOfCause cX3_countOfCause 2 (some .int), .fieldLink RX3 59 "RelayTrays" "timesMet" "[I"] ++ wsX30)
def wsX4_init : List Cond := .code yX4_init cX4_init 2 none :: ([.methodLink RX4 1 objectInit, .instanceMethod objectInit, .code objectInit ⟨#[0xb1]⟩ 1 none, .arrayClass .int, .fieldLink RX4 7 "RelayTraysModel" "kindOf" "[I", .fieldLink RX4 13 "RelayTraysModel" "sizeOf" "[I", .arrayClass .long, .fieldLink RX4 16 "RelayTraysModel" "number" "[J", .fieldLink RX4 20 "RelayTraysModel" "on" "[I", .fieldLink RX4 23 "RelayTraysModel" "handKind" "I", .fieldLink RX4 27 "RelayTraysModel" "what" "[I", .fieldLink RX4 30 "RelayTraysModel" "tray" "[I", .fieldLink RX4 33 "RelayTraysModel" "number1" "[I", .fieldLink RX4 36 "RelayTraysModel" "kind" "[I", .fieldLink RX4 39 "RelayTraysModel" "otherwise" "[I", .fieldLink RX4 42 "RelayTraysModel" "where" "I", .fieldLink RX4 45 "RelayTraysModel" "met" "[I"] ++ wsX40)
def wsX4_in : List Cond := .code yX4_in cX4_in 3 (some .boolean) :: ([])
def wsX4_fails : List Cond := .code yX4_fails cX4_fails 2 (some .int) :: ([.fieldLink RX4 45 "RelayTraysModel" "met" "[I"] ++ wsX40)
def wsX4_told : List Cond := .code yX4_told cX4_told 3 (some .long) :: ([.constantLong RX4 48 (2147483647), .constantLong RX4 50 (2139095040), .constantLong RX4 52 (2143289344), .constantLong RX4 54 (9223372036854775807), .constantLong RX4 56 (9218868437227405312), .constantLong RX4 58 (9221120237041090560)])
def wsX4_goes : List Cond := .code yX4_goes cX4_goes 2 (some .boolean) :: ([.methodLink RX4 60 yX4_in, .static yX4_in, .initialized RX4, .code yX4_in cX4_in 3 (some .boolean)])
def wsJxf58ca_isNaN_12338 : List Cond := .code yJxf58ca_isNaN_12338 cJxf58ca_isNaN_12338 1 (some .boolean) :: ([])
def wsJxf58ca_floatToIntBits_5c35a : List Cond := .code yJxf58ca_floatToIntBits_5c35a cJxf58ca_floatToIntBits_5c35a 1 (some .int) :: ([.methodLink RJxf58ca 74 ⟨"java/lang/Float", "floatToRawIntBits", "(F)I"⟩, .native ⟨"java/lang/Float", "floatToRawIntBits", "(F)I"⟩, .static ⟨"java/lang/Float", "floatToRawIntBits", "(F)I"⟩, .initialized "java/lang/Float", .constant RJxf58ca 77 (2143289344), .methodLink RJxf58ca 59 yJxf58ca_isNaN_12338, .static yJxf58ca_isNaN_12338, .initialized RJxf58ca, .code yJxf58ca_isNaN_12338 cJxf58ca_isNaN_12338 1 (some .boolean)])
def wsJxe99ae_isNaN_b9ae7 : List Cond := .code yJxe99ae_isNaN_b9ae7 cJxe99ae_isNaN_b9ae7 2 (some .boolean) :: ([])
def wsJxe99ae_doubleToLongBits_ccdee : List Cond := .code yJxe99ae_doubleToLongBits_ccdee cJxe99ae_doubleToLongBits_ccdee 2 (some .long) :: ([.methodLink RJxe99ae 134 ⟨"java/lang/Double", "doubleToRawLongBits", "(D)J"⟩, .native ⟨"java/lang/Double", "doubleToRawLongBits", "(D)J"⟩, .static ⟨"java/lang/Double", "doubleToRawLongBits", "(D)J"⟩, .initialized "java/lang/Double", .constantLong RJxe99ae 137 (9221120237041090560), .methodLink RJxe99ae 122 yJxe99ae_isNaN_b9ae7, .static yJxe99ae_isNaN_b9ae7, .initialized RJxe99ae, .code yJxe99ae_isNaN_b9ae7 cJxe99ae_isNaN_b9ae7 2 (some .boolean)])
def wsX4_into_r1 : List Cond := [Cond.constantLong RX4 52 (2143289344), Cond.constantLong RX4 58 (9221120237041090560), Cond.methodLink RX4 70 ⟨"java/lang/Float", "intBitsToFloat", "(I)F"⟩, Cond.native ⟨"java/lang/Float", "intBitsToFloat", "(I)F"⟩, Cond.static ⟨"java/lang/Float", "intBitsToFloat", "(I)F"⟩, Cond.initialized "java/lang/Float", Cond.methodLink RX4 64 yJxf58ca_floatToIntBits_5c35a, Cond.static yJxf58ca_floatToIntBits_5c35a, Cond.initialized RJxf58ca, Cond.code yJxf58ca_floatToIntBits_5c35a cJxf58ca_floatToIntBits_5c35a 1 (some .int), Cond.methodLink RJxf58ca 74 ⟨"java/lang/Float", "floatToRawIntBits", "(F)I"⟩, Cond.native ⟨"java/lang/Float", "floatToRawIntBits", "(F)I"⟩, Cond.static ⟨"java/lang/Float", "floatToRawIntBits", "(F)I"⟩, Cond.constant RJxf58ca 77 (2143289344), Cond.methodLink RJxf58ca 59 yJxf58ca_isNaN_12338, Cond.static yJxf58ca_isNaN_12338, Cond.code yJxf58ca_isNaN_12338 cJxf58ca_isNaN_12338 1 (some .boolean), Cond.methodLink RX4 74 yJxe99ae_doubleToLongBits_ccdee, Cond.static yJxe99ae_doubleToLongBits_ccdee, Cond.initialized RJxe99ae, Cond.code yJxe99ae_doubleToLongBits_ccdee cJxe99ae_doubleToLongBits_ccdee 2 (some .long), Cond.methodLink RJxe99ae 134 ⟨"java/lang/Double", "doubleToRawLongBits", "(D)J"⟩, Cond.native ⟨"java/lang/Double", "doubleToRawLongBits", "(D)J"⟩, Cond.static ⟨"java/lang/Double", "doubleToRawLongBits", "(D)J"⟩]
def wsX4_into_r2 : List Cond := [Cond.initialized "java/lang/Double", Cond.constantLong RJxe99ae 137 (9221120237041090560), Cond.methodLink RJxe99ae 122 yJxe99ae_isNaN_b9ae7, Cond.static yJxe99ae_isNaN_b9ae7, Cond.code yJxe99ae_isNaN_b9ae7 cJxe99ae_isNaN_b9ae7 2 (some .boolean)]
def wsX4_into : List Cond := .code yX4_into cX4_into 4 (some .long) :: ((wsX4_into_r1 ++ wsX4_into_r2))
def wsX4_makes : List Cond := .code yX4_makes cX4_makes 5 (some .int) :: ([.fieldLink RX4 80 "RelayTraysModel" "made" "I", .fieldLink RX4 7 "RelayTraysModel" "kindOf" "[I", .fieldLink RX4 13 "RelayTraysModel" "sizeOf" "[I", .fieldLink RX4 16 "RelayTraysModel" "number" "[J", .fieldLink RX4 20 "RelayTraysModel" "on" "[I"] ++ wsX40)
def wsX4_isTray : List Cond := .code yX4_isTray cX4_isTray 1 (some .boolean) :: ([.methodLink RX4 60 yX4_in, .static yX4_in, .initialized RX4, .code yX4_in cX4_in 3 (some .boolean)])
def wsX4_isKind : List Cond := .code yX4_isKind cX4_isKind 1 (some .boolean) :: ([.methodLink RX4 60 yX4_in, .static yX4_in, .initialized RX4, .code yX4_in cX4_in 3 (some .boolean)])
def wsX4_make : List Cond := .code yX4_make cX4_make 5 (some .int) :: ([.methodLink RX4 83 yX4_isTray, .static yX4_isTray, .initialized RX4, .code yX4_isTray cX4_isTray 1 (some .boolean), .methodLink RX4 60 yX4_in, .static yX4_in, .code yX4_in cX4_in 3 (some .boolean), .methodLink RX4 87 yX4_isKind, .static yX4_isKind, .code yX4_isKind cX4_isKind 1 (some .boolean), .methodLink RX4 90 yX4_makes, .instanceMethod yX4_makes, .selects RX4 yX4_makes yX4_makes, .code yX4_makes cX4_makes 5 (some .int), .fieldLink RX4 80 "RelayTraysModel" "made" "I", .fieldLink RX4 7 "RelayTraysModel" "kindOf" "[I", .fieldLink RX4 13 "RelayTraysModel" "sizeOf" "[I", .fieldLink RX4 16 "RelayTraysModel" "number" "[J", .fieldLink RX4 20 "RelayTraysModel" "on" "[I", .methodLink RX4 94 yX4_fails, .instanceMethod yX4_fails, .selects RX4 yX4_fails yX4_fails, .code yX4_fails cX4_fails 2 (some .int), .fieldLink RX4 45 "RelayTraysModel" "met" "[I"] ++ wsX40)
def wsX4_has : List Cond := .code yX4_has cX4_has 3 (some .boolean) :: ([.fieldLink RX4 20 "RelayTraysModel" "on" "[I", .fieldLink RX4 13 "RelayTraysModel" "sizeOf" "[I", .methodLink RX4 60 yX4_in, .static yX4_in, .initialized RX4, .code yX4_in cX4_in 3 (some .boolean)] ++ wsX40)
def wsX4_put_r1 : List Cond := [Cond.fieldLink RX4 20 "RelayTraysModel" "on" "[I", Cond.fieldLink RX4 7 "RelayTraysModel" "kindOf" "[I", Cond.fieldLink RX4 16 "RelayTraysModel" "number" "[J", Cond.methodLink RX4 83 yX4_isTray, Cond.static yX4_isTray, Cond.initialized RX4, Cond.code yX4_isTray cX4_isTray 1 (some .boolean), Cond.methodLink RX4 60 yX4_in, Cond.static yX4_in, Cond.code yX4_in cX4_in 3 (some .boolean), Cond.methodLink RX4 87 yX4_isKind, Cond.static yX4_isKind, Cond.code yX4_isKind cX4_isKind 1 (some .boolean), Cond.methodLink RX4 98 yX4_has, Cond.instanceMethod yX4_has, Cond.selects RX4 yX4_has yX4_has, Cond.code yX4_has cX4_has 3 (some .boolean), Cond.fieldLink RX4 13 "RelayTraysModel" "sizeOf" "[I", Cond.methodLink RX4 102 yX4_goes, Cond.static yX4_goes, Cond.code yX4_goes cX4_goes 2 (some .boolean), Cond.methodLink RX4 94 yX4_fails, Cond.instanceMethod yX4_fails, Cond.selects RX4 yX4_fails yX4_fails]
def wsX4_put_r2 : List Cond := [Cond.code yX4_fails cX4_fails 2 (some .int), Cond.fieldLink RX4 45 "RelayTraysModel" "met" "[I", Cond.methodLink RX4 105 yX4_told, Cond.static yX4_told, Cond.code yX4_told cX4_told 3 (some .long), Cond.constantLong RX4 48 (2147483647), Cond.constantLong RX4 50 (2139095040), Cond.constantLong RX4 52 (2143289344), Cond.constantLong RX4 54 (9223372036854775807), Cond.constantLong RX4 56 (9218868437227405312), Cond.constantLong RX4 58 (9221120237041090560), Cond.methodLink RX4 109 yX4_into, Cond.static yX4_into, Cond.code yX4_into cX4_into 4 (some .long), Cond.methodLink RX4 70 ⟨"java/lang/Float", "intBitsToFloat", "(I)F"⟩, Cond.native ⟨"java/lang/Float", "intBitsToFloat", "(I)F"⟩, Cond.static ⟨"java/lang/Float", "intBitsToFloat", "(I)F"⟩, Cond.initialized "java/lang/Float", Cond.methodLink RX4 64 yJxf58ca_floatToIntBits_5c35a, Cond.static yJxf58ca_floatToIntBits_5c35a, Cond.initialized RJxf58ca, Cond.code yJxf58ca_floatToIntBits_5c35a cJxf58ca_floatToIntBits_5c35a 1 (some .int), Cond.methodLink RJxf58ca 74 ⟨"java/lang/Float", "floatToRawIntBits", "(F)I"⟩, Cond.native ⟨"java/lang/Float", "floatToRawIntBits", "(F)I"⟩]
def wsX4_put_r3 : List Cond := [Cond.static ⟨"java/lang/Float", "floatToRawIntBits", "(F)I"⟩, Cond.constant RJxf58ca 77 (2143289344), Cond.methodLink RJxf58ca 59 yJxf58ca_isNaN_12338, Cond.static yJxf58ca_isNaN_12338, Cond.code yJxf58ca_isNaN_12338 cJxf58ca_isNaN_12338 1 (some .boolean), Cond.methodLink RX4 74 yJxe99ae_doubleToLongBits_ccdee, Cond.static yJxe99ae_doubleToLongBits_ccdee, Cond.initialized RJxe99ae, Cond.code yJxe99ae_doubleToLongBits_ccdee cJxe99ae_doubleToLongBits_ccdee 2 (some .long), Cond.methodLink RJxe99ae 134 ⟨"java/lang/Double", "doubleToRawLongBits", "(D)J"⟩, Cond.native ⟨"java/lang/Double", "doubleToRawLongBits", "(D)J"⟩, Cond.static ⟨"java/lang/Double", "doubleToRawLongBits", "(D)J"⟩, Cond.initialized "java/lang/Double", Cond.constantLong RJxe99ae 137 (9221120237041090560), Cond.methodLink RJxe99ae 122 yJxe99ae_isNaN_b9ae7, Cond.static yJxe99ae_isNaN_b9ae7, Cond.code yJxe99ae_isNaN_b9ae7 cJxe99ae_isNaN_b9ae7 2 (some .boolean)]
def wsX4_put : List Cond := .code yX4_put cX4_put 7 (some .int) :: ((wsX4_put_r1 ++ (wsX4_put_r2 ++ wsX4_put_r3)) ++ wsX40)
def wsX4_look : List Cond := .code yX4_look cX4_look 4 (some .int) :: ([.fieldLink RX4 20 "RelayTraysModel" "on" "[I", .fieldLink RX4 16 "RelayTraysModel" "number" "[J", .fieldLink RX4 113 "RelayTraysModel" "seen" "J", .fieldLink RX4 7 "RelayTraysModel" "kindOf" "[I", .methodLink RX4 83 yX4_isTray, .static yX4_isTray, .initialized RX4, .code yX4_isTray cX4_isTray 1 (some .boolean), .methodLink RX4 60 yX4_in, .static yX4_in, .code yX4_in cX4_in 3 (some .boolean), .methodLink RX4 98 yX4_has, .instanceMethod yX4_has, .selects RX4 yX4_has yX4_has, .code yX4_has cX4_has 3 (some .boolean), .fieldLink RX4 13 "RelayTraysModel" "sizeOf" "[I", .methodLink RX4 94 yX4_fails, .instanceMethod yX4_fails, .selects RX4 yX4_fails yX4_fails, .code yX4_fails cX4_fails 2 (some .int), .fieldLink RX4 45 "RelayTraysModel" "met" "[I"] ++ wsX40)
def wsX4_holds : List Cond := .code yX4_holds cX4_holds 4 none :: ([.fieldLink RX4 23 "RelayTraysModel" "handKind" "I", .fieldLink RX4 121 "RelayTraysModel" "handBits" "J"] ++ wsX40)
def wsX4_give : List Cond := .code yX4_give cX4_give 5 (some .int) :: ([.fieldLink RX4 23 "RelayTraysModel" "handKind" "I", .methodLink RX4 87 yX4_isKind, .static yX4_isKind, .initialized RX4, .code yX4_isKind cX4_isKind 1 (some .boolean), .methodLink RX4 60 yX4_in, .static yX4_in, .code yX4_in cX4_in 3 (some .boolean), .methodLink RX4 105 yX4_told, .static yX4_told, .code yX4_told cX4_told 3 (some .long), .constantLong RX4 48 (2147483647), .constantLong RX4 50 (2139095040), .constantLong RX4 52 (2143289344), .constantLong RX4 54 (9223372036854775807), .constantLong RX4 56 (9218868437227405312), .constantLong RX4 58 (9221120237041090560), .methodLink RX4 117 yX4_holds, .instanceMethod yX4_holds, .selects RX4 yX4_holds yX4_holds, .code yX4_holds cX4_holds 4 none, .fieldLink RX4 121 "RelayTraysModel" "handBits" "J"] ++ wsX40)
def wsX4_hand : List Cond := .code yX4_hand cX4_hand 1 (some .int) :: ([.fieldLink RX4 23 "RelayTraysModel" "handKind" "I", .fieldLink RX4 113 "RelayTraysModel" "seen" "J", .fieldLink RX4 121 "RelayTraysModel" "handBits" "J"] ++ wsX40)
def wsX4_seen : List Cond := .code yX4_seen cX4_seen 1 (some .long) :: ([.fieldLink RX4 113 "RelayTraysModel" "seen" "J"] ++ wsX40)
def wsX4_kind : List Cond := .code yX4_kind cX4_kind 2 (some .int) :: ([.fieldLink RX4 20 "RelayTraysModel" "on" "[I", .fieldLink RX4 7 "RelayTraysModel" "kindOf" "[I", .methodLink RX4 83 yX4_isTray, .static yX4_isTray, .initialized RX4, .code yX4_isTray cX4_isTray 1 (some .boolean), .methodLink RX4 60 yX4_in, .static yX4_in, .code yX4_in cX4_in 3 (some .boolean)] ++ wsX40)
def wsX4_size : List Cond := .code yX4_size cX4_size 2 (some .int) :: ([.fieldLink RX4 20 "RelayTraysModel" "on" "[I", .fieldLink RX4 13 "RelayTraysModel" "sizeOf" "[I", .methodLink RX4 83 yX4_isTray, .static yX4_isTray, .initialized RX4, .code yX4_isTray cX4_isTray 1 (some .boolean), .methodLink RX4 60 yX4_in, .static yX4_in, .code yX4_in cX4_in 3 (some .boolean)] ++ wsX40)
def wsX4_same : List Cond := .code yX4_same cX4_same 3 (some .int) :: ([.fieldLink RX4 20 "RelayTraysModel" "on" "[I", .methodLink RX4 83 yX4_isTray, .static yX4_isTray, .initialized RX4, .code yX4_isTray cX4_isTray 1 (some .boolean), .methodLink RX4 60 yX4_in, .static yX4_in, .code yX4_in cX4_in 3 (some .boolean)] ++ wsX40)
def wsX4_tells : List Cond := .code yX4_tells cX4_tells 7 none :: ([.fieldLink RX4 27 "RelayTraysModel" "what" "[I", .fieldLink RX4 30 "RelayTraysModel" "tray" "[I", .fieldLink RX4 33 "RelayTraysModel" "number1" "[I", .fieldLink RX4 36 "RelayTraysModel" "kind" "[I", .fieldLink RX4 39 "RelayTraysModel" "otherwise" "[I"] ++ wsX40)
def wsX4_isAct : List Cond := .code yX4_isAct cX4_isAct 3 (some .boolean) :: ([.methodLink RX4 60 yX4_in, .static yX4_in, .initialized RX4, .code yX4_in cX4_in 3 (some .boolean), .methodLink RX4 83 yX4_isTray, .static yX4_isTray, .code yX4_isTray cX4_isTray 1 (some .boolean), .methodLink RX4 87 yX4_isKind, .static yX4_isKind, .code yX4_isKind cX4_isKind 1 (some .boolean)])
def wsX4_step : List Cond := .code yX4_step cX4_step 6 (some .int) :: ([.fieldLink RX4 127 "RelayTraysModel" "acts" "I", .methodLink RX4 124 yX4_isAct, .static yX4_isAct, .initialized RX4, .code yX4_isAct cX4_isAct 3 (some .boolean), .methodLink RX4 60 yX4_in, .static yX4_in, .code yX4_in cX4_in 3 (some .boolean), .methodLink RX4 83 yX4_isTray, .static yX4_isTray, .code yX4_isTray cX4_isTray 1 (some .boolean), .methodLink RX4 87 yX4_isKind, .static yX4_isKind, .code yX4_isKind cX4_isKind 1 (some .boolean), .methodLink RX4 130 yX4_tells, .instanceMethod yX4_tells, .selects RX4 yX4_tells yX4_tells, .code yX4_tells cX4_tells 7 none, .fieldLink RX4 27 "RelayTraysModel" "what" "[I", .fieldLink RX4 30 "RelayTraysModel" "tray" "[I", .fieldLink RX4 33 "RelayTraysModel" "number1" "[I", .fieldLink RX4 36 "RelayTraysModel" "kind" "[I", .fieldLink RX4 39 "RelayTraysModel" "otherwise" "[I"] ++ wsX40)
def wsX4_alter : List Cond := .code yX4_alter cX4_alter 8 (some .int) :: ([.fieldLink RX4 127 "RelayTraysModel" "acts" "I", .fieldLink RX4 27 "RelayTraysModel" "what" "[I", .methodLink RX4 60 yX4_in, .static yX4_in, .initialized RX4, .code yX4_in cX4_in 3 (some .boolean), .methodLink RX4 124 yX4_isAct, .static yX4_isAct, .code yX4_isAct cX4_isAct 3 (some .boolean), .methodLink RX4 83 yX4_isTray, .static yX4_isTray, .code yX4_isTray cX4_isTray 1 (some .boolean), .methodLink RX4 87 yX4_isKind, .static yX4_isKind, .code yX4_isKind cX4_isKind 1 (some .boolean), .methodLink RX4 130 yX4_tells, .instanceMethod yX4_tells, .selects RX4 yX4_tells yX4_tells, .code yX4_tells cX4_tells 7 none, .fieldLink RX4 30 "RelayTraysModel" "tray" "[I", .fieldLink RX4 33 "RelayTraysModel" "number1" "[I", .fieldLink RX4 36 "RelayTraysModel" "kind" "[I", .fieldLink RX4 39 "RelayTraysModel" "otherwise" "[I"] ++ wsX40)
def wsX4_clear : List Cond := .code yX4_clear cX4_clear 2 (some .int) :: ([.fieldLink RX4 127 "RelayTraysModel" "acts" "I"] ++ wsX40)
def wsX4_atPlace_r1 : List Cond := [Cond.fieldLink RX4 23 "RelayTraysModel" "handKind" "I", Cond.fieldLink RX4 20 "RelayTraysModel" "on" "[I", Cond.fieldLink RX4 7 "RelayTraysModel" "kindOf" "[I", Cond.fieldLink RX4 16 "RelayTraysModel" "number" "[J", Cond.fieldLink RX4 121 "RelayTraysModel" "handBits" "J", Cond.methodLink RX4 98 yX4_has, Cond.instanceMethod yX4_has, Cond.selects RX4 yX4_has yX4_has, Cond.initialized RX4, Cond.code yX4_has cX4_has 3 (some .boolean), Cond.fieldLink RX4 13 "RelayTraysModel" "sizeOf" "[I", Cond.methodLink RX4 60 yX4_in, Cond.static yX4_in, Cond.code yX4_in cX4_in 3 (some .boolean), Cond.methodLink RX4 102 yX4_goes, Cond.static yX4_goes, Cond.code yX4_goes cX4_goes 2 (some .boolean), Cond.methodLink RX4 109 yX4_into, Cond.static yX4_into, Cond.code yX4_into cX4_into 4 (some .long), Cond.constantLong RX4 52 (2143289344), Cond.constantLong RX4 58 (9221120237041090560), Cond.methodLink RX4 70 ⟨"java/lang/Float", "intBitsToFloat", "(I)F"⟩, Cond.native ⟨"java/lang/Float", "intBitsToFloat", "(I)F"⟩]
def wsX4_atPlace_r2 : List Cond := [Cond.static ⟨"java/lang/Float", "intBitsToFloat", "(I)F"⟩, Cond.initialized "java/lang/Float", Cond.methodLink RX4 64 yJxf58ca_floatToIntBits_5c35a, Cond.static yJxf58ca_floatToIntBits_5c35a, Cond.initialized RJxf58ca, Cond.code yJxf58ca_floatToIntBits_5c35a cJxf58ca_floatToIntBits_5c35a 1 (some .int), Cond.methodLink RJxf58ca 74 ⟨"java/lang/Float", "floatToRawIntBits", "(F)I"⟩, Cond.native ⟨"java/lang/Float", "floatToRawIntBits", "(F)I"⟩, Cond.static ⟨"java/lang/Float", "floatToRawIntBits", "(F)I"⟩, Cond.constant RJxf58ca 77 (2143289344), Cond.methodLink RJxf58ca 59 yJxf58ca_isNaN_12338, Cond.static yJxf58ca_isNaN_12338, Cond.code yJxf58ca_isNaN_12338 cJxf58ca_isNaN_12338 1 (some .boolean), Cond.methodLink RX4 74 yJxe99ae_doubleToLongBits_ccdee, Cond.static yJxe99ae_doubleToLongBits_ccdee, Cond.initialized RJxe99ae, Cond.code yJxe99ae_doubleToLongBits_ccdee cJxe99ae_doubleToLongBits_ccdee 2 (some .long), Cond.methodLink RJxe99ae 134 ⟨"java/lang/Double", "doubleToRawLongBits", "(D)J"⟩, Cond.native ⟨"java/lang/Double", "doubleToRawLongBits", "(D)J"⟩, Cond.static ⟨"java/lang/Double", "doubleToRawLongBits", "(D)J"⟩, Cond.initialized "java/lang/Double", Cond.constantLong RJxe99ae 137 (9221120237041090560), Cond.methodLink RJxe99ae 122 yJxe99ae_isNaN_b9ae7, Cond.static yJxe99ae_isNaN_b9ae7]
def wsX4_atPlace_r3 : List Cond := [Cond.code yJxe99ae_isNaN_b9ae7 cJxe99ae_isNaN_b9ae7 2 (some .boolean), Cond.methodLink RX4 117 yX4_holds, Cond.instanceMethod yX4_holds, Cond.selects RX4 yX4_holds yX4_holds, Cond.code yX4_holds cX4_holds 4 none]
def wsX4_atPlace : List Cond := .code yX4_atPlace cX4_atPlace 13 (some .int) :: ((wsX4_atPlace_r1 ++ (wsX4_atPlace_r2 ++ wsX4_atPlace_r3)) ++ wsX40)
def wsX4_plain_r1 : List Cond := [Cond.fieldLink RX4 30 "RelayTraysModel" "tray" "[I", Cond.fieldLink RX4 33 "RelayTraysModel" "number1" "[I", Cond.fieldLink RX4 27 "RelayTraysModel" "what" "[I", Cond.fieldLink RX4 20 "RelayTraysModel" "on" "[I", Cond.fieldLink RX4 13 "RelayTraysModel" "sizeOf" "[I", Cond.fieldLink RX4 36 "RelayTraysModel" "kind" "[I", Cond.fieldLink RX4 134 "RelayTraysModel" "point" "I", Cond.fieldLink RX4 137 "RelayTraysModel" "next" "I", Cond.fieldLink RX4 23 "RelayTraysModel" "handKind" "I", Cond.methodLink RX4 117 yX4_holds, Cond.instanceMethod yX4_holds, Cond.selects RX4 yX4_holds yX4_holds, Cond.initialized RX4, Cond.code yX4_holds cX4_holds 4 none, Cond.fieldLink RX4 121 "RelayTraysModel" "handBits" "J", Cond.methodLink RX4 90 yX4_makes, Cond.instanceMethod yX4_makes, Cond.selects RX4 yX4_makes yX4_makes, Cond.code yX4_makes cX4_makes 5 (some .int), Cond.fieldLink RX4 80 "RelayTraysModel" "made" "I", Cond.fieldLink RX4 7 "RelayTraysModel" "kindOf" "[I", Cond.fieldLink RX4 16 "RelayTraysModel" "number" "[J", Cond.methodLink RX4 98 yX4_has, Cond.instanceMethod yX4_has]
def wsX4_plain_r2 : List Cond := [Cond.selects RX4 yX4_has yX4_has, Cond.code yX4_has cX4_has 3 (some .boolean), Cond.methodLink RX4 60 yX4_in, Cond.static yX4_in, Cond.code yX4_in cX4_in 3 (some .boolean)]
def wsX4_plain : List Cond := .code yX4_plain cX4_plain 4 (some .int) :: ((wsX4_plain_r1 ++ wsX4_plain_r2) ++ wsX40)
def wsX4_run_r1 : List Cond := [Cond.fieldLink RX4 140 "RelayTraysModel" "begun" "I", Cond.fieldLink RX4 143 "RelayTraysModel" "runs" "I", Cond.fieldLink RX4 127 "RelayTraysModel" "acts" "I", Cond.fieldLink RX4 146 "RelayTraysModel" "spent" "I", Cond.fieldLink RX4 137 "RelayTraysModel" "next" "I", Cond.fieldLink RX4 27 "RelayTraysModel" "what" "[I", Cond.fieldLink RX4 30 "RelayTraysModel" "tray" "[I", Cond.fieldLink RX4 134 "RelayTraysModel" "point" "I", Cond.fieldLink RX4 33 "RelayTraysModel" "number1" "[I", Cond.fieldLink RX4 36 "RelayTraysModel" "kind" "[I", Cond.fieldLink RX4 42 "RelayTraysModel" "where" "I", Cond.fieldLink RX4 39 "RelayTraysModel" "otherwise" "[I", Cond.fieldLink RX4 156 "RelayTraysModel" "broken" "I", Cond.methodLink RX4 60 yX4_in, Cond.static yX4_in, Cond.initialized RX4, Cond.code yX4_in cX4_in 3 (some .boolean), Cond.methodLink RX4 149 yX4_atPlace, Cond.instanceMethod yX4_atPlace, Cond.selects RX4 yX4_atPlace yX4_atPlace, Cond.code yX4_atPlace cX4_atPlace 13 (some .int), Cond.fieldLink RX4 23 "RelayTraysModel" "handKind" "I", Cond.fieldLink RX4 20 "RelayTraysModel" "on" "[I", Cond.fieldLink RX4 7 "RelayTraysModel" "kindOf" "[I"]
def wsX4_run_r2 : List Cond := [Cond.fieldLink RX4 16 "RelayTraysModel" "number" "[J", Cond.fieldLink RX4 121 "RelayTraysModel" "handBits" "J", Cond.methodLink RX4 98 yX4_has, Cond.instanceMethod yX4_has, Cond.selects RX4 yX4_has yX4_has, Cond.code yX4_has cX4_has 3 (some .boolean), Cond.fieldLink RX4 13 "RelayTraysModel" "sizeOf" "[I", Cond.methodLink RX4 102 yX4_goes, Cond.static yX4_goes, Cond.code yX4_goes cX4_goes 2 (some .boolean), Cond.methodLink RX4 109 yX4_into, Cond.static yX4_into, Cond.code yX4_into cX4_into 4 (some .long), Cond.constantLong RX4 52 (2143289344), Cond.constantLong RX4 58 (9221120237041090560), Cond.methodLink RX4 70 ⟨"java/lang/Float", "intBitsToFloat", "(I)F"⟩, Cond.native ⟨"java/lang/Float", "intBitsToFloat", "(I)F"⟩, Cond.static ⟨"java/lang/Float", "intBitsToFloat", "(I)F"⟩, Cond.initialized "java/lang/Float", Cond.methodLink RX4 64 yJxf58ca_floatToIntBits_5c35a, Cond.static yJxf58ca_floatToIntBits_5c35a, Cond.initialized RJxf58ca, Cond.code yJxf58ca_floatToIntBits_5c35a cJxf58ca_floatToIntBits_5c35a 1 (some .int), Cond.methodLink RJxf58ca 74 ⟨"java/lang/Float", "floatToRawIntBits", "(F)I"⟩]
def wsX4_run_r3 : List Cond := [Cond.native ⟨"java/lang/Float", "floatToRawIntBits", "(F)I"⟩, Cond.static ⟨"java/lang/Float", "floatToRawIntBits", "(F)I"⟩, Cond.constant RJxf58ca 77 (2143289344), Cond.methodLink RJxf58ca 59 yJxf58ca_isNaN_12338, Cond.static yJxf58ca_isNaN_12338, Cond.code yJxf58ca_isNaN_12338 cJxf58ca_isNaN_12338 1 (some .boolean), Cond.methodLink RX4 74 yJxe99ae_doubleToLongBits_ccdee, Cond.static yJxe99ae_doubleToLongBits_ccdee, Cond.initialized RJxe99ae, Cond.code yJxe99ae_doubleToLongBits_ccdee cJxe99ae_doubleToLongBits_ccdee 2 (some .long), Cond.methodLink RJxe99ae 134 ⟨"java/lang/Double", "doubleToRawLongBits", "(D)J"⟩, Cond.native ⟨"java/lang/Double", "doubleToRawLongBits", "(D)J"⟩, Cond.static ⟨"java/lang/Double", "doubleToRawLongBits", "(D)J"⟩, Cond.initialized "java/lang/Double", Cond.constantLong RJxe99ae 137 (9221120237041090560), Cond.methodLink RJxe99ae 122 yJxe99ae_isNaN_b9ae7, Cond.static yJxe99ae_isNaN_b9ae7, Cond.code yJxe99ae_isNaN_b9ae7 cJxe99ae_isNaN_b9ae7 2 (some .boolean), Cond.methodLink RX4 117 yX4_holds, Cond.instanceMethod yX4_holds, Cond.selects RX4 yX4_holds yX4_holds, Cond.code yX4_holds cX4_holds 4 none, Cond.methodLink RX4 153 yX4_plain, Cond.instanceMethod yX4_plain]
def wsX4_run_r4 : List Cond := [Cond.selects RX4 yX4_plain yX4_plain, Cond.code yX4_plain cX4_plain 4 (some .int), Cond.methodLink RX4 90 yX4_makes, Cond.instanceMethod yX4_makes, Cond.selects RX4 yX4_makes yX4_makes, Cond.code yX4_makes cX4_makes 5 (some .int), Cond.fieldLink RX4 80 "RelayTraysModel" "made" "I", Cond.methodLink RX4 94 yX4_fails, Cond.instanceMethod yX4_fails, Cond.selects RX4 yX4_fails yX4_fails, Cond.code yX4_fails cX4_fails 2 (some .int), Cond.fieldLink RX4 45 "RelayTraysModel" "met" "[I"]
def wsX4_run : List Cond := .code yX4_run cX4_run 5 (some .int) :: ((wsX4_run_r1 ++ (wsX4_run_r2 ++ (wsX4_run_r3 ++ wsX4_run_r4))) ++ wsX40)
def wsX4_point : List Cond := .code yX4_point cX4_point 1 (some .int) :: ([.fieldLink RX4 134 "RelayTraysModel" "point" "I"] ++ wsX40)
def wsX4_begun : List Cond := .code yX4_begun cX4_begun 1 (some .int) :: ([.fieldLink RX4 140 "RelayTraysModel" "begun" "I"] ++ wsX40)
def wsX4_where : List Cond := .code yX4_where cX4_where 1 (some .int) :: ([.fieldLink RX4 42 "RelayTraysModel" "where" "I"] ++ wsX40)
def wsX4_count : List Cond := .code yX4_count cX4_count 2 (some .int) :: ([.fieldLink RX4 80 "RelayTraysModel" "made" "I", .fieldLink RX4 127 "RelayTraysModel" "acts" "I", .fieldLink RX4 143 "RelayTraysModel" "runs" "I", .fieldLink RX4 156 "RelayTraysModel" "broken" "I", .fieldLink RX4 146 "RelayTraysModel" "spent" "I", .fieldLink RX4 45 "RelayTraysModel" "met" "[I", .methodLink RX4 60 yX4_in, .static yX4_in, .initialized RX4, .code yX4_in cX4_in 3 (some .boolean)] ++ wsX40)
theorem inlX0 : ∀ w ∈ wsX00, w ∈ wsL_law := fun _ h => List.mem_append_left _ (List.mem_append_right _ h)
theorem inX0 : ∀ w ∈ wsX00, w ∈ lw_tbl := fun w h => wsL_law_in w (inlX0 w h)
theorem inX1 : ∀ w ∈ wsX10, w ∈ lw_tbl := by decide +kernel
theorem inlX2 : ∀ w ∈ wsX20, w ∈ wsL_law := fun _ h => List.mem_append_left _ (List.mem_append_left _ (List.mem_append_right _ h))
theorem inX2 : ∀ w ∈ wsX20, w ∈ lw_tbl := fun w h => wsL_law_in w (inlX2 w h)
theorem inlX3 : ∀ w ∈ wsX30, w ∈ wsL_law := fun _ h => List.mem_append_left _ (List.mem_append_left _ (List.mem_append_left _ (List.mem_append_left _ (List.mem_append_right _ h))))
theorem inX3 : ∀ w ∈ wsX30, w ∈ lw_tbl := fun w h => wsL_law_in w (inlX3 w h)
theorem inlX4 : ∀ w ∈ wsX40, w ∈ wsL_law := fun _ h => List.mem_append_left _ (List.mem_append_left _ (List.mem_append_left _ (List.mem_append_right _ h)))
theorem inX4 : ∀ w ∈ wsX40, w ∈ lw_tbl := fun w h => wsL_law_in w (inlX4 w h)
theorem inJxe99ae : ∀ w ∈ wsJxe99ae0, w ∈ lw_tbl := by decide +kernel
theorem inJxf58ca : ∀ w ∈ wsJxf58ca0, w ∈ lw_tbl := by decide +kernel
theorem inJ6 : ∀ w ∈ wsJ60, w ∈ lw_tbl := by decide +kernel
theorem inJ13 : ∀ w ∈ wsJ130, w ∈ lw_tbl := by decide +kernel
theorem inJ9 : ∀ w ∈ wsJ90, w ∈ lw_tbl := by decide +kernel
theorem dX1_isKind_0 : decode cX1_isKind 0 = .ok (.iload_n 0, 1) := by decide +kernel
theorem dX1_isKind_1 : decode cX1_isKind 1 = .ok (.ifCond .lt 13, 3) := by decide +kernel
theorem dX1_isKind_4 : decode cX1_isKind 4 = .ok (.iload_n 0, 1) := by decide +kernel
theorem dX1_isKind_5 : decode cX1_isKind 5 = .ok (.bipush 7, 2) := by decide +kernel
theorem dX1_isKind_7 : decode cX1_isKind 7 = .ok (.if_icmp .gt 7, 3) := by decide +kernel
theorem dX1_isKind_10 : decode cX1_isKind 10 = .ok (.iconst 1, 1) := by decide +kernel
theorem dX1_isKind_11 : decode cX1_isKind 11 = .ok (.goto 4, 3) := by decide +kernel
theorem dX1_isKind_14 : decode cX1_isKind 14 = .ok (.iconst 0, 1) := by decide +kernel
theorem dX1_isKind_15 : decode cX1_isKind 15 = .ok (.ireturn, 1) := by decide +kernel
theorem dX1_told_0 : decode cX1_told 0 = .ok (.iload_n 0, 1) := by decide +kernel
theorem dX1_told_1 : decode cX1_told 1 = .ok (.tableswitch 112 0 7 #[47, 51, 56, 61, 66, 112, 70, 92], 47) := by decide +kernel
theorem dX1_told_48 : decode cX1_told 48 = .ok (.lload_n 1, 1) := by decide +kernel
theorem dX1_told_49 : decode cX1_told 49 = .ok (.lconst 1, 1) := by decide +kernel
theorem dX1_told_50 : decode cX1_told 50 = .ok (.land, 1) := by decide +kernel
theorem dX1_told_51 : decode cX1_told 51 = .ok (.lreturn, 1) := by decide +kernel
theorem dX1_told_52 : decode cX1_told 52 = .ok (.lload_n 1, 1) := by decide +kernel
theorem dX1_told_53 : decode cX1_told 53 = .ok (.l2i, 1) := by decide +kernel
theorem dX1_told_54 : decode cX1_told 54 = .ok (.i2b, 1) := by decide +kernel
theorem dX1_told_55 : decode cX1_told 55 = .ok (.i2l, 1) := by decide +kernel
theorem dX1_told_56 : decode cX1_told 56 = .ok (.lreturn, 1) := by decide +kernel
theorem dX1_told_57 : decode cX1_told 57 = .ok (.lload_n 1, 1) := by decide +kernel
theorem dX1_told_58 : decode cX1_told 58 = .ok (.l2i, 1) := by decide +kernel
theorem dX1_told_59 : decode cX1_told 59 = .ok (.i2s, 1) := by decide +kernel
theorem dX1_told_60 : decode cX1_told 60 = .ok (.i2l, 1) := by decide +kernel
theorem dX1_told_61 : decode cX1_told 61 = .ok (.lreturn, 1) := by decide +kernel
theorem dX1_told_62 : decode cX1_told 62 = .ok (.lload_n 1, 1) := by decide +kernel
theorem dX1_told_63 : decode cX1_told 63 = .ok (.l2i, 1) := by decide +kernel
theorem dX1_told_64 : decode cX1_told 64 = .ok (.i2c, 1) := by decide +kernel
theorem dX1_told_65 : decode cX1_told 65 = .ok (.i2l, 1) := by decide +kernel
theorem dX1_told_66 : decode cX1_told 66 = .ok (.lreturn, 1) := by decide +kernel
theorem dX1_told_67 : decode cX1_told 67 = .ok (.lload_n 1, 1) := by decide +kernel
theorem dX1_told_68 : decode cX1_told 68 = .ok (.l2i, 1) := by decide +kernel
theorem dX1_told_69 : decode cX1_told 69 = .ok (.i2l, 1) := by decide +kernel
theorem dX1_told_70 : decode cX1_told 70 = .ok (.lreturn, 1) := by decide +kernel
theorem dX1_told_71 : decode cX1_told 71 = .ok (.lload_n 1, 1) := by decide +kernel
theorem dX1_told_72 : decode cX1_told 72 = .ok (.ldc2_w 17, 3) := by decide +kernel
theorem dX1_told_75 : decode cX1_told 75 = .ok (.land, 1) := by decide +kernel
theorem dX1_told_76 : decode cX1_told 76 = .ok (.ldc2_w 19, 3) := by decide +kernel
theorem dX1_told_79 : decode cX1_told 79 = .ok (.lcmp, 1) := by decide +kernel
theorem dX1_told_80 : decode cX1_told 80 = .ok (.ifCond .le 9, 3) := by decide +kernel
theorem dX1_told_83 : decode cX1_told 83 = .ok (.ldc2_w 21, 3) := by decide +kernel
theorem dX1_told_86 : decode cX1_told 86 = .ok (.goto 6, 3) := by decide +kernel
theorem dX1_told_89 : decode cX1_told 89 = .ok (.lload_n 1, 1) := by decide +kernel
theorem dX1_told_90 : decode cX1_told 90 = .ok (.l2i, 1) := by decide +kernel
theorem dX1_told_91 : decode cX1_told 91 = .ok (.i2l, 1) := by decide +kernel
theorem dX1_told_92 : decode cX1_told 92 = .ok (.lreturn, 1) := by decide +kernel
theorem dX1_told_93 : decode cX1_told 93 = .ok (.lload_n 1, 1) := by decide +kernel
theorem dX1_told_94 : decode cX1_told 94 = .ok (.ldc2_w 23, 3) := by decide +kernel
theorem dX1_told_97 : decode cX1_told 97 = .ok (.land, 1) := by decide +kernel
theorem dX1_told_98 : decode cX1_told 98 = .ok (.ldc2_w 25, 3) := by decide +kernel
theorem dX1_told_101 : decode cX1_told 101 = .ok (.lcmp, 1) := by decide +kernel
theorem dX1_told_102 : decode cX1_told 102 = .ok (.ifCond .le 9, 3) := by decide +kernel
theorem dX1_told_105 : decode cX1_told 105 = .ok (.ldc2_w 27, 3) := by decide +kernel
theorem dX1_told_108 : decode cX1_told 108 = .ok (.goto 4, 3) := by decide +kernel
theorem dX1_told_111 : decode cX1_told 111 = .ok (.lload_n 1, 1) := by decide +kernel
theorem dX1_told_112 : decode cX1_told 112 = .ok (.lreturn, 1) := by decide +kernel
theorem dX1_told_113 : decode cX1_told 113 = .ok (.lload_n 1, 1) := by decide +kernel
theorem dX1_told_114 : decode cX1_told 114 = .ok (.lreturn, 1) := by decide +kernel
theorem dX3_isTray_0 : decode cX3_isTray 0 = .ok (.iload_n 0, 1) := by decide +kernel
theorem dX3_isTray_1 : decode cX3_isTray 1 = .ok (.ifCond .lt 13, 3) := by decide +kernel
theorem dX3_isTray_4 : decode cX3_isTray 4 = .ok (.iload_n 0, 1) := by decide +kernel
theorem dX3_isTray_5 : decode cX3_isTray 5 = .ok (.bipush 8, 2) := by decide +kernel
theorem dX3_isTray_7 : decode cX3_isTray 7 = .ok (.if_icmp .ge 7, 3) := by decide +kernel
theorem dX3_isTray_10 : decode cX3_isTray 10 = .ok (.iconst 1, 1) := by decide +kernel
theorem dX3_isTray_11 : decode cX3_isTray 11 = .ok (.goto 4, 3) := by decide +kernel
theorem dX3_isTray_14 : decode cX3_isTray 14 = .ok (.iconst 0, 1) := by decide +kernel
theorem dX3_isTray_15 : decode cX3_isTray 15 = .ok (.ireturn, 1) := by decide +kernel
theorem dX4_in_0 : decode cX4_in 0 = .ok (.iload_n 0, 1) := by decide +kernel
theorem dX4_in_1 : decode cX4_in 1 = .ok (.iload_n 1, 1) := by decide +kernel
theorem dX4_in_2 : decode cX4_in 2 = .ok (.if_icmp .lt 12, 3) := by decide +kernel
theorem dX4_in_5 : decode cX4_in 5 = .ok (.iload_n 0, 1) := by decide +kernel
theorem dX4_in_6 : decode cX4_in 6 = .ok (.iload_n 2, 1) := by decide +kernel
theorem dX4_in_7 : decode cX4_in 7 = .ok (.if_icmp .gt 7, 3) := by decide +kernel
theorem dX4_in_10 : decode cX4_in 10 = .ok (.iconst 1, 1) := by decide +kernel
theorem dX4_in_11 : decode cX4_in 11 = .ok (.goto 4, 3) := by decide +kernel
theorem dX4_in_14 : decode cX4_in 14 = .ok (.iconst 0, 1) := by decide +kernel
theorem dX4_in_15 : decode cX4_in 15 = .ok (.ireturn, 1) := by decide +kernel
theorem dX4_told_0 : decode cX4_told 0 = .ok (.iload_n 0, 1) := by decide +kernel
theorem dX4_told_1 : decode cX4_told 1 = .ok (.tableswitch 112 0 7 #[47, 51, 56, 61, 66, 112, 70, 92], 47) := by decide +kernel
theorem dX4_told_48 : decode cX4_told 48 = .ok (.lload_n 1, 1) := by decide +kernel
theorem dX4_told_49 : decode cX4_told 49 = .ok (.lconst 1, 1) := by decide +kernel
theorem dX4_told_50 : decode cX4_told 50 = .ok (.land, 1) := by decide +kernel
theorem dX4_told_51 : decode cX4_told 51 = .ok (.lreturn, 1) := by decide +kernel
theorem dX4_told_52 : decode cX4_told 52 = .ok (.lload_n 1, 1) := by decide +kernel
theorem dX4_told_53 : decode cX4_told 53 = .ok (.l2i, 1) := by decide +kernel
theorem dX4_told_54 : decode cX4_told 54 = .ok (.i2b, 1) := by decide +kernel
theorem dX4_told_55 : decode cX4_told 55 = .ok (.i2l, 1) := by decide +kernel
theorem dX4_told_56 : decode cX4_told 56 = .ok (.lreturn, 1) := by decide +kernel
theorem dX4_told_57 : decode cX4_told 57 = .ok (.lload_n 1, 1) := by decide +kernel
theorem dX4_told_58 : decode cX4_told 58 = .ok (.l2i, 1) := by decide +kernel
theorem dX4_told_59 : decode cX4_told 59 = .ok (.i2s, 1) := by decide +kernel
theorem dX4_told_60 : decode cX4_told 60 = .ok (.i2l, 1) := by decide +kernel
theorem dX4_told_61 : decode cX4_told 61 = .ok (.lreturn, 1) := by decide +kernel
theorem dX4_told_62 : decode cX4_told 62 = .ok (.lload_n 1, 1) := by decide +kernel
theorem dX4_told_63 : decode cX4_told 63 = .ok (.l2i, 1) := by decide +kernel
theorem dX4_told_64 : decode cX4_told 64 = .ok (.i2c, 1) := by decide +kernel
theorem dX4_told_65 : decode cX4_told 65 = .ok (.i2l, 1) := by decide +kernel
theorem dX4_told_66 : decode cX4_told 66 = .ok (.lreturn, 1) := by decide +kernel
theorem dX4_told_67 : decode cX4_told 67 = .ok (.lload_n 1, 1) := by decide +kernel
theorem dX4_told_68 : decode cX4_told 68 = .ok (.l2i, 1) := by decide +kernel
theorem dX4_told_69 : decode cX4_told 69 = .ok (.i2l, 1) := by decide +kernel
theorem dX4_told_70 : decode cX4_told 70 = .ok (.lreturn, 1) := by decide +kernel
theorem dX4_told_71 : decode cX4_told 71 = .ok (.lload_n 1, 1) := by decide +kernel
theorem dX4_told_72 : decode cX4_told 72 = .ok (.ldc2_w 48, 3) := by decide +kernel
theorem dX4_told_75 : decode cX4_told 75 = .ok (.land, 1) := by decide +kernel
theorem dX4_told_76 : decode cX4_told 76 = .ok (.ldc2_w 50, 3) := by decide +kernel
theorem dX4_told_79 : decode cX4_told 79 = .ok (.lcmp, 1) := by decide +kernel
theorem dX4_told_80 : decode cX4_told 80 = .ok (.ifCond .le 9, 3) := by decide +kernel
theorem dX4_told_83 : decode cX4_told 83 = .ok (.ldc2_w 52, 3) := by decide +kernel
theorem dX4_told_86 : decode cX4_told 86 = .ok (.goto 6, 3) := by decide +kernel
theorem dX4_told_89 : decode cX4_told 89 = .ok (.lload_n 1, 1) := by decide +kernel
theorem dX4_told_90 : decode cX4_told 90 = .ok (.l2i, 1) := by decide +kernel
theorem dX4_told_91 : decode cX4_told 91 = .ok (.i2l, 1) := by decide +kernel
theorem dX4_told_92 : decode cX4_told 92 = .ok (.lreturn, 1) := by decide +kernel
theorem dX4_told_93 : decode cX4_told 93 = .ok (.lload_n 1, 1) := by decide +kernel
theorem dX4_told_94 : decode cX4_told 94 = .ok (.ldc2_w 54, 3) := by decide +kernel
theorem dX4_told_97 : decode cX4_told 97 = .ok (.land, 1) := by decide +kernel
theorem dX4_told_98 : decode cX4_told 98 = .ok (.ldc2_w 56, 3) := by decide +kernel
theorem dX4_told_101 : decode cX4_told 101 = .ok (.lcmp, 1) := by decide +kernel
theorem dX4_told_102 : decode cX4_told 102 = .ok (.ifCond .le 9, 3) := by decide +kernel
theorem dX4_told_105 : decode cX4_told 105 = .ok (.ldc2_w 58, 3) := by decide +kernel
theorem dX4_told_108 : decode cX4_told 108 = .ok (.goto 4, 3) := by decide +kernel
theorem dX4_told_111 : decode cX4_told 111 = .ok (.lload_n 1, 1) := by decide +kernel
theorem dX4_told_112 : decode cX4_told 112 = .ok (.lreturn, 1) := by decide +kernel
theorem dX4_told_113 : decode cX4_told 113 = .ok (.lload_n 1, 1) := by decide +kernel
theorem dX4_told_114 : decode cX4_told 114 = .ok (.lreturn, 1) := by decide +kernel
set_option maxRecDepth 20000 in
theorem ggX4_isTray_X4_in : GoodIn wsX4_isTray wsX4_in := goodIn_r _ [4] (by decide +kernel) (by decide +kernel)
set_option maxRecDepth 20000 in
theorem gX4_isTray_X4_in : GoodIn wsX4_isTray (va_wsS RX4 60 yX4_in wsX4_in) := goodIn_app (goodIn_of _ (by decide +kernel)) ggX4_isTray_X4_in
theorem dX4_isTray_0 : decode cX4_isTray 0 = .ok (.iload_n 0, 1) := by decide +kernel
theorem dX4_isTray_1 : decode cX4_isTray 1 = .ok (.iconst 0, 1) := by decide +kernel
theorem dX4_isTray_2 : decode cX4_isTray 2 = .ok (.bipush 7, 2) := by decide +kernel
theorem dX4_isTray_4 : decode cX4_isTray 4 = .ok (.invokestatic 60, 3) := by decide +kernel
theorem dX4_isTray_7 : decode cX4_isTray 7 = .ok (.ireturn, 1) := by decide +kernel
set_option maxRecDepth 20000 in
theorem ggX4_isKind_X4_in : GoodIn wsX4_isKind wsX4_in := goodIn_r _ [4] (by decide +kernel) (by decide +kernel)
set_option maxRecDepth 20000 in
theorem gX4_isKind_X4_in : GoodIn wsX4_isKind (va_wsS RX4 60 yX4_in wsX4_in) := goodIn_app (goodIn_of _ (by decide +kernel)) ggX4_isKind_X4_in
theorem dX4_isKind_0 : decode cX4_isKind 0 = .ok (.iload_n 0, 1) := by decide +kernel
theorem dX4_isKind_1 : decode cX4_isKind 1 = .ok (.iconst 0, 1) := by decide +kernel
theorem dX4_isKind_2 : decode cX4_isKind 2 = .ok (.bipush 7, 2) := by decide +kernel
theorem dX4_isKind_4 : decode cX4_isKind 4 = .ok (.invokestatic 60, 3) := by decide +kernel
theorem dX4_isKind_7 : decode cX4_isKind 7 = .ok (.ireturn, 1) := by decide +kernel
abbrev vwCl : List vw_C := [(RX0, TX0, 5), (RX2, TX2, 2), (RX3, TX3, 15), (RX4, TX4, 22)]
end
section
/-- a truth, as the machine answers it -/
abbrev vz (P : Prop) (r : Int32) : Prop := (P ∧ r = 1) ∨ (¬ P ∧ r = 0)
/-- 0 .. 7 -/
abbrev ik (k : Int32) : Prop := 0 ≤ k.toInt ∧ k.toInt ≤ 7
theorem oq_cases (r : Option Nat) : r = none ∨ ∃ a, r = some a := by cases r with
  | none => exact Or.inl rfl
  | some a => exact Or.inr ⟨a, rfl⟩
/-- the long that a number of a kind with these bits is told by -/
def f_told (k : Int32) (b : Int64) : Int64 :=
  if k = 0 then b &&& 1 else if k = 1 then b.toInt32.toInt8.toInt32.toInt64 else if k = 2 then b.toInt32.toInt16.toInt32.toInt64
  else if k = 3 then ((b.toInt32.toUInt32 % 65536).toInt32).toInt64 else if k = 4 then b.toInt32.toInt64
  else if k = 6 then (if 2139095040 < b &&& 2147483647 then 2143289344 else b.toInt32.toInt64)
  else if k = 7 then (if 9218868437227405312 < b &&& 9223372036854775807 then 9221120237041090560 else b) else b
theorem lc_gt {x y : Int64} (h : ¬ lg_cmp x y ≤ 0) : y < x := by
  unfold lg_cmp at h
  by_cases h1 : y < x
  · exact h1
  · rw [if_neg (show ¬ x > y from h1)] at h
    split at h <;> exact absurd (by decide) h
theorem lc_le {x y : Int64} (h : lg_cmp x y ≤ 0) : ¬ y < x := by
  intro h1
  unfold lg_cmp at h
  rw [if_pos (show x > y from h1)] at h
  exact absurd h (by decide)
set_option maxHeartbeats 4000000 in
set_option maxRecDepth 100000 in
theorem c_X1_isKind (l : Launch) (p0 : Int32) : Met l yX1_isKind wsX1_isKind ({ frames := 0, cells := 0, slots := 0, locals := 0 }) (va_Pc [.int p0] (fun _ => True)) (vp_Si (fun r => vz (ik p0) r)) 0 0 (fun _ => False) := by
  refine Met.ofW (cc := cX1_isKind) (maxL := 1) (ret := (some .boolean)) (by decide) rfl ?_
  intro p e s m args below meth c s₁ B hml hv
  obtain ⟨rfl, -⟩ := hv
  have hx := B.exec
  have hb := B.bytes
  have hr := B.returns
  have hts := atoms_spec (ws := wsX1_isKind) B.pre
  have hown : s.vm.findClass RX1 = some m.cls := findClass_of_methodNamed B.named
  have hlocks := B.notSynchronized
  have hl := lv_entry ([.int p0]) (n := 1) (Nat.le_of_ble_eq_true rfl)
  rw [lg_entry_eq]
  generalize (lg_sl ([.int p0]) ++ List.replicate (1 - (lg_sl ([.int p0])).length) Slot.unset).toArray = ls at hl ⊢
  have hl : lv_has ls 1 [(0, .int p0)] := hl
  refine lv_iload_n hx hb dX1_isKind_0 rfl (lv_at hl 0 rfl) ?_
  refine lv_if_lt (tgt := 14) hx hb dX1_isKind_1 (by decide) (fun c_1 => ?_) (fun c_1 => ?_)
  · skip
    refine lv_iconst (v := 0) hx hb dX1_isKind_14 (by decide) ?_
    exact W.zret (v := 0) hx hb hr (by decide) (fun t ht hW => ⟨_, rfl, (Or.inr ⟨by (try simp only [Int32.le_iff_toInt_le, Int32.lt_iff_toInt_lt, Int32.reduceToInt] at c_1); omega, rfl⟩), ht⟩) (fun q hq => absurd hq List.not_mem_nil) dX1_isKind_15
  · skip
    refine lv_iload_n hx hb dX1_isKind_4 rfl (lv_at hl 0 rfl) ?_
    refine lv_bipush (v := 7) hx hb dX1_isKind_5 (by decide) ?_
    refine lv_icmp_gt (tgt := 14) hx hb dX1_isKind_7 (by decide) (fun c_2 => ?_) (fun c_2 => ?_)
    · skip
      refine lv_iconst (v := 0) hx hb dX1_isKind_14 (by decide) ?_
      exact W.zret (v := 0) hx hb hr (by decide) (fun t ht hW => ⟨_, rfl, (Or.inr ⟨by (try simp only [Int32.le_iff_toInt_le, Int32.lt_iff_toInt_lt, Int32.reduceToInt] at c_1 c_2); omega, rfl⟩), ht⟩) (fun q hq => absurd hq List.not_mem_nil) dX1_isKind_15
    · skip
      refine lv_iconst (v := 1) hx hb dX1_isKind_10 (by decide) ?_
      refine lv_goto (tgt := 15) hx hb dX1_isKind_11 (by decide) ?_
      exact W.zret (v := 1) hx hb hr (by decide) (fun t ht hW => ⟨_, rfl, (Or.inl ⟨by (try simp only [Int32.le_iff_toInt_le, Int32.lt_iff_toInt_lt, Int32.reduceToInt] at c_1 c_2); omega, rfl⟩), ht⟩) (fun q hq => absurd hq List.not_mem_nil) dX1_isKind_15

set_option maxHeartbeats 4000000 in
set_option maxRecDepth 100000 in
theorem c_X3_isTray (l : Launch) (p0 : Int32) : Met l yX3_isTray wsX3_isTray ({ frames := 0, cells := 0, slots := 0, locals := 0 }) (va_Pc [.int p0] (fun _ => True)) (vp_Si (fun r => vz (ik p0) r)) 0 0 (fun _ => False) := by
  refine Met.ofW (cc := cX3_isTray) (maxL := 1) (ret := (some .boolean)) (by decide) rfl ?_
  intro p e s m args below meth c s₁ B hml hv
  obtain ⟨rfl, -⟩ := hv
  have hx := B.exec
  have hb := B.bytes
  have hr := B.returns
  have hts := atoms_spec (ws := wsX3_isTray) B.pre
  have hown : s.vm.findClass RX3 = some m.cls := findClass_of_methodNamed B.named
  have hlocks := B.notSynchronized
  have hl := lv_entry ([.int p0]) (n := 1) (Nat.le_of_ble_eq_true rfl)
  rw [lg_entry_eq]
  generalize (lg_sl ([.int p0]) ++ List.replicate (1 - (lg_sl ([.int p0])).length) Slot.unset).toArray = ls at hl ⊢
  have hl : lv_has ls 1 [(0, .int p0)] := hl
  refine lv_iload_n hx hb dX3_isTray_0 rfl (lv_at hl 0 rfl) ?_
  refine lv_if_lt (tgt := 14) hx hb dX3_isTray_1 (by decide) (fun c_1 => ?_) (fun c_1 => ?_)
  · skip
    refine lv_iconst (v := 0) hx hb dX3_isTray_14 (by decide) ?_
    exact W.zret (v := 0) hx hb hr (by decide) (fun t ht hW => ⟨_, rfl, (Or.inr ⟨by (try simp only [Int32.le_iff_toInt_le, Int32.lt_iff_toInt_lt, Int32.reduceToInt] at c_1); omega, rfl⟩), ht⟩) (fun q hq => absurd hq List.not_mem_nil) dX3_isTray_15
  · skip
    refine lv_iload_n hx hb dX3_isTray_4 rfl (lv_at hl 0 rfl) ?_
    refine lv_bipush (v := 8) hx hb dX3_isTray_5 (by decide) ?_
    refine lv_icmp_ge (tgt := 14) hx hb dX3_isTray_7 (by decide) (fun c_2 => ?_) (fun c_2 => ?_)
    · skip
      refine lv_iconst (v := 0) hx hb dX3_isTray_14 (by decide) ?_
      exact W.zret (v := 0) hx hb hr (by decide) (fun t ht hW => ⟨_, rfl, (Or.inr ⟨by (try simp only [Int32.le_iff_toInt_le, Int32.lt_iff_toInt_lt, Int32.reduceToInt] at c_1 c_2); omega, rfl⟩), ht⟩) (fun q hq => absurd hq List.not_mem_nil) dX3_isTray_15
    · skip
      refine lv_iconst (v := 1) hx hb dX3_isTray_10 (by decide) ?_
      refine lv_goto (tgt := 15) hx hb dX3_isTray_11 (by decide) ?_
      exact W.zret (v := 1) hx hb hr (by decide) (fun t ht hW => ⟨_, rfl, (Or.inl ⟨by (try simp only [Int32.le_iff_toInt_le, Int32.lt_iff_toInt_lt, Int32.reduceToInt] at c_1 c_2); omega, rfl⟩), ht⟩) (fun q hq => absurd hq List.not_mem_nil) dX3_isTray_15

set_option maxHeartbeats 4000000 in
set_option maxRecDepth 100000 in
theorem c_X4_in (l : Launch) (p0 : Int32) (p1 : Int32) (p2 : Int32) : Met l yX4_in wsX4_in ({ frames := 0, cells := 0, slots := 0, locals := 0 }) (va_Pc [.int p0, .int p1, .int p2] (fun _ => True)) (vp_Si (fun r => vz (p1.toInt ≤ p0.toInt ∧ p0.toInt ≤ p2.toInt) r)) 0 0 (fun _ => False) := by
  refine Met.ofW (cc := cX4_in) (maxL := 3) (ret := (some .boolean)) (by decide) rfl ?_
  intro p e s m args below meth c s₁ B hml hv
  obtain ⟨rfl, -⟩ := hv
  have hx := B.exec
  have hb := B.bytes
  have hr := B.returns
  have hts := atoms_spec (ws := wsX4_in) B.pre
  have hown : s.vm.findClass RX4 = some m.cls := findClass_of_methodNamed B.named
  have hlocks := B.notSynchronized
  have hl := lv_entry ([.int p0, .int p1, .int p2]) (n := 3) (Nat.le_of_ble_eq_true rfl)
  rw [lg_entry_eq]
  generalize (lg_sl ([.int p0, .int p1, .int p2]) ++ List.replicate (3 - (lg_sl ([.int p0, .int p1, .int p2])).length) Slot.unset).toArray = ls at hl ⊢
  have hl : lv_has ls 3 [(0, .int p0), (1, .int p1), (2, .int p2)] := hl
  refine lv_iload_n hx hb dX4_in_0 rfl (lv_at hl 0 rfl) ?_
  refine lv_iload_n hx hb dX4_in_1 rfl (lv_at hl 1 rfl) ?_
  refine lv_icmp_lt (tgt := 14) hx hb dX4_in_2 (by decide) (fun c_1 => ?_) (fun c_1 => ?_)
  · skip
    refine lv_iconst (v := 0) hx hb dX4_in_14 (by decide) ?_
    exact W.zret (v := 0) hx hb hr (by decide) (fun t ht hW => ⟨_, rfl, (Or.inr ⟨by (try simp only [Int32.le_iff_toInt_le, Int32.lt_iff_toInt_lt, Int32.reduceToInt] at c_1); omega, rfl⟩), ht⟩) (fun q hq => absurd hq List.not_mem_nil) dX4_in_15
  · skip
    refine lv_iload_n hx hb dX4_in_5 rfl (lv_at hl 0 rfl) ?_
    refine lv_iload_n hx hb dX4_in_6 rfl (lv_at hl 2 rfl) ?_
    refine lv_icmp_gt (tgt := 14) hx hb dX4_in_7 (by decide) (fun c_2 => ?_) (fun c_2 => ?_)
    · skip
      refine lv_iconst (v := 0) hx hb dX4_in_14 (by decide) ?_
      exact W.zret (v := 0) hx hb hr (by decide) (fun t ht hW => ⟨_, rfl, (Or.inr ⟨by (try simp only [Int32.le_iff_toInt_le, Int32.lt_iff_toInt_lt, Int32.reduceToInt] at c_1 c_2); omega, rfl⟩), ht⟩) (fun q hq => absurd hq List.not_mem_nil) dX4_in_15
    · skip
      refine lv_iconst (v := 1) hx hb dX4_in_10 (by decide) ?_
      refine lv_goto (tgt := 15) hx hb dX4_in_11 (by decide) ?_
      exact W.zret (v := 1) hx hb hr (by decide) (fun t ht hW => ⟨_, rfl, (Or.inl ⟨by (try simp only [Int32.le_iff_toInt_le, Int32.lt_iff_toInt_lt, Int32.reduceToInt] at c_1 c_2); omega, rfl⟩), ht⟩) (fun q hq => absurd hq List.not_mem_nil) dX4_in_15

set_option maxHeartbeats 4000000 in
set_option maxRecDepth 100000 in
theorem c_X4_isTray (l : Launch) (p0 : Int32) : Met l yX4_isTray wsX4_isTray ({ frames := 1, cells := 0, slots := 0, locals := 22 }) (va_Pc [.int p0] (fun _ => True)) (vp_Si (fun r => vz (ik p0) r)) 0 0 (fun _ => False) := by
  refine Met.ofW (cc := cX4_isTray) (maxL := 1) (ret := (some .boolean)) (by decide) rfl ?_
  intro p e s m args below meth c s₁ B hml hv
  obtain ⟨rfl, -⟩ := hv
  have hx := B.exec
  have hb := B.bytes
  have hr := B.returns
  have hts := atoms_spec (ws := wsX4_isTray) B.pre
  have hown : s.vm.findClass RX4 = some m.cls := findClass_of_methodNamed B.named
  have hlocks := B.notSynchronized
  have hl := lv_entry ([.int p0]) (n := 1) (Nat.le_of_ble_eq_true rfl)
  rw [lg_entry_eq]
  generalize (lg_sl ([.int p0]) ++ List.replicate (1 - (lg_sl ([.int p0])).length) Slot.unset).toArray = ls at hl ⊢
  have hl : lv_has ls 1 [(0, .int p0)] := hl
  refine lv_iload_n hx hb dX4_isTray_0 rfl (lv_at hl 0 rfl) ?_
  refine lv_iconst (v := 0) hx hb dX4_isTray_1 (by decide) ?_
  refine lv_bipush (v := 7) hx hb dX4_isTray_2 (by decide) ?_
  refine vp_callSi (W.runS (As := [.int p0, .int 0, .int 7]) (rest := []) ⟨hx, hb, hml, hown, hts⟩ (c_X4_in l (p0) (0) (7)) (va_cwS 3 hts gX4_isTray_X4_in rfl rfl rfl (by decide +kernel) ⟨Nat.le_of_ble_eq_true rfl, Nat.le_of_ble_eq_true rfl⟩) ⟨fun a U g mk q => q, fun U hU hW => ⟨rfl, trivial⟩⟩ rfl rfl hl.1 rfl (lv_room (Nat.le_of_ble_eq_true rfl)) dX4_isTray_4 ⟨Nat.le_of_ble_eq_true rfl, Nat.le_of_ble_eq_true rfl⟩) (fun r_1 hr_1 => ?_)
  rcases hr_1 with ⟨b_2, rfl⟩ | ⟨b_2, rfl⟩
  · skip
    exact W.zret (v := 1) hx hb hr (by decide) (fun t ht hW => ⟨_, rfl, (Or.inl ⟨by (try simp only [Int32.reduceToInt] at b_2); (first | exact b_2 | omega), rfl⟩), ht⟩) (fun q hq => absurd hq List.not_mem_nil) dX4_isTray_7
  · skip
    exact W.zret (v := 0) hx hb hr (by decide) (fun t ht hW => ⟨_, rfl, (Or.inr ⟨by (try simp only [Int32.reduceToInt] at b_2); (first | exact b_2 | omega), rfl⟩), ht⟩) (fun q hq => absurd hq List.not_mem_nil) dX4_isTray_7

set_option maxHeartbeats 4000000 in
set_option maxRecDepth 100000 in
theorem c_X4_isKind (l : Launch) (p0 : Int32) : Met l yX4_isKind wsX4_isKind ({ frames := 1, cells := 0, slots := 0, locals := 22 }) (va_Pc [.int p0] (fun _ => True)) (vp_Si (fun r => vz (ik p0) r)) 0 0 (fun _ => False) := by
  refine Met.ofW (cc := cX4_isKind) (maxL := 1) (ret := (some .boolean)) (by decide) rfl ?_
  intro p e s m args below meth c s₁ B hml hv
  obtain ⟨rfl, -⟩ := hv
  have hx := B.exec
  have hb := B.bytes
  have hr := B.returns
  have hts := atoms_spec (ws := wsX4_isKind) B.pre
  have hown : s.vm.findClass RX4 = some m.cls := findClass_of_methodNamed B.named
  have hlocks := B.notSynchronized
  have hl := lv_entry ([.int p0]) (n := 1) (Nat.le_of_ble_eq_true rfl)
  rw [lg_entry_eq]
  generalize (lg_sl ([.int p0]) ++ List.replicate (1 - (lg_sl ([.int p0])).length) Slot.unset).toArray = ls at hl ⊢
  have hl : lv_has ls 1 [(0, .int p0)] := hl
  refine lv_iload_n hx hb dX4_isKind_0 rfl (lv_at hl 0 rfl) ?_
  refine lv_iconst (v := 0) hx hb dX4_isKind_1 (by decide) ?_
  refine lv_bipush (v := 7) hx hb dX4_isKind_2 (by decide) ?_
  refine vp_callSi (W.runS (As := [.int p0, .int 0, .int 7]) (rest := []) ⟨hx, hb, hml, hown, hts⟩ (c_X4_in l (p0) (0) (7)) (va_cwS 3 hts gX4_isKind_X4_in rfl rfl rfl (by decide +kernel) ⟨Nat.le_of_ble_eq_true rfl, Nat.le_of_ble_eq_true rfl⟩) ⟨fun a U g mk q => q, fun U hU hW => ⟨rfl, trivial⟩⟩ rfl rfl hl.1 rfl (lv_room (Nat.le_of_ble_eq_true rfl)) dX4_isKind_4 ⟨Nat.le_of_ble_eq_true rfl, Nat.le_of_ble_eq_true rfl⟩) (fun r_1 hr_1 => ?_)
  rcases hr_1 with ⟨b_2, rfl⟩ | ⟨b_2, rfl⟩
  · skip
    exact W.zret (v := 1) hx hb hr (by decide) (fun t ht hW => ⟨_, rfl, (Or.inl ⟨by (try simp only [Int32.reduceToInt] at b_2); (first | exact b_2 | omega), rfl⟩), ht⟩) (fun q hq => absurd hq List.not_mem_nil) dX4_isKind_7
  · skip
    exact W.zret (v := 0) hx hb hr (by decide) (fun t ht hW => ⟨_, rfl, (Or.inr ⟨by (try simp only [Int32.reduceToInt] at b_2); (first | exact b_2 | omega), rfl⟩), ht⟩) (fun q hq => absurd hq List.not_mem_nil) dX4_isKind_7

set_option maxHeartbeats 4000000 in
set_option maxRecDepth 100000 in
theorem c_X1_told (l : Launch) (p0 : Int32) (p1 : Int64) : Met l yX1_told wsX1_told ({ frames := 0, cells := 0, slots := 0, locals := 0 }) (va_Pc [.int p0, .long p1] (fun _ => True)) (vp_Sl (fun r => r = f_told p0 p1)) 0 0 (fun _ => False) := by
  refine Met.ofW (cc := cX1_told) (maxL := 3) (ret := (some .long)) (by decide) rfl ?_
  intro p e s m args below meth c s₁ B hml hv
  obtain ⟨rfl, -⟩ := hv
  have hx := B.exec
  have hb := B.bytes
  have hr := B.returns
  have hts := atoms_spec (ws := wsX1_told) B.pre
  have hown : s.vm.findClass RX1 = some m.cls := findClass_of_methodNamed B.named
  have hlocks := B.notSynchronized
  have hl := lv_entry ([.int p0, .long p1]) (n := 3) (Nat.le_of_ble_eq_true rfl)
  rw [lg_entry_eq]
  generalize (lg_sl ([.int p0, .long p1]) ++ List.replicate (3 - (lg_sl ([.int p0, .long p1])).length) Slot.unset).toArray = ls at hl ⊢
  have hl : lv_has ls 3 [(0, .int p0), (1, .long p1)] := hl
  refine lv_iload_n hx hb dX1_told_0 rfl (lv_at hl 0 rfl) ?_
  by_cases k_1 : p0 = 0
  · refine lv_tableIn (tgt := 48) hx hb dX1_told_1 (by rw [k_1]; decide) (by rw [k_1]; decide) (by rw [k_1]; rfl) (by decide) ?_
    refine lv_lload_n hx hb dX1_told_48 rfl (lv_at hl 1 rfl) ?_
    refine lv_lconst (v := 1) hx hb dX1_told_49 (by decide) ?_
    refine lv_land hx hb dX1_told_50 ?_
    exact W.lret (v := (p1 &&& 1)) hx hb hr (fun t ht hW => ⟨_, rfl, (by simp [f_told, k_1]; done), ht⟩) (fun q hq => absurd hq List.not_mem_nil) dX1_told_51
  by_cases k_2 : p0 = 1
  · refine lv_tableIn (tgt := 52) hx hb dX1_told_1 (by rw [k_2]; decide) (by rw [k_2]; decide) (by rw [k_2]; rfl) (by decide) ?_
    refine lv_lload_n hx hb dX1_told_52 rfl (lv_at hl 1 rfl) ?_
    refine lv_l2i hx hb dX1_told_53 rfl ?_
    refine lv_i2b hx hb dX1_told_54 rfl ?_
    refine lv_i2l hx hb dX1_told_55 rfl ?_
    exact W.lret (v := ((((((p1 : Int64).toInt32) : Int32).toInt8.toInt32) : Int32).toInt64)) hx hb hr (fun t ht hW => ⟨_, rfl, (by simp [f_told, k_2, k_1]; done), ht⟩) (fun q hq => absurd hq List.not_mem_nil) dX1_told_56
  by_cases k_3 : p0 = 2
  · refine lv_tableIn (tgt := 57) hx hb dX1_told_1 (by rw [k_3]; decide) (by rw [k_3]; decide) (by rw [k_3]; rfl) (by decide) ?_
    refine lv_lload_n hx hb dX1_told_57 rfl (lv_at hl 1 rfl) ?_
    refine lv_l2i hx hb dX1_told_58 rfl ?_
    refine lv_i2s hx hb dX1_told_59 rfl ?_
    refine lv_i2l hx hb dX1_told_60 rfl ?_
    exact W.lret (v := ((((((p1 : Int64).toInt32) : Int32).toInt16.toInt32) : Int32).toInt64)) hx hb hr (fun t ht hW => ⟨_, rfl, (by simp [f_told, k_3, k_1, k_2]; done), ht⟩) (fun q hq => absurd hq List.not_mem_nil) dX1_told_61
  by_cases k_4 : p0 = 3
  · refine lv_tableIn (tgt := 62) hx hb dX1_told_1 (by rw [k_4]; decide) (by rw [k_4]; decide) (by rw [k_4]; rfl) (by decide) ?_
    refine lv_lload_n hx hb dX1_told_62 rfl (lv_at hl 1 rfl) ?_
    refine lv_l2i hx hb dX1_told_63 rfl ?_
    refine lv_i2c hx hb dX1_told_64 rfl ?_
    refine lv_i2l hx hb dX1_told_65 rfl ?_
    exact W.lret (v := (((((((p1 : Int64).toInt32) : Int32).toUInt32 % 65536).toInt32) : Int32).toInt64)) hx hb hr (fun t ht hW => ⟨_, rfl, (by simp [f_told, k_4, k_1, k_2, k_3]; done), ht⟩) (fun q hq => absurd hq List.not_mem_nil) dX1_told_66
  by_cases k_5 : p0 = 4
  · refine lv_tableIn (tgt := 67) hx hb dX1_told_1 (by rw [k_5]; decide) (by rw [k_5]; decide) (by rw [k_5]; rfl) (by decide) ?_
    refine lv_lload_n hx hb dX1_told_67 rfl (lv_at hl 1 rfl) ?_
    refine lv_l2i hx hb dX1_told_68 rfl ?_
    refine lv_i2l hx hb dX1_told_69 rfl ?_
    exact W.lret (v := ((((p1 : Int64).toInt32) : Int32).toInt64)) hx hb hr (fun t ht hW => ⟨_, rfl, (by simp [f_told, k_5, k_1, k_2, k_3, k_4]; done), ht⟩) (fun q hq => absurd hq List.not_mem_nil) dX1_told_70
  by_cases k_6 : p0 = 6
  · refine lv_tableIn (tgt := 71) hx hb dX1_told_1 (by rw [k_6]; decide) (by rw [k_6]; decide) (by rw [k_6]; rfl) (by decide) ?_
    refine lv_lload_n hx hb dX1_told_71 rfl (lv_at hl 1 rfl) ?_
    refine lv_ldc2 (v := 2147483647) hx hb hown (hts (.constantLong RX1 17 (2147483647)) (by decide +kernel)) dX1_told_72 ?_
    refine lv_land hx hb dX1_told_75 ?_
    refine lv_ldc2 (v := 2139095040) hx hb hown (hts (.constantLong RX1 19 (2139095040)) (by decide +kernel)) dX1_told_76 ?_
    refine W.lcmp hx hb dX1_told_79 ?_
    refine lv_if_le (tgt := 89) hx hb dX1_told_80 (by decide) (fun c_7 => ?_) (fun c_7 => ?_)
    · skip
      refine lv_lload_n hx hb dX1_told_89 rfl (lv_at hl 1 rfl) ?_
      refine lv_l2i hx hb dX1_told_90 rfl ?_
      refine lv_i2l hx hb dX1_told_91 rfl ?_
      exact W.lret (v := ((((p1 : Int64).toInt32) : Int32).toInt64)) hx hb hr (fun t ht hW => ⟨_, rfl, (by (first | have c_7x := lc_gt c_7 | have c_7x := lc_le c_7); simp [f_told, k_6, k_1, k_2, k_3, k_4, k_5, c_7x]; done), ht⟩) (fun q hq => absurd hq List.not_mem_nil) dX1_told_92
    · skip
      refine lv_ldc2 (v := 2143289344) hx hb hown (hts (.constantLong RX1 21 (2143289344)) (by decide +kernel)) dX1_told_83 ?_
      refine lv_goto (tgt := 92) hx hb dX1_told_86 (by decide) ?_
      exact W.lret (v := 2143289344) hx hb hr (fun t ht hW => ⟨_, rfl, (by (first | have c_7x := lc_gt c_7 | have c_7x := lc_le c_7); simp [f_told, k_6, k_1, k_2, k_3, k_4, k_5, c_7x]; done), ht⟩) (fun q hq => absurd hq List.not_mem_nil) dX1_told_92
  by_cases k_8 : p0 = 7
  · refine lv_tableIn (tgt := 93) hx hb dX1_told_1 (by rw [k_8]; decide) (by rw [k_8]; decide) (by rw [k_8]; rfl) (by decide) ?_
    refine lv_lload_n hx hb dX1_told_93 rfl (lv_at hl 1 rfl) ?_
    refine lv_ldc2 (v := 9223372036854775807) hx hb hown (hts (.constantLong RX1 23 (9223372036854775807)) (by decide +kernel)) dX1_told_94 ?_
    refine lv_land hx hb dX1_told_97 ?_
    refine lv_ldc2 (v := 9218868437227405312) hx hb hown (hts (.constantLong RX1 25 (9218868437227405312)) (by decide +kernel)) dX1_told_98 ?_
    refine W.lcmp hx hb dX1_told_101 ?_
    refine lv_if_le (tgt := 111) hx hb dX1_told_102 (by decide) (fun c_9 => ?_) (fun c_9 => ?_)
    · skip
      refine lv_lload_n hx hb dX1_told_111 rfl (lv_at hl 1 rfl) ?_
      exact W.lret (v := p1) hx hb hr (fun t ht hW => ⟨_, rfl, (by (first | have c_9x := lc_gt c_9 | have c_9x := lc_le c_9); simp [f_told, k_8, k_1, k_2, k_3, k_4, k_5, k_6, c_9x]; done), ht⟩) (fun q hq => absurd hq List.not_mem_nil) dX1_told_112
    · skip
      refine lv_ldc2 (v := 9221120237041090560) hx hb hown (hts (.constantLong RX1 27 (9221120237041090560)) (by decide +kernel)) dX1_told_105 ?_
      refine lv_goto (tgt := 112) hx hb dX1_told_108 (by decide) ?_
      exact W.lret (v := 9221120237041090560) hx hb hr (fun t ht hW => ⟨_, rfl, (by (first | have c_9x := lc_gt c_9 | have c_9x := lc_le c_9); simp [f_told, k_8, k_1, k_2, k_3, k_4, k_5, k_6, c_9x]; done), ht⟩) (fun q hq => absurd hq List.not_mem_nil) dX1_told_112
  by_cases k_10 : p0 = 5
  · refine lv_tableIn (tgt := 113) hx hb dX1_told_1 (by rw [k_10]; decide) (by rw [k_10]; decide) (by rw [k_10]; rfl) (by decide) ?_
    refine lv_lload_n hx hb dX1_told_113 rfl (lv_at hl 1 rfl) ?_
    exact W.lret (v := p1) hx hb hr (fun t ht hW => ⟨_, rfl, (by simp [f_told, k_10, k_1, k_2, k_3, k_4, k_5, k_6, k_8]; done), ht⟩) (fun q hq => absurd hq List.not_mem_nil) dX1_told_114
  refine lv_tableOut (tgt := 113) hx hb dX1_told_1 (by have z0 := lv_neT k_1 (show (0 : Int32).toInt = 0 by decide); have z1 := lv_neT k_2 (show (1 : Int32).toInt = 1 by decide); have z2 := lv_neT k_3 (show (2 : Int32).toInt = 2 by decide); have z3 := lv_neT k_4 (show (3 : Int32).toInt = 3 by decide); have z4 := lv_neT k_5 (show (4 : Int32).toInt = 4 by decide); have z5 := lv_neT k_6 (show (6 : Int32).toInt = 6 by decide); have z6 := lv_neT k_8 (show (7 : Int32).toInt = 7 by decide); have z7 := lv_neT k_10 (show (5 : Int32).toInt = 5 by decide); omega) (by decide) ?_
  refine lv_lload_n hx hb dX1_told_113 rfl (lv_at hl 1 rfl) ?_
  exact W.lret (v := p1) hx hb hr (fun t ht hW => ⟨_, rfl, (by simp [f_told, k_1, k_2, k_3, k_4, k_5, k_6, k_8, k_10]; done), ht⟩) (fun q hq => absurd hq List.not_mem_nil) dX1_told_114

set_option maxHeartbeats 4000000 in
set_option maxRecDepth 100000 in
theorem c_X4_told (l : Launch) (p0 : Int32) (p1 : Int64) : Met l yX4_told wsX4_told ({ frames := 0, cells := 0, slots := 0, locals := 0 }) (va_Pc [.int p0, .long p1] (fun _ => True)) (vp_Sl (fun r => r = f_told p0 p1)) 0 0 (fun _ => False) := by
  refine Met.ofW (cc := cX4_told) (maxL := 3) (ret := (some .long)) (by decide) rfl ?_
  intro p e s m args below meth c s₁ B hml hv
  obtain ⟨rfl, -⟩ := hv
  have hx := B.exec
  have hb := B.bytes
  have hr := B.returns
  have hts := atoms_spec (ws := wsX4_told) B.pre
  have hown : s.vm.findClass RX4 = some m.cls := findClass_of_methodNamed B.named
  have hlocks := B.notSynchronized
  have hl := lv_entry ([.int p0, .long p1]) (n := 3) (Nat.le_of_ble_eq_true rfl)
  rw [lg_entry_eq]
  generalize (lg_sl ([.int p0, .long p1]) ++ List.replicate (3 - (lg_sl ([.int p0, .long p1])).length) Slot.unset).toArray = ls at hl ⊢
  have hl : lv_has ls 3 [(0, .int p0), (1, .long p1)] := hl
  refine lv_iload_n hx hb dX4_told_0 rfl (lv_at hl 0 rfl) ?_
  by_cases k_1 : p0 = 0
  · refine lv_tableIn (tgt := 48) hx hb dX4_told_1 (by rw [k_1]; decide) (by rw [k_1]; decide) (by rw [k_1]; rfl) (by decide) ?_
    refine lv_lload_n hx hb dX4_told_48 rfl (lv_at hl 1 rfl) ?_
    refine lv_lconst (v := 1) hx hb dX4_told_49 (by decide) ?_
    refine lv_land hx hb dX4_told_50 ?_
    exact W.lret (v := (p1 &&& 1)) hx hb hr (fun t ht hW => ⟨_, rfl, (by simp [f_told, k_1]; done), ht⟩) (fun q hq => absurd hq List.not_mem_nil) dX4_told_51
  by_cases k_2 : p0 = 1
  · refine lv_tableIn (tgt := 52) hx hb dX4_told_1 (by rw [k_2]; decide) (by rw [k_2]; decide) (by rw [k_2]; rfl) (by decide) ?_
    refine lv_lload_n hx hb dX4_told_52 rfl (lv_at hl 1 rfl) ?_
    refine lv_l2i hx hb dX4_told_53 rfl ?_
    refine lv_i2b hx hb dX4_told_54 rfl ?_
    refine lv_i2l hx hb dX4_told_55 rfl ?_
    exact W.lret (v := ((((((p1 : Int64).toInt32) : Int32).toInt8.toInt32) : Int32).toInt64)) hx hb hr (fun t ht hW => ⟨_, rfl, (by simp [f_told, k_2, k_1]; done), ht⟩) (fun q hq => absurd hq List.not_mem_nil) dX4_told_56
  by_cases k_3 : p0 = 2
  · refine lv_tableIn (tgt := 57) hx hb dX4_told_1 (by rw [k_3]; decide) (by rw [k_3]; decide) (by rw [k_3]; rfl) (by decide) ?_
    refine lv_lload_n hx hb dX4_told_57 rfl (lv_at hl 1 rfl) ?_
    refine lv_l2i hx hb dX4_told_58 rfl ?_
    refine lv_i2s hx hb dX4_told_59 rfl ?_
    refine lv_i2l hx hb dX4_told_60 rfl ?_
    exact W.lret (v := ((((((p1 : Int64).toInt32) : Int32).toInt16.toInt32) : Int32).toInt64)) hx hb hr (fun t ht hW => ⟨_, rfl, (by simp [f_told, k_3, k_1, k_2]; done), ht⟩) (fun q hq => absurd hq List.not_mem_nil) dX4_told_61
  by_cases k_4 : p0 = 3
  · refine lv_tableIn (tgt := 62) hx hb dX4_told_1 (by rw [k_4]; decide) (by rw [k_4]; decide) (by rw [k_4]; rfl) (by decide) ?_
    refine lv_lload_n hx hb dX4_told_62 rfl (lv_at hl 1 rfl) ?_
    refine lv_l2i hx hb dX4_told_63 rfl ?_
    refine lv_i2c hx hb dX4_told_64 rfl ?_
    refine lv_i2l hx hb dX4_told_65 rfl ?_
    exact W.lret (v := (((((((p1 : Int64).toInt32) : Int32).toUInt32 % 65536).toInt32) : Int32).toInt64)) hx hb hr (fun t ht hW => ⟨_, rfl, (by simp [f_told, k_4, k_1, k_2, k_3]; done), ht⟩) (fun q hq => absurd hq List.not_mem_nil) dX4_told_66
  by_cases k_5 : p0 = 4
  · refine lv_tableIn (tgt := 67) hx hb dX4_told_1 (by rw [k_5]; decide) (by rw [k_5]; decide) (by rw [k_5]; rfl) (by decide) ?_
    refine lv_lload_n hx hb dX4_told_67 rfl (lv_at hl 1 rfl) ?_
    refine lv_l2i hx hb dX4_told_68 rfl ?_
    refine lv_i2l hx hb dX4_told_69 rfl ?_
    exact W.lret (v := ((((p1 : Int64).toInt32) : Int32).toInt64)) hx hb hr (fun t ht hW => ⟨_, rfl, (by simp [f_told, k_5, k_1, k_2, k_3, k_4]; done), ht⟩) (fun q hq => absurd hq List.not_mem_nil) dX4_told_70
  by_cases k_6 : p0 = 6
  · refine lv_tableIn (tgt := 71) hx hb dX4_told_1 (by rw [k_6]; decide) (by rw [k_6]; decide) (by rw [k_6]; rfl) (by decide) ?_
    refine lv_lload_n hx hb dX4_told_71 rfl (lv_at hl 1 rfl) ?_
    refine lv_ldc2 (v := 2147483647) hx hb hown (hts (.constantLong RX4 48 (2147483647)) (by decide +kernel)) dX4_told_72 ?_
    refine lv_land hx hb dX4_told_75 ?_
    refine lv_ldc2 (v := 2139095040) hx hb hown (hts (.constantLong RX4 50 (2139095040)) (by decide +kernel)) dX4_told_76 ?_
    refine W.lcmp hx hb dX4_told_79 ?_
    refine lv_if_le (tgt := 89) hx hb dX4_told_80 (by decide) (fun c_7 => ?_) (fun c_7 => ?_)
    · skip
      refine lv_lload_n hx hb dX4_told_89 rfl (lv_at hl 1 rfl) ?_
      refine lv_l2i hx hb dX4_told_90 rfl ?_
      refine lv_i2l hx hb dX4_told_91 rfl ?_
      exact W.lret (v := ((((p1 : Int64).toInt32) : Int32).toInt64)) hx hb hr (fun t ht hW => ⟨_, rfl, (by (first | have c_7x := lc_gt c_7 | have c_7x := lc_le c_7); simp [f_told, k_6, k_1, k_2, k_3, k_4, k_5, c_7x]; done), ht⟩) (fun q hq => absurd hq List.not_mem_nil) dX4_told_92
    · skip
      refine lv_ldc2 (v := 2143289344) hx hb hown (hts (.constantLong RX4 52 (2143289344)) (by decide +kernel)) dX4_told_83 ?_
      refine lv_goto (tgt := 92) hx hb dX4_told_86 (by decide) ?_
      exact W.lret (v := 2143289344) hx hb hr (fun t ht hW => ⟨_, rfl, (by (first | have c_7x := lc_gt c_7 | have c_7x := lc_le c_7); simp [f_told, k_6, k_1, k_2, k_3, k_4, k_5, c_7x]; done), ht⟩) (fun q hq => absurd hq List.not_mem_nil) dX4_told_92
  by_cases k_8 : p0 = 7
  · refine lv_tableIn (tgt := 93) hx hb dX4_told_1 (by rw [k_8]; decide) (by rw [k_8]; decide) (by rw [k_8]; rfl) (by decide) ?_
    refine lv_lload_n hx hb dX4_told_93 rfl (lv_at hl 1 rfl) ?_
    refine lv_ldc2 (v := 9223372036854775807) hx hb hown (hts (.constantLong RX4 54 (9223372036854775807)) (by decide +kernel)) dX4_told_94 ?_
    refine lv_land hx hb dX4_told_97 ?_
    refine lv_ldc2 (v := 9218868437227405312) hx hb hown (hts (.constantLong RX4 56 (9218868437227405312)) (by decide +kernel)) dX4_told_98 ?_
    refine W.lcmp hx hb dX4_told_101 ?_
    refine lv_if_le (tgt := 111) hx hb dX4_told_102 (by decide) (fun c_9 => ?_) (fun c_9 => ?_)
    · skip
      refine lv_lload_n hx hb dX4_told_111 rfl (lv_at hl 1 rfl) ?_
      exact W.lret (v := p1) hx hb hr (fun t ht hW => ⟨_, rfl, (by (first | have c_9x := lc_gt c_9 | have c_9x := lc_le c_9); simp [f_told, k_8, k_1, k_2, k_3, k_4, k_5, k_6, c_9x]; done), ht⟩) (fun q hq => absurd hq List.not_mem_nil) dX4_told_112
    · skip
      refine lv_ldc2 (v := 9221120237041090560) hx hb hown (hts (.constantLong RX4 58 (9221120237041090560)) (by decide +kernel)) dX4_told_105 ?_
      refine lv_goto (tgt := 112) hx hb dX4_told_108 (by decide) ?_
      exact W.lret (v := 9221120237041090560) hx hb hr (fun t ht hW => ⟨_, rfl, (by (first | have c_9x := lc_gt c_9 | have c_9x := lc_le c_9); simp [f_told, k_8, k_1, k_2, k_3, k_4, k_5, k_6, c_9x]; done), ht⟩) (fun q hq => absurd hq List.not_mem_nil) dX4_told_112
  by_cases k_10 : p0 = 5
  · refine lv_tableIn (tgt := 113) hx hb dX4_told_1 (by rw [k_10]; decide) (by rw [k_10]; decide) (by rw [k_10]; rfl) (by decide) ?_
    refine lv_lload_n hx hb dX4_told_113 rfl (lv_at hl 1 rfl) ?_
    exact W.lret (v := p1) hx hb hr (fun t ht hW => ⟨_, rfl, (by simp [f_told, k_10, k_1, k_2, k_3, k_4, k_5, k_6, k_8]; done), ht⟩) (fun q hq => absurd hq List.not_mem_nil) dX4_told_114
  refine lv_tableOut (tgt := 113) hx hb dX4_told_1 (by have z0 := lv_neT k_1 (show (0 : Int32).toInt = 0 by decide); have z1 := lv_neT k_2 (show (1 : Int32).toInt = 1 by decide); have z2 := lv_neT k_3 (show (2 : Int32).toInt = 2 by decide); have z3 := lv_neT k_4 (show (3 : Int32).toInt = 3 by decide); have z4 := lv_neT k_5 (show (4 : Int32).toInt = 4 by decide); have z5 := lv_neT k_6 (show (6 : Int32).toInt = 6 by decide); have z6 := lv_neT k_8 (show (7 : Int32).toInt = 7 by decide); have z7 := lv_neT k_10 (show (5 : Int32).toInt = 5 by decide); omega) (by decide) ?_
  refine lv_lload_n hx hb dX4_told_113 rfl (lv_at hl 1 rfl) ?_
  exact W.lret (v := p1) hx hb hr (fun t ht hW => ⟨_, rfl, (by simp [f_told, k_1, k_2, k_3, k_4, k_5, k_6, k_8, k_10]; done), ht⟩) (fun q hq => absurd hq List.not_mem_nil) dX4_told_114
end
