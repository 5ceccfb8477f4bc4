/-! ===== BEGIN printed: names, fields, word lists, decode rows ===== -/
def RX0 : String := "SnowFences$Fence"
def TX0 : u_T := fun k => match k with
  | 0 => ("SnowFences$Fence", "column", "I", true)
  | 1 => ("SnowFences$Fence", "row", "I", true)
  | 2 => ("SnowFences$Fence", "strip", "LSnowFences$Strip;", true)
  | 3 => ("SnowFences$Fence", "height", "I", false)
  | _ => ("SnowFences$Fence", "gap", "I", false)
def tyX0 : Nat → FieldType := fun k => match k with
  | 0 => .int
  | 1 => .int
  | 2 => .object "SnowFences$Strip"
  | 3 => .int
  | _ => .int
abbrev wsX00 : List Cond := u_ws RX0 TX0 5
theorem nmX0 : ∀ a, a < 5 → ∀ b, b < 5 → a ≠ b → (TX0 a).2.1 ≠ (TX0 b).2.1 := by decide +kernel
theorem tyX0_ok : ∀ k, k < 5 → parseFieldDescriptor (TX0 k).2.2.1 = some (tyX0 k) := by decide +kernel
abbrev cX0_init : ByteArray := prog_2_method_1_code
def yX0_init : MethodName := ⟨RX0, "<init>", "(IILSnowFences$Strip;II)V"⟩
def RX1 : String := "SnowFences$Ground"
def TX1 : u_T := fun k => match k with
  | _ => ("SnowFences$Ground", "depths", "[I", true)
def tyX1 : Nat → FieldType := fun k => match k with
  | _ => .array .int
abbrev wsX10 : List Cond := u_ws RX1 TX1 1
theorem nmX1 : ∀ a, a < 1 → ∀ b, b < 1 → a ≠ b → (TX1 a).2.1 ≠ (TX1 b).2.1 := by decide +kernel
theorem tyX1_ok : ∀ k, k < 1 → parseFieldDescriptor (TX1 k).2.2.1 = some (tyX1 k) := by decide +kernel
abbrev cX1_init : ByteArray := prog_3_method_1_code
def yX1_init : MethodName := ⟨RX1, "<init>", "()V"⟩
abbrev cX1_depth : ByteArray := prog_3_method_2_code
def yX1_depth : MethodName := ⟨RX1, "depth", "(I)I"⟩
abbrev cX1_put : ByteArray := prog_3_method_3_code
def yX1_put : MethodName := ⟨RX1, "put", "(II)V"⟩
abbrev cX1_becomeLike : ByteArray := prog_3_method_4_code
def yX1_becomeLike : MethodName := ⟨RX1, "becomeLike", "(LSnowFences$Ground;)V"⟩
abbrev cX1_clear : ByteArray := prog_3_method_5_code
def yX1_clear : MethodName := ⟨RX1, "clear", "(LSnowFences$Strip;)V"⟩
abbrev cX1_sum : ByteArray := prog_3_method_6_code
def yX1_sum : MethodName := ⟨RX1, "sum", "(LSnowFences$Strip;)I"⟩
abbrev cX1_most : ByteArray := prog_3_method_7_code
def yX1_most : MethodName := ⟨RX1, "most", "(LSnowFences$Strip;)I"⟩
abbrev cX1_blocked : ByteArray := prog_3_method_8_code
def yX1_blocked : MethodName := ⟨RX1, "blocked", "(LSnowFences$Strip;I)I"⟩
def RX2 : String := "SnowFences$Road"
def TX2 : u_T := fun k => match k with
  | 0 => ("SnowFences$Road", "index", "I", true)
  | _ => ("SnowFences$Road", "strip", "LSnowFences$Strip;", true)
def tyX2 : Nat → FieldType := fun k => match k with
  | 0 => .int
  | _ => .object "SnowFences$Strip"
abbrev wsX20 : List Cond := u_ws RX2 TX2 2
theorem nmX2 : ∀ a, a < 2 → ∀ b, b < 2 → a ≠ b → (TX2 a).2.1 ≠ (TX2 b).2.1 := by decide +kernel
theorem tyX2_ok : ∀ k, k < 2 → parseFieldDescriptor (TX2 k).2.2.1 = some (tyX2 k) := by decide +kernel
abbrev cX2_init : ByteArray := prog_4_method_1_code
def yX2_init : MethodName := ⟨RX2, "<init>", "(ILSnowFences$Strip;)V"⟩
def RX3 : String := "SnowFences$Screens"
def TX3 : u_T := fun k => match k with
  | 0 => ("SnowFences$Screens", "heights", "[I", true)
  | _ => ("SnowFences$Screens", "gaps", "[I", true)
def tyX3 : Nat → FieldType := fun k => match k with
  | 0 => .array .int
  | _ => .array .int
abbrev wsX30 : List Cond := u_ws RX3 TX3 2
theorem nmX3 : ∀ a, a < 2 → ∀ b, b < 2 → a ≠ b → (TX3 a).2.1 ≠ (TX3 b).2.1 := by decide +kernel
theorem tyX3_ok : ∀ k, k < 2 → parseFieldDescriptor (TX3 k).2.2.1 = some (tyX3 k) := by decide +kernel
abbrev cX3_init : ByteArray := prog_5_method_1_code
def yX3_init : MethodName := ⟨RX3, "<init>", "()V"⟩
abbrev cX3_height : ByteArray := prog_5_method_2_code
def yX3_height : MethodName := ⟨RX3, "height", "(I)I"⟩
abbrev cX3_gap : ByteArray := prog_5_method_3_code
def yX3_gap : MethodName := ⟨RX3, "gap", "(I)I"⟩
abbrev cX3_clear : ByteArray := prog_5_method_4_code
def yX3_clear : MethodName := ⟨RX3, "clear", "()V"⟩
abbrev cX3_add : ByteArray := prog_5_method_5_code
def yX3_add : MethodName := ⟨RX3, "add", "(LSnowFences$Strip;II)V"⟩
abbrev cX3_stand : ByteArray := prog_5_method_6_code
def yX3_stand : MethodName := ⟨RX3, "stand", "(III)V"⟩
def RX4 : String := "SnowFences$Strip"
def TX4 : u_T := fun k => match k with
  | 0 => ("SnowFences$Strip", "first", "I", true)
  | 1 => ("SnowFences$Strip", "length", "I", true)
  | _ => ("SnowFences$Strip", "down", "Z", true)
def tyX4 : Nat → FieldType := fun k => match k with
  | 0 => .int
  | 1 => .int
  | _ => .boolean
abbrev wsX40 : List Cond := u_ws RX4 TX4 3
theorem nmX4 : ∀ a, a < 3 → ∀ b, b < 3 → a ≠ b → (TX4 a).2.1 ≠ (TX4 b).2.1 := by decide +kernel
theorem tyX4_ok : ∀ k, k < 3 → parseFieldDescriptor (TX4 k).2.2.1 = some (tyX4 k) := by decide +kernel
abbrev cX4_init : ByteArray := prog_6_method_1_code
def yX4_init : MethodName := ⟨RX4, "<init>", "(IIIZ)V"⟩
abbrev cX4_cell : ByteArray := prog_6_method_2_code
def yX4_cell : MethodName := ⟨RX4, "cell", "(I)I"⟩
def RX5 : String := "SnowFences$Wind"
def TX5 : u_T := fun k => match k with
  | 0 => ("SnowFences$Wind", "down", "Z", true)
  | 1 => ("SnowFences$Wind", "strength", "I", true)
  | 2 => ("SnowFences$Wind", "supply", "I", true)
  | 3 => ("SnowFences$Wind", "firstCell", "I", true)
  | 4 => ("SnowFences$Wind", "nextCell", "I", true)
  | 5 => ("SnowFences$Wind", "nextLine", "I", true)
  | 6 => ("SnowFences$Wind", "carried", "I", false)
  | 7 => ("SnowFences$Wind", "shelter", "I", false)
  | 8 => ("SnowFences$Wind", "sweep", "I", false)
  | _ => ("SnowFences$Wind", "holds", "I", false)
def tyX5 : Nat → FieldType := fun k => match k with
  | 0 => .boolean
  | 1 => .int
  | 2 => .int
  | 3 => .int
  | 4 => .int
  | 5 => .int
  | 6 => .int
  | 7 => .int
  | 8 => .int
  | _ => .int
abbrev wsX50 : List Cond := u_ws RX5 TX5 10
theorem nmX5 : ∀ a, a < 10 → ∀ b, b < 10 → a ≠ b → (TX5 a).2.1 ≠ (TX5 b).2.1 := by decide +kernel
theorem tyX5_ok : ∀ k, k < 10 → parseFieldDescriptor (TX5 k).2.2.1 = some (tyX5 k) := by decide +kernel
abbrev cX5_init : ByteArray := prog_7_method_1_code
def yX5_init : MethodName := ⟨RX5, "<init>", "(III)V"⟩
abbrev cX5_crossField : ByteArray := prog_7_method_2_code
def yX5_crossField : MethodName := ⟨RX5, "crossField", "(LSnowFences$Ground;LSnowFences$Screens;)I"⟩
abbrev cX5_passLine : ByteArray := prog_7_method_3_code
def yX5_passLine : MethodName := ⟨RX5, "passLine", "(LSnowFences$Ground;LSnowFences$Screens;I)I"⟩
abbrev cX5_passCell : ByteArray := prog_7_method_4_code
def yX5_passCell : MethodName := ⟨RX5, "passCell", "(LSnowFences$Ground;LSnowFences$Screens;I)V"⟩
abbrev cX5_dropped : ByteArray := prog_7_method_5_code
def yX5_dropped : MethodName := ⟨RX5, "dropped", "(I)I"⟩
abbrev cX5_pickedUp : ByteArray := prog_7_method_6_code
def yX5_pickedUp : MethodName := ⟨RX5, "pickedUp", "(I)I"⟩
def RX6 : String := "SnowFences"
def TX6 : u_T := fun k => match k with
  | 0 => ("SnowFences", "fences", "Ljava/util/ArrayList;", true)
  | 1 => ("SnowFences", "roads", "Ljava/util/ArrayList;", true)
  | 2 => ("SnowFences", "whole", "LSnowFences$Strip;", true)
  | 3 => ("SnowFences", "ground", "LSnowFences$Ground;", true)
  | 4 => ("SnowFences", "trial", "LSnowFences$Ground;", true)
  | 5 => ("SnowFences", "screens", "LSnowFences$Screens;", true)
  | 6 => ("SnowFences", "limit", "I", false)
  | 7 => ("SnowFences", "supply", "I", false)
  | 8 => ("SnowFences", "carriedOff", "I", false)
  | 9 => ("SnowFences", "ploughed", "I", false)
  | _ => ("SnowFences", "windHours", "I", false)
def tyX6 : Nat → FieldType := fun k => match k with
  | 0 => .object "java/util/ArrayList"
  | 1 => .object "java/util/ArrayList"
  | 2 => .object "SnowFences$Strip"
  | 3 => .object "SnowFences$Ground"
  | 4 => .object "SnowFences$Ground"
  | 5 => .object "SnowFences$Screens"
  | 6 => .int
  | 7 => .int
  | 8 => .int
  | 9 => .int
  | _ => .int
abbrev wsX60 : List Cond := u_ws RX6 TX6 11
theorem nmX6 : ∀ a, a < 11 → ∀ b, b < 11 → a ≠ b → (TX6 a).2.1 ≠ (TX6 b).2.1 := by decide +kernel
theorem tyX6_ok : ∀ k, k < 11 → parseFieldDescriptor (TX6 k).2.2.1 = some (tyX6 k) := by decide +kernel
abbrev cX6_init : ByteArray := prog_1_method_1_code
def yX6_init : MethodName := ⟨RX6, "<init>", "()V"⟩
abbrev cX6_fence : ByteArray := prog_1_method_2_code
def yX6_fence : MethodName := ⟨RX6, "fence", "(IIIZII)I"⟩
abbrev cX6_change : ByteArray := prog_1_method_3_code
def yX6_change : MethodName := ⟨RX6, "change", "(III)I"⟩
abbrev cX6_take : ByteArray := prog_1_method_4_code
def yX6_take : MethodName := ⟨RX6, "take", "(I)I"⟩
abbrev cX6_road : ByteArray := prog_1_method_5_code
def yX6_road : MethodName := ⟨RX6, "road", "(ZI)I"⟩
abbrev cX6_setLimit : ByteArray := prog_1_method_6_code
def yX6_setLimit : MethodName := ⟨RX6, "setLimit", "(I)I"⟩
abbrev cX6_setSupply : ByteArray := prog_1_method_7_code
def yX6_setSupply : MethodName := ⟨RX6, "setSupply", "(I)I"⟩
abbrev cX6_fall : ByteArray := prog_1_method_8_code
def yX6_fall : MethodName := ⟨RX6, "fall", "(I)I"⟩
abbrev cX6_blow : ByteArray := prog_1_method_9_code
def yX6_blow : MethodName := ⟨RX6, "blow", "(III)I"⟩
abbrev cX6_plough : ByteArray := prog_1_method_10_code
def yX6_plough : MethodName := ⟨RX6, "plough", "(I)I"⟩
abbrev cX6_snow : ByteArray := prog_1_method_11_code
def yX6_snow : MethodName := ⟨RX6, "snow", "(II)I"⟩
abbrev cX6_about : ByteArray := prog_1_method_12_code
def yX6_about : MethodName := ⟨RX6, "about", "(II)I"⟩
abbrev cX6_told : ByteArray := prog_1_method_13_code
def yX6_told : MethodName := ⟨RX6, "told", "(II)I"⟩
abbrev cX6_count : ByteArray := prog_1_method_14_code
def yX6_count : MethodName := ⟨RX6, "count", "(I)I"⟩
abbrev cX6_would : ByteArray := prog_1_method_15_code
def yX6_would : MethodName := ⟨RX6, "would", "(IIII)I"⟩
abbrev cX6_until : ByteArray := prog_1_method_16_code
def yX6_until : MethodName := ⟨RX6, "until", "(III)I"⟩
abbrev cX6_advise : ByteArray := prog_1_method_17_code
def yX6_advise : MethodName := ⟨RX6, "advise", "(III)I"⟩
abbrev cX6_harmful : ByteArray := prog_1_method_18_code
def yX6_harmful : MethodName := ⟨RX6, "harmful", "(II)I"⟩
abbrev cX6_mean : ByteArray := prog_1_method_19_code
def yX6_mean : MethodName := ⟨RX6, "mean", "()D"⟩
abbrev cX6_digest : ByteArray := prog_1_method_20_code
def yX6_digest : MethodName := ⟨RX6, "digest", "()J"⟩
abbrev cX6_needIndex : ByteArray := prog_1_method_21_code
def yX6_needIndex : MethodName := ⟨RX6, "needIndex", "(II)V"⟩
abbrev cX6_needWind : ByteArray := prog_1_method_22_code
def yX6_needWind : MethodName := ⟨RX6, "needWind", "(I)V"⟩
abbrev cX6_needHeight : ByteArray := prog_1_method_23_code
def yX6_needHeight : MethodName := ⟨RX6, "needHeight", "(I)V"⟩
abbrev cX6_needGap : ByteArray := prog_1_method_24_code
def yX6_needGap : MethodName := ⟨RX6, "needGap", "(I)V"⟩
abbrev cX6_needStrength : ByteArray := prog_1_method_25_code
def yX6_needStrength : MethodName := ⟨RX6, "needStrength", "(I)V"⟩
abbrev cX6_needHours : ByteArray := prog_1_method_26_code
def yX6_needHours : MethodName := ⟨RX6, "needHours", "(I)V"⟩
abbrev cX6_straight : ByteArray := prog_1_method_27_code
def yX6_straight : MethodName := ⟨RX6, "straight", "(ZI)LSnowFences$Strip;"⟩
abbrev cX6_screenAllBut : ByteArray := prog_1_method_28_code
def yX6_screenAllBut : MethodName := ⟨RX6, "screenAllBut", "(I)V"⟩
abbrev cX6_blowOver : ByteArray := prog_1_method_29_code
def yX6_blowOver : MethodName := ⟨RX6, "blowOver", "(LSnowFences$Ground;LSnowFences$Wind;I)I"⟩
abbrev cX6_blockedAfterAdvice : ByteArray := prog_1_method_30_code
def yX6_blockedAfterAdvice : MethodName := ⟨RX6, "blockedAfterAdvice", "(LSnowFences$Wind;)I"⟩
abbrev cX6_blockedOnRoads : ByteArray := prog_1_method_31_code
def yX6_blockedOnRoads : MethodName := ⟨RX6, "blockedOnRoads", "(LSnowFences$Ground;)I"⟩
def RX7 : String := "SnowFencesLaw$Sim"
def TX7 : u_T := fun k => match k with
  | 0 => ("SnowFencesLaw$Sim", "fences", "[[I", false)
  | 1 => ("SnowFencesLaw$Sim", "roads", "[[I", false)
  | 2 => ("SnowFencesLaw$Sim", "snow", "[[I", false)
  | 3 => ("SnowFencesLaw$Sim", "limit", "I", false)
  | 4 => ("SnowFencesLaw$Sim", "supply", "I", false)
  | 5 => ("SnowFencesLaw$Sim", "off", "I", false)
  | 6 => ("SnowFencesLaw$Sim", "ploughed", "I", false)
  | _ => ("SnowFencesLaw$Sim", "hours", "I", false)
def tyX7 : Nat → FieldType := fun k => match k with
  | 0 => .array (.array .int)
  | 1 => .array (.array .int)
  | 2 => .array (.array .int)
  | 3 => .int
  | 4 => .int
  | 5 => .int
  | 6 => .int
  | _ => .int
abbrev wsX70 : List Cond := u_ws RX7 TX7 8
theorem nmX7 : ∀ a, a < 8 → ∀ b, b < 8 → a ≠ b → (TX7 a).2.1 ≠ (TX7 b).2.1 := by decide +kernel
theorem tyX7_ok : ∀ k, k < 8 → parseFieldDescriptor (TX7 k).2.2.1 = some (tyX7 k) := by decide +kernel
abbrev cX7_init : ByteArray := prog_9_method_1_code
def yX7_init : MethodName := ⟨RX7, "<init>", "()V"⟩
abbrev cX7_copy : ByteArray := prog_9_method_2_code
def yX7_copy : MethodName := ⟨RX7, "copy", "()LSnowFencesLaw$Sim;"⟩
abbrev cX7_with : ByteArray := prog_9_method_3_code
def yX7_with : MethodName := ⟨RX7, "with", "([[I[I)[[I"⟩
abbrev cX7_without : ByteArray := prog_9_method_4_code
def yX7_without : MethodName := ⟨RX7, "without", "([[II)[[I"⟩
abbrev cX7_isOn : ByteArray := prog_9_method_5_code
def yX7_isOn : MethodName := ⟨RX7, "isOn", "([III)Z"⟩
abbrev cX7_highest : ByteArray := prog_9_method_6_code
def yX7_highest : MethodName := ⟨RX7, "highest", "(II)[I"⟩
abbrev cX7_over : ByteArray := prog_9_method_7_code
def yX7_over : MethodName := ⟨RX7, "over", "([I[[III)I"⟩
abbrev cX7_spot : ByteArray := prog_9_method_8_code
def yX7_spot : MethodName := ⟨RX7, "spot", "(III)[I"⟩
abbrev cX7_hour : ByteArray := prog_9_method_9_code
def yX7_hour : MethodName := ⟨RX7, "hour", "(II)I"⟩
abbrev cX7_blow : ByteArray := prog_9_method_10_code
def yX7_blow : MethodName := ⟨RX7, "blow", "(III)I"⟩
abbrev cX7_on : ByteArray := prog_9_method_11_code
def yX7_on : MethodName := ⟨RX7, "on", "([II)I"⟩
abbrev cX7_blocked : ByteArray := prog_9_method_12_code
def yX7_blocked : MethodName := ⟨RX7, "blocked", "([I)I"⟩
abbrev cX7_allBlocked : ByteArray := prog_9_method_13_code
def yX7_allBlocked : MethodName := ⟨RX7, "allBlocked", "()I"⟩
abbrev cX7_tried : ByteArray := prog_9_method_14_code
def yX7_tried : MethodName := ⟨RX7, "tried", "([[III)I"⟩
abbrev cX7_isSame : ByteArray := prog_9_method_15_code
def yX7_isSame : MethodName := ⟨RX7, "isSame", "(LSnowFences;)Z"⟩
def RX8 : String := "SnowFencesModel"
def TX8 : u_T := fun k => match k with
  | _ => ("", "", "", false)
def tyX8 : Nat → FieldType := fun k => match k with
  | _ => .int
abbrev wsX80 : List Cond := u_ws RX8 TX8 0
theorem nmX8 : ∀ a, a < 0 → ∀ b, b < 0 → a ≠ b → (TX8 a).2.1 ≠ (TX8 b).2.1 := by decide +kernel
theorem tyX8_ok : ∀ k, k < 0 → parseFieldDescriptor (TX8 k).2.2.1 = some (tyX8 k) := by decide +kernel
def RJx145de : String := "java/io/Serializable"
def TJx145de : u_T := fun k => match k with
  | _ => ("", "", "", false)
def tyJx145de : Nat → FieldType := fun k => match k with
  | _ => .int
abbrev wsJx145de0 : List Cond := u_ws RJx145de TJx145de 0
theorem nmJx145de : ∀ a, a < 0 → ∀ b, b < 0 → a ≠ b → (TJx145de a).2.1 ≠ (TJx145de b).2.1 := by decide +kernel
theorem tyJx145de_ok : ∀ k, k < 0 → parseFieldDescriptor (TJx145de k).2.2.1 = some (tyJx145de k) := by decide +kernel
def RJx8e188 : String := "java/lang/Cloneable"
def TJx8e188 : u_T := fun k => match k with
  | _ => ("", "", "", false)
def tyJx8e188 : Nat → FieldType := fun k => match k with
  | _ => .int
abbrev wsJx8e1880 : List Cond := u_ws RJx8e188 TJx8e188 0
theorem nmJx8e188 : ∀ a, a < 0 → ∀ b, b < 0 → a ≠ b → (TJx8e188 a).2.1 ≠ (TJx8e188 b).2.1 := by decide +kernel
theorem tyJx8e188_ok : ∀ k, k < 0 → parseFieldDescriptor (TJx8e188 k).2.2.1 = some (tyJx8e188 k) := by decide +kernel
def RJxab1ab : String := "java/lang/Iterable"
def TJxab1ab : u_T := fun k => match k with
  | _ => ("", "", "", false)
def tyJxab1ab : Nat → FieldType := fun k => match k with
  | _ => .int
abbrev wsJxab1ab0 : List Cond := u_ws RJxab1ab TJxab1ab 0
theorem nmJxab1ab : ∀ a, a < 0 → ∀ b, b < 0 → a ≠ b → (TJxab1ab a).2.1 ≠ (TJxab1ab b).2.1 := by decide +kernel
theorem tyJxab1ab_ok : ∀ k, k < 0 → parseFieldDescriptor (TJxab1ab k).2.2.1 = some (tyJxab1ab k) := by decide +kernel
def RJ9 : String := "java/lang/Math"
def TJ9 : u_T := fun k => match k with
  | _ => ("", "", "", false)
def tyJ9 : Nat → FieldType := fun k => match k with
  | _ => .int
abbrev wsJ90 : List Cond := u_ws RJ9 TJ9 0
theorem nmJ9 : ∀ a, a < 0 → ∀ b, b < 0 → a ≠ b → (TJ9 a).2.1 ≠ (TJ9 b).2.1 := by decide +kernel
theorem tyJ9_ok : ∀ k, k < 0 → parseFieldDescriptor (TJ9 k).2.2.1 = some (tyJ9 k) := by decide +kernel
abbrev cJ9_max_7cf53 : ByteArray := prog_18_method_65_code
def yJ9_max_7cf53 : MethodName := ⟨RJ9, "max", "(II)I"⟩
abbrev cJ9_min_7cf53 : ByteArray := prog_18_method_69_code
def yJ9_min_7cf53 : MethodName := ⟨RJ9, "min", "(II)I"⟩
def RJ0 : String := "java/lang/String"
def TJ0 : u_T := fun k => match k with
  | _ => ("", "", "", false)
def tyJ0 : Nat → FieldType := fun k => match k with
  | _ => .int
abbrev wsJ00 : List Cond := u_ws RJ0 TJ0 0
theorem nmJ0 : ∀ a, a < 0 → ∀ b, b < 0 → a ≠ b → (TJ0 a).2.1 ≠ (TJ0 b).2.1 := by decide +kernel
theorem tyJ0_ok : ∀ k, k < 0 → parseFieldDescriptor (TJ0 k).2.2.1 = some (tyJ0 k) := by decide +kernel
def RJ10 : String := "java/lang/System"
def TJ10 : u_T := fun k => match k with
  | _ => ("", "", "", false)
def tyJ10 : Nat → FieldType := fun k => match k with
  | _ => .int
abbrev wsJ100 : List Cond := u_ws RJ10 TJ10 0
theorem nmJ10 : ∀ a, a < 0 → ∀ b, b < 0 → a ≠ b → (TJ10 a).2.1 ≠ (TJ10 b).2.1 := by decide +kernel
theorem tyJ10_ok : ∀ k, k < 0 → parseFieldDescriptor (TJ10 k).2.2.1 = some (tyJ10 k) := by decide +kernel
def RJxa1e45 : String := "java/util/AbstractCollection"
def TJxa1e45 : u_T := fun k => match k with
  | _ => ("", "", "", false)
def tyJxa1e45 : Nat → FieldType := fun k => match k with
  | _ => .int
abbrev wsJxa1e450 : List Cond := u_ws RJxa1e45 TJxa1e45 0
theorem nmJxa1e45 : ∀ a, a < 0 → ∀ b, b < 0 → a ≠ b → (TJxa1e45 a).2.1 ≠ (TJxa1e45 b).2.1 := by decide +kernel
theorem tyJxa1e45_ok : ∀ k, k < 0 → parseFieldDescriptor (TJxa1e45 k).2.2.1 = some (tyJxa1e45 k) := by decide +kernel
abbrev cJxa1e45_init_da8c8 : ByteArray := prog_23_method_1_code
def yJxa1e45_init_da8c8 : MethodName := ⟨RJxa1e45, "<init>", "()V"⟩
def RJxc12de : String := "java/util/AbstractList"
def TJxc12de : u_T := fun k => match k with
  | _ => ("", "", "", false)
def tyJxc12de : Nat → FieldType := fun k => match k with
  | _ => .int
abbrev wsJxc12de0 : List Cond := u_ws RJxc12de TJxc12de 0
theorem nmJxc12de : ∀ a, a < 0 → ∀ b, b < 0 → a ≠ b → (TJxc12de a).2.1 ≠ (TJxc12de b).2.1 := by decide +kernel
theorem tyJxc12de_ok : ∀ k, k < 0 → parseFieldDescriptor (TJxc12de k).2.2.1 = some (tyJxc12de k) := by decide +kernel
abbrev cJxc12de_init_da8c8 : ByteArray := prog_24_method_1_code
def yJxc12de_init_da8c8 : MethodName := ⟨RJxc12de, "<init>", "()V"⟩
def RJx4a65c : String := "java/util/ArrayList"
def TJx4a65c : u_T := fun k => match k with
  | 0 => ("java/util/AbstractList", "modCount", "I", false)
  | 1 => ("java/util/ArrayList", "elementData", "[Ljava/lang/Object;", false)
  | _ => ("java/util/ArrayList", "size", "I", false)
def tyJx4a65c : Nat → FieldType := fun k => match k with
  | 0 => .int
  | 1 => .array (.object "java/lang/Object")
  | _ => .int
abbrev wsJx4a65c0 : List Cond := u_ws RJx4a65c TJx4a65c 3
theorem nmJx4a65c : ∀ a, a < 3 → ∀ b, b < 3 → a ≠ b → (TJx4a65c a).2.1 ≠ (TJx4a65c b).2.1 := by decide +kernel
theorem tyJx4a65c_ok : ∀ k, k < 3 → parseFieldDescriptor (TJx4a65c k).2.2.1 = some (tyJx4a65c k) := by decide +kernel
abbrev cJx4a65c_init_da8c8 : ByteArray := prog_25_method_2_code
def yJx4a65c_init_da8c8 : MethodName := ⟨RJx4a65c, "<init>", "()V"⟩
abbrev cJx4a65c_grow_92f84 : ByteArray := prog_25_method_6_code
def yJx4a65c_grow_92f84 : MethodName := ⟨RJx4a65c, "grow", "(I)[Ljava/lang/Object;"⟩
abbrev cJx4a65c_grow_d5877 : ByteArray := prog_25_method_7_code
def yJx4a65c_grow_d5877 : MethodName := ⟨RJx4a65c, "grow", "()[Ljava/lang/Object;"⟩
abbrev cJx4a65c_size_8abf5 : ByteArray := prog_25_method_8_code
def yJx4a65c_size_8abf5 : MethodName := ⟨RJx4a65c, "size", "()I"⟩
abbrev cJx4a65c_elementData_915e3 : ByteArray := prog_25_method_18_code
def yJx4a65c_elementData_915e3 : MethodName := ⟨RJx4a65c, "elementData", "(I)Ljava/lang/Object;"⟩
abbrev cJx4a65c_get_915e3 : ByteArray := prog_25_method_20_code
def yJx4a65c_get_915e3 : MethodName := ⟨RJx4a65c, "get", "(I)Ljava/lang/Object;"⟩
abbrev cJx4a65c_add_72be8 : ByteArray := prog_25_method_24_code
def yJx4a65c_add_72be8 : MethodName := ⟨RJx4a65c, "add", "(Ljava/lang/Object;[Ljava/lang/Object;I)V"⟩
abbrev cJx4a65c_add_9ea2d : ByteArray := prog_25_method_25_code
def yJx4a65c_add_9ea2d : MethodName := ⟨RJx4a65c, "add", "(Ljava/lang/Object;)Z"⟩
abbrev cJx4a65c_remove_915e3 : ByteArray := prog_25_method_29_code
def yJx4a65c_remove_915e3 : MethodName := ⟨RJx4a65c, "remove", "(I)Ljava/lang/Object;"⟩
abbrev cJx4a65c_fastRemove_b59b0 : ByteArray := prog_25_method_39_code
def yJx4a65c_fastRemove_b59b0 : MethodName := ⟨RJx4a65c, "fastRemove", "([Ljava/lang/Object;I)V"⟩
def RJ7 : String := "java/util/Arrays"
def TJ7 : u_T := fun k => match k with
  | _ => ("", "", "", false)
def tyJ7 : Nat → FieldType := fun k => match k with
  | _ => .int
abbrev wsJ70 : List Cond := u_ws RJ7 TJ7 0
theorem nmJ7 : ∀ a, a < 0 → ∀ b, b < 0 → a ≠ b → (TJ7 a).2.1 ≠ (TJ7 b).2.1 := by decide +kernel
theorem tyJ7_ok : ∀ k, k < 0 → parseFieldDescriptor (TJ7 k).2.2.1 = some (tyJ7 k) := by decide +kernel
abbrev cJ7_copyOf_1904c : ByteArray := prog_26_method_119_code
def yJ7_copyOf_1904c : MethodName := ⟨RJ7, "copyOf", "([Ljava/lang/Object;I)[Ljava/lang/Object;"⟩
abbrev cJ7_copyOf_6403c : ByteArray := prog_26_method_120_code
def yJ7_copyOf_6403c : MethodName := ⟨RJ7, "copyOf", "([Ljava/lang/Object;ILjava/lang/Class;)[Ljava/lang/Object;"⟩
def RJx5ef63 : String := "java/util/Collection"
def TJx5ef63 : u_T := fun k => match k with
  | _ => ("", "", "", false)
def tyJx5ef63 : Nat → FieldType := fun k => match k with
  | _ => .int
abbrev wsJx5ef630 : List Cond := u_ws RJx5ef63 TJx5ef63 0
theorem nmJx5ef63 : ∀ a, a < 0 → ∀ b, b < 0 → a ≠ b → (TJx5ef63 a).2.1 ≠ (TJx5ef63 b).2.1 := by decide +kernel
theorem tyJx5ef63_ok : ∀ k, k < 0 → parseFieldDescriptor (TJx5ef63 k).2.2.1 = some (tyJx5ef63 k) := by decide +kernel
def RJxbd725 : String := "java/util/List"
def TJxbd725 : u_T := fun k => match k with
  | _ => ("", "", "", false)
def tyJxbd725 : Nat → FieldType := fun k => match k with
  | _ => .int
abbrev wsJxbd7250 : List Cond := u_ws RJxbd725 TJxbd725 0
theorem nmJxbd725 : ∀ a, a < 0 → ∀ b, b < 0 → a ≠ b → (TJxbd725 a).2.1 ≠ (TJxbd725 b).2.1 := by decide +kernel
theorem tyJxbd725_ok : ∀ k, k < 0 → parseFieldDescriptor (TJxbd725 k).2.2.1 = some (tyJxbd725 k) := by decide +kernel
def RJ15 : String := "java/util/Objects"
def TJ15 : u_T := fun k => match k with
  | _ => ("", "", "", false)
def tyJ15 : Nat → FieldType := fun k => match k with
  | _ => .int
abbrev wsJ150 : List Cond := u_ws RJ15 TJ15 0
theorem nmJ15 : ∀ a, a < 0 → ∀ b, b < 0 → a ≠ b → (TJ15 a).2.1 ≠ (TJ15 b).2.1 := by decide +kernel
theorem tyJ15_ok : ∀ k, k < 0 → parseFieldDescriptor (TJ15 k).2.2.1 = some (tyJ15 k) := by decide +kernel
abbrev cJ15_checkIndex_7cf53 : ByteArray := prog_29_method_17_code
def yJ15_checkIndex_7cf53 : MethodName := ⟨RJ15, "checkIndex", "(II)I"⟩
def RJxf0a74 : String := "java/util/RandomAccess"
def TJxf0a74 : u_T := fun k => match k with
  | _ => ("", "", "", false)
def tyJxf0a74 : Nat → FieldType := fun k => match k with
  | _ => .int
abbrev wsJxf0a740 : List Cond := u_ws RJxf0a74 TJxf0a74 0
theorem nmJxf0a74 : ∀ a, a < 0 → ∀ b, b < 0 → a ≠ b → (TJxf0a74 a).2.1 ≠ (TJxf0a74 b).2.1 := by decide +kernel
theorem tyJxf0a74_ok : ∀ k, k < 0 → parseFieldDescriptor (TJxf0a74 k).2.2.1 = some (tyJxf0a74 k) := by decide +kernel
def RJxa66e6 : String := "java/util/SequencedCollection"
def TJxa66e6 : u_T := fun k => match k with
  | _ => ("", "", "", false)
def tyJxa66e6 : Nat → FieldType := fun k => match k with
  | _ => .int
abbrev wsJxa66e60 : List Cond := u_ws RJxa66e6 TJxa66e6 0
theorem nmJxa66e6 : ∀ a, a < 0 → ∀ b, b < 0 → a ≠ b → (TJxa66e6 a).2.1 ≠ (TJxa66e6 b).2.1 := by decide +kernel
theorem tyJxa66e6_ok : ∀ k, k < 0 → parseFieldDescriptor (TJxa66e6 k).2.2.1 = some (tyJxa66e6 k) := by decide +kernel
def RJ8 : String := "jdk/internal/util/ArraysSupport"
def TJ8 : u_T := fun k => match k with
  | _ => ("", "", "", false)
def tyJ8 : Nat → FieldType := fun k => match k with
  | _ => .int
abbrev wsJ80 : List Cond := u_ws RJ8 TJ8 0
theorem nmJ8 : ∀ a, a < 0 → ∀ b, b < 0 → a ≠ b → (TJ8 a).2.1 ≠ (TJ8 b).2.1 := by decide +kernel
theorem tyJ8_ok : ∀ k, k < 0 → parseFieldDescriptor (TJ8 k).2.2.1 = some (tyJ8 k) := by decide +kernel
abbrev cJ8_newLength_cabcc : ByteArray := prog_32_method_27_code
def yJ8_newLength_cabcc : MethodName := ⟨RJ8, "newLength", "(III)I"⟩
abbrev cJ8_hugeLength_7cf53 : ByteArray := prog_32_method_28_code
def yJ8_hugeLength_7cf53 : MethodName := ⟨RJ8, "hugeLength", "(II)I"⟩
def RJ3 : String := "jdk/internal/util/Preconditions"
def TJ3 : u_T := fun k => match k with
  | _ => ("", "", "", false)
def tyJ3 : Nat → FieldType := fun k => match k with
  | _ => .int
abbrev wsJ30 : List Cond := u_ws RJ3 TJ3 0
theorem nmJ3 : ∀ a, a < 0 → ∀ b, b < 0 → a ≠ b → (TJ3 a).2.1 ≠ (TJ3 b).2.1 := by decide +kernel
theorem tyJ3_ok : ∀ k, k < 0 → parseFieldDescriptor (TJ3 k).2.2.1 = some (tyJ3 k) := by decide +kernel
abbrev cJ3_checkIndex_8e157 : ByteArray := prog_33_method_11_code
def yJ3_checkIndex_8e157 : MethodName := ⟨RJ3, "checkIndex", "(IILjava/util/function/BiFunction;)I"⟩
def wsX0_init : List Cond := .code yX0_init cX0_init 6 none :: ([.methodLink RX0 1 objectInit, .instanceMethod objectInit, .code objectInit ⟨#[0xb1]⟩ 1 none, .fieldLink RX0 7 "SnowFences$Fence" "column" "I", .fieldLink RX0 13 "SnowFences$Fence" "row" "I", .fieldLink RX0 16 "SnowFences$Fence" "strip" "LSnowFences$Strip;", .fieldLink RX0 20 "SnowFences$Fence" "height" "I", .fieldLink RX0 23 "SnowFences$Fence" "gap" "I"] ++ wsX00)
def wsX1_init : List Cond := .code yX1_init cX1_init 1 none :: ([.methodLink RX1 3 objectInit, .instanceMethod objectInit, .code objectInit ⟨#[0xb1]⟩ 1 none, .arrayClass .int, .fieldLink RX1 9 "SnowFences$Ground" "depths" "[I"] ++ wsX10)
def wsX1_depth : List Cond := .code yX1_depth cX1_depth 2 (some .int) :: ([.fieldLink RX1 9 "SnowFences$Ground" "depths" "[I"] ++ wsX10)
def wsX1_put : List Cond := .code yX1_put cX1_put 3 none :: ([.fieldLink RX1 9 "SnowFences$Ground" "depths" "[I"] ++ wsX10)
def wsX1_becomeLike : List Cond := .code yX1_becomeLike cX1_becomeLike 3 none :: ([.methodLink RX1 15 yX1_depth, .instanceMethod yX1_depth, .selects RX1 yX1_depth yX1_depth, .initialized RX1, .code yX1_depth cX1_depth 2 (some .int), .fieldLink RX1 9 "SnowFences$Ground" "depths" "[I", .methodLink RX1 19 yX1_put, .instanceMethod yX1_put, .selects RX1 yX1_put yX1_put, .code yX1_put cX1_put 3 none] ++ wsX10)
def wsX4_cell : List Cond := .code yX4_cell cX4_cell 2 (some .int) :: ([.fieldLink RX4 9 "SnowFences$Strip" "first" "I", .fieldLink RX4 18 "SnowFences$Strip" "down" "Z"] ++ wsX40)
def wsX1_clear : List Cond := .code yX1_clear cX1_clear 3 none :: ([.fieldLink RX1 23 "SnowFences$Strip" "length" "I", .methodLink RX1 29 yX4_cell, .instanceMethod yX4_cell, .selects RX4 yX4_cell yX4_cell, .initialized RX4, .code yX4_cell cX4_cell 2 (some .int), .fieldLink RX4 9 "SnowFences$Strip" "first" "I", .fieldLink RX4 18 "SnowFences$Strip" "down" "Z", .methodLink RX1 19 yX1_put, .instanceMethod yX1_put, .selects RX1 yX1_put yX1_put, .initialized RX1, .code yX1_put cX1_put 3 none, .fieldLink RX1 9 "SnowFences$Ground" "depths" "[I"] ++ wsX40 ++ wsX10)
def wsX1_sum : List Cond := .code yX1_sum cX1_sum 4 (some .int) :: ([.fieldLink RX1 23 "SnowFences$Strip" "length" "I", .methodLink RX1 29 yX4_cell, .instanceMethod yX4_cell, .selects RX4 yX4_cell yX4_cell, .initialized RX4, .code yX4_cell cX4_cell 2 (some .int), .fieldLink RX4 9 "SnowFences$Strip" "first" "I", .fieldLink RX4 18 "SnowFences$Strip" "down" "Z", .methodLink RX1 15 yX1_depth, .instanceMethod yX1_depth, .selects RX1 yX1_depth yX1_depth, .initialized RX1, .code yX1_depth cX1_depth 2 (some .int), .fieldLink RX1 9 "SnowFences$Ground" "depths" "[I"] ++ wsX40 ++ wsX10)
def wsX1_most : List Cond := .code yX1_most cX1_most 4 (some .int) :: ([.fieldLink RX1 23 "SnowFences$Strip" "length" "I", .methodLink RX1 32 Lib.Math.max.name, .static Lib.Math.max.name, .initialized "java/lang/Math", .code Lib.Math.max.name Lib.Math.max.code 2 (some .int), .methodLink RX1 29 yX4_cell, .instanceMethod yX4_cell, .selects RX4 yX4_cell yX4_cell, .initialized RX4, .code yX4_cell cX4_cell 2 (some .int), .fieldLink RX4 9 "SnowFences$Strip" "first" "I", .fieldLink RX4 18 "SnowFences$Strip" "down" "Z", .methodLink RX1 15 yX1_depth, .instanceMethod yX1_depth, .selects RX1 yX1_depth yX1_depth, .initialized RX1, .code yX1_depth cX1_depth 2 (some .int), .fieldLink RX1 9 "SnowFences$Ground" "depths" "[I"] ++ wsX40 ++ wsX10)
def wsX1_blocked : List Cond := .code yX1_blocked cX1_blocked 5 (some .int) :: ([.fieldLink RX1 23 "SnowFences$Strip" "length" "I", .methodLink RX1 29 yX4_cell, .instanceMethod yX4_cell, .selects RX4 yX4_cell yX4_cell, .initialized RX4, .code yX4_cell cX4_cell 2 (some .int), .fieldLink RX4 9 "SnowFences$Strip" "first" "I", .fieldLink RX4 18 "SnowFences$Strip" "down" "Z", .methodLink RX1 15 yX1_depth, .instanceMethod yX1_depth, .selects RX1 yX1_depth yX1_depth, .initialized RX1, .code yX1_depth cX1_depth 2 (some .int), .fieldLink RX1 9 "SnowFences$Ground" "depths" "[I"] ++ wsX40 ++ wsX10)
def wsX2_init : List Cond := .code yX2_init cX2_init 3 none :: ([.methodLink RX2 1 objectInit, .instanceMethod objectInit, .code objectInit ⟨#[0xb1]⟩ 1 none, .fieldLink RX2 7 "SnowFences$Road" "index" "I", .fieldLink RX2 13 "SnowFences$Road" "strip" "LSnowFences$Strip;"] ++ wsX20)
def wsX3_init : List Cond := .code yX3_init cX3_init 1 none :: ([.methodLink RX3 3 objectInit, .instanceMethod objectInit, .code objectInit ⟨#[0xb1]⟩ 1 none, .arrayClass .int, .fieldLink RX3 9 "SnowFences$Screens" "heights" "[I", .fieldLink RX3 15 "SnowFences$Screens" "gaps" "[I"] ++ wsX30)
def wsX3_height : List Cond := .code yX3_height cX3_height 2 (some .int) :: ([.fieldLink RX3 9 "SnowFences$Screens" "heights" "[I"] ++ wsX30)
def wsX3_gap : List Cond := .code yX3_gap cX3_gap 2 (some .int) :: ([.fieldLink RX3 15 "SnowFences$Screens" "gaps" "[I"] ++ wsX30)
def wsX3_stand : List Cond := .code yX3_stand cX3_stand 4 none :: ([.fieldLink RX3 9 "SnowFences$Screens" "heights" "[I", .fieldLink RX3 15 "SnowFences$Screens" "gaps" "[I"] ++ wsX30)
def wsX3_clear : List Cond := .code yX3_clear cX3_clear 2 none :: ([.methodLink RX3 18 yX3_stand, .instanceMethod yX3_stand, .selects RX3 yX3_stand yX3_stand, .initialized RX3, .code yX3_stand cX3_stand 4 none, .fieldLink RX3 9 "SnowFences$Screens" "heights" "[I", .fieldLink RX3 15 "SnowFences$Screens" "gaps" "[I"] ++ wsX30)
def wsX3_add : List Cond := .code yX3_add cX3_add 6 none :: ([.fieldLink RX3 22 "SnowFences$Strip" "length" "I", .methodLink RX3 28 yX4_cell, .instanceMethod yX4_cell, .selects RX4 yX4_cell yX4_cell, .initialized RX4, .code yX4_cell cX4_cell 2 (some .int), .fieldLink RX4 9 "SnowFences$Strip" "first" "I", .fieldLink RX4 18 "SnowFences$Strip" "down" "Z", .methodLink RX3 32 yX3_height, .instanceMethod yX3_height, .selects RX3 yX3_height yX3_height, .initialized RX3, .code yX3_height cX3_height 2 (some .int), .fieldLink RX3 9 "SnowFences$Screens" "heights" "[I", .methodLink RX3 18 yX3_stand, .instanceMethod yX3_stand, .selects RX3 yX3_stand yX3_stand, .code yX3_stand cX3_stand 4 none, .fieldLink RX3 15 "SnowFences$Screens" "gaps" "[I"] ++ wsX40 ++ wsX30)
def wsX4_init : List Cond := .code yX4_init cX4_init 5 none :: ([.methodLink RX4 3 objectInit, .instanceMethod objectInit, .code objectInit ⟨#[0xb1]⟩ 1 none, .fieldLink RX4 9 "SnowFences$Strip" "first" "I", .fieldLink RX4 15 "SnowFences$Strip" "length" "I", .fieldLink RX4 18 "SnowFences$Strip" "down" "Z"] ++ wsX40)
def wsX5_init : List Cond := .code yX5_init cX5_init 6 none :: ([.methodLink RX5 3 objectInit, .instanceMethod objectInit, .code objectInit ⟨#[0xb1]⟩ 1 none, .fieldLink RX5 9 "SnowFences$Wind" "strength" "I", .fieldLink RX5 15 "SnowFences$Wind" "supply" "I", .fieldLink RX5 18 "SnowFences$Wind" "down" "Z", .fieldLink RX5 22 "SnowFences$Wind" "firstCell" "I", .fieldLink RX5 25 "SnowFences$Wind" "nextCell" "I", .fieldLink RX5 28 "SnowFences$Wind" "nextLine" "I"] ++ wsX50)
def wsX5_dropped : List Cond := .code yX5_dropped cX5_dropped 2 (some .int) :: ([.fieldLink RX5 35 "SnowFences$Wind" "carried" "I", .methodLink RX5 81 Lib.Math.min.name, .static Lib.Math.min.name, .initialized "java/lang/Math", .code Lib.Math.min.name Lib.Math.min.code 2 (some .int), .fieldLink RX5 57 "SnowFences$Wind" "holds" "I", .methodLink RX5 75 Lib.Math.max.name, .static Lib.Math.max.name, .code Lib.Math.max.name Lib.Math.max.code 2 (some .int)] ++ wsX50)
def wsX5_pickedUp : List Cond := .code yX5_pickedUp cX5_pickedUp 2 (some .int) :: ([.fieldLink RX5 9 "SnowFences$Wind" "strength" "I", .methodLink RX5 81 Lib.Math.min.name, .static Lib.Math.min.name, .initialized "java/lang/Math", .code Lib.Math.min.name Lib.Math.min.code 2 (some .int), .fieldLink RX5 35 "SnowFences$Wind" "carried" "I", .methodLink RX5 75 Lib.Math.max.name, .static Lib.Math.max.name, .code Lib.Math.max.name Lib.Math.max.code 2 (some .int)] ++ wsX50)
def wsX5_passCell_r1 : List Cond := [Cond.fieldLink RX5 38 "SnowFences$Wind" "shelter" "I", Cond.fieldLink RX5 41 "SnowFences$Wind" "sweep" "I", Cond.fieldLink RX5 57 "SnowFences$Wind" "holds" "I", Cond.fieldLink RX5 35 "SnowFences$Wind" "carried" "I", Cond.methodLink RX5 75 Lib.Math.max.name, Cond.static Lib.Math.max.name, Cond.initialized "java/lang/Math", Cond.code Lib.Math.max.name Lib.Math.max.code 2 (some .int), Cond.methodLink RX5 48 yX3_height, Cond.instanceMethod yX3_height, Cond.selects RX3 yX3_height yX3_height, Cond.initialized RX3, Cond.code yX3_height cX3_height 2 (some .int), Cond.fieldLink RX3 9 "SnowFences$Screens" "heights" "[I", Cond.methodLink RX5 54 yX3_gap, Cond.instanceMethod yX3_gap, Cond.selects RX3 yX3_gap yX3_gap, Cond.code yX3_gap cX3_gap 2 (some .int), Cond.fieldLink RX3 15 "SnowFences$Screens" "gaps" "[I", Cond.methodLink RX5 60 yX1_depth, Cond.instanceMethod yX1_depth, Cond.selects RX1 yX1_depth yX1_depth, Cond.initialized RX1, Cond.code yX1_depth cX1_depth 2 (some .int)]
def wsX5_passCell_r2 : List Cond := [Cond.fieldLink RX1 9 "SnowFences$Ground" "depths" "[I", Cond.methodLink RX5 65 yX5_dropped, Cond.instanceMethod yX5_dropped, Cond.selects RX5 yX5_dropped yX5_dropped, Cond.initialized RX5, Cond.code yX5_dropped cX5_dropped 2 (some .int), Cond.methodLink RX5 81 Lib.Math.min.name, Cond.static Lib.Math.min.name, Cond.code Lib.Math.min.name Lib.Math.min.code 2 (some .int), Cond.methodLink RX5 68 yX5_pickedUp, Cond.instanceMethod yX5_pickedUp, Cond.selects RX5 yX5_pickedUp yX5_pickedUp, Cond.code yX5_pickedUp cX5_pickedUp 2 (some .int), Cond.fieldLink RX5 9 "SnowFences$Wind" "strength" "I", Cond.methodLink RX5 71 yX1_put, Cond.instanceMethod yX1_put, Cond.selects RX1 yX1_put yX1_put, Cond.code yX1_put cX1_put 3 none]
def wsX5_passCell : List Cond := .code yX5_passCell cX5_passCell 7 none :: ((wsX5_passCell_r1 ++ wsX5_passCell_r2) ++ wsX50 ++ wsX30 ++ wsX10)
def wsX5_passLine_r1 : List Cond := [Cond.fieldLink RX5 15 "SnowFences$Wind" "supply" "I", Cond.fieldLink RX5 35 "SnowFences$Wind" "carried" "I", Cond.fieldLink RX5 38 "SnowFences$Wind" "shelter" "I", Cond.fieldLink RX5 41 "SnowFences$Wind" "sweep" "I", Cond.fieldLink RX5 25 "SnowFences$Wind" "nextCell" "I", Cond.methodLink RX5 44 yX5_passCell, Cond.instanceMethod yX5_passCell, Cond.selects RX5 yX5_passCell yX5_passCell, Cond.initialized RX5, Cond.code yX5_passCell cX5_passCell 7 none, Cond.fieldLink RX5 57 "SnowFences$Wind" "holds" "I", Cond.methodLink RX5 75 Lib.Math.max.name, Cond.static Lib.Math.max.name, Cond.initialized "java/lang/Math", Cond.code Lib.Math.max.name Lib.Math.max.code 2 (some .int), Cond.methodLink RX5 48 yX3_height, Cond.instanceMethod yX3_height, Cond.selects RX3 yX3_height yX3_height, Cond.initialized RX3, Cond.code yX3_height cX3_height 2 (some .int), Cond.fieldLink RX3 9 "SnowFences$Screens" "heights" "[I", Cond.methodLink RX5 54 yX3_gap, Cond.instanceMethod yX3_gap, Cond.selects RX3 yX3_gap yX3_gap]
def wsX5_passLine_r2 : List Cond := [Cond.code yX3_gap cX3_gap 2 (some .int), Cond.fieldLink RX3 15 "SnowFences$Screens" "gaps" "[I", Cond.methodLink RX5 60 yX1_depth, Cond.instanceMethod yX1_depth, Cond.selects RX1 yX1_depth yX1_depth, Cond.initialized RX1, Cond.code yX1_depth cX1_depth 2 (some .int), Cond.fieldLink RX1 9 "SnowFences$Ground" "depths" "[I", Cond.methodLink RX5 65 yX5_dropped, Cond.instanceMethod yX5_dropped, Cond.selects RX5 yX5_dropped yX5_dropped, Cond.code yX5_dropped cX5_dropped 2 (some .int), Cond.methodLink RX5 81 Lib.Math.min.name, Cond.static Lib.Math.min.name, Cond.code Lib.Math.min.name Lib.Math.min.code 2 (some .int), Cond.methodLink RX5 68 yX5_pickedUp, Cond.instanceMethod yX5_pickedUp, Cond.selects RX5 yX5_pickedUp yX5_pickedUp, Cond.code yX5_pickedUp cX5_pickedUp 2 (some .int), Cond.fieldLink RX5 9 "SnowFences$Wind" "strength" "I", Cond.methodLink RX5 71 yX1_put, Cond.instanceMethod yX1_put, Cond.selects RX1 yX1_put yX1_put, Cond.code yX1_put cX1_put 3 none]
def wsX5_passLine : List Cond := .code yX5_passLine cX5_passLine 5 (some .int) :: ((wsX5_passLine_r1 ++ wsX5_passLine_r2) ++ wsX50 ++ wsX30 ++ wsX10)
def wsX5_crossField_r1 : List Cond := [Cond.fieldLink RX5 22 "SnowFences$Wind" "firstCell" "I", Cond.fieldLink RX5 28 "SnowFences$Wind" "nextLine" "I", Cond.methodLink RX5 31 yX5_passLine, Cond.instanceMethod yX5_passLine, Cond.selects RX5 yX5_passLine yX5_passLine, Cond.initialized RX5, Cond.code yX5_passLine cX5_passLine 5 (some .int), Cond.fieldLink RX5 15 "SnowFences$Wind" "supply" "I", Cond.fieldLink RX5 35 "SnowFences$Wind" "carried" "I", Cond.fieldLink RX5 38 "SnowFences$Wind" "shelter" "I", Cond.fieldLink RX5 41 "SnowFences$Wind" "sweep" "I", Cond.fieldLink RX5 25 "SnowFences$Wind" "nextCell" "I", Cond.methodLink RX5 44 yX5_passCell, Cond.instanceMethod yX5_passCell, Cond.selects RX5 yX5_passCell yX5_passCell, Cond.code yX5_passCell cX5_passCell 7 none, Cond.fieldLink RX5 57 "SnowFences$Wind" "holds" "I", Cond.methodLink RX5 75 Lib.Math.max.name, Cond.static Lib.Math.max.name, Cond.initialized "java/lang/Math", Cond.code Lib.Math.max.name Lib.Math.max.code 2 (some .int), Cond.methodLink RX5 48 yX3_height, Cond.instanceMethod yX3_height, Cond.selects RX3 yX3_height yX3_height]
def wsX5_crossField_r2 : List Cond := [Cond.initialized RX3, Cond.code yX3_height cX3_height 2 (some .int), Cond.fieldLink RX3 9 "SnowFences$Screens" "heights" "[I", Cond.methodLink RX5 54 yX3_gap, Cond.instanceMethod yX3_gap, Cond.selects RX3 yX3_gap yX3_gap, Cond.code yX3_gap cX3_gap 2 (some .int), Cond.fieldLink RX3 15 "SnowFences$Screens" "gaps" "[I", Cond.methodLink RX5 60 yX1_depth, Cond.instanceMethod yX1_depth, Cond.selects RX1 yX1_depth yX1_depth, Cond.initialized RX1, Cond.code yX1_depth cX1_depth 2 (some .int), Cond.fieldLink RX1 9 "SnowFences$Ground" "depths" "[I", Cond.methodLink RX5 65 yX5_dropped, Cond.instanceMethod yX5_dropped, Cond.selects RX5 yX5_dropped yX5_dropped, Cond.code yX5_dropped cX5_dropped 2 (some .int), Cond.methodLink RX5 81 Lib.Math.min.name, Cond.static Lib.Math.min.name, Cond.code Lib.Math.min.name Lib.Math.min.code 2 (some .int), Cond.methodLink RX5 68 yX5_pickedUp, Cond.instanceMethod yX5_pickedUp, Cond.selects RX5 yX5_pickedUp yX5_pickedUp]
def wsX5_crossField_r3 : List Cond := [Cond.code yX5_pickedUp cX5_pickedUp 2 (some .int), Cond.fieldLink RX5 9 "SnowFences$Wind" "strength" "I", Cond.methodLink RX5 71 yX1_put, Cond.instanceMethod yX1_put, Cond.selects RX1 yX1_put yX1_put, Cond.code yX1_put cX1_put 3 none]
def wsX5_crossField : List Cond := .code yX5_crossField cX5_crossField 5 (some .int) :: ((wsX5_crossField_r1 ++ (wsX5_crossField_r2 ++ wsX5_crossField_r3)) ++ wsX50 ++ wsX30 ++ wsX10)
def wsJxa1e45_init_da8c8 : List Cond := .code yJxa1e45_init_da8c8 cJxa1e45_init_da8c8 1 none :: ([.methodLink RJxa1e45 1 objectInit, .instanceMethod objectInit, .code objectInit ⟨#[0xb1]⟩ 1 none])
def wsJxc12de_init_da8c8 : List Cond := .code yJxc12de_init_da8c8 cJxc12de_init_da8c8 1 none :: ([.fieldLink RJxc12de 7 "java/util/AbstractList" "modCount" "I", .methodLink RJxc12de 1 yJxa1e45_init_da8c8, .instanceMethod yJxa1e45_init_da8c8, .initialized RJxa1e45, .code yJxa1e45_init_da8c8 cJxa1e45_init_da8c8 1 none, .methodLink RJxa1e45 1 objectInit, .instanceMethod objectInit, .code objectInit ⟨#[0xb1]⟩ 1 none] ++ wsJx4a65c0)
def wsJx4a65c_init_da8c8 : List Cond := .code yJx4a65c_init_da8c8 cJx4a65c_init_da8c8 1 none :: ([.fieldLink RJx4a65c 39 "java/util/ArrayList" "DEFAULTCAPACITY_EMPTY_ELEMENTDATA" "[Ljava/lang/Object;", .fieldLink RJx4a65c 9 "java/util/ArrayList" "elementData" "[Ljava/lang/Object;", .methodLink RJx4a65c 1 yJxc12de_init_da8c8, .instanceMethod yJxc12de_init_da8c8, .initialized RJxc12de, .code yJxc12de_init_da8c8 cJxc12de_init_da8c8 1 none, .fieldLink RJxc12de 7 "java/util/AbstractList" "modCount" "I", .methodLink RJxc12de 1 yJxa1e45_init_da8c8, .instanceMethod yJxa1e45_init_da8c8, .initialized RJxa1e45, .code yJxa1e45_init_da8c8 cJxa1e45_init_da8c8 1 none, .methodLink RJxa1e45 1 objectInit, .instanceMethod objectInit, .code objectInit ⟨#[0xb1]⟩ 1 none] ++ wsJx4a65c0)
def wsX6_init_r1 : List Cond := [Cond.methodLink RX6 1 objectInit, Cond.instanceMethod objectInit, Cond.code objectInit ⟨#[0xb1]⟩ 1 none, Cond.classLink RX6 7 RJx4a65c, Cond.instantiable RJx4a65c 3, Cond.initialized RJx4a65c, Cond.fieldLink RX6 10 "SnowFences" "fences" "Ljava/util/ArrayList;", Cond.fieldLink RX6 16 "SnowFences" "roads" "Ljava/util/ArrayList;", Cond.classLink RX6 19 RX4, Cond.instantiable RX4 3, Cond.initialized RX4, Cond.fieldLink RX6 24 "SnowFences" "whole" "LSnowFences$Strip;", Cond.classLink RX6 28 RX1, Cond.instantiable RX1 1, Cond.initialized RX1, Cond.fieldLink RX6 31 "SnowFences" "ground" "LSnowFences$Ground;", Cond.fieldLink RX6 35 "SnowFences" "trial" "LSnowFences$Ground;", Cond.classLink RX6 38 RX3, Cond.instantiable RX3 2, Cond.initialized RX3, Cond.fieldLink RX6 41 "SnowFences" "screens" "LSnowFences$Screens;", Cond.fieldLink RX6 45 "SnowFences" "limit" "I", Cond.methodLink RX6 9 yJx4a65c_init_da8c8, Cond.instanceMethod yJx4a65c_init_da8c8]
def wsX6_init_r2 : List Cond := [Cond.code yJx4a65c_init_da8c8 cJx4a65c_init_da8c8 1 none, Cond.fieldLink RJx4a65c 39 "java/util/ArrayList" "DEFAULTCAPACITY_EMPTY_ELEMENTDATA" "[Ljava/lang/Object;", Cond.fieldLink RJx4a65c 9 "java/util/ArrayList" "elementData" "[Ljava/lang/Object;", Cond.methodLink RJx4a65c 1 yJxc12de_init_da8c8, Cond.instanceMethod yJxc12de_init_da8c8, Cond.initialized RJxc12de, Cond.code yJxc12de_init_da8c8 cJxc12de_init_da8c8 1 none, Cond.fieldLink RJxc12de 7 "java/util/AbstractList" "modCount" "I", Cond.methodLink RJxc12de 1 yJxa1e45_init_da8c8, Cond.instanceMethod yJxa1e45_init_da8c8, Cond.initialized RJxa1e45, Cond.code yJxa1e45_init_da8c8 cJxa1e45_init_da8c8 1 none, Cond.methodLink RJxa1e45 1 objectInit, Cond.methodLink RX6 21 yX4_init, Cond.instanceMethod yX4_init, Cond.code yX4_init cX4_init 5 none, Cond.methodLink RX4 3 objectInit, Cond.fieldLink RX4 9 "SnowFences$Strip" "first" "I", Cond.fieldLink RX4 15 "SnowFences$Strip" "length" "I", Cond.fieldLink RX4 18 "SnowFences$Strip" "down" "Z", Cond.instanceMethod yX1_init, Cond.code yX1_init cX1_init 1 none, Cond.methodLink RX1 3 objectInit, Cond.arrayClass .int]
def wsX6_init_r3 : List Cond := [Cond.fieldLink RX1 9 "SnowFences$Ground" "depths" "[I", Cond.instanceMethod yX3_init, Cond.code yX3_init cX3_init 1 none, Cond.methodLink RX3 3 objectInit, Cond.fieldLink RX3 9 "SnowFences$Screens" "heights" "[I", Cond.fieldLink RX3 15 "SnowFences$Screens" "gaps" "[I"]
def wsX6_init : List Cond := .code yX6_init cX6_init 1 none :: ((wsX6_init_r1 ++ (wsX6_init_r2 ++ wsX6_init_r3)) ++ wsJx4a65c0 ++ wsX60 ++ wsX40 ++ wsX10 ++ wsX30)
def wsX6_needHeight : List Cond := .code yX6_needHeight cX6_needHeight 1 none :: ([.classLink RX6 49 "java/lang/IllegalArgumentException", .initialized "java/lang/IllegalArgumentException"] ++ (vx_atS RX6 53 "java/lang/IllegalArgumentException" ["java/lang/RuntimeException", "java/lang/Exception"]).filter goodWord)
def wsX6_needGap : List Cond := .code yX6_needGap cX6_needGap 1 none :: ([.classLink RX6 49 "java/lang/IllegalArgumentException", .initialized "java/lang/IllegalArgumentException"] ++ (vx_atS RX6 53 "java/lang/IllegalArgumentException" ["java/lang/RuntimeException", "java/lang/Exception"]).filter goodWord)
def wsX6_needIndex : List Cond := .code yX6_needIndex cX6_needIndex 2 none :: ([.classLink RX6 227 "java/lang/IndexOutOfBoundsException", .initialized "java/lang/IndexOutOfBoundsException"] ++ (vx_atS RX6 231 "java/lang/IndexOutOfBoundsException" ["java/lang/RuntimeException", "java/lang/Exception"]).filter goodWord)
def wsJx4a65c_size_8abf5 : List Cond := .code yJx4a65c_size_8abf5 cJx4a65c_size_8abf5 1 (some .int) :: ([.fieldLink RJx4a65c 48 "java/util/ArrayList" "size" "I"] ++ wsJx4a65c0)
def wsJ8_hugeLength_7cf53 : List Cond := .code yJ8_hugeLength_7cf53 cJ8_hugeLength_7cf53 3 (some .int) :: ([.constant RJ8 200 (2147483639)])
def wsJ8_newLength_cabcc : List Cond := .code yJ8_newLength_cabcc cJ8_newLength_cabcc 4 (some .int) :: ([.methodLink RJ8 194 Lib.Math.max.name, .static Lib.Math.max.name, .initialized "java/lang/Math", .code Lib.Math.max.name Lib.Math.max.code 2 (some .int), .constant RJ8 200 (2147483639), .methodLink RJ8 201 yJ8_hugeLength_7cf53, .static yJ8_hugeLength_7cf53, .initialized RJ8, .code yJ8_hugeLength_7cf53 cJ8_hugeLength_7cf53 3 (some .int)])
