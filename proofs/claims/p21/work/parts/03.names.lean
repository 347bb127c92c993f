def RX0 : String := "DialectAtlas$Interview"
def TX0 : u_T := fun k => match k with
  | 0 => ("DialectAtlas$Interview", "bit", "J", true)
  | 1 => ("DialectAtlas$Interview", "informant", "I", true)
  | 2 => ("DialectAtlas$Interview", "place", "I", true)
  | 3 => ("DialectAtlas$Interview", "year", "I", true)
  | 4 => ("DialectAtlas$Interview", "word", "I", true)
  | _ => ("DialectAtlas$Interview", "form", "I", true)
def tyX0 : Nat → FieldType := fun k => match k with
  | 0 => .long
  | 1 => .int
  | 2 => .int
  | 3 => .int
  | 4 => .int
  | _ => .int
theorem nmX0 : ∀ a, a < 6 → ∀ b, b < 6 → a ≠ b → (TX0 a).2.1 ≠ (TX0 b).2.1 := by decide +kernel
theorem tyX0_ok : ∀ k, k < 6 → parseFieldDescriptor (TX0 k).2.2.1 = some (tyX0 k) := by decide +kernel
abbrev cX0_init : ByteArray := prog_2_method_1_code
def yX0_init : MethodName := ⟨RX0, "<init>", "(JIIIII)V"⟩
abbrev cX0_isFor : ByteArray := prog_2_method_2_code
def yX0_isFor : MethodName := ⟨RX0, "isFor", "(II)Z"⟩
def RX1 : String := "DialectAtlas$Rule"
def TX1 : u_T := fun k => match k with
  | 0 => ("DialectAtlas$Rule", "sound", "I", true)
  | 1 => ("DialectAtlas$Rule", "to", "I", true)
  | 2 => ("DialectAtlas$Rule", "behind", "I", true)
  | 3 => ("DialectAtlas$Rule", "first", "I", true)
  | 4 => ("DialectAtlas$Rule", "last", "I", true)
  | 5 => ("DialectAtlas$Rule", "year", "I", true)
  | 6 => ("DialectAtlas$Rule", "grounds", "J", false)
  | _ => ("DialectAtlas$Rule", "fallen", "Z", false)
def tyX1 : Nat → FieldType := fun k => match k with
  | 0 => .int
  | 1 => .int
  | 2 => .int
  | 3 => .int
  | 4 => .int
  | 5 => .int
  | 6 => .long
  | _ => .boolean
theorem nmX1 : ∀ a, a < 8 → ∀ b, b < 8 → a ≠ b → (TX1 a).2.1 ≠ (TX1 b).2.1 := by decide +kernel
theorem tyX1_ok : ∀ k, k < 8 → parseFieldDescriptor (TX1 k).2.2.1 = some (tyX1 k) := by decide +kernel
abbrev cX1_init : ByteArray := prog_3_method_1_code
def yX1_init : MethodName := ⟨RX1, "<init>", "(IIIIII)V"⟩
abbrev cX1_restsOn : ByteArray := prog_3_method_2_code
def yX1_restsOn : MethodName := ⟨RX1, "restsOn", "(LDialectAtlas$Interview;)Z"⟩
abbrev cX1_restNoMoreOn : ByteArray := prog_3_method_3_code
def yX1_restNoMoreOn : MethodName := ⟨RX1, "restNoMoreOn", "(J)V"⟩
abbrev cX1_goesAt : ByteArray := prog_3_method_4_code
def yX1_goesAt : MethodName := ⟨RX1, "goesAt", "(II)Z"⟩
abbrev cX1_changes : ByteArray := prog_3_method_5_code
def yX1_changes : MethodName := ⟨RX1, "changes", "(II)Z"⟩
abbrev cX1_applyTo : ByteArray := prog_3_method_6_code
def yX1_applyTo : MethodName := ⟨RX1, "applyTo", "(I)I"⟩
def RX2 : String := "DialectAtlas$StepCounter"
def TX2 : u_T := fun k => match k with
  | _ => ("DialectAtlas$StepCounter", "row", "[I", true)
def tyX2 : Nat → FieldType := fun k => match k with
  | _ => .array .int
theorem nmX2 : ∀ a, a < 1 → ∀ b, b < 1 → a ≠ b → (TX2 a).2.1 ≠ (TX2 b).2.1 := by decide +kernel
theorem tyX2_ok : ∀ k, k < 1 → parseFieldDescriptor (TX2 k).2.2.1 = some (tyX2 k) := by decide +kernel
abbrev cX2_init : ByteArray := prog_4_method_1_code
def yX2_init : MethodName := ⟨RX2, "<init>", "()V"⟩
abbrev cX2_countSteps : ByteArray := prog_4_method_2_code
def yX2_countSteps : MethodName := ⟨RX2, "countSteps", "(II)I"⟩
abbrev cX2_goThrough : ByteArray := prog_4_method_3_code
def yX2_goThrough : MethodName := ⟨RX2, "goThrough", "(II)I"⟩
def RX3 : String := "DialectAtlas"
def TX3 : u_T := fun k => match k with
  | 0 => ("DialectAtlas", "interviews", "Ljava/util/ArrayList;", true)
  | 1 => ("DialectAtlas", "rules", "Ljava/util/ArrayList;", true)
  | 2 => ("DialectAtlas", "quotes", "Ljava/util/ArrayList;", true)
  | 3 => ("DialectAtlas", "roots", "[I", true)
  | 4 => ("DialectAtlas", "keptLines", "[I", true)
  | 5 => ("DialectAtlas", "knownAt", "[J", true)
  | 6 => ("DialectAtlas", "stepCounter", "LDialectAtlas$StepCounter;", true)
  | 7 => ("DialectAtlas", "there", "J", false)
  | 8 => ("DialectAtlas", "draft", "I", false)
  | _ => ("DialectAtlas", "draftLength", "I", false)
def tyX3 : Nat → FieldType := fun k => match k with
  | 0 => .object "java/util/ArrayList"
  | 1 => .object "java/util/ArrayList"
  | 2 => .object "java/util/ArrayList"
  | 3 => .array .int
  | 4 => .array .int
  | 5 => .array .long
  | 6 => .object "DialectAtlas$StepCounter"
  | 7 => .long
  | 8 => .int
  | _ => .int
theorem nmX3 : ∀ a, a < 10 → ∀ b, b < 10 → a ≠ b → (TX3 a).2.1 ≠ (TX3 b).2.1 := by decide +kernel
theorem tyX3_ok : ∀ k, k < 10 → parseFieldDescriptor (TX3 k).2.2.1 = some (tyX3 k) := by decide +kernel
abbrev cX3_init : ByteArray := prog_1_method_1_code
def yX3_init : MethodName := ⟨RX3, "<init>", "()V"⟩
abbrev cX3_sound : ByteArray := prog_1_method_2_code
def yX3_sound : MethodName := ⟨RX3, "sound", "(I)I"⟩
abbrev cX3_interview : ByteArray := prog_1_method_3_code
def yX3_interview : MethodName := ⟨RX3, "interview", "(IIII)I"⟩
abbrev cX3_setRoot : ByteArray := prog_1_method_4_code
def yX3_setRoot : MethodName := ⟨RX3, "setRoot", "(I)I"⟩
abbrev cX3_form : ByteArray := prog_1_method_5_code
def yX3_form : MethodName := ⟨RX3, "form", "(I)I"⟩
abbrev cX3_rule : ByteArray := prog_1_method_6_code
def yX3_rule : MethodName := ⟨RX3, "rule", "(IIIIII)I"⟩
abbrev cX3_rest : ByteArray := prog_1_method_7_code
def yX3_rest : MethodName := ⟨RX3, "rest", "(II)I"⟩
abbrev cX3_stands : ByteArray := prog_1_method_8_code
def yX3_stands : MethodName := ⟨RX3, "stands", "(I)Z"⟩
abbrev cX3_expected : ByteArray := prog_1_method_9_code
def yX3_expected : MethodName := ⟨RX3, "expected", "(III)I"⟩
abbrev cX3_far : ByteArray := prog_1_method_10_code
def yX3_far : MethodName := ⟨RX3, "far", "(I)I"⟩
abbrev cX3_formAt : ByteArray := prog_1_method_11_code
def yX3_formAt : MethodName := ⟨RX3, "formAt", "(II)I"⟩
abbrev cX3_lines : ByteArray := prog_1_method_12_code
def yX3_lines : MethodName := ⟨RX3, "lines", "(I)I"⟩
abbrev cX3_linesByForms : ByteArray := prog_1_method_13_code
def yX3_linesByForms : MethodName := ⟨RX3, "linesByForms", "(I)I"⟩
abbrev cX3_forget : ByteArray := prog_1_method_14_code
def yX3_forget : MethodName := ⟨RX3, "forget", "(I)I"⟩
abbrev cX3_copy : ByteArray := prog_1_method_15_code
def yX3_copy : MethodName := ⟨RX3, "copy", "(I)I"⟩
abbrev cX3_tell : ByteArray := prog_1_method_16_code
def yX3_tell : MethodName := ⟨RX3, "tell", "(I)I"⟩
abbrev cX3_owed : ByteArray := prog_1_method_17_code
def yX3_owed : MethodName := ⟨RX3, "owed", "(I)I"⟩
abbrev cX3_quote : ByteArray := prog_1_method_18_code
def yX3_quote : MethodName := ⟨RX3, "quote", "(I)I"⟩
abbrev cX3_quoted : ByteArray := prog_1_method_19_code
def yX3_quoted : MethodName := ⟨RX3, "quoted", "(I)I"⟩
abbrev cX3_isOutside : ByteArray := prog_1_method_20_code
def yX3_isOutside : MethodName := ⟨RX3, "isOutside", "(II)Z"⟩
abbrev cX3_canStandBehind : ByteArray := prog_1_method_21_code
def yX3_canStandBehind : MethodName := ⟨RX3, "canStandBehind", "(I)Z"⟩
abbrev cX3_takeDraft : ByteArray := prog_1_method_22_code
def yX3_takeDraft : MethodName := ⟨RX3, "takeDraft", "()I"⟩
abbrev cX3_isThere : ByteArray := prog_1_method_23_code
def yX3_isThere : MethodName := ⟨RX3, "isThere", "(LDialectAtlas$Interview;)Z"⟩
abbrev cX3_formIfThere : ByteArray := prog_1_method_24_code
def yX3_formIfThere : MethodName := ⟨RX3, "formIfThere", "(LDialectAtlas$Interview;)I"⟩
abbrev cX3_interviewsOf : ByteArray := prog_1_method_25_code
def yX3_interviewsOf : MethodName := ⟨RX3, "interviewsOf", "(I)J"⟩
abbrev cX3_applyRules : ByteArray := prog_1_method_26_code
def yX3_applyRules : MethodName := ⟨RX3, "applyRules", "(III)I"⟩
abbrev cX3_mostToldForm : ByteArray := prog_1_method_27_code
def yX3_mostToldForm : MethodName := ⟨RX3, "mostToldForm", "(II)I"⟩
abbrev cX3_countLike : ByteArray := prog_1_method_28_code
def yX3_countLike : MethodName := ⟨RX3, "countLike", "(LDialectAtlas$Interview;)I"⟩
abbrev cX3_drawLines : ByteArray := prog_1_method_29_code
def yX3_drawLines : MethodName := ⟨RX3, "drawLines", "(I)I"⟩
def RX4 : String := "DialectAtlasModel"
def TX4 : u_T := fun k => match k with
  | _ => ("", "", "", false)
def tyX4 : Nat → FieldType := fun k => match k with
  | _ => .int
theorem nmX4 : ∀ a, a < 0 → ∀ b, b < 0 → a ≠ b → (TX4 a).2.1 ≠ (TX4 b).2.1 := by decide +kernel
theorem tyX4_ok : ∀ k, k < 0 → parseFieldDescriptor (TX4 k).2.2.1 = some (tyX4 k) := by decide +kernel
def RJx145de : String := "java/io/Serializable"
def TJx145de : u_T := fun k => match k with
  | _ => ("", "", "", false)
def tyJx145de : Nat → FieldType := fun k => match k with
  | _ => .int
theorem nmJx145de : ∀ a, a < 0 → ∀ b, b < 0 → a ≠ b → (TJx145de a).2.1 ≠ (TJx145de b).2.1 := by decide +kernel
theorem tyJx145de_ok : ∀ k, k < 0 → parseFieldDescriptor (TJx145de k).2.2.1 = some (tyJx145de k) := by decide +kernel
def RJx8e188 : String := "java/lang/Cloneable"
def TJx8e188 : u_T := fun k => match k with
  | _ => ("", "", "", false)
def tyJx8e188 : Nat → FieldType := fun k => match k with
  | _ => .int
theorem nmJx8e188 : ∀ a, a < 0 → ∀ b, b < 0 → a ≠ b → (TJx8e188 a).2.1 ≠ (TJx8e188 b).2.1 := by decide +kernel
theorem tyJx8e188_ok : ∀ k, k < 0 → parseFieldDescriptor (TJx8e188 k).2.2.1 = some (tyJx8e188 k) := by decide +kernel
def RJxab1ab : String := "java/lang/Iterable"
def TJxab1ab : u_T := fun k => match k with
  | _ => ("", "", "", false)
def tyJxab1ab : Nat → FieldType := fun k => match k with
  | _ => .int
theorem nmJxab1ab : ∀ a, a < 0 → ∀ b, b < 0 → a ≠ b → (TJxab1ab a).2.1 ≠ (TJxab1ab b).2.1 := by decide +kernel
theorem tyJxab1ab_ok : ∀ k, k < 0 → parseFieldDescriptor (TJxab1ab k).2.2.1 = some (tyJxab1ab k) := by decide +kernel
def RJ13 : String := "java/lang/Long"
def TJ13 : u_T := fun k => match k with
  | _ => ("", "", "", false)
def tyJ13 : Nat → FieldType := fun k => match k with
  | _ => .int
theorem nmJ13 : ∀ a, a < 0 → ∀ b, b < 0 → a ≠ b → (TJ13 a).2.1 ≠ (TJ13 b).2.1 := by decide +kernel
theorem tyJ13_ok : ∀ k, k < 0 → parseFieldDescriptor (TJ13 k).2.2.1 = some (tyJ13 k) := by decide +kernel
abbrev cJ13_bitCount_95d88 : ByteArray := prog_14_method_50_code
def yJ13_bitCount_95d88 : MethodName := ⟨RJ13, "bitCount", "(J)I"⟩
def RJ9 : String := "java/lang/Math"
def TJ9 : u_T := fun k => match k with
  | _ => ("", "", "", false)
def tyJ9 : Nat → FieldType := fun k => match k with
  | _ => .int
theorem nmJ9 : ∀ a, a < 0 → ∀ b, b < 0 → a ≠ b → (TJ9 a).2.1 ≠ (TJ9 b).2.1 := by decide +kernel
theorem tyJ9_ok : ∀ k, k < 0 → parseFieldDescriptor (TJ9 k).2.2.1 = some (tyJ9 k) := by decide +kernel
abbrev cJ9_max_7cf53 : ByteArray := prog_15_method_65_code
def yJ9_max_7cf53 : MethodName := ⟨RJ9, "max", "(II)I"⟩
abbrev cJ9_min_7cf53 : ByteArray := prog_15_method_69_code
def yJ9_min_7cf53 : MethodName := ⟨RJ9, "min", "(II)I"⟩
def RJ0 : String := "java/lang/String"
def TJ0 : u_T := fun k => match k with
  | _ => ("", "", "", false)
def tyJ0 : Nat → FieldType := fun k => match k with
  | _ => .int
theorem nmJ0 : ∀ a, a < 0 → ∀ b, b < 0 → a ≠ b → (TJ0 a).2.1 ≠ (TJ0 b).2.1 := by decide +kernel
theorem tyJ0_ok : ∀ k, k < 0 → parseFieldDescriptor (TJ0 k).2.2.1 = some (tyJ0 k) := by decide +kernel
def RJ10 : String := "java/lang/System"
def TJ10 : u_T := fun k => match k with
  | _ => ("", "", "", false)
def tyJ10 : Nat → FieldType := fun k => match k with
  | _ => .int
theorem nmJ10 : ∀ a, a < 0 → ∀ b, b < 0 → a ≠ b → (TJ10 a).2.1 ≠ (TJ10 b).2.1 := by decide +kernel
theorem tyJ10_ok : ∀ k, k < 0 → parseFieldDescriptor (TJ10 k).2.2.1 = some (tyJ10 k) := by decide +kernel
def RJxa1e45 : String := "java/util/AbstractCollection"
def TJxa1e45 : u_T := fun k => match k with
  | _ => ("", "", "", false)
def tyJxa1e45 : Nat → FieldType := fun k => match k with
  | _ => .int
theorem nmJxa1e45 : ∀ a, a < 0 → ∀ b, b < 0 → a ≠ b → (TJxa1e45 a).2.1 ≠ (TJxa1e45 b).2.1 := by decide +kernel
theorem tyJxa1e45_ok : ∀ k, k < 0 → parseFieldDescriptor (TJxa1e45 k).2.2.1 = some (tyJxa1e45 k) := by decide +kernel
abbrev cJxa1e45_init_da8c8 : ByteArray := prog_20_method_1_code
def yJxa1e45_init_da8c8 : MethodName := ⟨RJxa1e45, "<init>", "()V"⟩
def RJxc12de : String := "java/util/AbstractList"
def TJxc12de : u_T := fun k => match k with
  | _ => ("", "", "", false)
def tyJxc12de : Nat → FieldType := fun k => match k with
  | _ => .int
theorem nmJxc12de : ∀ a, a < 0 → ∀ b, b < 0 → a ≠ b → (TJxc12de a).2.1 ≠ (TJxc12de b).2.1 := by decide +kernel
theorem tyJxc12de_ok : ∀ k, k < 0 → parseFieldDescriptor (TJxc12de k).2.2.1 = some (tyJxc12de k) := by decide +kernel
abbrev cJxc12de_init_da8c8 : ByteArray := prog_21_method_1_code
def yJxc12de_init_da8c8 : MethodName := ⟨RJxc12de, "<init>", "()V"⟩
def RJx4a65c : String := "java/util/ArrayList"
def TJx4a65c : u_T := fun k => match k with
  | 0 => ("java/util/AbstractList", "modCount", "I", false)
  | 1 => ("java/util/ArrayList", "elementData", "[Ljava/lang/Object;", false)
  | _ => ("java/util/ArrayList", "size", "I", false)
def tyJx4a65c : Nat → FieldType := fun k => match k with
  | 0 => .int
  | 1 => .array (.object "java/lang/Object")
  | _ => .int
theorem nmJx4a65c : ∀ a, a < 3 → ∀ b, b < 3 → a ≠ b → (TJx4a65c a).2.1 ≠ (TJx4a65c b).2.1 := by decide +kernel
theorem tyJx4a65c_ok : ∀ k, k < 3 → parseFieldDescriptor (TJx4a65c k).2.2.1 = some (tyJx4a65c k) := by decide +kernel
abbrev cJx4a65c_init_da8c8 : ByteArray := prog_22_method_2_code
def yJx4a65c_init_da8c8 : MethodName := ⟨RJx4a65c, "<init>", "()V"⟩
abbrev cJx4a65c_grow_92f84 : ByteArray := prog_22_method_6_code
def yJx4a65c_grow_92f84 : MethodName := ⟨RJx4a65c, "grow", "(I)[Ljava/lang/Object;"⟩
abbrev cJx4a65c_grow_d5877 : ByteArray := prog_22_method_7_code
def yJx4a65c_grow_d5877 : MethodName := ⟨RJx4a65c, "grow", "()[Ljava/lang/Object;"⟩
abbrev cJx4a65c_size_8abf5 : ByteArray := prog_22_method_8_code
def yJx4a65c_size_8abf5 : MethodName := ⟨RJx4a65c, "size", "()I"⟩
abbrev cJx4a65c_elementData_915e3 : ByteArray := prog_22_method_18_code
def yJx4a65c_elementData_915e3 : MethodName := ⟨RJx4a65c, "elementData", "(I)Ljava/lang/Object;"⟩
abbrev cJx4a65c_get_915e3 : ByteArray := prog_22_method_20_code
def yJx4a65c_get_915e3 : MethodName := ⟨RJx4a65c, "get", "(I)Ljava/lang/Object;"⟩
abbrev cJx4a65c_add_72be8 : ByteArray := prog_22_method_24_code
def yJx4a65c_add_72be8 : MethodName := ⟨RJx4a65c, "add", "(Ljava/lang/Object;[Ljava/lang/Object;I)V"⟩
abbrev cJx4a65c_add_9ea2d : ByteArray := prog_22_method_25_code
def yJx4a65c_add_9ea2d : MethodName := ⟨RJx4a65c, "add", "(Ljava/lang/Object;)Z"⟩
def RJ7 : String := "java/util/Arrays"
def TJ7 : u_T := fun k => match k with
  | _ => ("", "", "", false)
def tyJ7 : Nat → FieldType := fun k => match k with
  | _ => .int
theorem nmJ7 : ∀ a, a < 0 → ∀ b, b < 0 → a ≠ b → (TJ7 a).2.1 ≠ (TJ7 b).2.1 := by decide +kernel
theorem tyJ7_ok : ∀ k, k < 0 → parseFieldDescriptor (TJ7 k).2.2.1 = some (tyJ7 k) := by decide +kernel
abbrev cJ7_fill_53178 : ByteArray := prog_23_method_103_code
def yJ7_fill_53178 : MethodName := ⟨RJ7, "fill", "([II)V"⟩
abbrev cJ7_copyOf_1904c : ByteArray := prog_23_method_119_code
def yJ7_copyOf_1904c : MethodName := ⟨RJ7, "copyOf", "([Ljava/lang/Object;I)[Ljava/lang/Object;"⟩
abbrev cJ7_copyOf_6403c : ByteArray := prog_23_method_120_code
def yJ7_copyOf_6403c : MethodName := ⟨RJ7, "copyOf", "([Ljava/lang/Object;ILjava/lang/Class;)[Ljava/lang/Object;"⟩
def RJx5ef63 : String := "java/util/Collection"
def TJx5ef63 : u_T := fun k => match k with
  | _ => ("", "", "", false)
def tyJx5ef63 : Nat → FieldType := fun k => match k with
  | _ => .int
theorem nmJx5ef63 : ∀ a, a < 0 → ∀ b, b < 0 → a ≠ b → (TJx5ef63 a).2.1 ≠ (TJx5ef63 b).2.1 := by decide +kernel
theorem tyJx5ef63_ok : ∀ k, k < 0 → parseFieldDescriptor (TJx5ef63 k).2.2.1 = some (tyJx5ef63 k) := by decide +kernel
def RJxbd725 : String := "java/util/List"
def TJxbd725 : u_T := fun k => match k with
  | _ => ("", "", "", false)
def tyJxbd725 : Nat → FieldType := fun k => match k with
  | _ => .int
theorem nmJxbd725 : ∀ a, a < 0 → ∀ b, b < 0 → a ≠ b → (TJxbd725 a).2.1 ≠ (TJxbd725 b).2.1 := by decide +kernel
theorem tyJxbd725_ok : ∀ k, k < 0 → parseFieldDescriptor (TJxbd725 k).2.2.1 = some (tyJxbd725 k) := by decide +kernel
def RJ15 : String := "java/util/Objects"
def TJ15 : u_T := fun k => match k with
  | _ => ("", "", "", false)
def tyJ15 : Nat → FieldType := fun k => match k with
  | _ => .int
theorem nmJ15 : ∀ a, a < 0 → ∀ b, b < 0 → a ≠ b → (TJ15 a).2.1 ≠ (TJ15 b).2.1 := by decide +kernel
theorem tyJ15_ok : ∀ k, k < 0 → parseFieldDescriptor (TJ15 k).2.2.1 = some (tyJ15 k) := by decide +kernel
abbrev cJ15_checkIndex_7cf53 : ByteArray := prog_26_method_17_code
def yJ15_checkIndex_7cf53 : MethodName := ⟨RJ15, "checkIndex", "(II)I"⟩
def RJxf0a74 : String := "java/util/RandomAccess"
def TJxf0a74 : u_T := fun k => match k with
  | _ => ("", "", "", false)
def tyJxf0a74 : Nat → FieldType := fun k => match k with
  | _ => .int
theorem nmJxf0a74 : ∀ a, a < 0 → ∀ b, b < 0 → a ≠ b → (TJxf0a74 a).2.1 ≠ (TJxf0a74 b).2.1 := by decide +kernel
theorem tyJxf0a74_ok : ∀ k, k < 0 → parseFieldDescriptor (TJxf0a74 k).2.2.1 = some (tyJxf0a74 k) := by decide +kernel
def RJxa66e6 : String := "java/util/SequencedCollection"
def TJxa66e6 : u_T := fun k => match k with
  | _ => ("", "", "", false)
def tyJxa66e6 : Nat → FieldType := fun k => match k with
  | _ => .int
theorem nmJxa66e6 : ∀ a, a < 0 → ∀ b, b < 0 → a ≠ b → (TJxa66e6 a).2.1 ≠ (TJxa66e6 b).2.1 := by decide +kernel
theorem tyJxa66e6_ok : ∀ k, k < 0 → parseFieldDescriptor (TJxa66e6 k).2.2.1 = some (tyJxa66e6 k) := by decide +kernel
def RJ8 : String := "jdk/internal/util/ArraysSupport"
def TJ8 : u_T := fun k => match k with
  | _ => ("", "", "", false)
def tyJ8 : Nat → FieldType := fun k => match k with
  | _ => .int
theorem nmJ8 : ∀ a, a < 0 → ∀ b, b < 0 → a ≠ b → (TJ8 a).2.1 ≠ (TJ8 b).2.1 := by decide +kernel
theorem tyJ8_ok : ∀ k, k < 0 → parseFieldDescriptor (TJ8 k).2.2.1 = some (tyJ8 k) := by decide +kernel
abbrev cJ8_newLength_cabcc : ByteArray := prog_29_method_27_code
def yJ8_newLength_cabcc : MethodName := ⟨RJ8, "newLength", "(III)I"⟩
abbrev cJ8_hugeLength_7cf53 : ByteArray := prog_29_method_28_code
def yJ8_hugeLength_7cf53 : MethodName := ⟨RJ8, "hugeLength", "(II)I"⟩
def RJ3 : String := "jdk/internal/util/Preconditions"
def TJ3 : u_T := fun k => match k with
  | _ => ("", "", "", false)
def tyJ3 : Nat → FieldType := fun k => match k with
  | _ => .int
theorem nmJ3 : ∀ a, a < 0 → ∀ b, b < 0 → a ≠ b → (TJ3 a).2.1 ≠ (TJ3 b).2.1 := by decide +kernel
theorem tyJ3_ok : ∀ k, k < 0 → parseFieldDescriptor (TJ3 k).2.2.1 = some (tyJ3 k) := by decide +kernel
abbrev cJ3_checkIndex_8e157 : ByteArray := prog_30_method_11_code
def yJ3_checkIndex_8e157 : MethodName := ⟨RJ3, "checkIndex", "(IILjava/util/function/BiFunction;)I"⟩
def RL : String := "DialectAtlasLaw"
abbrev cL_cell : ByteArray := method_2_code
def yL_cell : MethodName := ⟨RL, "cell", "([II)I"⟩
abbrev cL_low : ByteArray := method_3_code
def yL_low : MethodName := ⟨RL, "low", "(II)I"⟩
abbrev cL_calls : ByteArray := method_4_code
def yL_calls : MethodName := ⟨RL, "calls", "(LDialectAtlas;IIIII)I"⟩
abbrev cL_sounds : ByteArray := method_5_code
def yL_sounds : MethodName := ⟨RL, "sounds", "(I[I)I"⟩
abbrev cL_applied : ByteArray := method_6_code
def yL_applied : MethodName := ⟨RL, "applied", "(II[I)I"⟩
abbrev cL_expected : ByteArray := method_7_code
def yL_expected : MethodName := ⟨RL, "expected", "(III[I[I)I"⟩
abbrev cL_steps : ByteArray := method_8_code
def yL_steps : MethodName := ⟨RL, "steps", "(II[I[I[I)I"⟩
abbrev cL_there : ByteArray := method_9_code
def yL_there : MethodName := ⟨RL, "there", "(III[I[I)Z"⟩
abbrev cL_formAt : ByteArray := method_10_code
def yL_formAt : MethodName := ⟨RL, "formAt", "(II[I[I[I)I"⟩
abbrev cL_bits : ByteArray := method_11_code
def yL_bits : MethodName := ⟨RL, "bits", "(I)I"⟩
abbrev cL_isMap : ByteArray := method_12_code
def yL_isMap : MethodName := ⟨RL, "isMap", "(LDialectAtlas;I[I[I[I)Z"⟩
abbrev cL_isSo : ByteArray := method_13_code
def yL_isSo : MethodName := ⟨RL, "isSo", "(LDialectAtlas;I[I[I[I[I[I[I[I[I)Z"⟩
abbrev cL_drafts : ByteArray := method_14_code
def yL_drafts : MethodName := ⟨RL, "drafts", "(LDialectAtlas;II[I[I[I)Z"⟩
abbrev cL_rules : ByteArray := method_15_code
def yL_rules : MethodName := ⟨RL, "rules", "(LDialectAtlas;II[I[I[I[I[I)Z"⟩
abbrev cL_law : ByteArray := code
def yL_law : MethodName := ⟨RL, "law", "([I)Z"⟩
abbrev vwCl : List vw_C := [(RJx4a65c, TJx4a65c, 3), (RX0, TX0, 6), (RX1, TX1, 8), (RX2, TX2, 1), (RX3, TX3, 10)]
