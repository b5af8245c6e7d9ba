/-! ===== BEGIN printed: names, fields, word lists, decode rows ===== -/
def RX0 : String := "DatamarketDesk$Contracts"
def TX0 : u_T := fun k => match k with
  | 0 => ("DatamarketDesk$Contracts", "count", "I", false)
  | 1 => ("DatamarketDesk$Contracts", "readers", "[I", true)
  | 2 => ("DatamarketDesk$Contracts", "sets", "[I", true)
  | 3 => ("DatamarketDesk$Contracts", "fields", "[I", true)
  | 4 => ("DatamarketDesk$Contracts", "purposes", "[I", true)
  | 5 => ("DatamarketDesk$Contracts", "firstDays", "[I", true)
  | _ => ("DatamarketDesk$Contracts", "lastDays", "[I", true)
def tyX0 : Nat → FieldType := fun k => match k with
  | 0 => .int
  | 1 => .array .int
  | 2 => .array .int
  | 3 => .array .int
  | 4 => .array .int
  | 5 => .array .int
  | _ => .array .int
abbrev wsX00 : List Cond := u_ws RX0 TX0 7
theorem nmX0 : ∀ a, a < 7 → ∀ b, b < 7 → a ≠ b → (TX0 a).2.1 ≠ (TX0 b).2.1 := by decide +kernel
theorem tyX0_ok : ∀ k, k < 7 → parseFieldDescriptor (TX0 k).2.2.1 = some (tyX0 k) := by decide +kernel
abbrev cX0_init : ByteArray := prog_2_method_1_code
def yX0_init : MethodName := ⟨RX0, "<init>", "()V"⟩
abbrev cX0_add : ByteArray := prog_2_method_2_code
def yX0_add : MethodName := ⟨RX0, "add", "(IIIIII)I"⟩
abbrev cX0_isOn : ByteArray := prog_2_method_4_code
def yX0_isOn : MethodName := ⟨RX0, "isOn", "(II)Z"⟩
abbrev cX0_isFor : ByteArray := prog_2_method_5_code
def yX0_isFor : MethodName := ⟨RX0, "isFor", "(IIIII)Z"⟩
abbrev cX0_open : ByteArray := prog_2_method_6_code
def yX0_open : MethodName := ⟨RX0, "open", "(IIIII)I"⟩
abbrev cX0_countOpen : ByteArray := prog_2_method_7_code
def yX0_countOpen : MethodName := ⟨RX0, "countOpen", "(II)I"⟩
def RX1 : String := "DatamarketDesk$Harms"
def TX1 : u_T := fun k => match k with
  | 0 => ("DatamarketDesk$Harms", "own", "[I", true)
  | 1 => ("DatamarketDesk$Harms", "told", "[Z", true)
  | 2 => ("DatamarketDesk$Harms", "now", "[I", true)
  | _ => ("DatamarketDesk$Harms", "trial", "[I", true)
def tyX1 : Nat → FieldType := fun k => match k with
  | 0 => .array .int
  | 1 => .array .boolean
  | 2 => .array .int
  | _ => .array .int
abbrev wsX10 : List Cond := u_ws RX1 TX1 4
theorem nmX1 : ∀ a, a < 4 → ∀ b, b < 4 → a ≠ b → (TX1 a).2.1 ≠ (TX1 b).2.1 := by decide +kernel
theorem tyX1_ok : ∀ k, k < 4 → parseFieldDescriptor (TX1 k).2.2.1 = some (tyX1 k) := by decide +kernel
abbrev cX1_init : ByteArray := prog_3_method_1_code
def yX1_init : MethodName := ⟨RX1, "<init>", "()V"⟩
abbrev cX1_raise : ByteArray := prog_3_method_2_code
def yX1_raise : MethodName := ⟨RX1, "raise", "(II)V"⟩
abbrev cX1_settle : ByteArray := prog_3_method_3_code
def yX1_settle : MethodName := ⟨RX1, "settle", "(LDatamarketDesk$Lineage;)V"⟩
abbrev cX1_tryRaise : ByteArray := prog_3_method_4_code
def yX1_tryRaise : MethodName := ⟨RX1, "tryRaise", "(IILDatamarketDesk$Lineage;)[I"⟩
abbrev cX1_copyOwn : ByteArray := prog_3_method_5_code
def yX1_copyOwn : MethodName := ⟨RX1, "copyOwn", "([I)V"⟩
def RX2 : String := "DatamarketDesk$Lineage"
def TX2 : u_T := fun k => match k with
  | 0 => ("DatamarketDesk$Lineage", "sourceCount", "I", false)
  | 1 => ("DatamarketDesk$Lineage", "sourceChildren", "[I", true)
  | 2 => ("DatamarketDesk$Lineage", "sourceParents", "[I", true)
  | 3 => ("DatamarketDesk$Lineage", "sourceShares", "[I", true)
  | 4 => ("DatamarketDesk$Lineage", "linkCount", "I", false)
  | 5 => ("DatamarketDesk$Lineage", "linkChildren", "[I", true)
  | 6 => ("DatamarketDesk$Lineage", "linkParents", "[I", true)
  | 7 => ("DatamarketDesk$Lineage", "linkShares", "[I", true)
  | _ => ("DatamarketDesk$Lineage", "reached", "[Z", true)
def tyX2 : Nat → FieldType := fun k => match k with
  | 0 => .int
  | 1 => .array .int
  | 2 => .array .int
  | 3 => .array .int
  | 4 => .int
  | 5 => .array .int
  | 6 => .array .int
  | 7 => .array .int
  | _ => .array .boolean
abbrev wsX20 : List Cond := u_ws RX2 TX2 9
theorem nmX2 : ∀ a, a < 9 → ∀ b, b < 9 → a ≠ b → (TX2 a).2.1 ≠ (TX2 b).2.1 := by decide +kernel
theorem tyX2_ok : ∀ k, k < 9 → parseFieldDescriptor (TX2 k).2.2.1 = some (tyX2 k) := by decide +kernel
abbrev cX2_init : ByteArray := prog_4_method_1_code
def yX2_init : MethodName := ⟨RX2, "<init>", "()V"⟩
abbrev cX2_findSource : ByteArray := prog_4_method_2_code
def yX2_findSource : MethodName := ⟨RX2, "findSource", "(II)I"⟩
abbrev cX2_addSource : ByteArray := prog_4_method_3_code
def yX2_addSource : MethodName := ⟨RX2, "addSource", "(III)V"⟩
abbrev cX2_countSources : ByteArray := prog_4_method_4_code
def yX2_countSources : MethodName := ⟨RX2, "countSources", "(I)I"⟩
abbrev cX2_linkVersion : ByteArray := prog_4_method_5_code
def yX2_linkVersion : MethodName := ⟨RX2, "linkVersion", "(LDatamarketDesk$Shelf;II)V"⟩
abbrev cX2_addLink : ByteArray := prog_4_method_6_code
def yX2_addLink : MethodName := ⟨RX2, "addLink", "(III)V"⟩
abbrev cX2_carry : ByteArray := prog_4_method_7_code
def yX2_carry : MethodName := ⟨RX2, "carry", "([I)V"⟩
def RX3 : String := "DatamarketDesk$Reads"
def TX3 : u_T := fun k => match k with
  | 0 => ("DatamarketDesk$Reads", "count", "I", false)
  | 1 => ("DatamarketDesk$Reads", "readers", "[I", true)
  | 2 => ("DatamarketDesk$Reads", "sets", "[I", true)
  | 3 => ("DatamarketDesk$Reads", "versions", "[I", true)
  | 4 => ("DatamarketDesk$Reads", "fields", "[I", true)
  | 5 => ("DatamarketDesk$Reads", "rows", "[I", true)
  | 6 => ("DatamarketDesk$Reads", "purposes", "[I", true)
  | 7 => ("DatamarketDesk$Reads", "days", "[I", true)
  | 8 => ("DatamarketDesk$Reads", "tiers", "[I", true)
  | 9 => ("DatamarketDesk$Reads", "billed", "[I", true)
  | _ => ("DatamarketDesk$Reads", "charges", "[I", true)
def tyX3 : Nat → FieldType := fun k => match k with
  | 0 => .int
  | 1 => .array .int
  | 2 => .array .int
  | 3 => .array .int
  | 4 => .array .int
  | 5 => .array .int
  | 6 => .array .int
  | 7 => .array .int
  | 8 => .array .int
  | 9 => .array .int
  | _ => .array .int
abbrev wsX30 : List Cond := u_ws RX3 TX3 11
theorem nmX3 : ∀ a, a < 11 → ∀ b, b < 11 → a ≠ b → (TX3 a).2.1 ≠ (TX3 b).2.1 := by decide +kernel
theorem tyX3_ok : ∀ k, k < 11 → parseFieldDescriptor (TX3 k).2.2.1 = some (tyX3 k) := by decide +kernel
abbrev cX3_init : ByteArray := prog_5_method_1_code
def yX3_init : MethodName := ⟨RX3, "<init>", "()V"⟩
abbrev cX3_add : ByteArray := prog_5_method_2_code
def yX3_add : MethodName := ⟨RX3, "add", "(IIIIIII)I"⟩
abbrev cX3_tier : ByteArray := prog_5_method_3_code
def yX3_tier : MethodName := ⟨RX3, "tier", "(II)I"⟩
abbrev cX3_unitsOf : ByteArray := prog_5_method_4_code
def yX3_unitsOf : MethodName := ⟨RX3, "unitsOf", "(I)I"⟩
abbrev cX3_unitsInPeriod : ByteArray := prog_5_method_5_code
def yX3_unitsInPeriod : MethodName := ⟨RX3, "unitsInPeriod", "(II)I"⟩
abbrev cX3_chargeOf : ByteArray := prog_5_method_6_code
def yX3_chargeOf : MethodName := ⟨RX3, "chargeOf", "(I)I"⟩
abbrev cX3_creditOf : ByteArray := prog_5_method_7_code
def yX3_creditOf : MethodName := ⟨RX3, "creditOf", "(I[I)I"⟩
abbrev cX3_worthOf : ByteArray := prog_5_method_8_code
def yX3_worthOf : MethodName := ⟨RX3, "worthOf", "(I[I)I"⟩
abbrev cX3_isOf : ByteArray := prog_5_method_9_code
def yX3_isOf : MethodName := ⟨RX3, "isOf", "(III)Z"⟩
abbrev cX3_count : ByteArray := prog_5_method_10_code
def yX3_count : MethodName := ⟨RX3, "count", "(II)I"⟩
abbrev cX3_charge : ByteArray := prog_5_method_11_code
def yX3_charge : MethodName := ⟨RX3, "charge", "(II)I"⟩
abbrev cX3_credit : ByteArray := prog_5_method_12_code
def yX3_credit : MethodName := ⟨RX3, "credit", "(II[I)I"⟩
abbrev cX3_billedTo : ByteArray := prog_5_method_13_code
def yX3_billedTo : MethodName := ⟨RX3, "billedTo", "(I)I"⟩
abbrev cX3_due : ByteArray := prog_5_method_14_code
def yX3_due : MethodName := ⟨RX3, "due", "(I[I)I"⟩
abbrev cX3_settle : ByteArray := prog_5_method_15_code
def yX3_settle : MethodName := ⟨RX3, "settle", "(I[I)V"⟩
def RX4 : String := "DatamarketDesk$Shelf"
def TX4 : u_T := fun k => match k with
  | 0 => ("DatamarketDesk$Shelf", "setCount", "I", false)
  | 1 => ("DatamarketDesk$Shelf", "fields", "[I", true)
  | 2 => ("DatamarketDesk$Shelf", "versions", "[I", true)
  | 3 => ("DatamarketDesk$Shelf", "rows", "[I", true)
  | 4 => ("DatamarketDesk$Shelf", "prices", "[I", true)
  | _ => ("DatamarketDesk$Shelf", "rules", "[I", true)
def tyX4 : Nat → FieldType := fun k => match k with
  | 0 => .int
  | 1 => .array .int
  | 2 => .array .int
  | 3 => .array .int
  | 4 => .array .int
  | _ => .array .int
abbrev wsX40 : List Cond := u_ws RX4 TX4 6
theorem nmX4 : ∀ a, a < 6 → ∀ b, b < 6 → a ≠ b → (TX4 a).2.1 ≠ (TX4 b).2.1 := by decide +kernel
theorem tyX4_ok : ∀ k, k < 6 → parseFieldDescriptor (TX4 k).2.2.1 = some (tyX4 k) := by decide +kernel
abbrev cX4_init : ByteArray := prog_6_method_1_code
def yX4_init : MethodName := ⟨RX4, "<init>", "()V"⟩
abbrev cX4_addSet : ByteArray := prog_6_method_2_code
def yX4_addSet : MethodName := ⟨RX4, "addSet", "(I)I"⟩
abbrev cX4_addVersion : ByteArray := prog_6_method_3_code
def yX4_addVersion : MethodName := ⟨RX4, "addVersion", "(II)I"⟩
abbrev cX4_hasSet : ByteArray := prog_6_method_4_code
def yX4_hasSet : MethodName := ⟨RX4, "hasSet", "(I)Z"⟩
abbrev cX4_allFields : ByteArray := prog_6_method_5_code
def yX4_allFields : MethodName := ⟨RX4, "allFields", "(I)I"⟩
abbrev cX4_latestVersion : ByteArray := prog_6_method_6_code
def yX4_latestVersion : MethodName := ⟨RX4, "latestVersion", "(I)I"⟩
abbrev cX4_latestRows : ByteArray := prog_6_method_7_code
def yX4_latestRows : MethodName := ⟨RX4, "latestRows", "(I)I"⟩
abbrev cX4_allVersions : ByteArray := prog_6_method_8_code
def yX4_allVersions : MethodName := ⟨RX4, "allVersions", "()I"⟩
abbrev cX4_fieldCharge : ByteArray := prog_6_method_9_code
def yX4_fieldCharge : MethodName := ⟨RX4, "fieldCharge", "(IIII)I"⟩
def RX5 : String := "DatamarketDesk"
def TX5 : u_T := fun k => match k with
  | 0 => ("DatamarketDesk", "shelf", "LDatamarketDesk$Shelf;", true)
  | 1 => ("DatamarketDesk", "lineage", "LDatamarketDesk$Lineage;", true)
  | 2 => ("DatamarketDesk", "harms", "LDatamarketDesk$Harms;", true)
  | 3 => ("DatamarketDesk", "contracts", "LDatamarketDesk$Contracts;", true)
  | 4 => ("DatamarketDesk", "reads", "LDatamarketDesk$Reads;", true)
  | 5 => ("DatamarketDesk", "previewed", "[I", true)
  | _ => ("DatamarketDesk", "today", "I", false)
def tyX5 : Nat → FieldType := fun k => match k with
  | 0 => .object "DatamarketDesk$Shelf"
  | 1 => .object "DatamarketDesk$Lineage"
  | 2 => .object "DatamarketDesk$Harms"
  | 3 => .object "DatamarketDesk$Contracts"
  | 4 => .object "DatamarketDesk$Reads"
  | 5 => .array .int
  | _ => .int
abbrev wsX50 : List Cond := u_ws RX5 TX5 7
theorem nmX5 : ∀ a, a < 7 → ∀ b, b < 7 → a ≠ b → (TX5 a).2.1 ≠ (TX5 b).2.1 := by decide +kernel
theorem tyX5_ok : ∀ k, k < 7 → parseFieldDescriptor (TX5 k).2.2.1 = some (tyX5 k) := by decide +kernel
abbrev cX5_init : ByteArray := prog_1_method_1_code
def yX5_init : MethodName := ⟨RX5, "<init>", "()V"⟩
abbrev cX5_set : ByteArray := prog_1_method_2_code
def yX5_set : MethodName := ⟨RX5, "set", "(I)I"⟩
abbrev cX5_terms : ByteArray := prog_1_method_3_code
def yX5_terms : MethodName := ⟨RX5, "terms", "(IIII)I"⟩
abbrev cX5_source : ByteArray := prog_1_method_4_code
def yX5_source : MethodName := ⟨RX5, "source", "(IIIII)I"⟩
abbrev cX5_version : ByteArray := prog_1_method_5_code
def yX5_version : MethodName := ⟨RX5, "version", "(II)I"⟩
abbrev cX5_report : ByteArray := prog_1_method_7_code
def yX5_report : MethodName := ⟨RX5, "report", "(IIII)I"⟩
abbrev cX5_harm : ByteArray := prog_1_method_8_code
def yX5_harm : MethodName := ⟨RX5, "harm", "(III)I"⟩
abbrev cX5_ofSet : ByteArray := prog_1_method_9_code
def yX5_ofSet : MethodName := ⟨RX5, "ofSet", "(II)I"⟩
abbrev cX5_contract : ByteArray := prog_1_method_11_code
def yX5_contract : MethodName := ⟨RX5, "contract", "(IIIIII)I"⟩
abbrev cX5_covered : ByteArray := prog_1_method_13_code
def yX5_covered : MethodName := ⟨RX5, "covered", "(IIII)I"⟩
abbrev cX5_read : ByteArray := prog_1_method_14_code
def yX5_read : MethodName := ⟨RX5, "read", "(IIIII)I"⟩
abbrev cX5_preview : ByteArray := prog_1_method_15_code
def yX5_preview : MethodName := ⟨RX5, "preview", "(III)I"⟩
abbrev cX5_ofRead : ByteArray := prog_1_method_16_code
def yX5_ofRead : MethodName := ⟨RX5, "ofRead", "(II)I"⟩
abbrev cX5_ofReader : ByteArray := prog_1_method_17_code
def yX5_ofReader : MethodName := ⟨RX5, "ofReader", "(II)I"⟩
abbrev cX5_bill : ByteArray := prog_1_method_18_code
def yX5_bill : MethodName := ⟨RX5, "bill", "(I)I"⟩
abbrev cX5_pass : ByteArray := prog_1_method_19_code
def yX5_pass : MethodName := ⟨RX5, "pass", "(I)I"⟩
abbrev cX5_many : ByteArray := prog_1_method_20_code
def yX5_many : MethodName := ⟨RX5, "many", "(I)I"⟩
abbrev cX5_quote : ByteArray := prog_1_method_22_code
def yX5_quote : MethodName := ⟨RX5, "quote", "(IIII)I"⟩
abbrev cX5_creditBy : ByteArray := prog_1_method_23_code
def yX5_creditBy : MethodName := ⟨RX5, "creditBy", "(IIII)I"⟩
abbrev cX5_previews : ByteArray := prog_1_method_24_code
def yX5_previews : MethodName := ⟨RX5, "previews", "(II)I"⟩
abbrev cX5_neededBy : ByteArray := prog_1_method_25_code
def yX5_neededBy : MethodName := ⟨RX5, "neededBy", "(I)I"⟩
abbrev cX5_digest : ByteArray := prog_1_method_26_code
def yX5_digest : MethodName := ⟨RX5, "digest", "()J"⟩
abbrev cX5_digestSet : ByteArray := prog_1_method_27_code
def yX5_digestSet : MethodName := ⟨RX5, "digestSet", "(JI)J"⟩
abbrev cX5_digestReader : ByteArray := prog_1_method_28_code
def yX5_digestReader : MethodName := ⟨RX5, "digestReader", "(JI)J"⟩
abbrev cX5_harmedFields : ByteArray := prog_1_method_29_code
def yX5_harmedFields : MethodName := ⟨RX5, "harmedFields", "(I)I"⟩
abbrev cX5_creditGain : ByteArray := prog_1_method_30_code
def yX5_creditGain : MethodName := ⟨RX5, "creditGain", "(II)I"⟩
abbrev cX5_enterRead : ByteArray := prog_1_method_31_code
def yX5_enterRead : MethodName := ⟨RX5, "enterRead", "(IIIII)I"⟩
abbrev cX5_openToday : ByteArray := prog_1_method_32_code
def yX5_openToday : MethodName := ⟨RX5, "openToday", "(II)I"⟩
abbrev cX5_mayBeSeen : ByteArray := prog_1_method_33_code
def yX5_mayBeSeen : MethodName := ⟨RX5, "mayBeSeen", "(III)Z"⟩
abbrev cX5_needsContract : ByteArray := prog_1_method_34_code
def yX5_needsContract : MethodName := ⟨RX5, "needsContract", "(II)Z"⟩
abbrev cX5_needSet : ByteArray := prog_1_method_35_code
def yX5_needSet : MethodName := ⟨RX5, "needSet", "(I)V"⟩
abbrev cX5_needField : ByteArray := prog_1_method_36_code
def yX5_needField : MethodName := ⟨RX5, "needField", "(II)V"⟩
abbrev cX5_needPlace : ByteArray := prog_1_method_37_code
def yX5_needPlace : MethodName := ⟨RX5, "needPlace", "(III)V"⟩
abbrev cX5_needFields : ByteArray := prog_1_method_38_code
def yX5_needFields : MethodName := ⟨RX5, "needFields", "(II)V"⟩
abbrev cX5_needHarm : ByteArray := prog_1_method_39_code
def yX5_needHarm : MethodName := ⟨RX5, "needHarm", "(I)V"⟩
abbrev cX5_needReader : ByteArray := prog_1_method_40_code
def yX5_needReader : MethodName := ⟨RX5, "needReader", "(I)V"⟩
abbrev cX5_needPurpose : ByteArray := prog_1_method_41_code
def yX5_needPurpose : MethodName := ⟨RX5, "needPurpose", "(I)V"⟩
abbrev cX5_needContract : ByteArray := prog_1_method_42_code
def yX5_needContract : MethodName := ⟨RX5, "needContract", "(I)V"⟩
abbrev cX5_has : ByteArray := prog_1_method_43_code
def yX5_has : MethodName := ⟨RX5, "has", "(II)Z"⟩
abbrev cX5_fieldAt : ByteArray := prog_1_method_44_code
def yX5_fieldAt : MethodName := ⟨RX5, "fieldAt", "(II)I"⟩
abbrev cX5_versionAt : ByteArray := prog_1_method_45_code
def yX5_versionAt : MethodName := ⟨RX5, "versionAt", "(II)I"⟩
abbrev cX5_placeAt : ByteArray := prog_1_method_46_code
def yX5_placeAt : MethodName := ⟨RX5, "placeAt", "(III)I"⟩
abbrev cX5_chargeAt : ByteArray := prog_1_method_47_code
def yX5_chargeAt : MethodName := ⟨RX5, "chargeAt", "(II)I"⟩
abbrev cX5_previewAt : ByteArray := prog_1_method_48_code
def yX5_previewAt : MethodName := ⟨RX5, "previewAt", "(II)I"⟩
def RX6 : String := "DatamarketDeskModel$Contract"
def TX6 : u_T := fun k => match k with
  | _ => ("", "", "", false)
def tyX6 : Nat → FieldType := fun k => match k with
  | _ => .int
abbrev wsX60 : List Cond := u_ws RX6 TX6 0
theorem nmX6 : ∀ a, a < 0 → ∀ b, b < 0 → a ≠ b → (TX6 a).2.1 ≠ (TX6 b).2.1 := by decide +kernel
theorem tyX6_ok : ∀ k, k < 0 → parseFieldDescriptor (TX6 k).2.2.1 = some (tyX6 k) := by decide +kernel
def RX7 : String := "DatamarketDeskModel$DataSet"
def TX7 : u_T := fun k => match k with
  | _ => ("", "", "", false)
def tyX7 : Nat → FieldType := fun k => match k with
  | _ => .int
abbrev wsX70 : List Cond := u_ws RX7 TX7 0
theorem nmX7 : ∀ a, a < 0 → ∀ b, b < 0 → a ≠ b → (TX7 a).2.1 ≠ (TX7 b).2.1 := by decide +kernel
theorem tyX7_ok : ∀ k, k < 0 → parseFieldDescriptor (TX7 k).2.2.1 = some (tyX7 k) := by decide +kernel
def RX8 : String := "DatamarketDeskModel$Link"
def TX8 : u_T := fun k => match k with
  | _ => ("", "", "", false)
def tyX8 : Nat → FieldType := fun k => match k with
  | _ => .int
abbrev wsX80 : List Cond := u_ws RX8 TX8 0
theorem nmX8 : ∀ a, a < 0 → ∀ b, b < 0 → a ≠ b → (TX8 a).2.1 ≠ (TX8 b).2.1 := by decide +kernel
theorem tyX8_ok : ∀ k, k < 0 → parseFieldDescriptor (TX8 k).2.2.1 = some (tyX8 k) := by decide +kernel
def RX9 : String := "DatamarketDeskModel$Read"
def TX9 : u_T := fun k => match k with
  | _ => ("", "", "", false)
def tyX9 : Nat → FieldType := fun k => match k with
  | _ => .int
abbrev wsX90 : List Cond := u_ws RX9 TX9 0
theorem nmX9 : ∀ a, a < 0 → ∀ b, b < 0 → a ≠ b → (TX9 a).2.1 ≠ (TX9 b).2.1 := by decide +kernel
theorem tyX9_ok : ∀ k, k < 0 → parseFieldDescriptor (TX9 k).2.2.1 = some (tyX9 k) := by decide +kernel
def RX10 : String := "DatamarketDeskModel$Source"
def TX10 : u_T := fun k => match k with
  | _ => ("", "", "", false)
def tyX10 : Nat → FieldType := fun k => match k with
  | _ => .int
abbrev wsX100 : List Cond := u_ws RX10 TX10 0
theorem nmX10 : ∀ a, a < 0 → ∀ b, b < 0 → a ≠ b → (TX10 a).2.1 ≠ (TX10 b).2.1 := by decide +kernel
theorem tyX10_ok : ∀ k, k < 0 → parseFieldDescriptor (TX10 k).2.2.1 = some (tyX10 k) := by decide +kernel
def RX11 : String := "DatamarketDeskModel$Version"
def TX11 : u_T := fun k => match k with
  | _ => ("", "", "", false)
def tyX11 : Nat → FieldType := fun k => match k with
  | _ => .int
abbrev wsX110 : List Cond := u_ws RX11 TX11 0
theorem nmX11 : ∀ a, a < 0 → ∀ b, b < 0 → a ≠ b → (TX11 a).2.1 ≠ (TX11 b).2.1 := by decide +kernel
theorem tyX11_ok : ∀ k, k < 0 → parseFieldDescriptor (TX11 k).2.2.1 = some (tyX11 k) := by decide +kernel
def RX12 : String := "DatamarketDeskModel"
def TX12 : u_T := fun k => match k with
  | _ => ("", "", "", false)
def tyX12 : Nat → FieldType := fun k => match k with
  | _ => .int
abbrev wsX120 : List Cond := u_ws RX12 TX12 0
theorem nmX12 : ∀ a, a < 0 → ∀ b, b < 0 → a ≠ b → (TX12 a).2.1 ≠ (TX12 b).2.1 := by decide +kernel
theorem tyX12_ok : ∀ k, k < 0 → parseFieldDescriptor (TX12 k).2.2.1 = some (tyX12 k) := by decide +kernel
def RJx145de : String := "java/io/Serializable"
def TJx145de : u_T := fun k => match k with
  | _ => ("", "", "", false)
def tyJx145de : Nat → FieldType := fun k => match k with
  | _ => .int
abbrev wsJx145de0 : List Cond := u_ws RJx145de TJx145de 0
theorem nmJx145de : ∀ a, a < 0 → ∀ b, b < 0 → a ≠ b → (TJx145de a).2.1 ≠ (TJx145de b).2.1 := by decide +kernel
theorem tyJx145de_ok : ∀ k, k < 0 → parseFieldDescriptor (TJx145de k).2.2.1 = some (tyJx145de k) := by decide +kernel
def RJ6 : String := "java/lang/Integer"
def TJ6 : u_T := fun k => match k with
  | _ => ("", "", "", false)
def tyJ6 : Nat → FieldType := fun k => match k with
  | _ => .int
abbrev wsJ60 : List Cond := u_ws RJ6 TJ6 0
theorem nmJ6 : ∀ a, a < 0 → ∀ b, b < 0 → a ≠ b → (TJ6 a).2.1 ≠ (TJ6 b).2.1 := by decide +kernel
theorem tyJ6_ok : ∀ k, k < 0 → parseFieldDescriptor (TJ6 k).2.2.1 = some (tyJ6 k) := by decide +kernel
abbrev cJ6_bitCount_0f7a4 : ByteArray := prog_19_method_49_code
def yJ6_bitCount_0f7a4 : MethodName := ⟨RJ6, "bitCount", "(I)I"⟩
def RJ9 : String := "java/lang/Math"
def TJ9 : u_T := fun k => match k with
  | _ => ("", "", "", false)
def tyJ9 : Nat → FieldType := fun k => match k with
  | _ => .int
abbrev wsJ90 : List Cond := u_ws RJ9 TJ9 0
theorem nmJ9 : ∀ a, a < 0 → ∀ b, b < 0 → a ≠ b → (TJ9 a).2.1 ≠ (TJ9 b).2.1 := by decide +kernel
theorem tyJ9_ok : ∀ k, k < 0 → parseFieldDescriptor (TJ9 k).2.2.1 = some (tyJ9 k) := by decide +kernel
abbrev cJ9_max_7cf53 : ByteArray := prog_20_method_65_code
def yJ9_max_7cf53 : MethodName := ⟨RJ9, "max", "(II)I"⟩
abbrev cJ9_min_7cf53 : ByteArray := prog_20_method_69_code
def yJ9_min_7cf53 : MethodName := ⟨RJ9, "min", "(II)I"⟩
def RJ0 : String := "java/lang/String"
def TJ0 : u_T := fun k => match k with
  | _ => ("", "", "", false)
def tyJ0 : Nat → FieldType := fun k => match k with
  | _ => .int
abbrev wsJ00 : List Cond := u_ws RJ0 TJ0 0
theorem nmJ0 : ∀ a, a < 0 → ∀ b, b < 0 → a ≠ b → (TJ0 a).2.1 ≠ (TJ0 b).2.1 := by decide +kernel
theorem tyJ0_ok : ∀ k, k < 0 → parseFieldDescriptor (TJ0 k).2.2.1 = some (tyJ0 k) := by decide +kernel
def RL : String := "DatamarketDeskLaw"
abbrev cL_below : ByteArray := method_2_code
def yL_below : MethodName := ⟨RL, "below", "(II)I"⟩
abbrev cL_cell : ByteArray := method_3_code
def yL_cell : MethodName := ⟨RL, "cell", "([II)I"⟩
abbrev cL_law : ByteArray := code
def yL_law : MethodName := ⟨RL, "law", "([I)Z"⟩
abbrev cL_preview : ByteArray := method_5_code
def yL_preview : MethodName := ⟨RL, "preview", "(LDatamarketDesk;III)I"⟩
abbrev cL_isFair : ByteArray := method_6_code
def yL_isFair : MethodName := ⟨RL, "isFair", "(LDatamarketDesk;I)Z"⟩
abbrev vwCl : List vw_C := [(RX0, TX0, 7), (RX1, TX1, 4), (RX2, TX2, 9), (RX3, TX3, 11), (RX4, TX4, 6), (RX5, TX5, 7)]
