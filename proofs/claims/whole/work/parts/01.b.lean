/-! ===== BEGIN printed: names, fields, word lists, decode rows ===== -/
def RX0 : String := "DatamarketDesk$Contracts"
def TX0 : u_T := fun k => match k with
  | 0 => ("DatamarketDesk$Contracts", "count", "I", false)
  | 1 => ("DatamarketDesk$Contracts", "readers", "[I", true)
  | 2 => ("DatamarketDesk$Contracts", "sets", "[I", true)
  | 3 => ("DatamarketDesk$Contracts", "fields", "[I", true)
  | 4 => ("DatamarketDesk$Contracts", "purposes", "[I", true)
  | 5 => ("DatamarketDesk$Contracts", "firstDays", "[I", true)
  | _ => ("DatamarketDesk$Contracts", "lastDays", "[I", true)
def tyX0 : Nat → FieldType := fun k => match k with
  | 0 => .int
  | 1 => .array .int
  | 2 => .array .int
  | 3 => .array .int
  | 4 => .array .int
  | 5 => .array .int
  | _ => .array .int
abbrev wsX00 : List Cond := u_ws RX0 TX0 7
theorem nmX0 : ∀ a, a < 7 → ∀ b, b < 7 → a ≠ b → (TX0 a).2.1 ≠ (TX0 b).2.1 := by decide +kernel
theorem tyX0_ok : ∀ k, k < 7 → parseFieldDescriptor (TX0 k).2.2.1 = some (tyX0 k) := by decide +kernel
abbrev cX0_init : ByteArray := prog_2_method_1_code
def yX0_init : MethodName := ⟨RX0, "<init>", "()V"⟩
abbrev cX0_add : ByteArray := prog_2_method_2_code
def yX0_add : MethodName := ⟨RX0, "add", "(IIIIII)I"⟩
abbrev cX0_cut : ByteArray := prog_2_method_3_code
def yX0_cut : MethodName := ⟨RX0, "cut", "(II)I"⟩
abbrev cX0_isOn : ByteArray := prog_2_method_4_code
def yX0_isOn : MethodName := ⟨RX0, "isOn", "(II)Z"⟩
abbrev cX0_isFor : ByteArray := prog_2_method_5_code
def yX0_isFor : MethodName := ⟨RX0, "isFor", "(IIIII)Z"⟩
abbrev cX0_open : ByteArray := prog_2_method_6_code
def yX0_open : MethodName := ⟨RX0, "open", "(IIIII)I"⟩
abbrev cX0_countOpen : ByteArray := prog_2_method_7_code
def yX0_countOpen : MethodName := ⟨RX0, "countOpen", "(II)I"⟩
def RX1 : String := "DatamarketDesk$Harms"
def TX1 : u_T := fun k => match k with
  | 0 => ("DatamarketDesk$Harms", "own", "[I", true)
  | 1 => ("DatamarketDesk$Harms", "told", "[Z", true)
  | 2 => ("DatamarketDesk$Harms", "now", "[I", true)
  | _ => ("DatamarketDesk$Harms", "trial", "[I", true)
def tyX1 : Nat → FieldType := fun k => match k with
  | 0 => .array .int
  | 1 => .array .boolean
  | 2 => .array .int
  | _ => .array .int
abbrev wsX10 : List Cond := u_ws RX1 TX1 4
theorem nmX1 : ∀ a, a < 4 → ∀ b, b < 4 → a ≠ b → (TX1 a).2.1 ≠ (TX1 b).2.1 := by decide +kernel
theorem tyX1_ok : ∀ k, k < 4 → parseFieldDescriptor (TX1 k).2.2.1 = some (tyX1 k) := by decide +kernel
abbrev cX1_init : ByteArray := prog_3_method_1_code
def yX1_init : MethodName := ⟨RX1, "<init>", "()V"⟩
abbrev cX1_raise : ByteArray := prog_3_method_2_code
def yX1_raise : MethodName := ⟨RX1, "raise", "(II)V"⟩
abbrev cX1_settle : ByteArray := prog_3_method_3_code
def yX1_settle : MethodName := ⟨RX1, "settle", "(LDatamarketDesk$Lineage;)V"⟩
abbrev cX1_tryRaise : ByteArray := prog_3_method_4_code
def yX1_tryRaise : MethodName := ⟨RX1, "tryRaise", "(IILDatamarketDesk$Lineage;)[I"⟩
abbrev cX1_copyOwn : ByteArray := prog_3_method_5_code
def yX1_copyOwn : MethodName := ⟨RX1, "copyOwn", "([I)V"⟩
def RX2 : String := "DatamarketDesk$Lineage"
def TX2 : u_T := fun k => match k with
  | 0 => ("DatamarketDesk$Lineage", "sourceCount", "I", false)
  | 1 => ("DatamarketDesk$Lineage", "sourceChildren", "[I", true)
  | 2 => ("DatamarketDesk$Lineage", "sourceParents", "[I", true)
  | 3 => ("DatamarketDesk$Lineage", "sourceShares", "[I", true)
  | 4 => ("DatamarketDesk$Lineage", "linkCount", "I", false)
  | 5 => ("DatamarketDesk$Lineage", "linkChildren", "[I", true)
  | 6 => ("DatamarketDesk$Lineage", "linkParents", "[I", true)
  | 7 => ("DatamarketDesk$Lineage", "linkShares", "[I", true)
  | _ => ("DatamarketDesk$Lineage", "reached", "[Z", true)
def tyX2 : Nat → FieldType := fun k => match k with
  | 0 => .int
  | 1 => .array .int
  | 2 => .array .int
  | 3 => .array .int
  | 4 => .int
  | 5 => .array .int
  | 6 => .array .int
  | 7 => .array .int
  | _ => .array .boolean
abbrev wsX20 : List Cond := u_ws RX2 TX2 9
theorem nmX2 : ∀ a, a < 9 → ∀ b, b < 9 → a ≠ b → (TX2 a).2.1 ≠ (TX2 b).2.1 := by decide +kernel
theorem tyX2_ok : ∀ k, k < 9 → parseFieldDescriptor (TX2 k).2.2.1 = some (tyX2 k) := by decide +kernel
abbrev cX2_init : ByteArray := prog_4_method_1_code
def yX2_init : MethodName := ⟨RX2, "<init>", "()V"⟩
abbrev cX2_findSource : ByteArray := prog_4_method_2_code
def yX2_findSource : MethodName := ⟨RX2, "findSource", "(II)I"⟩
abbrev cX2_addSource : ByteArray := prog_4_method_3_code
def yX2_addSource : MethodName := ⟨RX2, "addSource", "(III)V"⟩
abbrev cX2_countSources : ByteArray := prog_4_method_4_code
def yX2_countSources : MethodName := ⟨RX2, "countSources", "(I)I"⟩
abbrev cX2_linkVersion : ByteArray := prog_4_method_5_code
def yX2_linkVersion : MethodName := ⟨RX2, "linkVersion", "(LDatamarketDesk$Shelf;II)V"⟩
abbrev cX2_addLink : ByteArray := prog_4_method_6_code
def yX2_addLink : MethodName := ⟨RX2, "addLink", "(III)V"⟩
abbrev cX2_carry : ByteArray := prog_4_method_7_code
def yX2_carry : MethodName := ⟨RX2, "carry", "([I)V"⟩
abbrev cX2_leadsTo : ByteArray := prog_4_method_8_code
def yX2_leadsTo : MethodName := ⟨RX2, "leadsTo", "(II)Z"⟩
def RX3 : String := "DatamarketDesk$Reads"
def TX3 : u_T := fun k => match k with
  | 0 => ("DatamarketDesk$Reads", "count", "I", false)
  | 1 => ("DatamarketDesk$Reads", "readers", "[I", true)
  | 2 => ("DatamarketDesk$Reads", "sets", "[I", true)
  | 3 => ("DatamarketDesk$Reads", "versions", "[I", true)
  | 4 => ("DatamarketDesk$Reads", "fields", "[I", true)
  | 5 => ("DatamarketDesk$Reads", "rows", "[I", true)
  | 6 => ("DatamarketDesk$Reads", "purposes", "[I", true)
  | 7 => ("DatamarketDesk$Reads", "days", "[I", true)
  | 8 => ("DatamarketDesk$Reads", "tiers", "[I", true)
  | 9 => ("DatamarketDesk$Reads", "billed", "[I", true)
  | _ => ("DatamarketDesk$Reads", "charges", "[I", true)
def tyX3 : Nat → FieldType := fun k => match k with
  | 0 => .int
  | 1 => .array .int
  | 2 => .array .int
  | 3 => .array .int
  | 4 => .array .int
  | 5 => .array .int
  | 6 => .array .int
  | 7 => .array .int
  | 8 => .array .int
  | 9 => .array .int
  | _ => .array .int
abbrev wsX30 : List Cond := u_ws RX3 TX3 11
theorem nmX3 : ∀ a, a < 11 → ∀ b, b < 11 → a ≠ b → (TX3 a).2.1 ≠ (TX3 b).2.1 := by decide +kernel
theorem tyX3_ok : ∀ k, k < 11 → parseFieldDescriptor (TX3 k).2.2.1 = some (tyX3 k) := by decide +kernel
abbrev cX3_init : ByteArray := prog_5_method_1_code
def yX3_init : MethodName := ⟨RX3, "<init>", "()V"⟩
abbrev cX3_add : ByteArray := prog_5_method_2_code
def yX3_add : MethodName := ⟨RX3, "add", "(IIIIIII)I"⟩
abbrev cX3_tier : ByteArray := prog_5_method_3_code
def yX3_tier : MethodName := ⟨RX3, "tier", "(II)I"⟩
abbrev cX3_unitsOf : ByteArray := prog_5_method_4_code
def yX3_unitsOf : MethodName := ⟨RX3, "unitsOf", "(I)I"⟩
abbrev cX3_unitsInPeriod : ByteArray := prog_5_method_5_code
def yX3_unitsInPeriod : MethodName := ⟨RX3, "unitsInPeriod", "(II)I"⟩
abbrev cX3_chargeOf : ByteArray := prog_5_method_6_code
def yX3_chargeOf : MethodName := ⟨RX3, "chargeOf", "(I)I"⟩
abbrev cX3_creditOf : ByteArray := prog_5_method_7_code
def yX3_creditOf : MethodName := ⟨RX3, "creditOf", "(I[I)I"⟩
abbrev cX3_worthOf : ByteArray := prog_5_method_8_code
def yX3_worthOf : MethodName := ⟨RX3, "worthOf", "(I[I)I"⟩
abbrev cX3_isOf : ByteArray := prog_5_method_9_code
def yX3_isOf : MethodName := ⟨RX3, "isOf", "(III)Z"⟩
abbrev cX3_count : ByteArray := prog_5_method_10_code
def yX3_count : MethodName := ⟨RX3, "count", "(II)I"⟩
abbrev cX3_charge : ByteArray := prog_5_method_11_code
def yX3_charge : MethodName := ⟨RX3, "charge", "(II)I"⟩
abbrev cX3_credit : ByteArray := prog_5_method_12_code
def yX3_credit : MethodName := ⟨RX3, "credit", "(II[I)I"⟩
abbrev cX3_billedTo : ByteArray := prog_5_method_13_code
def yX3_billedTo : MethodName := ⟨RX3, "billedTo", "(I)I"⟩
abbrev cX3_due : ByteArray := prog_5_method_14_code
def yX3_due : MethodName := ⟨RX3, "due", "(I[I)I"⟩
abbrev cX3_settle : ByteArray := prog_5_method_15_code
def yX3_settle : MethodName := ⟨RX3, "settle", "(I[I)V"⟩
def RX4 : String := "DatamarketDesk$Shelf"
def TX4 : u_T := fun k => match k with
  | 0 => ("DatamarketDesk$Shelf", "setCount", "I", false)
  | 1 => ("DatamarketDesk$Shelf", "fields", "[I", true)
  | 2 => ("DatamarketDesk$Shelf", "versions", "[I", true)
  | 3 => ("DatamarketDesk$Shelf", "rows", "[I", true)
  | 4 => ("DatamarketDesk$Shelf", "prices", "[I", true)
  | _ => ("DatamarketDesk$Shelf", "rules", "[I", true)
def tyX4 : Nat → FieldType := fun k => match k with
  | 0 => .int
  | 1 => .array .int
  | 2 => .array .int
  | 3 => .array .int
  | 4 => .array .int
  | _ => .array .int
abbrev wsX40 : List Cond := u_ws RX4 TX4 6
theorem nmX4 : ∀ a, a < 6 → ∀ b, b < 6 → a ≠ b → (TX4 a).2.1 ≠ (TX4 b).2.1 := by decide +kernel
theorem tyX4_ok : ∀ k, k < 6 → parseFieldDescriptor (TX4 k).2.2.1 = some (tyX4 k) := by decide +kernel
abbrev cX4_init : ByteArray := prog_6_method_1_code
def yX4_init : MethodName := ⟨RX4, "<init>", "()V"⟩
abbrev cX4_addSet : ByteArray := prog_6_method_2_code
def yX4_addSet : MethodName := ⟨RX4, "addSet", "(I)I"⟩
abbrev cX4_addVersion : ByteArray := prog_6_method_3_code
def yX4_addVersion : MethodName := ⟨RX4, "addVersion", "(II)I"⟩
abbrev cX4_hasSet : ByteArray := prog_6_method_4_code
def yX4_hasSet : MethodName := ⟨RX4, "hasSet", "(I)Z"⟩
abbrev cX4_allFields : ByteArray := prog_6_method_5_code
def yX4_allFields : MethodName := ⟨RX4, "allFields", "(I)I"⟩
abbrev cX4_latestVersion : ByteArray := prog_6_method_6_code
def yX4_latestVersion : MethodName := ⟨RX4, "latestVersion", "(I)I"⟩
abbrev cX4_latestRows : ByteArray := prog_6_method_7_code
def yX4_latestRows : MethodName := ⟨RX4, "latestRows", "(I)I"⟩
abbrev cX4_allVersions : ByteArray := prog_6_method_8_code
def yX4_allVersions : MethodName := ⟨RX4, "allVersions", "()I"⟩
abbrev cX4_fieldCharge : ByteArray := prog_6_method_9_code
def yX4_fieldCharge : MethodName := ⟨RX4, "fieldCharge", "(IIII)I"⟩
def RX5 : String := "DatamarketDesk"
def TX5 : u_T := fun k => match k with
  | 0 => ("DatamarketDesk", "shelf", "LDatamarketDesk$Shelf;", true)
  | 1 => ("DatamarketDesk", "lineage", "LDatamarketDesk$Lineage;", true)
  | 2 => ("DatamarketDesk", "harms", "LDatamarketDesk$Harms;", true)
  | 3 => ("DatamarketDesk", "contracts", "LDatamarketDesk$Contracts;", true)
  | 4 => ("DatamarketDesk", "reads", "LDatamarketDesk$Reads;", true)
  | 5 => ("DatamarketDesk", "previewed", "[I", true)
  | _ => ("DatamarketDesk", "today", "I", false)
def tyX5 : Nat → FieldType := fun k => match k with
  | 0 => .object "DatamarketDesk$Shelf"
  | 1 => .object "DatamarketDesk$Lineage"
  | 2 => .object "DatamarketDesk$Harms"
  | 3 => .object "DatamarketDesk$Contracts"
  | 4 => .object "DatamarketDesk$Reads"
  | 5 => .array .int
  | _ => .int
abbrev wsX50 : List Cond := u_ws RX5 TX5 7
theorem nmX5 : ∀ a, a < 7 → ∀ b, b < 7 → a ≠ b → (TX5 a).2.1 ≠ (TX5 b).2.1 := by decide +kernel
theorem tyX5_ok : ∀ k, k < 7 → parseFieldDescriptor (TX5 k).2.2.1 = some (tyX5 k) := by decide +kernel
abbrev cX5_init : ByteArray := prog_1_method_1_code
def yX5_init : MethodName := ⟨RX5, "<init>", "()V"⟩
abbrev cX5_set : ByteArray := prog_1_method_2_code
def yX5_set : MethodName := ⟨RX5, "set", "(I)I"⟩
abbrev cX5_terms : ByteArray := prog_1_method_3_code
def yX5_terms : MethodName := ⟨RX5, "terms", "(IIII)I"⟩
abbrev cX5_source : ByteArray := prog_1_method_4_code
def yX5_source : MethodName := ⟨RX5, "source", "(IIIII)I"⟩
abbrev cX5_version : ByteArray := prog_1_method_5_code
def yX5_version : MethodName := ⟨RX5, "version", "(II)I"⟩
abbrev cX5_missing : ByteArray := prog_1_method_6_code
def yX5_missing : MethodName := ⟨RX5, "missing", "(III)I"⟩
abbrev cX5_report : ByteArray := prog_1_method_7_code
def yX5_report : MethodName := ⟨RX5, "report", "(IIII)I"⟩
abbrev cX5_harm : ByteArray := prog_1_method_8_code
def yX5_harm : MethodName := ⟨RX5, "harm", "(III)I"⟩
abbrev cX5_ofSet : ByteArray := prog_1_method_9_code
def yX5_ofSet : MethodName := ⟨RX5, "ofSet", "(II)I"⟩
abbrev cX5_isMadeOf : ByteArray := prog_1_method_10_code
def yX5_isMadeOf : MethodName := ⟨RX5, "isMadeOf", "(IIIIII)Z"⟩
abbrev cX5_contract : ByteArray := prog_1_method_11_code
def yX5_contract : MethodName := ⟨RX5, "contract", "(IIIIII)I"⟩
abbrev cX5_end : ByteArray := prog_1_method_12_code
def yX5_end : MethodName := ⟨RX5, "end", "(I)I"⟩
abbrev cX5_covered : ByteArray := prog_1_method_13_code
def yX5_covered : MethodName := ⟨RX5, "covered", "(IIII)I"⟩
abbrev cX5_read : ByteArray := prog_1_method_14_code
def yX5_read : MethodName := ⟨RX5, "read", "(IIIII)I"⟩
abbrev cX5_preview : ByteArray := prog_1_method_15_code
def yX5_preview : MethodName := ⟨RX5, "preview", "(III)I"⟩
abbrev cX5_ofRead : ByteArray := prog_1_method_16_code
def yX5_ofRead : MethodName := ⟨RX5, "ofRead", "(II)I"⟩
abbrev cX5_ofReader : ByteArray := prog_1_method_17_code
def yX5_ofReader : MethodName := ⟨RX5, "ofReader", "(II)I"⟩
abbrev cX5_bill : ByteArray := prog_1_method_18_code
def yX5_bill : MethodName := ⟨RX5, "bill", "(I)I"⟩
abbrev cX5_pass : ByteArray := prog_1_method_19_code
def yX5_pass : MethodName := ⟨RX5, "pass", "(I)I"⟩
abbrev cX5_many : ByteArray := prog_1_method_20_code
def yX5_many : MethodName := ⟨RX5, "many", "(I)I"⟩
abbrev cX5_meanWorth : ByteArray := prog_1_method_21_code
def yX5_meanWorth : MethodName := ⟨RX5, "meanWorth", "()D"⟩
abbrev cX5_quote : ByteArray := prog_1_method_22_code
def yX5_quote : MethodName := ⟨RX5, "quote", "(IIII)I"⟩
abbrev cX5_creditBy : ByteArray := prog_1_method_23_code
def yX5_creditBy : MethodName := ⟨RX5, "creditBy", "(IIII)I"⟩
abbrev cX5_previews : ByteArray := prog_1_method_24_code
def yX5_previews : MethodName := ⟨RX5, "previews", "(II)I"⟩
abbrev cX5_neededBy : ByteArray := prog_1_method_25_code
def yX5_neededBy : MethodName := ⟨RX5, "neededBy", "(I)I"⟩
abbrev cX5_digest : ByteArray := prog_1_method_26_code
def yX5_digest : MethodName := ⟨RX5, "digest", "()J"⟩
abbrev cX5_digestSet : ByteArray := prog_1_method_27_code
def yX5_digestSet : MethodName := ⟨RX5, "digestSet", "(JI)J"⟩
abbrev cX5_digestReader : ByteArray := prog_1_method_28_code
def yX5_digestReader : MethodName := ⟨RX5, "digestReader", "(JI)J"⟩
abbrev cX5_harmedFields : ByteArray := prog_1_method_29_code
def yX5_harmedFields : MethodName := ⟨RX5, "harmedFields", "(I)I"⟩
abbrev cX5_creditGain : ByteArray := prog_1_method_30_code
def yX5_creditGain : MethodName := ⟨RX5, "creditGain", "(II)I"⟩
abbrev cX5_enterRead : ByteArray := prog_1_method_31_code
def yX5_enterRead : MethodName := ⟨RX5, "enterRead", "(IIIII)I"⟩
abbrev cX5_openToday : ByteArray := prog_1_method_32_code
def yX5_openToday : MethodName := ⟨RX5, "openToday", "(II)I"⟩
abbrev cX5_mayBeSeen : ByteArray := prog_1_method_33_code
def yX5_mayBeSeen : MethodName := ⟨RX5, "mayBeSeen", "(III)Z"⟩
abbrev cX5_needsContract : ByteArray := prog_1_method_34_code
def yX5_needsContract : MethodName := ⟨RX5, "needsContract", "(II)Z"⟩
abbrev cX5_needSet : ByteArray := prog_1_method_35_code
def yX5_needSet : MethodName := ⟨RX5, "needSet", "(I)V"⟩
abbrev cX5_needField : ByteArray := prog_1_method_36_code
def yX5_needField : MethodName := ⟨RX5, "needField", "(II)V"⟩
abbrev cX5_needPlace : ByteArray := prog_1_method_37_code
def yX5_needPlace : MethodName := ⟨RX5, "needPlace", "(III)V"⟩
abbrev cX5_needFields : ByteArray := prog_1_method_38_code
def yX5_needFields : MethodName := ⟨RX5, "needFields", "(II)V"⟩
abbrev cX5_needHarm : ByteArray := prog_1_method_39_code
def yX5_needHarm : MethodName := ⟨RX5, "needHarm", "(I)V"⟩
abbrev cX5_needReader : ByteArray := prog_1_method_40_code
def yX5_needReader : MethodName := ⟨RX5, "needReader", "(I)V"⟩
abbrev cX5_needPurpose : ByteArray := prog_1_method_41_code
def yX5_needPurpose : MethodName := ⟨RX5, "needPurpose", "(I)V"⟩
abbrev cX5_needContract : ByteArray := prog_1_method_42_code
def yX5_needContract : MethodName := ⟨RX5, "needContract", "(I)V"⟩
abbrev cX5_has : ByteArray := prog_1_method_43_code
def yX5_has : MethodName := ⟨RX5, "has", "(II)Z"⟩
abbrev cX5_fieldAt : ByteArray := prog_1_method_44_code
def yX5_fieldAt : MethodName := ⟨RX5, "fieldAt", "(II)I"⟩
abbrev cX5_versionAt : ByteArray := prog_1_method_45_code
def yX5_versionAt : MethodName := ⟨RX5, "versionAt", "(II)I"⟩
abbrev cX5_placeAt : ByteArray := prog_1_method_46_code
def yX5_placeAt : MethodName := ⟨RX5, "placeAt", "(III)I"⟩
abbrev cX5_chargeAt : ByteArray := prog_1_method_47_code
def yX5_chargeAt : MethodName := ⟨RX5, "chargeAt", "(II)I"⟩
abbrev cX5_previewAt : ByteArray := prog_1_method_48_code
def yX5_previewAt : MethodName := ⟨RX5, "previewAt", "(II)I"⟩
def RX6 : String := "DatamarketDeskModel$Contract"
def TX6 : u_T := fun k => match k with
  | 0 => ("DatamarketDeskModel$Contract", "reader", "I", true)
  | 1 => ("DatamarketDeskModel$Contract", "set", "I", true)
  | 2 => ("DatamarketDeskModel$Contract", "fields", "I", true)
  | 3 => ("DatamarketDeskModel$Contract", "purposes", "I", true)
  | 4 => ("DatamarketDeskModel$Contract", "from", "I", true)
  | _ => ("DatamarketDeskModel$Contract", "to", "I", false)
def tyX6 : Nat → FieldType := fun k => match k with
  | 0 => .int
  | 1 => .int
  | 2 => .int
  | 3 => .int
  | 4 => .int
  | _ => .int
abbrev wsX60 : List Cond := u_ws RX6 TX6 6
theorem nmX6 : ∀ a, a < 6 → ∀ b, b < 6 → a ≠ b → (TX6 a).2.1 ≠ (TX6 b).2.1 := by decide +kernel
theorem tyX6_ok : ∀ k, k < 6 → parseFieldDescriptor (TX6 k).2.2.1 = some (tyX6 k) := by decide +kernel
abbrev cX6_init : ByteArray := prog_9_method_1_code
def yX6_init : MethodName := ⟨RX6, "<init>", "(IIIIII)V"⟩
abbrev cX6_has : ByteArray := prog_9_method_2_code
def yX6_has : MethodName := ⟨RX6, "has", "(I)Z"⟩
abbrev cX6_covers : ByteArray := prog_9_method_3_code
def yX6_covers : MethodName := ⟨RX6, "covers", "(IIII)I"⟩
def RX7 : String := "DatamarketDeskModel$DataSet"
def TX7 : u_T := fun k => match k with
  | 0 => ("DatamarketDeskModel$DataSet", "fields", "I", true)
  | 1 => ("DatamarketDeskModel$DataSet", "prices", "[I", true)
  | 2 => ("DatamarketDeskModel$DataSet", "rules", "[I", true)
  | 3 => ("DatamarketDeskModel$DataSet", "versions", "Ljava/util/ArrayList;", true)
  | _ => ("DatamarketDeskModel$DataSet", "previewed", "[I", true)
def tyX7 : Nat → FieldType := fun k => match k with
  | 0 => .int
  | 1 => .array .int
  | 2 => .array .int
  | 3 => .object "java/util/ArrayList"
  | _ => .array .int
abbrev wsX70 : List Cond := u_ws RX7 TX7 5
theorem nmX7 : ∀ a, a < 5 → ∀ b, b < 5 → a ≠ b → (TX7 a).2.1 ≠ (TX7 b).2.1 := by decide +kernel
theorem tyX7_ok : ∀ k, k < 5 → parseFieldDescriptor (TX7 k).2.2.1 = some (tyX7 k) := by decide +kernel
abbrev cX7_init : ByteArray := prog_10_method_1_code
def yX7_init : MethodName := ⟨RX7, "<init>", "(I)V"⟩
abbrev cX7_all : ByteArray := prog_10_method_2_code
def yX7_all : MethodName := ⟨RX7, "all", "()I"⟩
abbrev cX7_latest : ByteArray := prog_10_method_3_code
def yX7_latest : MethodName := ⟨RX7, "latest", "()I"⟩
abbrev cX7_rows : ByteArray := prog_10_method_4_code
def yX7_rows : MethodName := ⟨RX7, "rows", "()I"⟩
def RX8 : String := "DatamarketDeskModel$Link"
def TX8 : u_T := fun k => match k with
  | 0 => ("DatamarketDeskModel$Link", "set", "I", true)
  | 1 => ("DatamarketDeskModel$Link", "version", "I", true)
  | 2 => ("DatamarketDeskModel$Link", "field", "I", true)
  | _ => ("DatamarketDeskModel$Link", "share", "I", true)
def tyX8 : Nat → FieldType := fun k => match k with
  | 0 => .int
  | 1 => .int
  | 2 => .int
  | _ => .int
abbrev wsX80 : List Cond := u_ws RX8 TX8 4
theorem nmX8 : ∀ a, a < 4 → ∀ b, b < 4 → a ≠ b → (TX8 a).2.1 ≠ (TX8 b).2.1 := by decide +kernel
theorem tyX8_ok : ∀ k, k < 4 → parseFieldDescriptor (TX8 k).2.2.1 = some (tyX8 k) := by decide +kernel
abbrev cX8_init : ByteArray := prog_11_method_1_code
def yX8_init : MethodName := ⟨RX8, "<init>", "(IIII)V"⟩
def RX9 : String := "DatamarketDeskModel$Read"
def TX9 : u_T := fun k => match k with
  | 0 => ("DatamarketDeskModel$Read", "reader", "I", true)
  | 1 => ("DatamarketDeskModel$Read", "set", "I", true)
  | 2 => ("DatamarketDeskModel$Read", "version", "I", true)
  | 3 => ("DatamarketDeskModel$Read", "fields", "I", true)
  | 4 => ("DatamarketDeskModel$Read", "rows", "I", true)
  | 5 => ("DatamarketDeskModel$Read", "day", "I", true)
  | 6 => ("DatamarketDeskModel$Read", "purpose", "I", true)
  | 7 => ("DatamarketDeskModel$Read", "tier", "I", true)
  | 8 => ("DatamarketDeskModel$Read", "charges", "[I", true)
  | _ => ("DatamarketDeskModel$Read", "billed", "I", false)
def tyX9 : Nat → FieldType := fun k => match k with
  | 0 => .int
  | 1 => .int
  | 2 => .int
  | 3 => .int
  | 4 => .int
  | 5 => .int
  | 6 => .int
  | 7 => .int
  | 8 => .array .int
  | _ => .int
abbrev wsX90 : List Cond := u_ws RX9 TX9 10
theorem nmX9 : ∀ a, a < 10 → ∀ b, b < 10 → a ≠ b → (TX9 a).2.1 ≠ (TX9 b).2.1 := by decide +kernel
theorem tyX9_ok : ∀ k, k < 10 → parseFieldDescriptor (TX9 k).2.2.1 = some (tyX9 k) := by decide +kernel
abbrev cX9_init : ByteArray := prog_12_method_1_code
def yX9_init : MethodName := ⟨RX9, "<init>", "(IIIIIIII)V"⟩
abbrev cX9_units : ByteArray := prog_12_method_2_code
def yX9_units : MethodName := ⟨RX9, "units", "()I"⟩
abbrev cX9_charge : ByteArray := prog_12_method_3_code
def yX9_charge : MethodName := ⟨RX9, "charge", "()I"⟩
abbrev cX9_credit : ByteArray := prog_12_method_4_code
def yX9_credit : MethodName := ⟨RX9, "credit", "([[[I)I"⟩
abbrev cX9_worth : ByteArray := prog_12_method_5_code
def yX9_worth : MethodName := ⟨RX9, "worth", "([[[I)I"⟩
def RX10 : String := "DatamarketDeskModel$Source"
def TX10 : u_T := fun k => match k with
  | 0 => ("DatamarketDeskModel$Source", "set", "I", true)
  | 1 => ("DatamarketDeskModel$Source", "field", "I", true)
  | 2 => ("DatamarketDeskModel$Source", "from", "I", true)
  | 3 => ("DatamarketDeskModel$Source", "source", "I", true)
  | _ => ("DatamarketDeskModel$Source", "share", "I", false)
def tyX10 : Nat → FieldType := fun k => match k with
  | 0 => .int
  | 1 => .int
  | 2 => .int
  | 3 => .int
  | _ => .int
abbrev wsX100 : List Cond := u_ws RX10 TX10 5
theorem nmX10 : ∀ a, a < 5 → ∀ b, b < 5 → a ≠ b → (TX10 a).2.1 ≠ (TX10 b).2.1 := by decide +kernel
theorem tyX10_ok : ∀ k, k < 5 → parseFieldDescriptor (TX10 k).2.2.1 = some (tyX10 k) := by decide +kernel
abbrev cX10_init : ByteArray := prog_13_method_1_code
def yX10_init : MethodName := ⟨RX10, "<init>", "(IIII)V"⟩
def RX11 : String := "DatamarketDeskModel$Version"
def TX11 : u_T := fun k => match k with
  | 0 => ("DatamarketDeskModel$Version", "rows", "I", true)
  | 1 => ("DatamarketDeskModel$Version", "reported", "[I", true)
  | 2 => ("DatamarketDeskModel$Version", "broken", "[I", true)
  | 3 => ("DatamarketDeskModel$Version", "isTold", "[Z", true)
  | _ => ("DatamarketDeskModel$Version", "links", "Ljava/util/ArrayList;", true)
def tyX11 : Nat → FieldType := fun k => match k with
  | 0 => .int
  | 1 => .array .int
  | 2 => .array .int
  | 3 => .array .boolean
  | _ => .object "java/util/ArrayList"
abbrev wsX110 : List Cond := u_ws RX11 TX11 5
theorem nmX11 : ∀ a, a < 5 → ∀ b, b < 5 → a ≠ b → (TX11 a).2.1 ≠ (TX11 b).2.1 := by decide +kernel
theorem tyX11_ok : ∀ k, k < 5 → parseFieldDescriptor (TX11 k).2.2.1 = some (tyX11 k) := by decide +kernel
abbrev cX11_init : ByteArray := prog_14_method_1_code
def yX11_init : MethodName := ⟨RX11, "<init>", "(I)V"⟩
def RX12 : String := "DatamarketDeskModel"
def TX12 : u_T := fun k => match k with
  | 0 => ("DatamarketDeskModel", "thrown", "I", false)
  | 1 => ("DatamarketDeskModel", "sets", "Ljava/util/ArrayList;", true)
  | 2 => ("DatamarketDeskModel", "sources", "Ljava/util/ArrayList;", true)
  | 3 => ("DatamarketDeskModel", "contracts", "Ljava/util/ArrayList;", true)
  | 4 => ("DatamarketDeskModel", "reads", "Ljava/util/ArrayList;", true)
  | _ => ("DatamarketDeskModel", "today", "I", false)
def tyX12 : Nat → FieldType := fun k => match k with
  | 0 => .int
  | 1 => .object "java/util/ArrayList"
  | 2 => .object "java/util/ArrayList"
  | 3 => .object "java/util/ArrayList"
  | 4 => .object "java/util/ArrayList"
  | _ => .int
abbrev wsX120 : List Cond := u_ws RX12 TX12 6
theorem nmX12 : ∀ a, a < 6 → ∀ b, b < 6 → a ≠ b → (TX12 a).2.1 ≠ (TX12 b).2.1 := by decide +kernel
theorem tyX12_ok : ∀ k, k < 6 → parseFieldDescriptor (TX12 k).2.2.1 = some (tyX12 k) := by decide +kernel
abbrev cX12_init : ByteArray := prog_8_method_1_code
def yX12_init : MethodName := ⟨RX12, "<init>", "()V"⟩
abbrev cX12_thrown : ByteArray := prog_8_method_2_code
def yX12_thrown : MethodName := ⟨RX12, "thrown", "()I"⟩
abbrev cX12_isIn : ByteArray := prog_8_method_3_code
def yX12_isIn : MethodName := ⟨RX12, "isIn", "(III)Z"⟩
abbrev cX12_refuse : ByteArray := prog_8_method_4_code
def yX12_refuse : MethodName := ⟨RX12, "refuse", "(ZI)Z"⟩
abbrev cX12_start : ByteArray := prog_8_method_5_code
def yX12_start : MethodName := ⟨RX12, "start", "(ZI)Z"⟩
abbrev cX12_isNo : ByteArray := prog_8_method_6_code
def yX12_isNo : MethodName := ⟨RX12, "isNo", "(I)Z"⟩
abbrev cX12_isNoField : ByteArray := prog_8_method_7_code
def yX12_isNoField : MethodName := ⟨RX12, "isNoField", "(II)Z"⟩
abbrev cX12_isNoVersion : ByteArray := prog_8_method_8_code
def yX12_isNoVersion : MethodName := ⟨RX12, "isNoVersion", "(II)Z"⟩
abbrev cX12_isNoValue : ByteArray := prog_8_method_9_code
def yX12_isNoValue : MethodName := ⟨RX12, "isNoValue", "(III)Z"⟩
abbrev cX12_isNoFields : ByteArray := prog_8_method_10_code
def yX12_isNoFields : MethodName := ⟨RX12, "isNoFields", "(II)Z"⟩
abbrev cX12_isNoReader : ByteArray := prog_8_method_11_code
def yX12_isNoReader : MethodName := ⟨RX12, "isNoReader", "(I)Z"⟩
abbrev cX12_harms : ByteArray := prog_8_method_12_code
def yX12_harms : MethodName := ⟨RX12, "harms", "()[[[I"⟩
abbrev cX12_set : ByteArray := prog_8_method_13_code
def yX12_set : MethodName := ⟨RX12, "set", "(I)I"⟩
abbrev cX12_terms : ByteArray := prog_8_method_14_code
def yX12_terms : MethodName := ⟨RX12, "terms", "(IIII)I"⟩
abbrev cX12_sourceOf : ByteArray := prog_8_method_15_code
def yX12_sourceOf : MethodName := ⟨RX12, "sourceOf", "(IIII)LDatamarketDeskModel$Source;"⟩
abbrev cX12_source : ByteArray := prog_8_method_16_code
def yX12_source : MethodName := ⟨RX12, "source", "(IIIII)I"⟩
abbrev cX12_version : ByteArray := prog_8_method_17_code
def yX12_version : MethodName := ⟨RX12, "version", "(II)I"⟩
abbrev cX12_missing : ByteArray := prog_8_method_18_code
def yX12_missing : MethodName := ⟨RX12, "missing", "(III)I"⟩
abbrev cX12_credits : ByteArray := prog_8_method_19_code
def yX12_credits : MethodName := ⟨RX12, "credits", "()I"⟩
abbrev cX12_isNoHarm : ByteArray := prog_8_method_20_code
def yX12_isNoHarm : MethodName := ⟨RX12, "isNoHarm", "(IIII)Z"⟩
abbrev cX12_reportNow : ByteArray := prog_8_method_21_code
def yX12_reportNow : MethodName := ⟨RX12, "reportNow", "(IIII)I"⟩
abbrev cX12_report : ByteArray := prog_8_method_22_code
def yX12_report : MethodName := ⟨RX12, "report", "(IIII)I"⟩
abbrev cX12_harm : ByteArray := prog_8_method_23_code
def yX12_harm : MethodName := ⟨RX12, "harm", "(III)I"⟩
abbrev cX12_ofSetNow : ByteArray := prog_8_method_24_code
def yX12_ofSetNow : MethodName := ⟨RX12, "ofSetNow", "([[[III)I"⟩
abbrev cX12_ofSet : ByteArray := prog_8_method_25_code
def yX12_ofSet : MethodName := ⟨RX12, "ofSet", "(II)I"⟩
abbrev cX12_isMade : ByteArray := prog_8_method_26_code
def yX12_isMade : MethodName := ⟨RX12, "isMade", "(IIIIII)Z"⟩
abbrev cX12_isMadeOf : ByteArray := prog_8_method_27_code
def yX12_isMadeOf : MethodName := ⟨RX12, "isMadeOf", "(IIIIII)Z"⟩
abbrev cX12_contract : ByteArray := prog_8_method_28_code
def yX12_contract : MethodName := ⟨RX12, "contract", "(IIIIII)I"⟩
abbrev cX12_isNoContract : ByteArray := prog_8_method_29_code
def yX12_isNoContract : MethodName := ⟨RX12, "isNoContract", "(I)Z"⟩
abbrev cX12_end : ByteArray := prog_8_method_30_code
def yX12_end : MethodName := ⟨RX12, "end", "(I)I"⟩
abbrev cX12_coveredNow : ByteArray := prog_8_method_31_code
def yX12_coveredNow : MethodName := ⟨RX12, "coveredNow", "(IIII)I"⟩
abbrev cX12_covered : ByteArray := prog_8_method_32_code
def yX12_covered : MethodName := ⟨RX12, "covered", "(IIII)I"⟩
abbrev cX12_unitsNow : ByteArray := prog_8_method_33_code
def yX12_unitsNow : MethodName := ⟨RX12, "unitsNow", "(I)I"⟩
abbrev cX12_tier : ByteArray := prog_8_method_34_code
def yX12_tier : MethodName := ⟨RX12, "tier", "(I)I"⟩
abbrev cX12_made : ByteArray := prog_8_method_35_code
def yX12_made : MethodName := ⟨RX12, "made", "(IIIII)LDatamarketDeskModel$Read;"⟩
abbrev cX12_read : ByteArray := prog_8_method_36_code
def yX12_read : MethodName := ⟨RX12, "read", "(IIIII)I"⟩
abbrev cX12_canPreview : ByteArray := prog_8_method_37_code
def yX12_canPreview : MethodName := ⟨RX12, "canPreview", "(III)Z"⟩
abbrev cX12_preview : ByteArray := prog_8_method_38_code
def yX12_preview : MethodName := ⟨RX12, "preview", "(III)I"⟩
abbrev cX12_ofReadNow : ByteArray := prog_8_method_39_code
def yX12_ofReadNow : MethodName := ⟨RX12, "ofReadNow", "([[[ILDatamarketDeskModel$Read;I)I"⟩
abbrev cX12_ofRead : ByteArray := prog_8_method_40_code
def yX12_ofRead : MethodName := ⟨RX12, "ofRead", "(II)I"⟩
abbrev cX12_contractsOf : ByteArray := prog_8_method_41_code
def yX12_contractsOf : MethodName := ⟨RX12, "contractsOf", "(I)I"⟩
abbrev cX12_ofReaderNow : ByteArray := prog_8_method_42_code
def yX12_ofReaderNow : MethodName := ⟨RX12, "ofReaderNow", "([[[III)I"⟩
abbrev cX12_ofReader : ByteArray := prog_8_method_43_code
def yX12_ofReader : MethodName := ⟨RX12, "ofReader", "(II)I"⟩
abbrev cX12_bill : ByteArray := prog_8_method_44_code
def yX12_bill : MethodName := ⟨RX12, "bill", "(I)I"⟩
abbrev cX12_pass : ByteArray := prog_8_method_45_code
def yX12_pass : MethodName := ⟨RX12, "pass", "(I)I"⟩
abbrev cX12_count : ByteArray := prog_8_method_46_code
def yX12_count : MethodName := ⟨RX12, "count", "(I)I"⟩
abbrev cX12_many : ByteArray := prog_8_method_47_code
def yX12_many : MethodName := ⟨RX12, "many", "(I)I"⟩
abbrev cX12_meanWorth : ByteArray := prog_8_method_48_code
def yX12_meanWorth : MethodName := ⟨RX12, "meanWorth", "()D"⟩
abbrev cX12_quote : ByteArray := prog_8_method_49_code
def yX12_quote : MethodName := ⟨RX12, "quote", "(IIII)I"⟩
abbrev cX12_creditBy : ByteArray := prog_8_method_50_code
def yX12_creditBy : MethodName := ⟨RX12, "creditBy", "(IIII)I"⟩
abbrev cX12_previewsNow : ByteArray := prog_8_method_51_code
def yX12_previewsNow : MethodName := ⟨RX12, "previewsNow", "(II)I"⟩
abbrev cX12_previews : ByteArray := prog_8_method_52_code
def yX12_previews : MethodName := ⟨RX12, "previews", "(II)I"⟩
abbrev cX12_neededNow : ByteArray := prog_8_method_53_code
def yX12_neededNow : MethodName := ⟨RX12, "neededNow", "(I)I"⟩
abbrev cX12_neededBy : ByteArray := prog_8_method_54_code
def yX12_neededBy : MethodName := ⟨RX12, "neededBy", "(I)I"⟩
abbrev cX12_add : ByteArray := prog_8_method_55_code
def yX12_add : MethodName := ⟨RX12, "add", "(JJ)J"⟩
abbrev cX12_digest : ByteArray := prog_8_method_56_code
def yX12_digest : MethodName := ⟨RX12, "digest", "()J"⟩
def RJx145de : String := "java/io/Serializable"
def TJx145de : u_T := fun k => match k with
  | _ => ("", "", "", false)
def tyJx145de : Nat → FieldType := fun k => match k with
  | _ => .int
abbrev wsJx145de0 : List Cond := u_ws RJx145de TJx145de 0
theorem nmJx145de : ∀ a, a < 0 → ∀ b, b < 0 → a ≠ b → (TJx145de a).2.1 ≠ (TJx145de b).2.1 := by decide +kernel
theorem tyJx145de_ok : ∀ k, k < 0 → parseFieldDescriptor (TJx145de k).2.2.1 = some (tyJx145de k) := by decide +kernel
def RJx8e188 : String := "java/lang/Cloneable"
def TJx8e188 : u_T := fun k => match k with
  | _ => ("", "", "", false)
def tyJx8e188 : Nat → FieldType := fun k => match k with
  | _ => .int
abbrev wsJx8e1880 : List Cond := u_ws RJx8e188 TJx8e188 0
theorem nmJx8e188 : ∀ a, a < 0 → ∀ b, b < 0 → a ≠ b → (TJx8e188 a).2.1 ≠ (TJx8e188 b).2.1 := by decide +kernel
theorem tyJx8e188_ok : ∀ k, k < 0 → parseFieldDescriptor (TJx8e188 k).2.2.1 = some (tyJx8e188 k) := by decide +kernel
def RJ6 : String := "java/lang/Integer"
def TJ6 : u_T := fun k => match k with
  | _ => ("", "", "", false)
def tyJ6 : Nat → FieldType := fun k => match k with
  | _ => .int
abbrev wsJ60 : List Cond := u_ws RJ6 TJ6 0
theorem nmJ6 : ∀ a, a < 0 → ∀ b, b < 0 → a ≠ b → (TJ6 a).2.1 ≠ (TJ6 b).2.1 := by decide +kernel
theorem tyJ6_ok : ∀ k, k < 0 → parseFieldDescriptor (TJ6 k).2.2.1 = some (tyJ6 k) := by decide +kernel
abbrev cJ6_bitCount_0f7a4 : ByteArray := prog_21_method_49_code
def yJ6_bitCount_0f7a4 : MethodName := ⟨RJ6, "bitCount", "(I)I"⟩
def RJxab1ab : String := "java/lang/Iterable"
def TJxab1ab : u_T := fun k => match k with
  | _ => ("", "", "", false)
def tyJxab1ab : Nat → FieldType := fun k => match k with
  | _ => .int
abbrev wsJxab1ab0 : List Cond := u_ws RJxab1ab TJxab1ab 0
theorem nmJxab1ab : ∀ a, a < 0 → ∀ b, b < 0 → a ≠ b → (TJxab1ab a).2.1 ≠ (TJxab1ab b).2.1 := by decide +kernel
theorem tyJxab1ab_ok : ∀ k, k < 0 → parseFieldDescriptor (TJxab1ab k).2.2.1 = some (tyJxab1ab k) := by decide +kernel
def RJ9 : String := "java/lang/Math"
def TJ9 : u_T := fun k => match k with
  | _ => ("", "", "", false)
def tyJ9 : Nat → FieldType := fun k => match k with
  | _ => .int
abbrev wsJ90 : List Cond := u_ws RJ9 TJ9 0
theorem nmJ9 : ∀ a, a < 0 → ∀ b, b < 0 → a ≠ b → (TJ9 a).2.1 ≠ (TJ9 b).2.1 := by decide +kernel
theorem tyJ9_ok : ∀ k, k < 0 → parseFieldDescriptor (TJ9 k).2.2.1 = some (tyJ9 k) := by decide +kernel
abbrev cJ9_max_7cf53 : ByteArray := prog_23_method_65_code
def yJ9_max_7cf53 : MethodName := ⟨RJ9, "max", "(II)I"⟩
abbrev cJ9_min_7cf53 : ByteArray := prog_23_method_69_code
def yJ9_min_7cf53 : MethodName := ⟨RJ9, "min", "(II)I"⟩
def RJ0 : String := "java/lang/String"
def TJ0 : u_T := fun k => match k with
  | _ => ("", "", "", false)
def tyJ0 : Nat → FieldType := fun k => match k with
  | _ => .int
abbrev wsJ00 : List Cond := u_ws RJ0 TJ0 0
theorem nmJ0 : ∀ a, a < 0 → ∀ b, b < 0 → a ≠ b → (TJ0 a).2.1 ≠ (TJ0 b).2.1 := by decide +kernel
theorem tyJ0_ok : ∀ k, k < 0 → parseFieldDescriptor (TJ0 k).2.2.1 = some (tyJ0 k) := by decide +kernel
def RJ10 : String := "java/lang/System"
def TJ10 : u_T := fun k => match k with
  | _ => ("", "", "", false)
def tyJ10 : Nat → FieldType := fun k => match k with
  | _ => .int
abbrev wsJ100 : List Cond := u_ws RJ10 TJ10 0
theorem nmJ10 : ∀ a, a < 0 → ∀ b, b < 0 → a ≠ b → (TJ10 a).2.1 ≠ (TJ10 b).2.1 := by decide +kernel
theorem tyJ10_ok : ∀ k, k < 0 → parseFieldDescriptor (TJ10 k).2.2.1 = some (tyJ10 k) := by decide +kernel
def RJxa1e45 : String := "java/util/AbstractCollection"
def TJxa1e45 : u_T := fun k => match k with
  | _ => ("", "", "", false)
def tyJxa1e45 : Nat → FieldType := fun k => match k with
  | _ => .int
abbrev wsJxa1e450 : List Cond := u_ws RJxa1e45 TJxa1e45 0
theorem nmJxa1e45 : ∀ a, a < 0 → ∀ b, b < 0 → a ≠ b → (TJxa1e45 a).2.1 ≠ (TJxa1e45 b).2.1 := by decide +kernel
theorem tyJxa1e45_ok : ∀ k, k < 0 → parseFieldDescriptor (TJxa1e45 k).2.2.1 = some (tyJxa1e45 k) := by decide +kernel
abbrev cJxa1e45_init_da8c8 : ByteArray := prog_28_method_1_code
def yJxa1e45_init_da8c8 : MethodName := ⟨RJxa1e45, "<init>", "()V"⟩
def RJxc12de : String := "java/util/AbstractList"
def TJxc12de : u_T := fun k => match k with
  | _ => ("", "", "", false)
def tyJxc12de : Nat → FieldType := fun k => match k with
  | _ => .int
abbrev wsJxc12de0 : List Cond := u_ws RJxc12de TJxc12de 0
theorem nmJxc12de : ∀ a, a < 0 → ∀ b, b < 0 → a ≠ b → (TJxc12de a).2.1 ≠ (TJxc12de b).2.1 := by decide +kernel
theorem tyJxc12de_ok : ∀ k, k < 0 → parseFieldDescriptor (TJxc12de k).2.2.1 = some (tyJxc12de k) := by decide +kernel
abbrev cJxc12de_init_da8c8 : ByteArray := prog_29_method_1_code
def yJxc12de_init_da8c8 : MethodName := ⟨RJxc12de, "<init>", "()V"⟩
def RJx4a65c : String := "java/util/ArrayList"
def TJx4a65c : u_T := fun k => match k with
  | 0 => ("java/util/AbstractList", "modCount", "I", false)
  | 1 => ("java/util/ArrayList", "elementData", "[Ljava/lang/Object;", false)
  | _ => ("java/util/ArrayList", "size", "I", false)
def tyJx4a65c : Nat → FieldType := fun k => match k with
  | 0 => .int
  | 1 => .array (.object "java/lang/Object")
  | _ => .int
abbrev wsJx4a65c0 : List Cond := u_ws RJx4a65c TJx4a65c 3
theorem nmJx4a65c : ∀ a, a < 3 → ∀ b, b < 3 → a ≠ b → (TJx4a65c a).2.1 ≠ (TJx4a65c b).2.1 := by decide +kernel
theorem tyJx4a65c_ok : ∀ k, k < 3 → parseFieldDescriptor (TJx4a65c k).2.2.1 = some (tyJx4a65c k) := by decide +kernel
abbrev cJx4a65c_init_da8c8 : ByteArray := prog_30_method_2_code
def yJx4a65c_init_da8c8 : MethodName := ⟨RJx4a65c, "<init>", "()V"⟩
abbrev cJx4a65c_grow_92f84 : ByteArray := prog_30_method_6_code
def yJx4a65c_grow_92f84 : MethodName := ⟨RJx4a65c, "grow", "(I)[Ljava/lang/Object;"⟩
abbrev cJx4a65c_grow_d5877 : ByteArray := prog_30_method_7_code
def yJx4a65c_grow_d5877 : MethodName := ⟨RJx4a65c, "grow", "()[Ljava/lang/Object;"⟩
abbrev cJx4a65c_size_8abf5 : ByteArray := prog_30_method_8_code
def yJx4a65c_size_8abf5 : MethodName := ⟨RJx4a65c, "size", "()I"⟩
abbrev cJx4a65c_isEmpty_aae02 : ByteArray := prog_30_method_9_code
def yJx4a65c_isEmpty_aae02 : MethodName := ⟨RJx4a65c, "isEmpty", "()Z"⟩
abbrev cJx4a65c_elementData_915e3 : ByteArray := prog_30_method_18_code
def yJx4a65c_elementData_915e3 : MethodName := ⟨RJx4a65c, "elementData", "(I)Ljava/lang/Object;"⟩
abbrev cJx4a65c_get_915e3 : ByteArray := prog_30_method_20_code
def yJx4a65c_get_915e3 : MethodName := ⟨RJx4a65c, "get", "(I)Ljava/lang/Object;"⟩
abbrev cJx4a65c_add_72be8 : ByteArray := prog_30_method_24_code
def yJx4a65c_add_72be8 : MethodName := ⟨RJx4a65c, "add", "(Ljava/lang/Object;[Ljava/lang/Object;I)V"⟩
abbrev cJx4a65c_add_9ea2d : ByteArray := prog_30_method_25_code
def yJx4a65c_add_9ea2d : MethodName := ⟨RJx4a65c, "add", "(Ljava/lang/Object;)Z"⟩
def RJ7 : String := "java/util/Arrays"
def TJ7 : u_T := fun k => match k with
  | _ => ("", "", "", false)
def tyJ7 : Nat → FieldType := fun k => match k with
  | _ => .int
abbrev wsJ70 : List Cond := u_ws RJ7 TJ7 0
theorem nmJ7 : ∀ a, a < 0 → ∀ b, b < 0 → a ≠ b → (TJ7 a).2.1 ≠ (TJ7 b).2.1 := by decide +kernel
theorem tyJ7_ok : ∀ k, k < 0 → parseFieldDescriptor (TJ7 k).2.2.1 = some (tyJ7 k) := by decide +kernel
abbrev cJ7_copyOf_1904c : ByteArray := prog_31_method_119_code
def yJ7_copyOf_1904c : MethodName := ⟨RJ7, "copyOf", "([Ljava/lang/Object;I)[Ljava/lang/Object;"⟩
abbrev cJ7_copyOf_6403c : ByteArray := prog_31_method_120_code
def yJ7_copyOf_6403c : MethodName := ⟨RJ7, "copyOf", "([Ljava/lang/Object;ILjava/lang/Class;)[Ljava/lang/Object;"⟩
def RJx5ef63 : String := "java/util/Collection"
def TJx5ef63 : u_T := fun k => match k with
  | _ => ("", "", "", false)
def tyJx5ef63 : Nat → FieldType := fun k => match k with
  | _ => .int
abbrev wsJx5ef630 : List Cond := u_ws RJx5ef63 TJx5ef63 0
theorem nmJx5ef63 : ∀ a, a < 0 → ∀ b, b < 0 → a ≠ b → (TJx5ef63 a).2.1 ≠ (TJx5ef63 b).2.1 := by decide +kernel
theorem tyJx5ef63_ok : ∀ k, k < 0 → parseFieldDescriptor (TJx5ef63 k).2.2.1 = some (tyJx5ef63 k) := by decide +kernel
def RJxbd725 : String := "java/util/List"
def TJxbd725 : u_T := fun k => match k with
  | _ => ("", "", "", false)
def tyJxbd725 : Nat → FieldType := fun k => match k with
  | _ => .int
abbrev wsJxbd7250 : List Cond := u_ws RJxbd725 TJxbd725 0
theorem nmJxbd725 : ∀ a, a < 0 → ∀ b, b < 0 → a ≠ b → (TJxbd725 a).2.1 ≠ (TJxbd725 b).2.1 := by decide +kernel
theorem tyJxbd725_ok : ∀ k, k < 0 → parseFieldDescriptor (TJxbd725 k).2.2.1 = some (tyJxbd725 k) := by decide +kernel
def RJ15 : String := "java/util/Objects"
def TJ15 : u_T := fun k => match k with
  | _ => ("", "", "", false)
def tyJ15 : Nat → FieldType := fun k => match k with
  | _ => .int
abbrev wsJ150 : List Cond := u_ws RJ15 TJ15 0
theorem nmJ15 : ∀ a, a < 0 → ∀ b, b < 0 → a ≠ b → (TJ15 a).2.1 ≠ (TJ15 b).2.1 := by decide +kernel
theorem tyJ15_ok : ∀ k, k < 0 → parseFieldDescriptor (TJ15 k).2.2.1 = some (tyJ15 k) := by decide +kernel
abbrev cJ15_checkIndex_7cf53 : ByteArray := prog_34_method_17_code
def yJ15_checkIndex_7cf53 : MethodName := ⟨RJ15, "checkIndex", "(II)I"⟩
def RJxf0a74 : String := "java/util/RandomAccess"
def TJxf0a74 : u_T := fun k => match k with
  | _ => ("", "", "", false)
def tyJxf0a74 : Nat → FieldType := fun k => match k with
  | _ => .int
abbrev wsJxf0a740 : List Cond := u_ws RJxf0a74 TJxf0a74 0
theorem nmJxf0a74 : ∀ a, a < 0 → ∀ b, b < 0 → a ≠ b → (TJxf0a74 a).2.1 ≠ (TJxf0a74 b).2.1 := by decide +kernel
theorem tyJxf0a74_ok : ∀ k, k < 0 → parseFieldDescriptor (TJxf0a74 k).2.2.1 = some (tyJxf0a74 k) := by decide +kernel
def RJxa66e6 : String := "java/util/SequencedCollection"
def TJxa66e6 : u_T := fun k => match k with
  | _ => ("", "", "", false)
def tyJxa66e6 : Nat → FieldType := fun k => match k with
  | _ => .int
abbrev wsJxa66e60 : List Cond := u_ws RJxa66e6 TJxa66e6 0
theorem nmJxa66e6 : ∀ a, a < 0 → ∀ b, b < 0 → a ≠ b → (TJxa66e6 a).2.1 ≠ (TJxa66e6 b).2.1 := by decide +kernel
theorem tyJxa66e6_ok : ∀ k, k < 0 → parseFieldDescriptor (TJxa66e6 k).2.2.1 = some (tyJxa66e6 k) := by decide +kernel
def RJ8 : String := "jdk/internal/util/ArraysSupport"
def TJ8 : u_T := fun k => match k with
  | _ => ("", "", "", false)
def tyJ8 : Nat → FieldType := fun k => match k with
  | _ => .int
abbrev wsJ80 : List Cond := u_ws RJ8 TJ8 0
theorem nmJ8 : ∀ a, a < 0 → ∀ b, b < 0 → a ≠ b → (TJ8 a).2.1 ≠ (TJ8 b).2.1 := by decide +kernel
theorem tyJ8_ok : ∀ k, k < 0 → parseFieldDescriptor (TJ8 k).2.2.1 = some (tyJ8 k) := by decide +kernel
abbrev cJ8_newLength_cabcc : ByteArray := prog_37_method_27_code
def yJ8_newLength_cabcc : MethodName := ⟨RJ8, "newLength", "(III)I"⟩
abbrev cJ8_hugeLength_7cf53 : ByteArray := prog_37_method_28_code
def yJ8_hugeLength_7cf53 : MethodName := ⟨RJ8, "hugeLength", "(II)I"⟩
def RJ3 : String := "jdk/internal/util/Preconditions"
def TJ3 : u_T := fun k => match k with
  | _ => ("", "", "", false)
def tyJ3 : Nat → FieldType := fun k => match k with
  | _ => .int
abbrev wsJ30 : List Cond := u_ws RJ3 TJ3 0
theorem nmJ3 : ∀ a, a < 0 → ∀ b, b < 0 → a ≠ b → (TJ3 a).2.1 ≠ (TJ3 b).2.1 := by decide +kernel
theorem tyJ3_ok : ∀ k, k < 0 → parseFieldDescriptor (TJ3 k).2.2.1 = some (tyJ3 k) := by decide +kernel
abbrev cJ3_checkIndex_8e157 : ByteArray := prog_38_method_11_code
def yJ3_checkIndex_8e157 : MethodName := ⟨RJ3, "checkIndex", "(IILjava/util/function/BiFunction;)I"⟩
def RL : String := "DatamarketDeskLaw"
abbrev cL_set : ByteArray := method_3_code
def yL_set : MethodName := ⟨RL, "set", "(LDatamarketDesk;I[J)I"⟩
abbrev cL_terms : ByteArray := method_4_code
def yL_terms : MethodName := ⟨RL, "terms", "(LDatamarketDesk;IIII[J)I"⟩
abbrev cL_source : ByteArray := method_5_code
def yL_source : MethodName := ⟨RL, "source", "(LDatamarketDesk;IIIII[J)I"⟩
abbrev cL_version : ByteArray := method_6_code
def yL_version : MethodName := ⟨RL, "version", "(LDatamarketDesk;II[J)I"⟩
abbrev cL_missing : ByteArray := method_7_code
def yL_missing : MethodName := ⟨RL, "missing", "(LDatamarketDesk;III[J)I"⟩
abbrev cL_report : ByteArray := method_8_code
def yL_report : MethodName := ⟨RL, "report", "(LDatamarketDesk;IIII[J)I"⟩
abbrev cL_harm : ByteArray := method_9_code
def yL_harm : MethodName := ⟨RL, "harm", "(LDatamarketDesk;III[J)I"⟩
abbrev cL_ofSet : ByteArray := method_10_code
def yL_ofSet : MethodName := ⟨RL, "ofSet", "(LDatamarketDesk;II[J)I"⟩
abbrev cL_isMadeOf : ByteArray := method_11_code
def yL_isMadeOf : MethodName := ⟨RL, "isMadeOf", "(LDatamarketDesk;IIIIII[J)I"⟩
abbrev cL_contract : ByteArray := method_12_code
def yL_contract : MethodName := ⟨RL, "contract", "(LDatamarketDesk;IIIIII[J)I"⟩
abbrev cL_end : ByteArray := method_13_code
def yL_end : MethodName := ⟨RL, "end", "(LDatamarketDesk;I[J)I"⟩
abbrev cL_covered : ByteArray := method_14_code
def yL_covered : MethodName := ⟨RL, "covered", "(LDatamarketDesk;IIII[J)I"⟩
abbrev cL_read : ByteArray := method_15_code
def yL_read : MethodName := ⟨RL, "read", "(LDatamarketDesk;IIIII[J)I"⟩
abbrev cL_preview : ByteArray := method_16_code
def yL_preview : MethodName := ⟨RL, "preview", "(LDatamarketDesk;III[J)I"⟩
abbrev cL_ofRead : ByteArray := method_17_code
def yL_ofRead : MethodName := ⟨RL, "ofRead", "(LDatamarketDesk;II[J)I"⟩
abbrev cL_ofReader : ByteArray := method_18_code
def yL_ofReader : MethodName := ⟨RL, "ofReader", "(LDatamarketDesk;II[J)I"⟩
abbrev cL_bill : ByteArray := method_19_code
def yL_bill : MethodName := ⟨RL, "bill", "(LDatamarketDesk;I[J)I"⟩
abbrev cL_pass : ByteArray := method_20_code
def yL_pass : MethodName := ⟨RL, "pass", "(LDatamarketDesk;I[J)I"⟩
abbrev cL_many : ByteArray := method_21_code
def yL_many : MethodName := ⟨RL, "many", "(LDatamarketDesk;I[J)I"⟩
abbrev cL_quote : ByteArray := method_22_code
def yL_quote : MethodName := ⟨RL, "quote", "(LDatamarketDesk;IIII[J)I"⟩
abbrev cL_creditBy : ByteArray := method_23_code
def yL_creditBy : MethodName := ⟨RL, "creditBy", "(LDatamarketDesk;IIII[J)I"⟩
abbrev cL_previews : ByteArray := method_24_code
def yL_previews : MethodName := ⟨RL, "previews", "(LDatamarketDesk;II[J)I"⟩
abbrev cL_neededBy : ByteArray := method_25_code
def yL_neededBy : MethodName := ⟨RL, "neededBy", "(LDatamarketDesk;I[J)I"⟩
abbrev cL_law : ByteArray := code
def yL_law : MethodName := ⟨RL, "law", "([I)Z"⟩
abbrev vwCl : List vw_C := [(RJx4a65c, TJx4a65c, 3), (RX0, TX0, 7), (RX1, TX1, 4), (RX2, TX2, 9), (RX3, TX3, 11), (RX4, TX4, 6), (RX5, TX5, 7), (RX6, TX6, 6), (RX7, TX7, 5), (RX8, TX8, 4), (RX9, TX9, 10), (RX10, TX10, 5), (RX11, TX11, 5), (RX12, TX12, 6)]
