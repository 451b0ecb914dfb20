/-! TABLES, by program out of the Statement's words -/
def zT0 : u_T := fun k => match k with
  | 0 => ("BedMessages", "frame", "LBedMessages$Frame;", true)
  | 1 => ("BedMessages", "hospital", "LBedMessages$Hospital;", true)
  | 2 => ("BedMessages", "ledger", "LBedMessages$Ledger;", true)
  | 3 => ("BedMessages", "asked", "LBedMessages$Separators;", true)
  | 4 => ("BedMessages", "receiptText", "LBedMessages$Chars;", true)
  | 5 => ("BedMessages", "writtenText", "LBedMessages$Chars;", true)
  | 6 => ("BedMessages", "spare", "LBedMessages$Message;", false)
  | 7 => ("BedMessages", "latest", "LBedMessages$Message;", false)
  | 8 => ("BedMessages", "latestReason", "I", false)
  | _ => ("BedMessages", "latestReplayed", "Z", false)
def zT1 : u_T := fun k => match k with
  | 0 => ("BedMessages$Chars", "row", "[C", true)
  | _ => ("BedMessages$Chars", "length", "I", false)
def zT2 : u_T := fun k => match k with
  | _ => ("BedMessages$Frame", "typed", "LBedMessages$Chars;", true)
def zT3 : u_T := fun k => match k with
  | 0 => ("BedMessages$Hospital", "occupants", "[I", true)
  | 1 => ("BedMessages$Hospital", "patients", "[LBedMessages$Patient;", true)
  | _ => ("BedMessages$Hospital", "trial", "LBedMessages$Measured;", true)
def zT4 : u_T := fun k => match k with
  | 0 => ("BedMessages$Ledger", "identities", "[J", true)
  | 1 => ("BedMessages$Ledger", "reasons", "[I", true)
  | _ => ("BedMessages$Ledger", "oldest", "I", false)
def zT5 : u_T := fun k => match k with
  | _ => ("BedMessages$Separators", "five", "[I", true)
def zT6 : u_T := fun k => match k with
  | 0 => ("BedMessages$Message", "separators", "LBedMessages$Separators;", true)
  | 1 => ("BedMessages$Message", "signs", "[I", true)
  | 2 => ("BedMessages$Message", "starts", "[I", true)
  | 3 => ("BedMessages$Message", "length", "I", false)
  | _ => ("BedMessages$Message", "segmentCount", "I", false)
def zT7 : u_T := fun k => match k with
  | 0 => ("BedMessages$Measured", "codes", "[I", true)
  | 1 => ("BedMessages$Measured", "values", "[I", true)
  | _ => ("BedMessages$Measured", "count", "I", false)
def zT8 : u_T := fun k => match k with
  | 0 => ("BedMessages$Patient", "family", "LBedMessages$Chars;", true)
  | 1 => ("BedMessages$Patient", "first", "LBedMessages$Chars;", true)
  | 2 => ("BedMessages$Patient", "measured", "LBedMessages$Measured;", true)
  | _ => ("BedMessages$Patient", "bed", "I", false)
def zT9 : u_T := fun k => match k with
  | 0 => ("BedMessagesModel", "size", "I", false)
  | 1 => ("BedMessagesModel", "frame", "[C", true)
  | 2 => ("BedMessagesModel", "at", "I", false)
  | 3 => ("BedMessagesModel", "segs", "[I", true)
  | 4 => ("BedMessagesModel", "texts", "[I", true)
  | 5 => ("BedMessagesModel", "chars", "[I", true)
  | 6 => ("BedMessagesModel", "segOf", "[I", true)
  | 7 => ("BedMessagesModel", "fieldOf", "[I", true)
  | 8 => ("BedMessagesModel", "repOf", "[I", true)
  | 9 => ("BedMessagesModel", "compOf", "[I", true)
  | 10 => ("BedMessagesModel", "subOf", "[I", true)
  | 11 => ("BedMessagesModel", "begins", "[I", true)
  | 12 => ("BedMessagesModel", "lengths", "[I", true)
  | 13 => ("BedMessagesModel", "letters", "[C", true)
  | 14 => ("BedMessagesModel", "names", "[C", true)
  | 15 => ("BedMessagesModel", "separators", "[C", true)
  | 16 => ("BedMessagesModel", "any", "Z", false)
  | 17 => ("BedMessagesModel", "reason0", "I", false)
  | 18 => ("BedMessagesModel", "again", "Z", false)
  | 19 => ("BedMessagesModel", "receiptSize", "I", false)
  | 20 => ("BedMessagesModel", "receiptText", "[C", true)
  | 21 => ("BedMessagesModel", "kept", "I", false)
  | 22 => ("BedMessagesModel", "keptName", "[C", true)
  | 23 => ("BedMessagesModel", "keptReason", "[I", true)
  | 24 => ("BedMessagesModel", "isKnown", "[Z", true)
  | 25 => ("BedMessagesModel", "bedOfPatient", "[I", true)
  | 26 => ("BedMessagesModel", "nameSize", "[I", true)
  | 27 => ("BedMessagesModel", "nameText", "[C", true)
  | 28 => ("BedMessagesModel", "resultCount", "[I", true)
  | 29 => ("BedMessagesModel", "codes", "[I", true)
  | 30 => ("BedMessagesModel", "values", "[I", true)
  | 31 => ("BedMessagesModel", "out", "I", false)
  | 32 => ("BedMessagesModel", "outText", "[C", true)
  | _ => ("BedMessagesModel", "given", "[C", true)
abbrev classes : List vw_C := [("BedMessages", zT0, 10), ("BedMessages$Chars", zT1, 2), ("BedMessages$Frame", zT2, 1), ("BedMessages$Hospital", zT3, 3), ("BedMessages$Ledger", zT4, 3), ("BedMessages$Separators", zT5, 1), ("BedMessages$Message", zT6, 5), ("BedMessages$Measured", zT7, 3), ("BedMessages$Patient", zT8, 4), ("BedMessagesModel", zT9, 34)]
def zty (ci k : Nat) : FieldType := match ci with
  | 0 => (match k with
    | 0 => .object "BedMessages$Frame"
    | 1 => .object "BedMessages$Hospital"
    | 2 => .object "BedMessages$Ledger"
    | 3 => .object "BedMessages$Separators"
    | 4 => .object "BedMessages$Chars"
    | 5 => .object "BedMessages$Chars"
    | 6 => .object "BedMessages$Message"
    | 7 => .object "BedMessages$Message"
    | 8 => .int
    | _ => .boolean)
  | 1 => (match k with
    | 0 => .array .char
    | _ => .int)
  | 2 => (match k with
    | _ => .object "BedMessages$Chars")
  | 3 => (match k with
    | 0 => .array .int
    | 1 => .array (.object "BedMessages$Patient")
    | _ => .object "BedMessages$Measured")
  | 4 => (match k with
    | 0 => .array .long
    | 1 => .array .int
    | _ => .int)
  | 5 => (match k with
    | _ => .array .int)
  | 6 => (match k with
    | 0 => .object "BedMessages$Separators"
    | 1 => .array .int
    | 2 => .array .int
    | 3 => .int
    | _ => .int)
  | 7 => (match k with
    | 0 => .array .int
    | 1 => .array .int
    | _ => .int)
  | 8 => (match k with
    | 0 => .object "BedMessages$Chars"
    | 1 => .object "BedMessages$Chars"
    | 2 => .object "BedMessages$Measured"
    | _ => .int)
  | _ => (match k with
    | 0 => .int
    | 1 => .array .char
    | 2 => .int
    | 3 => .array .int
    | 4 => .array .int
    | 5 => .array .int
    | 6 => .array .int
    | 7 => .array .int
    | 8 => .array .int
    | 9 => .array .int
    | 10 => .array .int
    | 11 => .array .int
    | 12 => .array .int
    | 13 => .array .char
    | 14 => .array .char
    | 15 => .array .char
    | 16 => .boolean
    | 17 => .int
    | 18 => .boolean
    | 19 => .int
    | 20 => .array .char
    | 21 => .int
    | 22 => .array .char
    | 23 => .array .int
    | 24 => .array .boolean
    | 25 => .array .int
    | 26 => .array .int
    | 27 => .array .char
    | 28 => .array .int
    | 29 => .array .int
    | 30 => .array .int
    | 31 => .int
    | 32 => .array .char
    | _ => .array .char)
def zfin (ci k : Nat) : Bool := match ci with
  | 0 => (match k with
    | 0 => true
    | 1 => true
    | 2 => true
    | 3 => true
    | 4 => true
    | 5 => true
    | 6 => false
    | 7 => false
    | 8 => false
    | _ => false)
  | 1 => (match k with
    | 0 => true
    | _ => false)
  | 2 => (match k with
    | _ => true)
  | 3 => (match k with
    | 0 => true
    | 1 => true
    | _ => true)
  | 4 => (match k with
    | 0 => true
    | 1 => true
    | _ => false)
  | 5 => (match k with
    | _ => true)
  | 6 => (match k with
    | 0 => true
    | 1 => true
    | 2 => true
    | 3 => false
    | _ => false)
  | 7 => (match k with
    | 0 => true
    | 1 => true
    | _ => false)
  | 8 => (match k with
    | 0 => true
    | 1 => true
    | 2 => true
    | _ => false)
  | _ => (match k with
    | 0 => false
    | 1 => true
    | 2 => false
    | 3 => true
    | 4 => true
    | 5 => true
    | 6 => true
    | 7 => true
    | 8 => true
    | 9 => true
    | 10 => true
    | 11 => true
    | 12 => true
    | 13 => true
    | 14 => true
    | 15 => true
    | 16 => false
    | 17 => false
    | 18 => false
    | 19 => false
    | 20 => true
    | 21 => false
    | 22 => true
    | 23 => true
    | 24 => true
    | 25 => true
    | 26 => true
    | 27 => true
    | 28 => true
    | 29 => true
    | 30 => true
    | 31 => false
    | 32 => true
    | _ => true)
def zdef (ci : Nat) : List Value := match ci with
  | 0 => [.null, .null, .null, .null, .null, .null, .null, .null, .int 0, .int 0]
  | 1 => [.null, .int 0]
  | 2 => [.null]
  | 3 => [.null, .null, .null]
  | 4 => [.null, .null, .int 0]
  | 5 => [.null]
  | 6 => [.null, .null, .null, .int 0, .int 0]
  | 7 => [.null, .null, .int 0]
  | 8 => [.null, .null, .null, .int 0]
  | _ => [.int 0, .null, .int 0, .null, .null, .null, .null, .null, .null, .null, .null, .null, .null, .null, .null, .null, .int 0, .int 0, .int 0, .int 0, .null, .int 0, .null, .null, .null, .null, .null, .null, .null, .null, .null, .int 0, .null, .null]
abbrev zPat : Nat := 8
abbrev zPatN : String := "BedMessages$Patient"
abbrev zPatC : vw_C := ("BedMessages$Patient", zT8, 4)
def zRns : List String := ["BedMessages", "BedMessages$Chars", "BedMessages$Frame", "BedMessages$Hospital", "BedMessages$Ledger", "BedMessages$Separators", "BedMessages$Message", "BedMessages$Measured", "BedMessages$Patient", "BedMessagesModel", "BedMessagesLaw", "java/lang/String", "java/lang/StringLatin1", "jdk/internal/util/Preconditions", "BedMessages$Kind", "java/lang/Enum", "java/lang/Math"]
def zRn (o : Nat) : String := zRns.getD o ""
def zcodeL : List ByteArray := [prog_1_method_1_code, prog_1_method_2_code, prog_1_method_19_code, prog_1_method_20_code, prog_1_method_21_code, prog_1_method_3_code, prog_1_method_25_code, prog_1_method_22_code, prog_1_method_23_code, prog_1_method_24_code, prog_1_method_28_code, prog_1_method_26_code, prog_1_method_27_code, prog_1_method_29_code, prog_1_method_30_code, prog_1_method_31_code, prog_1_method_4_code, prog_1_method_5_code, prog_1_method_6_code, prog_1_method_7_code, prog_1_method_8_code, prog_1_method_9_code, prog_1_method_10_code, prog_1_method_11_code, prog_1_method_12_code, prog_1_method_13_code, prog_1_method_14_code, prog_1_method_15_code, prog_1_method_16_code, prog_1_method_17_code, prog_1_method_18_code, prog_3_method_1_code, prog_3_method_3_code, prog_3_method_5_code, prog_3_method_2_code, prog_3_method_7_code, prog_3_method_4_code, prog_3_method_6_code, prog_4_method_1_code, prog_4_method_2_code, prog_4_method_3_code, prog_4_method_4_code, prog_4_method_5_code, prog_4_method_6_code, prog_4_method_7_code, prog_5_method_1_code, prog_5_method_5_code, prog_5_method_13_code, prog_5_method_14_code, prog_5_method_6_code, prog_5_method_2_code, prog_5_method_3_code, prog_5_method_11_code, prog_5_method_15_code, prog_5_method_16_code, prog_5_method_7_code, prog_5_method_12_code, prog_5_method_8_code, prog_5_method_9_code, prog_5_method_10_code, prog_5_method_17_code, prog_5_method_18_code, prog_5_method_4_code, prog_7_method_1_code, prog_7_method_2_code, prog_7_method_3_code, prog_11_method_1_code, prog_11_method_2_code, prog_11_method_5_code, prog_11_method_4_code, prog_11_method_3_code, prog_11_method_6_code, prog_11_method_7_code, prog_9_method_1_code, prog_9_method_2_code, prog_9_method_4_code, prog_9_method_3_code, prog_9_method_14_code, prog_9_method_5_code, prog_9_method_7_code, prog_9_method_15_code, prog_9_method_9_code, prog_9_method_13_code, prog_9_method_11_code, prog_9_method_8_code, prog_9_method_10_code, prog_9_method_12_code, prog_9_method_6_code, prog_9_method_16_code, prog_8_method_1_code, prog_8_method_6_code, prog_8_method_5_code, prog_8_method_2_code, prog_8_method_4_code, prog_8_method_3_code, prog_10_method_1_code, prog_13_method_1_code, prog_13_method_2_code, prog_13_method_48_code, prog_13_method_37_code, prog_13_method_8_code, prog_13_method_9_code, prog_13_method_7_code, prog_13_method_6_code, prog_13_method_3_code, prog_13_method_4_code, prog_13_method_5_code, prog_13_method_16_code, prog_13_method_15_code, prog_13_method_14_code, prog_13_method_13_code, prog_13_method_11_code, prog_13_method_12_code, prog_13_method_10_code, prog_13_method_24_code, prog_13_method_18_code, prog_13_method_19_code, prog_13_method_20_code, prog_13_method_41_code, prog_13_method_25_code, prog_13_method_21_code, prog_13_method_38_code, prog_13_method_23_code, prog_13_method_27_code, prog_13_method_26_code, prog_13_method_28_code, prog_13_method_29_code, prog_13_method_32_code, prog_13_method_30_code, prog_13_method_31_code, prog_13_method_22_code, prog_13_method_36_code, prog_13_method_34_code, prog_13_method_35_code, prog_13_method_33_code, prog_13_method_40_code, prog_13_method_39_code, prog_13_method_42_code, prog_13_method_47_code, prog_13_method_44_code, prog_13_method_43_code, prog_13_method_45_code, prog_13_method_17_code, prog_13_method_46_code, prog_13_method_49_code, prog_13_method_50_code, prog_13_method_51_code, prog_13_method_52_code, prog_13_method_53_code, prog_13_method_55_code, prog_13_method_54_code, prog_13_method_56_code, prog_13_method_57_code, prog_13_method_58_code, prog_13_method_59_code, prog_13_method_60_code, prog_13_method_61_code, prog_13_method_62_code, prog_13_method_66_code, prog_13_method_63_code, prog_13_method_65_code, prog_13_method_64_code, prog_13_method_67_code, prog_17_method_54_code, prog_17_method_152_code, prog_17_method_56_code, prog_17_method_154_code, prog_17_method_155_code, prog_17_method_79_code, prog_17_method_80_code, prog_18_method_2_code, prog_18_method_22_code, prog_18_method_4_code, prog_18_method_23_code, prog_20_method_11_code, prog_15_method_2_code]
def zcode (j : Nat) : ByteArray := zcodeL.getD j code
def zmaxLL : List Nat := [1, 5, 3, 1, 3, 2, 1, 1, 1, 1, 2, 2, 1, 2, 2, 1, 1, 1, 1, 2, 3, 3, 1, 2, 5, 5, 3, 1, 6, 6, 2, 2, 1, 2, 1, 3, 2, 3, 1, 3, 4, 6, 4, 9, 8, 1, 6, 5, 6, 6, 2, 2, 4, 3, 3, 4, 2, 3, 5, 10, 5, 6, 3, 1, 4, 4, 1, 3, 4, 3, 2, 3, 4, 1, 1, 1, 2, 7, 10, 3, 4, 4, 4, 7, 3, 5, 3, 4, 5, 1, 3, 3, 3, 4, 3, 1, 2, 7, 4, 1, 2, 2, 2, 5, 1, 1, 1, 2, 1, 7, 7, 2, 1, 6, 5, 7, 2, 3, 5, 5, 5, 6, 6, 3, 6, 7, 4, 5, 4, 3, 2, 5, 4, 5, 4, 4, 7, 4, 3, 4, 2, 3, 2, 1, 1, 1, 1, 2, 3, 2, 1, 3, 2, 4, 5, 2, 1, 7, 8, 2, 8, 4, 2, 1, 1, 2, 1, 2, 2, 3, 2, 4, 1, 6, 3, 1]
def zmaxL (j : Nat) : Nat := zmaxLL.getD j 4
def zrtL : List (Option FieldType) := [none, (some .int), (some .int), (some .boolean), (some .boolean), (some .int), (some .boolean), (some .boolean), (some .boolean), (some .boolean), none, (some .int), (some .int), none, none, none, (some .int), (some .boolean), (some .int), (some .int), (some .int), (some .int), (some .int), (some .boolean), (some .int), (some .int), (some .int), (some .int), (some .int), (some .int), (some .int), none, (some .int), none, none, (some .boolean), (some .int), none, none, (some .int), (some .boolean), (some .boolean), (some .boolean), (some .boolean), (some .int), none, (some .int), (some .int), (some .int), (some .int), (some (.object "BedMessages$Patient")), (some .int), none, none, none, (some .int), none, (some .int), (some .int), (some .int), (some .boolean), (some .boolean), (some .int), none, (some .int), none, none, none, (some .boolean), (some .int), (some .int), none, none, none, none, none, none, (some .long), (some .int), (some .int), (some (.object "BedMessages$Kind")), (some .boolean), (some .int), (some .int), (some .int), none, (some .int), (some .int), none, none, none, none, (some .int), (some .boolean), (some .int), none, none, (some .int), (some .int), (some .int), (some .boolean), (some .boolean), (some .char), (some .boolean), (some .boolean), (some .boolean), (some .boolean), (some .boolean), (some .boolean), (some .boolean), (some .boolean), none, (some .int), none, (some .boolean), (some .int), (some .int), (some .char), (some .int), (some .int), (some .boolean), (some .int), (some .int), (some .int), (some .int), (some .int), (some .int), (some .boolean), (some .int), (some .int), (some .boolean), (some .boolean), none, (some .boolean), (some .int), none, none, none, none, none, none, none, none, (some .int), (some .int), (some .boolean), (some .int), (some .int), (some .int), (some .int), (some .boolean), (some .int), (some .boolean), (some .int), (some .int), (some .int), (some .int), (some .int), (some .int), none, none, none, (some .int), (some .int), (some .byte), (some .char), (some .boolean), none, (some .int), (some .int), (some .char), (some .int), (some .boolean), (some .int), (some .int), (some .int)]
def zrt (j : Nat) : Option FieldType := zrtL.getD j (some .boolean)
def zownL : List Nat := [0, 0, 0, 0, 0, 0, 0, 0, 0, 0, 0, 0, 0, 0, 0, 0, 0, 0, 0, 0, 0, 0, 0, 0, 0, 0, 0, 0, 0, 0, 0, 1, 1, 1, 1, 1, 1, 1, 2, 2, 2, 2, 2, 2, 2, 3, 3, 3, 3, 3, 3, 3, 3, 3, 3, 3, 3, 3, 3, 3, 3, 3, 3, 4, 4, 4, 5, 5, 5, 5, 5, 5, 5, 6, 6, 6, 6, 6, 6, 6, 6, 6, 6, 6, 6, 6, 6, 6, 6, 7, 7, 7, 7, 7, 7, 8, 9, 9, 9, 9, 9, 9, 9, 9, 9, 9, 9, 9, 9, 9, 9, 9, 9, 9, 9, 9, 9, 9, 9, 9, 9, 9, 9, 9, 9, 9, 9, 9, 9, 9, 9, 9, 9, 9, 9, 9, 9, 9, 9, 9, 9, 9, 9, 9, 9, 9, 9, 9, 9, 9, 9, 9, 9, 9, 9, 9, 9, 9, 9, 9, 9, 9, 9, 11, 11, 11, 11, 11, 11, 11, 12, 12, 12, 12, 13, 15]
def zown (j : Nat) : Nat := zownL.getD j 10
def znameL : List MethodName := [⟨"BedMessages", "<init>", "()V"⟩, ⟨"BedMessages", "type", "(J)I"⟩, ⟨"BedMessages", "byteOf", "(JI)I"⟩, ⟨"BedMessages", "mayStandInFrame", "(I)Z"⟩, ⟨"BedMessages", "isBetween", "(III)Z"⟩, ⟨"BedMessages", "end", "()I"⟩, ⟨"BedMessages", "isLetterOrDigit", "(I)Z"⟩, ⟨"BedMessages", "isCapital", "(I)Z"⟩, ⟨"BedMessages", "isSmall", "(I)Z"⟩, ⟨"BedMessages", "isDigit", "(I)Z"⟩, ⟨"BedMessages", "makeSpareLatest", "()V"⟩, ⟨"BedMessages", "codeOf", "(II)I"⟩, ⟨"BedMessages", "receiptFor", "(I)I"⟩, ⟨"BedMessages", "writeReceipt", "()V"⟩, ⟨"BedMessages", "writeReceiptField", "(Ljava/lang/String;)V"⟩, ⟨"BedMessages", "writeReceiptIdentity", "()V"⟩, ⟨"BedMessages", "reason", "()I"⟩, ⟨"BedMessages", "replayed", "()Z"⟩, ⟨"BedMessages", "receiptLength", "()I"⟩, ⟨"BedMessages", "receipt", "(I)I"⟩, ⟨"BedMessages", "patient", "(II)I"⟩, ⟨"BedMessages", "bedOf", "(I)I"⟩, ⟨"BedMessages", "inBeds", "()I"⟩, ⟨"BedMessages", "known", "(I)Z"⟩, ⟨"BedMessages", "name", "(III)I"⟩, ⟨"BedMessages", "result", "(ICC)I"⟩, ⟨"BedMessages", "results", "(I)I"⟩, ⟨"BedMessages", "segments", "()I"⟩, ⟨"BedMessages", "text", "(IIIII)I"⟩, ⟨"BedMessages", "write", "(CCCCC)I"⟩, ⟨"BedMessages", "written", "(I)I"⟩, ⟨"BedMessages$Chars", "<init>", "(I)V"⟩, ⟨"BedMessages$Chars", "room", "()I"⟩, ⟨"BedMessages$Chars", "put", "(I)V"⟩, ⟨"BedMessages$Chars", "clear", "()V"⟩, ⟨"BedMessages$Chars", "beginsWith", "(Ljava/lang/String;)Z"⟩, ⟨"BedMessages$Chars", "at", "(I)I"⟩, ⟨"BedMessages$Chars", "putAll", "(Ljava/lang/String;)V"⟩, ⟨"BedMessages$Frame", "<init>", "()V"⟩, ⟨"BedMessages$Frame", "readInto", "(LBedMessages$Message;)I"⟩, ⟨"BedMessages$Frame", "readSegments", "(LBedMessages$Message;)Z"⟩, ⟨"BedMessages$Frame", "readSegment", "(LBedMessages$Message;II)Z"⟩, ⟨"BedMessages$Frame", "isName", "(I)Z"⟩, ⟨"BedMessages$Frame", "readFields", "(LBedMessages$Message;II)Z"⟩, ⟨"BedMessages$Frame", "escaped", "(LBedMessages$Separators;I)I"⟩, ⟨"BedMessages$Hospital", "<init>", "()V"⟩, ⟨"BedMessages$Hospital", "take", "(LBedMessages$Message;)I"⟩, ⟨"BedMessages$Hospital", "patientNumber", "(LBedMessages$Message;I)I"⟩, ⟨"BedMessages$Hospital", "bedAsked", "(LBedMessages$Message;)I"⟩, y_adm, ⟨"BedMessages$Hospital", "find", "(I)LBedMessages$Patient;"⟩, ⟨"BedMessages$Hospital", "patientIn", "(I)I"⟩, ⟨"BedMessages$Hospital", "putInBed", "(ILBedMessages$Patient;I)V"⟩, ⟨"BedMessages$Hospital", "takeNames", "(LBedMessages$Message;ILBedMessages$Patient;)V"⟩, ⟨"BedMessages$Hospital", "takeName", "(LBedMessages$Message;ILBedMessages$Chars;)V"⟩, ⟨"BedMessages$Hospital", "move", "(II)I"⟩, ⟨"BedMessages$Hospital", "emptyBedOf", "(LBedMessages$Patient;)V"⟩, ⟨"BedMessages$Hospital", "leave", "(I)I"⟩, ⟨"BedMessages$Hospital", "rename", "(LBedMessages$Message;II)I"⟩, ⟨"BedMessages$Hospital", "measure", "(LBedMessages$Message;I)I"⟩, ⟨"BedMessages$Hospital", "areValues", "(LBedMessages$Message;I)Z"⟩, ⟨"BedMessages$Hospital", "tryValues", "(LBedMessages$Message;II)Z"⟩, ⟨"BedMessages$Hospital", "countInBeds", "()I"⟩, ⟨"BedMessages$Ledger", "<init>", "()V"⟩, ⟨"BedMessages$Ledger", "reasonOf", "(J)I"⟩, ⟨"BedMessages$Ledger", "add", "(JI)V"⟩, ⟨"BedMessages$Separators", "<init>", "()V"⟩, ⟨"BedMessages$Separators", "set", "(II)V"⟩, ⟨"BedMessages$Separators", "areProper", "()Z"⟩, ⟨"BedMessages$Separators", "placeOf", "(I)I"⟩, ⟨"BedMessages$Separators", "at", "(I)I"⟩, ⟨"BedMessages$Separators", "putAllTo", "(LBedMessages$Chars;)V"⟩, ⟨"BedMessages$Separators", "putTextCharacter", "(ILBedMessages$Chars;)V"⟩, ⟨"BedMessages$Message", "<init>", "()V"⟩, ⟨"BedMessages$Message", "clear", "()V"⟩, ⟨"BedMessages$Message", "startSegment", "()V"⟩, ⟨"BedMessages$Message", "add", "(I)V"⟩, ⟨"BedMessages$Message", "identity", "()J"⟩, ⟨"BedMessages$Message", "find", "(IIII)I"⟩, ⟨"BedMessages$Message", "textLength", "(I)I"⟩, ⟨"BedMessages$Message", "kind", "()LBedMessages$Kind;"⟩, ⟨"BedMessages$Message", "says", "(ILjava/lang/String;)Z"⟩, ⟨"BedMessages$Message", "nextNamed", "(Ljava/lang/String;I)I"⟩, ⟨"BedMessages$Message", "number", "(II)I"⟩, ⟨"BedMessages$Message", "character", "(II)I"⟩, ⟨"BedMessages$Message", "copyText", "(ILBedMessages$Chars;)V"⟩, ⟨"BedMessages$Message", "code", "(I)I"⟩, ⟨"BedMessages$Message", "nextRepetition", "(I)I"⟩, ⟨"BedMessages$Message", "writeTo", "(LBedMessages$Chars;LBedMessages$Separators;)V"⟩, ⟨"BedMessages$Measured", "<init>", "()V"⟩, ⟨"BedMessages$Measured", "copyFrom", "(LBedMessages$Measured;)V"⟩, ⟨"BedMessages$Measured", "remove", "(I)V"⟩, ⟨"BedMessages$Measured", "placeOf", "(I)I"⟩, ⟨"BedMessages$Measured", "set", "(II)Z"⟩, ⟨"BedMessages$Measured", "valueOf", "(I)I"⟩, ⟨"BedMessages$Patient", "<init>", "()V"⟩, ⟨"BedMessagesModel", "<init>", "()V"⟩, ⟨"BedMessagesModel", "type", "(J)I"⟩, ⟨"BedMessagesModel", "end", "()I"⟩, ⟨"BedMessagesModel", "reject", "()I"⟩, ⟨"BedMessagesModel", "begin", "()Z"⟩, ⟨"BedMessagesModel", "readSeparators", "()Z"⟩, ⟨"BedMessagesModel", "now", "(I)C"⟩, ⟨"BedMessagesModel", "fitting", "([C)Z"⟩, ⟨"BedMessagesModel", "capital", "(C)Z"⟩, ⟨"BedMessagesModel", "small", "(C)Z"⟩, ⟨"BedMessagesModel", "digit", "(C)Z"⟩, ⟨"BedMessagesModel", "apart", "()Z"⟩, ⟨"BedMessagesModel", "rest", "()Z"⟩, ⟨"BedMessagesModel", "fields", "()Z"⟩, ⟨"BedMessagesModel", "escape", "()Z"⟩, ⟨"BedMessagesModel", "add", "(C)V"⟩, ⟨"BedMessagesModel", "hex", "(C)I"⟩, ⟨"BedMessagesModel", "open", "(IIII)V"⟩, ⟨"BedMessagesModel", "hasIdentity", "()Z"⟩, ⟨"BedMessagesModel", "find", "(IIIII)I"⟩, ⟨"BedMessagesModel", "sizeOf", "(I)I"⟩, ⟨"BedMessagesModel", "charOf", "(II)C"⟩, ⟨"BedMessagesModel", "seen", "()I"⟩, ⟨"BedMessagesModel", "kind", "()I"⟩, ⟨"BedMessagesModel", "is", "(ICCC)Z"⟩, ⟨"BedMessagesModel", "judge", "(I)I"⟩, ⟨"BedMessagesModel", "segment", "(CCCI)I"⟩, ⟨"BedMessagesModel", "patientIn", "(I)I"⟩, ⟨"BedMessagesModel", "number", "(II)I"⟩, ⟨"BedMessagesModel", "bedIn", "(I)I"⟩, ⟨"BedMessagesModel", "whoIsIn", "(I)I"⟩, ⟨"BedMessagesModel", "wrongResults", "()Z"⟩, ⟨"BedMessagesModel", "codeIn", "(I)I"⟩, ⟨"BedMessagesModel", "repetitions", "(I)I"⟩, ⟨"BedMessagesModel", "isNull", "(I)Z"⟩, ⟨"BedMessagesModel", "tryResults", "(I)Z"⟩, ⟨"BedMessagesModel", "copyResults", "(II)V"⟩, ⟨"BedMessagesModel", "tryValue", "(II)Z"⟩, ⟨"BedMessagesModel", "resultAt", "(II)I"⟩, ⟨"BedMessagesModel", "act", "(I)V"⟩, ⟨"BedMessagesModel", "takeName", "(III)V"⟩, ⟨"BedMessagesModel", "remember", "(I)V"⟩, ⟨"BedMessagesModel", "write0", "(I)V"⟩, ⟨"BedMessagesModel", "sayThree", "(CCC)V"⟩, ⟨"BedMessagesModel", "say", "(C)V"⟩, ⟨"BedMessagesModel", "sayIdentity", "()V"⟩, ⟨"BedMessagesModel", "keep", "()V"⟩, ⟨"BedMessagesModel", "answerOf", "(I)I"⟩, ⟨"BedMessagesModel", "reason", "()I"⟩, ⟨"BedMessagesModel", "replayed", "()Z"⟩, ⟨"BedMessagesModel", "receiptLength", "()I"⟩, ⟨"BedMessagesModel", "receipt", "(I)I"⟩, ⟨"BedMessagesModel", "patient", "(II)I"⟩, ⟨"BedMessagesModel", "bedOf", "(I)I"⟩, ⟨"BedMessagesModel", "isPatient", "(I)Z"⟩, ⟨"BedMessagesModel", "inBeds", "()I"⟩, ⟨"BedMessagesModel", "known", "(I)Z"⟩, ⟨"BedMessagesModel", "name", "(III)I"⟩, ⟨"BedMessagesModel", "result", "(ICC)I"⟩, ⟨"BedMessagesModel", "results", "(I)I"⟩, ⟨"BedMessagesModel", "segments", "()I"⟩, ⟨"BedMessagesModel", "text", "(IIIII)I"⟩, ⟨"BedMessagesModel", "write", "(CCCCC)I"⟩, ⟨"BedMessagesModel", "put", "(C)V"⟩, ⟨"BedMessagesModel", "putSegment", "(I)V"⟩, ⟨"BedMessagesModel", "putText", "(C)V"⟩, ⟨"BedMessagesModel", "written", "(I)I"⟩, ⟨"java/lang/String", "length", "()I"⟩, ⟨"java/lang/String", "coder", "()B"⟩, ⟨"java/lang/String", "charAt", "(I)C"⟩, ⟨"java/lang/String", "isLatin1", "()Z"⟩, ⟨"java/lang/String", "checkIndex", "(II)V"⟩, ⟨"java/lang/String", "indexOf", "(I)I"⟩, ⟨"java/lang/String", "indexOf", "(II)I"⟩, ⟨"java/lang/StringLatin1", "charAt", "([BI)C"⟩, ⟨"java/lang/StringLatin1", "indexOf", "([BIII)I"⟩, ⟨"java/lang/StringLatin1", "canEncode", "(I)Z"⟩, ⟨"java/lang/StringLatin1", "indexOfChar", "([BIII)I"⟩, ⟨"jdk/internal/util/Preconditions", "checkIndex", "(IILjava/util/function/BiFunction;)I"⟩, ⟨"java/lang/Enum", "ordinal", "()I"⟩]
def zname (j : Nat) : MethodName := znameL.getD j ⟨"BedMessagesLaw", "law", "([I)Z"⟩
def ziniL : List Bool := [true, false, false, false, false, false, false, false, false, false, false, false, false, false, false, false, false, false, false, false, false, false, false, false, false, false, false, false, false, false, false, true, false, false, false, false, false, false, true, false, false, false, false, false, false, true, false, false, false, false, false, false, false, false, false, false, false, false, false, false, false, false, false, true, false, false, true, false, false, false, false, false, false, true, false, false, false, false, false, false, false, false, false, false, false, false, false, false, false, true, false, false, false, false, false, true, true, false, false, false, false, false, false, false, false, false, false, false, false, false, false, false, false, false, false, false, false, false, false, false, false, false, false, false, false, false, false, false, false, false, false, false, false, false, false, false, false, false, false, false, false, false, false, false, false, false, false, false, false, false, false, false, false, false, false, false, false, false, false, false, false, false, false, false, false, false, false, false, false, false, false, false, false, false, false, false]
def zini (j : Nat) : Bool := ziniL.getD j false
abbrev zNM : Nat := 176
abbrev j_B_init : Nat := 0
abbrev j_B_type : Nat := 1
abbrev j_B_byteOf : Nat := 2
abbrev j_B_mayStandInFrame : Nat := 3
abbrev j_B_isBetween : Nat := 4
abbrev j_B_end : Nat := 5
abbrev j_B_isLetterOrDigit : Nat := 6
abbrev j_B_isCapital : Nat := 7
abbrev j_B_isSmall : Nat := 8
abbrev j_B_isDigit : Nat := 9
abbrev j_B_makeSpareLatest : Nat := 10
abbrev j_B_codeOf : Nat := 11
abbrev j_B_receiptFor : Nat := 12
abbrev j_B_writeReceipt : Nat := 13
abbrev j_B_writeReceiptField : Nat := 14
abbrev j_B_writeReceiptIdentity : Nat := 15
abbrev j_B_reason : Nat := 16
abbrev j_B_replayed : Nat := 17
abbrev j_B_receiptLength : Nat := 18
abbrev j_B_receipt : Nat := 19
abbrev j_B_patient : Nat := 20
abbrev j_B_bedOf : Nat := 21
abbrev j_B_inBeds : Nat := 22
abbrev j_B_known : Nat := 23
abbrev j_B_name : Nat := 24
abbrev j_B_result : Nat := 25
abbrev j_B_results : Nat := 26
abbrev j_B_segments : Nat := 27
abbrev j_B_text : Nat := 28
abbrev j_B_write : Nat := 29
abbrev j_B_written : Nat := 30
abbrev j_Chars_init : Nat := 31
abbrev j_Chars_room : Nat := 32
abbrev j_Chars_put : Nat := 33
abbrev j_Chars_clear : Nat := 34
abbrev j_Chars_beginsWith : Nat := 35
abbrev j_Chars_at : Nat := 36
abbrev j_Chars_putAll : Nat := 37
abbrev j_Frame_init : Nat := 38
abbrev j_Frame_readInto : Nat := 39
abbrev j_Frame_readSegments : Nat := 40
abbrev j_Frame_readSegment : Nat := 41
abbrev j_Frame_isName : Nat := 42
abbrev j_Frame_readFields : Nat := 43
abbrev j_Frame_escaped : Nat := 44
abbrev j_Hosp_init : Nat := 45
abbrev j_Hosp_take : Nat := 46
abbrev j_Hosp_patientNumber : Nat := 47
abbrev j_Hosp_bedAsked : Nat := 48
abbrev j_Hosp_admit : Nat := 49
abbrev j_Hosp_find : Nat := 50
abbrev j_Hosp_patientIn : Nat := 51
abbrev j_Hosp_putInBed : Nat := 52
abbrev j_Hosp_takeNames : Nat := 53
abbrev j_Hosp_takeName : Nat := 54
abbrev j_Hosp_move : Nat := 55
abbrev j_Hosp_emptyBedOf : Nat := 56
abbrev j_Hosp_leave : Nat := 57
abbrev j_Hosp_rename : Nat := 58
abbrev j_Hosp_measure : Nat := 59
abbrev j_Hosp_areValues : Nat := 60
abbrev j_Hosp_tryValues : Nat := 61
abbrev j_Hosp_countInBeds : Nat := 62
abbrev j_Ledg_init : Nat := 63
abbrev j_Ledg_reasonOf : Nat := 64
abbrev j_Ledg_add : Nat := 65
abbrev j_Seps_init : Nat := 66
abbrev j_Seps_set : Nat := 67
abbrev j_Seps_areProper : Nat := 68
abbrev j_Seps_placeOf : Nat := 69
abbrev j_Seps_at : Nat := 70
abbrev j_Seps_putAllTo : Nat := 71
abbrev j_Seps_putTextCharacter : Nat := 72
abbrev j_Mess_init : Nat := 73
abbrev j_Mess_clear : Nat := 74
abbrev j_Mess_startSegment : Nat := 75
abbrev j_Mess_add : Nat := 76
abbrev j_Mess_identity : Nat := 77
abbrev j_Mess_find : Nat := 78
abbrev j_Mess_textLength : Nat := 79
abbrev j_Mess_kind : Nat := 80
abbrev j_Mess_says : Nat := 81
abbrev j_Mess_nextNamed : Nat := 82
abbrev j_Mess_number : Nat := 83
abbrev j_Mess_character : Nat := 84
abbrev j_Mess_copyText : Nat := 85
abbrev j_Mess_code : Nat := 86
abbrev j_Mess_nextRepetition : Nat := 87
abbrev j_Mess_writeTo : Nat := 88
abbrev j_Meas_init : Nat := 89
abbrev j_Meas_copyFrom : Nat := 90
abbrev j_Meas_remove : Nat := 91
abbrev j_Meas_placeOf : Nat := 92
abbrev j_Meas_set : Nat := 93
abbrev j_Meas_valueOf : Nat := 94
abbrev j_Pat_init : Nat := 95
abbrev j_Mod_init : Nat := 96
abbrev j_Mod_type : Nat := 97
abbrev j_Mod_end : Nat := 98
abbrev j_Mod_reject : Nat := 99
abbrev j_Mod_begin : Nat := 100
abbrev j_Mod_readSeparators : Nat := 101
abbrev j_Mod_now : Nat := 102
abbrev j_Mod_fitting : Nat := 103
abbrev j_Mod_capital : Nat := 104
abbrev j_Mod_small : Nat := 105
abbrev j_Mod_digit : Nat := 106
abbrev j_Mod_apart : Nat := 107
abbrev j_Mod_rest : Nat := 108
abbrev j_Mod_fields : Nat := 109
abbrev j_Mod_escape : Nat := 110
abbrev j_Mod_add : Nat := 111
abbrev j_Mod_hex : Nat := 112
abbrev j_Mod_open : Nat := 113
abbrev j_Mod_hasIdentity : Nat := 114
abbrev j_Mod_find : Nat := 115
abbrev j_Mod_sizeOf : Nat := 116
abbrev j_Mod_charOf : Nat := 117
abbrev j_Mod_seen : Nat := 118
abbrev j_Mod_kind : Nat := 119
abbrev j_Mod_is : Nat := 120
abbrev j_Mod_judge : Nat := 121
abbrev j_Mod_segment : Nat := 122
abbrev j_Mod_patientIn : Nat := 123
abbrev j_Mod_number : Nat := 124
abbrev j_Mod_bedIn : Nat := 125
abbrev j_Mod_whoIsIn : Nat := 126
abbrev j_Mod_wrongResults : Nat := 127
abbrev j_Mod_codeIn : Nat := 128
abbrev j_Mod_repetitions : Nat := 129
abbrev j_Mod_isNull : Nat := 130
abbrev j_Mod_tryResults : Nat := 131
abbrev j_Mod_copyResults : Nat := 132
abbrev j_Mod_tryValue : Nat := 133
abbrev j_Mod_resultAt : Nat := 134
abbrev j_Mod_act : Nat := 135
abbrev j_Mod_takeName : Nat := 136
abbrev j_Mod_remember : Nat := 137
abbrev j_Mod_write0 : Nat := 138
abbrev j_Mod_sayThree : Nat := 139
abbrev j_Mod_say : Nat := 140
abbrev j_Mod_sayIdentity : Nat := 141
abbrev j_Mod_keep : Nat := 142
abbrev j_Mod_answerOf : Nat := 143
abbrev j_Mod_reason : Nat := 144
abbrev j_Mod_replayed : Nat := 145
abbrev j_Mod_receiptLength : Nat := 146
abbrev j_Mod_receipt : Nat := 147
abbrev j_Mod_patient : Nat := 148
abbrev j_Mod_bedOf : Nat := 149
abbrev j_Mod_isPatient : Nat := 150
abbrev j_Mod_inBeds : Nat := 151
abbrev j_Mod_known : Nat := 152
abbrev j_Mod_name : Nat := 153
abbrev j_Mod_result : Nat := 154
abbrev j_Mod_results : Nat := 155
abbrev j_Mod_segments : Nat := 156
abbrev j_Mod_text : Nat := 157
abbrev j_Mod_write : Nat := 158
abbrev j_Mod_put : Nat := 159
abbrev j_Mod_putSegment : Nat := 160
abbrev j_Mod_putText : Nat := 161
abbrev j_Mod_written : Nat := 162
abbrev j_Str_length : Nat := 163
abbrev j_Str_coder : Nat := 164
abbrev j_Str_charAt : Nat := 165
abbrev j_Str_isLatin1 : Nat := 166
abbrev j_Str_checkIndex : Nat := 167
abbrev j_Str_indexOf : Nat := 168
abbrev j_Str_indexOf2 : Nat := 169
abbrev j_Lat_charAt : Nat := 170
abbrev j_Lat_indexOf : Nat := 171
abbrev j_Lat_canEncode : Nat := 172
abbrev j_Lat_indexOfChar : Nat := 173
abbrev j_Prec_checkIndex : Nat := 174
abbrev j_Enum_ordinal : Nat := 175
abbrev j_law : Nat := 176
def zlook {α : Type} (T : List (Nat × α)) (i : Nat) : Option α := match T with
  | [] => none
  | e :: r => if e.1 = i then some e.2 else zlook r i
theorem zlook_mem {α : Type} {T : List (Nat × α)} {i : Nat} {x : α} (h : zlook T i = some x) : (i, x) ∈ T := by
  induction T with
  | nil => cases h
  | cons e r ih =>
    rw [zlook] at h
    split at h
    · rename_i he
      cases h
      subst he
      exact List.mem_cons_self
    · exact List.mem_cons_of_mem _ (ih h)
def zlk {α : Type} (T : List (List (Nat × α))) (o i : Nat) : Option α := zlook (T.getD o []) i
theorem zlk_all {α : Type} {T : List (List (Nat × α))} {p : Nat → Nat → α → Bool} (h : (List.range T.length).all (fun o => (T.getD o []).all (fun e => p o e.1 e.2)) = true) {o i : Nat} {x : α} (hx : zlk T o i = some x) : p o i x = true := by
  have hm := zlook_mem hx
  have ho : o < T.length := by
    rcases Nat.lt_or_ge o T.length with q | q
    · exact q
    · rw [List.getD_eq_getElem?_getD, List.getElem?_eq_none q] at hm
      cases hm
  have h1 := List.all_eq_true.mp h o (List.mem_range.mpr ho)
  exact List.all_eq_true.mp h1 _ hm
def zflT : List (List (Nat × (Nat × Nat × Bool))) := [[(12, (0, 0, false)), (19, (0, 1, false)), (26, (0, 2, false)), (33, (0, 3, false)), (42, (0, 4, false)), (46, (0, 5, false)), (52, (0, 6, false)), (56, (0, 7, false)), (59, (0, 8, false)), (63, (0, 9, false)), (75, (2, 0, true)), (117, (1, 1, true)), (130, (8, 3, true)), (138, (8, 0, true)), (141, (8, 1, true)), (144, (8, 2, true)), (157, (7, 2, true)), (160, (6, 4, true)), (200, (6, 0, true))],
  [(9, (1, 1, false)), (15, (1, 0, false))],
  [(14, (2, 0, false)), (31, (6, 0, true)), (53, (6, 4, true)), (61, (1, 1, true))],
  [(9, (3, 0, false)), (17, (3, 1, false)), (24, (3, 2, false)), (82, (8, 3, true)), (102, (8, 2, true)), (140, (8, 0, true)), (148, (8, 1, true))],
  [(9, (4, 0, false)), (15, (4, 1, false)), (19, (4, 2, false))],
  [(9, (5, 0, false))],
  [(14, (6, 0, false)), (18, (6, 1, false)), (22, (6, 2, false)), (25, (6, 3, false)), (29, (6, 4, false))],
  [(9, (7, 0, false)), (15, (7, 1, false)), (18, (7, 2, false))],
  [(14, (8, 0, false)), (20, (8, 1, false)), (26, (8, 2, false)), (30, (8, 3, false))],
  [(7, (9, 1, false)), (13, (9, 3, false)), (17, (9, 4, false)), (20, (9, 5, false)), (23, (9, 6, false)), (26, (9, 7, false)), (29, (9, 8, false)), (32, (9, 9, false)), (35, (9, 10, false)), (38, (9, 11, false)), (41, (9, 12, false)), (44, (9, 13, false)), (47, (9, 14, false)), (50, (9, 15, false)), (53, (9, 20, false)), (56, (9, 22, false)), (59, (9, 23, false)), (62, (9, 24, false)), (66, (9, 25, false)), (69, (9, 26, false)), (72, (9, 27, false)), (75, (9, 28, false)), (78, (9, 29, false)), (81, (9, 30, false)), (84, (9, 32, false)), (87, (9, 33, false)), (98, (9, 0, false)), (112, (9, 2, false)), (221, (9, 21, false)), (224, (9, 19, false)), (237, (9, 16, false)), (241, (9, 18, false)), (248, (9, 17, false)), (279, (9, 31, false))],
  [],
  [],
  [],
  [],
  [],
  [],
  []]
def zfl (o i : Nat) : Option (Nat × Nat × Bool) := zlk zflT o i
def zclT : List (List (Nat × Nat)) := [[(9, 2), (16, 3), (23, 4), (30, 5), (37, 1), (49, 6)],
  [],
  [(9, 1)],
  [(15, 8), (21, 7)],
  [],
  [],
  [(11, 5)],
  [],
  [(9, 1), (23, 7)],
  [],
  [(7, 0), (10, 9)],
  [],
  [],
  [],
  [],
  [],
  []]
def zcl (o i : Nat) : Option Nat := zlk zclT o i
def zal (o i : Nat) : Bool := decide (o = 3 ∧ i = 15)
def zldT : List (List (Nat × Value)) := [[(194, (.ref 1)), (207, (.ref 8)), (215, (.ref 9)), (217, (.ref 10)), (219, (.ref 11)), (221, (.ref 12)), (223, (.ref 13)), (225, (.ref 14))],
  [],
  [(25, (.ref 1)), (95, (.ref 2)), (102, (.ref 3))],
  [(34, (.ref 4)), (109, (.ref 7)), (135, (.ref 5)), (156, (.ref 6))],
  [],
  [(33, (.ref 2))],
  [(93, (.ref 1))],
  [],
  [],
  [],
  [],
  [],
  [],
  [],
  [(46, (.ref 15)), (48, (.ref 16)), (54, (.ref 17)), (57, (.ref 18)), (60, (.ref 19)), (63, (.ref 20)), (65, (.ref 21))],
  [],
  []]
def zld (o i : Nat) : Option Value := zlk zldT o i
def zl2T : List (List (Nat × Int64)) := [[],
  [],
  [],
  [],
  [],
  [],
  [(78, 128)],
  [],
  [],
  [(90, 255), (92, 13), (94, 32), (96, 126)],
  [(13, 4294967295)],
  [],
  [],
  [],
  [],
  [],
  []]
def zl2 (o i : Nat) : Option Int64 := zlk zl2T o i
def zSR : List (Nat × Nat × String × Nat) := [(2, 25, "HDR", 1), (2, 95, "FSRET", 2), (2, 102, "0123456789ABCDEF", 3), (3, 34, "PID", 4), (3, 135, "PV1", 5), (3, 156, "\"\"", 6), (3, 109, "OBX", 7), (0, 194, "HDR", 1), (0, 207, "ENG", 8), (0, 215, "ACK", 9), (0, 217, "MSA", 10), (0, 219, "AA", 11), (0, 221, "AE", 12), (0, 223, "AR", 13), (0, 225, "", 14), (6, 93, "HDR", 1), (5, 33, "FSRET", 2), (14, 46, "ADT", 15), (14, 48, "A01", 16), (14, 54, "A02", 17), (14, 57, "A03", 18), (14, 60, "A08", 19), (14, 63, "ORU", 20), (14, 65, "R01", 21)]
def zSV (X : zX) : List (String × String × String × Value) := [("java/lang/String", "COMPACT_STRINGS", "Z", .int 1), ("BedMessages", "KINDS", "[LBedMessages$Kind;", .ref 75), ("BedMessages$1", "$SwitchMap$BedMessages$Kind", "[I", .ref 76), ("jdk/internal/util/Preconditions", "SIOOBE_FORMATTER", "Ljava/util/function/BiFunction;", X.2.2)]
def zslT : List (List (Nat × (Value × (String × String × String) × Bool))) := [[],
  [],
  [],
  [(48, (.ref 76, ("BedMessages$1", "$SwitchMap$BedMessages$Kind", "[I"), false))],
  [],
  [],
  [(80, (.ref 75, ("BedMessages", "KINDS", "[LBedMessages$Kind;"), true))],
  [],
  [],
  [],
  [],
  [(38, (.int 1, ("java/lang/String", "COMPACT_STRINGS", "Z"), false))],
  [],
  [],
  [],
  [],
  []]
def zsl (X : zX) (o i : Nat) : Option (Value × (String × String × String) × Bool) := if o = 11 ∧ i = 1053 then some (X.2.2, ("jdk/internal/util/Preconditions", "SIOOBE_FORMATTER", "Ljava/util/function/BiFunction;"), false) else zlk zslT o i
def zklT : List (List (Nat × (Nat × Bool))) := [[],
  [],
  [],
  [],
  [],
  [],
  [(84, (2, true)), (90, (3, true))],
  [],
  [],
  [],
  [],
  [(9, (0, false)), (15, (1, false))],
  [],
  [],
  [],
  [(7, (4, false))],
  []]
def zCF : List (Nat × Nat × Value) := [(1, 0, .ref 40), (1, 1, .int 0), (2, 0, .ref 41), (2, 1, .int 0), (3, 0, .ref 42), (3, 1, .int 0), (4, 0, .ref 43), (4, 1, .int 0), (5, 0, .ref 44), (5, 1, .int 0), (6, 0, .ref 45), (6, 1, .int 0), (7, 0, .ref 46), (7, 1, .int 0), (8, 0, .ref 47), (8, 1, .int 0), (9, 0, .ref 48), (9, 1, .int 0), (10, 0, .ref 49), (10, 1, .int 0), (11, 0, .ref 50), (11, 1, .int 0), (12, 0, .ref 51), (12, 1, .int 0), (13, 0, .ref 52), (13, 1, .int 0), (14, 0, .ref 53), (14, 1, .int 0), (15, 0, .ref 54), (15, 1, .int 0), (16, 0, .ref 55), (16, 1, .int 0), (17, 0, .ref 56), (17, 1, .int 0), (18, 0, .ref 57), (18, 1, .int 0), (19, 0, .ref 58), (19, 1, .int 0), (20, 0, .ref 59), (20, 1, .int 0), (21, 0, .ref 60), (21, 1, .int 0), (70, 2, .ref 15), (70, 3, .ref 16), (70, 4, .int 0), (71, 2, .ref 15), (71, 3, .ref 17), (71, 4, .int 1), (72, 2, .ref 15), (72, 3, .ref 18), (72, 4, .int 2), (73, 2, .ref 15), (73, 3, .ref 19), (73, 4, .int 3), (74, 2, .ref 20), (74, 3, .ref 21), (74, 4, .int 4)]
def zfn (k : Nat) : String × String × String := match k with
  | 0 => ("java/lang/String", "value", "[B")
  | 1 => ("java/lang/String", "coder", "B")
  | 2 => ("BedMessages$Kind", "group", "Ljava/lang/String;")
  | 3 => ("BedMessages$Kind", "event", "Ljava/lang/String;")
  | _ => ("java/lang/Enum", "ordinal", "I")
def zcf (T : List (Nat × Nat × Value)) (a k : Nat) : Option Value := match T with
  | [] => none
  | e :: r => if e.1 = a ∧ e.2.1 = k then some e.2.2 else zcf r a k
theorem zcf_mem {T : List (Nat × Nat × Value)} {a k : Nat} {v : Value} (h : zcf T a k = some v) : (a, k, v) ∈ T := by
  induction T with
  | nil => cases h
  | cons e r ih =>
    rw [zcf] at h
    split at h
    · rename_i he
      cases h
      obtain ⟨rfl, rfl⟩ := he
      exact List.mem_cons_self
    · exact List.mem_cons_of_mem _ (ih h)
def zkf (o i a : Nat) : Option Value := match zlk zklT o i with
  | some q => zcf zCF a q.1
  | none => none
def zCO : List (Nat × Nat) := [(1, 11), (2, 11), (3, 11), (4, 11), (5, 11), (6, 11), (7, 11), (8, 11), (9, 11), (10, 11), (11, 11), (12, 11), (13, 11), (14, 11), (15, 11), (16, 11), (17, 11), (18, 11), (19, 11), (20, 11), (21, 11), (70, 14), (71, 14), (72, 14), (73, 14), (74, 14)]
def zko (b : Nat) : Option Nat := zlook zCO b
def zbyt (i : Nat) : List Int32 := match i with
  | 40 => [72, 68, 82]
  | 41 => [70, 83, 82, 69, 84]
  | 42 => [48, 49, 50, 51, 52, 53, 54, 55, 56, 57, 65, 66, 67, 68, 69, 70]
  | 43 => [80, 73, 68]
  | 44 => [80, 86, 49]
  | 45 => [34, 34]
  | 46 => [79, 66, 88]
  | 47 => [69, 78, 71]
  | 48 => [65, 67, 75]
  | 49 => [77, 83, 65]
  | 50 => [65, 65]
  | 51 => [65, 69]
  | 52 => [65, 82]
  | 53 => []
  | 54 => [65, 68, 84]
  | 55 => [65, 48, 49]
  | 56 => [65, 48, 50]
  | 57 => [65, 48, 51]
  | 58 => [65, 48, 56]
  | 59 => [79, 82, 85]
  | 60 => [82, 48, 49]
  | _ => []
def zka (X : zX) (a : Nat) : Option (Nat × Nat × (Nat → Value)) :=
  if a = 0 then some (0, X.1, fun j => .int (X.2.1 j)) else
  if a = 75 then some (6, 5, fun j => .ref (70 + j)) else
  if a = 76 then some (0, 5, fun j => .int (([1, 2, 3, 4, 0] : List Int32).getD j 0)) else
  if 40 ≤ a ∧ a < 61 then some (4, (zbyt a).length, fun j => .int ((zbyt a).getD j 0)) else none
def zkty (t : Nat) : FieldType := match t with
  | 0 => .int
  | 1 => .char
  | 2 => .long
  | 3 => .boolean
  | 4 => .byte
  | _ => .object "BedMessages$Kind"
def znF : List (String × Nat × String × String × String × String) := [("BedMessages$Frame", 61, "BedMessages$Chars", "length", "I", "BedMessages"), ("BedMessages", 117, "BedMessages$Chars", "length", "I", "BedMessages"), ("BedMessages", 75, "BedMessages$Frame", "typed", "LBedMessages$Chars;", "BedMessages"), ("BedMessages", 157, "BedMessages$Measured", "count", "I", "BedMessages"), ("BedMessages$Frame", 31, "BedMessages$Message", "separators", "LBedMessages$Separators;", "BedMessages"), ("BedMessages", 200, "BedMessages$Message", "separators", "LBedMessages$Separators;", "BedMessages"), ("BedMessages$Frame", 53, "BedMessages$Message", "segmentCount", "I", "BedMessages"), ("BedMessages", 160, "BedMessages$Message", "segmentCount", "I", "BedMessages"), ("BedMessages$Message", 80, "BedMessages", "KINDS", "[LBedMessages$Kind;", "BedMessages"), ("BedMessages", 138, "BedMessages$Patient", "family", "LBedMessages$Chars;", "BedMessages"), ("BedMessages$Hospital", 140, "BedMessages$Patient", "family", "LBedMessages$Chars;", "BedMessages"), ("BedMessages", 141, "BedMessages$Patient", "first", "LBedMessages$Chars;", "BedMessages"), ("BedMessages$Hospital", 148, "BedMessages$Patient", "first", "LBedMessages$Chars;", "BedMessages"), ("BedMessages$Hospital", 102, "BedMessages$Patient", "measured", "LBedMessages$Measured;", "BedMessages"), ("BedMessages", 144, "BedMessages$Patient", "measured", "LBedMessages$Measured;", "BedMessages"), ("BedMessages$Hospital", 82, "BedMessages$Patient", "bed", "I", "BedMessages"), ("BedMessages", 130, "BedMessages$Patient", "bed", "I", "BedMessages"), ("BedMessages$Message", 84, "BedMessages$Kind", "group", "Ljava/lang/String;", "BedMessages"), ("BedMessages$Message", 90, "BedMessages$Kind", "event", "Ljava/lang/String;", "BedMessages")]
def zmlT : List (List (Nat × (Nat × Nat × Nat))) := [[(3, (6, 0, 0)), (11, (5, 38, 0)), (18, (5, 45, 0)), (25, (5, 63, 0)), (32, (5, 66, 0)), (39, (4, 31, 1)), (51, (5, 73, 0)), (67, (2, 2, 2)), (71, (2, 3, 1)), (78, (0, 32, 0)), (82, (0, 33, 1)), (85, (0, 34, 0)), (88, (0, 39, 1)), (92, (0, 10, 0)), (95, (0, 77, 0)), (99, (0, 64, 1)), (103, (0, 46, 1)), (106, (0, 65, 2)), (110, (0, 13, 0)), (113, (2, 12, 1)), (120, (0, 36, 1)), (123, (0, 51, 1)), (126, (0, 50, 1)), (135, (0, 62, 0)), (148, (2, 11, 2)), (152, (0, 94, 1)), (163, (0, 78, 4)), (166, (0, 84, 2)), (169, (0, 67, 2)), (173, (0, 68, 0)), (177, (0, 88, 2)), (181, (2, 4, 3)), (185, (2, 7, 1)), (188, (2, 8, 1)), (191, (2, 9, 1)), (196, (0, 37, 1)), (203, (0, 71, 1)), (209, (0, 14, 1)), (212, (0, 15, 0)), (227, (0, 70, 1)), (228, (0, 85, 2))],
  [(3, (6, 0, 0)), (19, (0, 163, 0)), (24, (0, 165, 1)), (28, (0, 33, 1)), (32, (0, 36, 1))],
  [(3, (6, 0, 0)), (11, (4, 31, 1)), (20, (0, 74, 0)), (27, (0, 35, 1)), (35, (0, 36, 1)), (39, (0, 67, 2)), (45, (0, 68, 0)), (49, (0, 40, 1)), (57, (0, 77, 0)), (64, (0, 41, 3)), (68, (0, 42, 1)), (72, (0, 75, 0)), (75, (0, 76, 1)), (78, (0, 43, 3)), (81, (3, 7, 1)), (84, (3, 9, 1)), (87, (0, 70, 1)), (88, (0, 69, 1)), (91, (0, 44, 2)), (97, (0, 168, 1)), (104, (3, 4, 3))],
  [(3, (6, 0, 0)), (23, (5, 89, 0)), (28, (0, 80, 0)), (36, (0, 82, 2)), (40, (2, 47, 2)), (44, (2, 48, 1)), (53, (8, 175, 0)), (59, (0, 49, 4)), (63, (0, 55, 2)), (67, (0, 57, 1)), (71, (0, 58, 3)), (75, (0, 59, 2)), (78, (0, 50, 1)), (86, (0, 51, 1)), (89, (5, 95, 0)), (90, (0, 52, 3)), (94, (2, 53, 3)), (98, (0, 56, 1)), (105, (0, 90, 1)), (111, (0, 86, 1)), (114, (0, 78, 4)), (117, (2, 60, 2)), (121, (0, 61, 3)), (125, (0, 83, 2)), (128, (3, 4, 3)), (132, (0, 84, 2)), (137, (0, 79, 1)), (144, (2, 54, 3)), (151, (0, 34, 0)), (158, (0, 81, 2)), (162, (0, 85, 2)), (166, (0, 87, 1)), (169, (0, 91, 1)), (173, (0, 93, 2))],
  [(3, (6, 0, 0)), (23, (3, 12, 1))],
  [(3, (6, 0, 0)), (15, (0, 69, 1)), (19, (3, 4, 3)), (23, (3, 6, 1)), (27, (0, 33, 1)), (35, (0, 165, 1))],
  [(5, (6, 0, 0)), (13, (5, 66, 0)), (32, (0, 76, 1)), (36, (7, 0, 2)), (42, (0, 79, 1)), (46, (0, 163, 0)), (51, (0, 165, 1)), (55, (0, 33, 1)), (60, (3, 9, 1)), (64, (0, 78, 4)), (68, (3, 11, 2)), (71, (0, 81, 2)), (75, (3, 6, 1)), (95, (0, 37, 1)), (99, (0, 71, 1)), (103, (0, 72, 2)), (107, (0, 70, 1))],
  [(3, (6, 0, 0)), (22, (0, 92, 1))],
  [(3, (6, 0, 0)), (11, (4, 31, 1)), (25, (5, 89, 0))],
  [(1, (6, 0, 0)), (102, (2, 104, 1)), (106, (2, 105, 1)), (109, (2, 106, 1)), (115, (0, 102, 1)), (119, (2, 103, 1)), (123, (0, 111, 1)), (127, (2, 112, 1)), (131, (0, 110, 0)), (135, (0, 113, 4)), (139, (0, 109, 0)), (142, (0, 108, 0)), (145, (0, 116, 1)), (149, (0, 117, 2)), (153, (0, 115, 5)), (157, (0, 120, 4)), (161, (0, 124, 2)), (165, (0, 122, 4)), (169, (0, 128, 1)), (172, (0, 129, 1)), (175, (0, 130, 1)), (179, (0, 134, 2)), (182, (0, 132, 2)), (186, (0, 133, 2)), (190, (0, 100, 0)), (193, (0, 101, 0)), (196, (0, 107, 0)), (199, (0, 114, 0)), (202, (0, 123, 1)), (205, (0, 125, 1)), (208, (0, 126, 1)), (211, (0, 127, 0)), (214, (0, 131, 1)), (217, (0, 136, 3)), (227, (0, 140, 1)), (230, (0, 139, 3)), (234, (0, 141, 0)), (244, (0, 99, 0)), (251, (0, 118, 0)), (254, (0, 119, 0)), (257, (0, 121, 1)), (260, (0, 135, 1)), (264, (0, 137, 1)), (267, (0, 138, 1)), (270, (0, 142, 0)), (273, (2, 143, 1)), (276, (2, 150, 1)), (282, (0, 159, 1)), (285, (0, 161, 1)), (288, (0, 160, 1))],
  [(9, (4, 0, 0)), (12, (4, 96, 0)), (15, (0, 1, 1)), (19, (0, 97, 1)), (20, (0, 5, 0)), (24, (0, 98, 0)), (25, (0, 16, 0)), (28, (0, 144, 0)), (29, (0, 17, 0)), (33, (0, 145, 0)), (34, (0, 18, 0)), (37, (0, 146, 0)), (38, (0, 19, 1)), (42, (0, 147, 1)), (43, (0, 20, 2)), (47, (0, 148, 2)), (48, (0, 21, 1)), (51, (0, 149, 1)), (52, (0, 22, 0)), (55, (0, 151, 0)), (56, (0, 23, 1)), (60, (0, 152, 1)), (61, (0, 24, 3)), (65, (0, 153, 3)), (66, (0, 25, 3)), (70, (0, 154, 3)), (71, (0, 26, 1)), (74, (0, 155, 1)), (75, (0, 27, 0)), (78, (0, 156, 0)), (79, (0, 28, 5)), (83, (0, 157, 5)), (84, (0, 29, 5)), (88, (0, 158, 5)), (89, (0, 30, 1)), (92, (0, 162, 1))],
  [(335, (0, 164, 0)), (492, (0, 166, 0)), (495, (2, 170, 2)), (505, (0, 163, 0)), (633, (0, 169, 2)), (637, (2, 171, 4)), (1059, (2, 174, 3))],
  [(9, (2, 167, 2)), (38, (9, 0, 2)), (88, (2, 172, 1)), (92, (7, 0, 2)), (95, (2, 173, 4))],
  [],
  [],
  [],
  []]
def zml (o i : Nat) : Option (Nat × Nat × Nat) := zlk zmlT o i
def znM : List (String × Nat × MethodName × String) := [("BedMessages", 11, ⟨"BedMessages$Frame", "<init>", "()V"⟩, "BedMessages"), ("BedMessages", 18, ⟨"BedMessages$Hospital", "<init>", "()V"⟩, "BedMessages"), ("BedMessages$Hospital", 23, ⟨"BedMessages$Measured", "<init>", "()V"⟩, "BedMessages"), ("BedMessages", 25, ⟨"BedMessages$Ledger", "<init>", "()V"⟩, "BedMessages"), ("BedMessages", 32, ⟨"BedMessages$Separators", "<init>", "()V"⟩, "BedMessages"), ("BedMessages", 51, ⟨"BedMessages$Message", "<init>", "()V"⟩, "BedMessages"), ("BedMessages$Message", 13, ⟨"BedMessages$Separators", "<init>", "()V"⟩, "BedMessages"), ("BedMessages$Separators", 19, ⟨"BedMessages", "isBetween", "(III)Z"⟩, "BedMessages"), ("BedMessages$Separators", 23, ⟨"BedMessages", "isLetterOrDigit", "(I)Z"⟩, "BedMessages"), ("BedMessages$Frame", 81, ⟨"BedMessages", "isCapital", "(I)Z"⟩, "BedMessages"), ("BedMessages$Frame", 84, ⟨"BedMessages", "isDigit", "(I)Z"⟩, "BedMessages"), ("BedMessages$Frame", 104, ⟨"BedMessages", "isBetween", "(III)Z"⟩, "BedMessages"), ("BedMessages$Message", 75, ⟨"BedMessages", "isLetterOrDigit", "(I)Z"⟩, "BedMessages"), ("BedMessages$Message", 60, ⟨"BedMessages", "isDigit", "(I)Z"⟩, "BedMessages"), ("BedMessages$Hospital", 128, ⟨"BedMessages", "isBetween", "(III)Z"⟩, "BedMessages"), ("BedMessages$Hospital", 89, ⟨"BedMessages$Patient", "<init>", "()V"⟩, "BedMessages"), ("BedMessages$Patient", 25, ⟨"BedMessages$Measured", "<init>", "()V"⟩, "BedMessages"), ("BedMessages$Message", 68, ⟨"BedMessages", "codeOf", "(II)I"⟩, "BedMessages"), ("BedMessages$Ledger", 23, ⟨"BedMessages", "receiptFor", "(I)I"⟩, "BedMessages")]
def zmpT : List (List (Nat × List Nat)) := [[(3, [83]), (11, [0, 89, 62]), (18, [0, 116, 64]), (25, [0, 152, 66]), (32, [0, 169, 67]), (39, [177, 95, 63]), (51, [0, 181, 68]), (67, [241, 242, 61]), (71, [244, 245, 61]), (78, [250, 251, 252, 63]), (82, [254, 255, 256, 63]), (85, [262, 263, 264, 63]), (88, [266, 267, 268, 62]), (92, [469, 471, 5, 61]), (95, [473, 456, 457, 68]), (99, [474, 475, 476, 66]), (103, [478, 479, 480, 64]), (106, [643, 644, 645, 66]), (110, [650, 652, 15, 61]), (113, [679, 648, 61]), (120, [700, 290, 291, 63]), (123, [705, 536, 537, 64]), (126, [710, 532, 533, 64]), (135, [715, 716, 717, 64]), (148, [731, 618, 61]), (152, [732, 733, 734, 65]), (163, [675, 460, 461, 68]), (166, [748, 511, 512, 68]), (169, [753, 333, 334, 67]), (173, [754, 337, 338, 67]), (177, [755, 756, 757, 68]), (181, [247, 248, 61]), (185, [348, 349, 61]), (188, [351, 352, 61]), (191, [354, 355, 61]), (196, [655, 656, 657, 63]), (203, [660, 661, 662, 67]), (209, [666, 668, 16, 61]), (212, [671, 673, 17, 61]), (227, [670, 385, 386, 67]), (228, [676, 584, 585, 68])],
  [(3, [97]), (19, [279, 280, 281, 70]), (24, [293, 294, 295, 70]), (28, [659, 255, 256, 63]), (32, [289, 290, 291, 63])],
  [(3, [91]), (11, [94, 95, 63]), (20, [270, 271, 272, 68]), (27, [275, 276, 277, 63]), (35, [331, 290, 291, 63]), (39, [332, 333, 334, 67]), (45, [336, 337, 338, 67]), (49, [357, 359, 0, 62]), (57, [455, 456, 457, 68]), (64, [361, 363, 1, 62]), (68, [365, 367, 2, 62]), (72, [371, 372, 373, 68]), (75, [379, 376, 377, 68]), (78, [380, 382, 3, 62]), (81, [0, 349, 61]), (84, [0, 355, 61]), (87, [384, 385, 386, 67]), (88, [388, 341, 342, 67]), (91, [389, 391, 4, 62]), (97, [394, 395, 396, 70]), (104, [0, 248, 61])],
  [(3, [118]), (23, [0, 124, 65]), (28, [482, 483, 484, 68]), (36, [495, 496, 497, 68]), (40, [500, 501, 64]), (44, [514, 515, 64]), (53, [521]), (59, [527, 529, 6, 64]), (63, [588, 590, 8, 64]), (67, [596, 598, 10, 64]), (71, [600, 602, 11, 64]), (75, [604, 606, 12, 64]), (78, [531, 532, 533, 64]), (86, [535, 536, 537, 64]), (89, [0, 541, 77]), (90, [570, 572, 7, 64]), (94, [574, 575, 64]), (98, [592, 594, 9, 64]), (105, [608, 609, 610, 65]), (111, [613, 614, 615, 68]), (114, [503, 460, 461, 68]), (117, [620, 621, 64]), (121, [627, 629, 13, 64]), (125, [504, 505, 506, 68]), (128, [0, 248, 61]), (132, [510, 511, 512, 68]), (137, [518, 464, 465, 68]), (144, [577, 578, 64]), (151, [580, 263, 264, 63]), (158, [582, 489, 490, 68]), (162, [583, 584, 585, 68]), (166, [623, 624, 625, 68]), (169, [631, 632, 633, 65]), (173, [639, 640, 641, 65])],
  [(3, [154]), (23, [0, 648, 61])],
  [(3, [171]), (15, [340, 341, 342, 67]), (19, [0, 248, 61]), (23, [0, 346, 61]), (27, [664, 255, 256, 63]), (35, [767, 294, 295, 70])],
  [(5, [183]), (13, [0, 169, 67]), (32, [375, 376, 377, 68]), (36, [499, 410, 74]), (42, [463, 464, 465, 68]), (46, [492, 280, 281, 70]), (51, [493, 294, 295, 70]), (55, [587, 255, 256, 63]), (60, [0, 355, 61]), (64, [459, 460, 461, 68]), (68, [0, 618, 61]), (71, [488, 489, 490, 68]), (75, [0, 346, 61]), (95, [760, 656, 657, 63]), (99, [761, 661, 662, 67]), (103, [762, 763, 764, 67]), (107, [768, 385, 386, 67])],
  [(3, [126]), (22, [635, 637, 14, 65])],
  [(3, [543]), (11, [545, 95, 63]), (25, [0, 124, 65])],
  [(1, [778]), (102, [914, 915, 69]), (106, [917, 918, 69]), (109, [920, 921, 69]), (115, [907, 909, 21, 69]), (119, [911, 912, 69]), (123, [939, 941, 26, 69]), (127, [943, 944, 69]), (131, [935, 937, 25, 69]), (135, [946, 948, 27, 69]), (139, [931, 933, 24, 69]), (142, [927, 929, 23, 69]), (145, [958, 960, 30, 69]), (149, [962, 964, 31, 69]), (153, [954, 956, 29, 69]), (157, [974, 976, 34, 69]), (161, [990, 992, 38, 69]), (165, [982, 984, 36, 69]), (169, [1006, 1008, 42, 69]), (172, [1010, 1012, 43, 69]), (175, [1014, 1016, 44, 69]), (179, [1030, 1032, 48, 69]), (182, [1022, 1024, 46, 69]), (186, [1026, 1028, 47, 69]), (190, [899, 901, 19, 69]), (193, [903, 905, 20, 69]), (196, [923, 925, 22, 69]), (199, [950, 952, 28, 69]), (202, [986, 988, 37, 69]), (205, [994, 996, 39, 69]), (208, [998, 1000, 40, 69]), (211, [1002, 1004, 41, 69]), (214, [1018, 1020, 45, 69]), (217, [1038, 1040, 50, 69]), (227, [1054, 1056, 54, 69]), (230, [1050, 1052, 53, 69]), (234, [1058, 1060, 55, 69]), (244, [895, 897, 18, 69]), (251, [966, 968, 32, 69]), (254, [970, 972, 33, 69]), (257, [978, 980, 35, 69]), (260, [1034, 1036, 49, 69]), (264, [1042, 1044, 51, 69]), (267, [1046, 1048, 52, 69]), (270, [1062, 1064, 56, 69]), (273, [1066, 1067, 69]), (276, [1093, 1094, 69]), (282, [1128, 1130, 57, 69]), (285, [1136, 1138, 59, 69]), (288, [1132, 1134, 58, 69])],
  [(9, [80, 81, 61]), (12, [775, 776, 69]), (15, [237, 238, 239, 61]), (19, [883, 884, 885, 69]), (20, [258, 259, 260, 61]), (24, [891, 892, 893, 69]), (25, [684, 685, 686, 61]), (28, [1069, 1070, 1071, 69]), (29, [688, 689, 690, 61]), (33, [1073, 1074, 1075, 69]), (34, [692, 693, 694, 61]), (37, [1077, 1078, 1079, 69]), (38, [696, 697, 698, 61]), (42, [1081, 1082, 1083, 69]), (43, [701, 702, 703, 61]), (47, [1085, 1086, 1087, 69]), (48, [706, 707, 708, 61]), (51, [1089, 1090, 1091, 69]), (52, [711, 712, 713, 61]), (55, [1096, 1097, 1098, 69]), (56, [719, 720, 721, 61]), (60, [1100, 1101, 1102, 69]), (61, [723, 724, 725, 61]), (65, [1104, 1105, 1106, 69]), (66, [727, 728, 729, 61]), (70, [1108, 1109, 1110, 69]), (71, [736, 737, 738, 61]), (74, [1112, 1113, 1114, 69]), (75, [740, 741, 742, 61]), (78, [1116, 1117, 1118, 69]), (79, [744, 745, 746, 61]), (83, [1120, 1121, 1122, 69]), (84, [749, 750, 751, 61]), (88, [1124, 1125, 1126, 69]), (89, [769, 770, 771, 61]), (92, [1140, 1141, 1142, 69])],
  [(335, [283, 284, 285, 70]), (492, [297, 298, 299, 70]), (495, [301, 302, 71]), (505, [402, 280, 281, 70]), (633, [398, 399, 400, 70]), (637, [403, 404, 71]), (1059, [309, 310, 72])],
  [(9, [304, 305, 70]), (38, [412, 413, 74]), (88, [406, 407, 71]), (92, [409, 410, 74]), (95, [415, 416, 71])],
  [],
  [],
  [],
  []]
def zfpT : List (List (Nat × Nat)) := [[(12, 206), (19, 207), (26, 208), (33, 209), (42, 210), (46, 211), (52, 212), (56, 213), (59, 214), (63, 215)],
  [(9, 99), (15, 98)],
  [(14, 108)],
  [(9, 139), (17, 140), (24, 141), (48, 519)],
  [(9, 155), (15, 156), (19, 157)],
  [(9, 172)],
  [(14, 186), (18, 189), (22, 190), (25, 191), (29, 192)],
  [(9, 127), (15, 128), (18, 129)],
  [(14, 548), (20, 551), (26, 554), (30, 557)],
  [(7, 780), (13, 782), (17, 783), (20, 784), (23, 785), (26, 786), (29, 787), (32, 788), (35, 789), (38, 790), (41, 791), (44, 792), (47, 793), (50, 794), (53, 799), (56, 801), (59, 802), (62, 803), (66, 804), (69, 805), (72, 806), (75, 807), (78, 808), (81, 809), (84, 811), (87, 812), (98, 779), (112, 781), (221, 800), (224, 798), (237, 795), (241, 797), (248, 796), (279, 810)],
  [],
  [(9, 1145), (15, 1146), (38, 287), (1053, 307)],
  [],
  [],
  [],
  [(7, 1149)],
  []]
def zcpL : List Nat := [82, 240, 243, 246, 249, 261, 347, 350, 353, 356, 472, 619, 649, 653, 669, 674, 687, 691, 695, 699, 704, 709, 714, 722, 726, 730, 739, 743, 747, 752, 772, 96, 253, 257, 265, 278, 292, 658, 90, 269, 360, 364, 368, 383, 392, 117, 481, 502, 516, 530, 534, 538, 573, 576, 579, 591, 595, 599, 603, 607, 622, 630, 718, 153, 477, 646, 170, 335, 339, 343, 387, 663, 765, 182, 273, 374, 378, 458, 462, 466, 485, 491, 498, 507, 513, 586, 616, 626, 758, 125, 611, 634, 638, 642, 735, 542, 777, 886, 894, 898, 902, 906, 910, 913, 916, 919, 922, 926, 930, 934, 938, 942, 945, 949, 953, 957, 961, 965, 969, 973, 977, 981, 985, 989, 993, 997, 1001, 1005, 1009, 1013, 1017, 1021, 1025, 1029, 1033, 1037, 1041, 1045, 1049, 1053, 1057, 1061, 1065, 1068, 1072, 1076, 1080, 1084, 1088, 1092, 1095, 1099, 1103, 1107, 1111, 1115, 1119, 1123, 1127, 1131, 1135, 1139, 1143, 282, 286, 296, 300, 306, 397, 401, 303, 405, 408, 417, 311, 526]
def zcp (j : Nat) : Nat := zcpL.getD j 0
def zcqT : List (List (Nat × Nat)) := [[(9, 86), (16, 113), (23, 149), (30, 166), (37, 176), (49, 178)],
  [],
  [(9, 92)],
  [(15, 119), (21, 121)],
  [],
  [],
  [(11, 184)],
  [],
  [(9, 544), (23, 546)],
  [],
  [(7, 78), (10, 773)],
  [],
  [],
  [],
  [],
  [],
  []]
def zlqT : List (List (Nat × Nat)) := [[],
  [],
  [],
  [],
  [],
  [],
  [(78, 468)],
  [],
  [],
  [(90, 887), (92, 888), (94, 889), (96, 890)],
  [(13, 1144)],
  [],
  [],
  [],
  [],
  [],
  []]
def zlyL : List (List Nat) := [[216, 218, 220, 222, 224, 226, 228, 230, 232, 234], [102, 104], [110], [142, 144, 146], [158, 160, 162], [173], [195, 197, 199, 201, 203], [131, 133, 135], [560, 562, 564, 566], [813, 815, 817, 819, 821, 823, 825, 827, 829, 831, 833, 835, 837, 839, 841, 843, 845, 847, 849, 851, 853, 855, 857, 859, 861, 863, 865, 867, 869, 871, 873, 875, 877, 879]]
def zipL : List (Nat × Nat) := [(79, 61), (93, 63), (87, 62), (114, 64), (150, 66), (167, 67), (179, 68), (122, 65), (539, 77), (774, 69)]
