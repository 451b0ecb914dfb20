/-! THE START: where the words stand -/
abbrev zNar : List Cond := flatC (Jvm.Cond.and given_1 narrow_1)
theorem zNar_run {p n : Nat} {l : List Cond} (h : (zNar.drop p).take n = l) : ∀ w ∈ l, w ∈ zNar := fun w hw => List.mem_of_mem_drop (List.mem_of_mem_take (h ▸ hw))
def zStm (i : Nat) : Term := match i with
  | 0 => .string "BedMessages$Frame" 25
  | 1 => .string "BedMessages$Frame" 95
  | 2 => .string "BedMessages$Frame" 102
  | 3 => .string "BedMessages$Hospital" 34
  | 4 => .string "BedMessages$Hospital" 135
  | 5 => .string "BedMessages$Hospital" 156
  | 6 => .string "BedMessages$Hospital" 109
  | 7 => .string "BedMessages" 207
  | 8 => .string "BedMessages" 215
  | 9 => .string "BedMessages" 217
  | 10 => .string "BedMessages" 219
  | 11 => .string "BedMessages" 221
  | 12 => .string "BedMessages" 223
  | 13 => .string "BedMessages" 225
  | 14 => .string "BedMessages$Kind" 46
  | 15 => .string "BedMessages$Kind" 48
  | 16 => .string "BedMessages$Kind" 54
  | 17 => .string "BedMessages$Kind" 57
  | 18 => .string "BedMessages$Kind" 60
  | 19 => .string "BedMessages$Kind" 63
  | _ => .string "BedMessages$Kind" 65
theorem zsn_0 : (zNar.drop 57).take 7 = zStrC (zStm 0) (zbyt 40) := by decide +kernel
theorem zsn_1 : (zNar.drop 64).take 9 = zStrC (zStm 1) (zbyt 41) := by decide +kernel
theorem zsn_2 : (zNar.drop 74).take 20 = zStrC (zStm 2) (zbyt 42) := by decide +kernel
theorem zsn_3 : (zNar.drop 96).take 7 = zStrC (zStm 3) (zbyt 43) := by decide +kernel
theorem zsn_4 : (zNar.drop 106).take 7 = zStrC (zStm 4) (zbyt 44) := by decide +kernel
theorem zsn_5 : (zNar.drop 117).take 6 = zStrC (zStm 5) (zbyt 45) := by decide +kernel
theorem zsn_6 : (zNar.drop 128).take 7 = zStrC (zStm 6) (zbyt 46) := by decide +kernel
theorem zsn_7 : (zNar.drop 155).take 7 = zStrC (zStm 7) (zbyt 47) := by decide +kernel
theorem zsn_8 : (zNar.drop 170).take 7 = zStrC (zStm 8) (zbyt 48) := by decide +kernel
theorem zsn_9 : (zNar.drop 186).take 7 = zStrC (zStm 9) (zbyt 49) := by decide +kernel
theorem zsn_10 : (zNar.drop 203).take 6 = zStrC (zStm 10) (zbyt 50) := by decide +kernel
theorem zsn_11 : (zNar.drop 220).take 6 = zStrC (zStm 11) (zbyt 51) := by decide +kernel
theorem zsn_12 : (zNar.drop 238).take 6 = zStrC (zStm 12) (zbyt 52) := by decide +kernel
theorem zsn_13 : (zNar.drop 257).take 4 = zStrC (zStm 13) (zbyt 53) := by decide +kernel
theorem zsn_14 : (zNar.drop 322).take 7 = zStrC (zStm 14) (zbyt 54) := by decide +kernel
theorem zsn_15 : (zNar.drop 346).take 7 = zStrC (zStm 15) (zbyt 55) := by decide +kernel
theorem zsn_16 : (zNar.drop 371).take 7 = zStrC (zStm 16) (zbyt 56) := by decide +kernel
theorem zsn_17 : (zNar.drop 397).take 7 = zStrC (zStm 17) (zbyt 57) := by decide +kernel
theorem zsn_18 : (zNar.drop 424).take 7 = zStrC (zStm 18) (zbyt 58) := by decide +kernel
theorem zsn_19 : (zNar.drop 452).take 7 = zStrC (zStm 19) (zbyt 59) := by decide +kernel
theorem zsn_20 : (zNar.drop 481).take 7 = zStrC (zStm 20) (zbyt 60) := by decide +kernel
theorem zsn (i : Nat) (hi : i < 21) : ∀ w ∈ zStrC (zStm i) (zbyt (40 + i)), w ∈ zNar := match i, hi with
  | 0, _ => zNar_run zsn_0
  | 1, _ => zNar_run zsn_1
  | 2, _ => zNar_run zsn_2
  | 3, _ => zNar_run zsn_3
  | 4, _ => zNar_run zsn_4
  | 5, _ => zNar_run zsn_5
  | 6, _ => zNar_run zsn_6
  | 7, _ => zNar_run zsn_7
  | 8, _ => zNar_run zsn_8
  | 9, _ => zNar_run zsn_9
  | 10, _ => zNar_run zsn_10
  | 11, _ => zNar_run zsn_11
  | 12, _ => zNar_run zsn_12
  | 13, _ => zNar_run zsn_13
  | 14, _ => zNar_run zsn_14
  | 15, _ => zNar_run zsn_15
  | 16, _ => zNar_run zsn_16
  | 17, _ => zNar_run zsn_17
  | 18, _ => zNar_run zsn_18
  | 19, _ => zNar_run zsn_19
  | 20, _ => zNar_run zsn_20
  | k + 21, h => absurd h (by omega)
def zEnm : List String := ["ADMIT", "MOVE", "LEAVE", "RENAME", "MEASURE"]
def zEt (i : Nat) : Term := .static "BedMessages$Kind" (zEnm.getD i "") "LBedMessages$Kind;"
def zEg (i : Nat) : Nat := ([14, 14, 14, 14, 19] : List Nat).getD i 0
def zEv (i : Nat) : Nat := ([15, 16, 17, 18, 20] : List Nat).getD i 0
theorem zNar_at {p : Nat} {w : Cond} (h : zNar[p]? = some w) : w ∈ zNar := List.mem_of_getElem? h
theorem zne_ex_0 : zNar[27]? = some (.exactly (zEt 0) "BedMessages$Kind") := by decide +kernel
theorem zne_ex_1 : zNar[31]? = some (.exactly (zEt 1) "BedMessages$Kind") := by decide +kernel
theorem zne_ex_2 : zNar[36]? = some (.exactly (zEt 2) "BedMessages$Kind") := by decide +kernel
theorem zne_ex_3 : zNar[42]? = some (.exactly (zEt 3) "BedMessages$Kind") := by decide +kernel
theorem zne_ex_4 : zNar[49]? = some (.exactly (zEt 4) "BedMessages$Kind") := by decide +kernel
theorem zne_ex (i : Nat) (hi : i < 5) : (.exactly (zEt i) "BedMessages$Kind" : Cond) ∈ zNar := match i, hi with
  | 0, _ => zNar_at zne_ex_0
  | 1, _ => zNar_at zne_ex_1
  | 2, _ => zNar_at zne_ex_2
  | 3, _ => zNar_at zne_ex_3
  | 4, _ => zNar_at zne_ex_4
  | k + 5, h => absurd h (by omega)
theorem zne_or_0 : zNar[28]? = some (.eq (.field (zEt 0) "java/lang/Enum" "ordinal" "I") (.int (Int32.ofNat 0))) := by decide +kernel
theorem zne_or_1 : zNar[32]? = some (.eq (.field (zEt 1) "java/lang/Enum" "ordinal" "I") (.int (Int32.ofNat 1))) := by decide +kernel
theorem zne_or_2 : zNar[37]? = some (.eq (.field (zEt 2) "java/lang/Enum" "ordinal" "I") (.int (Int32.ofNat 2))) := by decide +kernel
theorem zne_or_3 : zNar[43]? = some (.eq (.field (zEt 3) "java/lang/Enum" "ordinal" "I") (.int (Int32.ofNat 3))) := by decide +kernel
theorem zne_or_4 : zNar[50]? = some (.eq (.field (zEt 4) "java/lang/Enum" "ordinal" "I") (.int (Int32.ofNat 4))) := by decide +kernel
theorem zne_or (i : Nat) (hi : i < 5) : (.eq (.field (zEt i) "java/lang/Enum" "ordinal" "I") (.int (Int32.ofNat i)) : Cond) ∈ zNar := match i, hi with
  | 0, _ => zNar_at zne_or_0
  | 1, _ => zNar_at zne_or_1
  | 2, _ => zNar_at zne_or_2
  | 3, _ => zNar_at zne_or_3
  | 4, _ => zNar_at zne_or_4
  | k + 5, h => absurd h (by omega)
theorem zne_gr_0 : zNar[29]? = some (.eq (.field (zEt 0) "BedMessages$Kind" "group" "Ljava/lang/String;") (zStm (zEg 0))) := by decide +kernel
theorem zne_gr_1 : zNar[33]? = some (.eq (.field (zEt 1) "BedMessages$Kind" "group" "Ljava/lang/String;") (zStm (zEg 1))) := by decide +kernel
theorem zne_gr_2 : zNar[38]? = some (.eq (.field (zEt 2) "BedMessages$Kind" "group" "Ljava/lang/String;") (zStm (zEg 2))) := by decide +kernel
theorem zne_gr_3 : zNar[44]? = some (.eq (.field (zEt 3) "BedMessages$Kind" "group" "Ljava/lang/String;") (zStm (zEg 3))) := by decide +kernel
theorem zne_gr_4 : zNar[51]? = some (.eq (.field (zEt 4) "BedMessages$Kind" "group" "Ljava/lang/String;") (zStm (zEg 4))) := by decide +kernel
theorem zne_gr (i : Nat) (hi : i < 5) : (.eq (.field (zEt i) "BedMessages$Kind" "group" "Ljava/lang/String;") (zStm (zEg i)) : Cond) ∈ zNar := match i, hi with
  | 0, _ => zNar_at zne_gr_0
  | 1, _ => zNar_at zne_gr_1
  | 2, _ => zNar_at zne_gr_2
  | 3, _ => zNar_at zne_gr_3
  | 4, _ => zNar_at zne_gr_4
  | k + 5, h => absurd h (by omega)
theorem zne_ev_0 : zNar[30]? = some (.eq (.field (zEt 0) "BedMessages$Kind" "event" "Ljava/lang/String;") (zStm (zEv 0))) := by decide +kernel
theorem zne_ev_1 : zNar[34]? = some (.eq (.field (zEt 1) "BedMessages$Kind" "event" "Ljava/lang/String;") (zStm (zEv 1))) := by decide +kernel
theorem zne_ev_2 : zNar[39]? = some (.eq (.field (zEt 2) "BedMessages$Kind" "event" "Ljava/lang/String;") (zStm (zEv 2))) := by decide +kernel
theorem zne_ev_3 : zNar[45]? = some (.eq (.field (zEt 3) "BedMessages$Kind" "event" "Ljava/lang/String;") (zStm (zEv 3))) := by decide +kernel
theorem zne_ev_4 : zNar[52]? = some (.eq (.field (zEt 4) "BedMessages$Kind" "event" "Ljava/lang/String;") (zStm (zEv 4))) := by decide +kernel
theorem zne_ev (i : Nat) (hi : i < 5) : (.eq (.field (zEt i) "BedMessages$Kind" "event" "Ljava/lang/String;") (zStm (zEv i)) : Cond) ∈ zNar := match i, hi with
  | 0, _ => zNar_at zne_ev_0
  | 1, _ => zNar_at zne_ev_1
  | 2, _ => zNar_at zne_ev_2
  | 3, _ => zNar_at zne_ev_3
  | 4, _ => zNar_at zne_ev_4
  | k + 5, h => absurd h (by omega)
abbrev zKt : Term := .static "BedMessages" "KINDS" "[LBedMessages$Kind;"
abbrev zMt : Term := .static "BedMessages$1" "$SwitchMap$BedMessages$Kind" "[I"
def zSw : List Int32 := [1, 2, 3, 4, 0]
theorem zne_ke_0 : zNar[14]? = some (.eq (.elem zKt (.int (Int32.ofNat 0))) (zEt 0)) := by decide +kernel
theorem zne_ke_1 : zNar[15]? = some (.eq (.elem zKt (.int (Int32.ofNat 1))) (zEt 1)) := by decide +kernel
theorem zne_ke_2 : zNar[16]? = some (.eq (.elem zKt (.int (Int32.ofNat 2))) (zEt 2)) := by decide +kernel
theorem zne_ke_3 : zNar[17]? = some (.eq (.elem zKt (.int (Int32.ofNat 3))) (zEt 3)) := by decide +kernel
theorem zne_ke_4 : zNar[18]? = some (.eq (.elem zKt (.int (Int32.ofNat 4))) (zEt 4)) := by decide +kernel
theorem zne_ke (i : Nat) (hi : i < 5) : (.eq (.elem zKt (.int (Int32.ofNat i))) (zEt i) : Cond) ∈ zNar := match i, hi with
  | 0, _ => zNar_at zne_ke_0
  | 1, _ => zNar_at zne_ke_1
  | 2, _ => zNar_at zne_ke_2
  | 3, _ => zNar_at zne_ke_3
  | 4, _ => zNar_at zne_ke_4
  | k + 5, h => absurd h (by omega)
theorem zne_me_0 : zNar[22]? = some (.eq (.elem zMt (.int (Int32.ofNat 0))) (.int (zSw.getD 0 0))) := by decide +kernel
theorem zne_me_1 : zNar[23]? = some (.eq (.elem zMt (.int (Int32.ofNat 1))) (.int (zSw.getD 1 0))) := by decide +kernel
theorem zne_me_2 : zNar[24]? = some (.eq (.elem zMt (.int (Int32.ofNat 2))) (.int (zSw.getD 2 0))) := by decide +kernel
theorem zne_me_3 : zNar[25]? = some (.eq (.elem zMt (.int (Int32.ofNat 3))) (.int (zSw.getD 3 0))) := by decide +kernel
theorem zne_me_4 : zNar[26]? = some (.eq (.elem zMt (.int (Int32.ofNat 4))) (.int (zSw.getD 4 0))) := by decide +kernel
theorem zne_me (i : Nat) (hi : i < 5) : (.eq (.elem zMt (.int (Int32.ofNat i))) (.int (zSw.getD i 0)) : Cond) ∈ zNar := match i, hi with
  | 0, _ => zNar_at zne_me_0
  | 1, _ => zNar_at zne_me_1
  | 2, _ => zNar_at zne_me_2
  | 3, _ => zNar_at zne_me_3
  | 4, _ => zNar_at zne_me_4
  | k + 5, h => absurd h (by omega)
theorem zno_ka : (.arrayOf zKt (.object "BedMessages$Kind") : Cond) ∈ zNar := zNar_at (p := 11) (by decide +kernel)
theorem zno_kl : (.eq (.length zKt) (.int (Int32.ofNat 5)) : Cond) ∈ zNar := zNar_at (p := 12) (by decide +kernel)
theorem zno_ma : (.arrayOf zMt .int : Cond) ∈ zNar := zNar_at (p := 20) (by decide +kernel)
theorem zno_ml : (.eq (.length zMt) (.int (Int32.ofNat 5)) : Cond) ∈ zNar := zNar_at (p := 21) (by decide +kernel)
theorem zno_cs : (.eq (.static "java/lang/String" "COMPACT_STRINGS" "Z") (.int 1) : Cond) ∈ zNar := zNar_at (p := 4) (by decide +kernel)
theorem zno_fm : (.isRef (.static "jdk/internal/util/Preconditions" "SIOOBE_FORMATTER" "Ljava/util/function/BiFunction;") : Cond) ∈ zNar := zNar_at (p := 5) (by decide +kernel)
theorem zno_s0_194 : (.eq (.string "BedMessages$Frame" 25) (.string "BedMessages" 194) : Cond) ∈ zNar := zNar_at (p := 148) (by decide +kernel)
theorem zno_s6_93 : (.eq (.string "BedMessages$Frame" 25) (.string "BedMessages$Message" 93) : Cond) ∈ zNar := zNar_at (p := 282) (by decide +kernel)
theorem zno_s5_33 : (.eq (.string "BedMessages$Frame" 95) (.string "BedMessages$Separators" 33) : Cond) ∈ zNar := zNar_at (p := 307) (by decide +kernel)
theorem ztw_byte : (.arrayClass .byte : Cond) ∈ lw_tbl := List.mem_of_getElem? (i := 569) (by decide +kernel)
theorem ztw_over : (.arrayOver (.object zPatN) : Cond) ∈ lw_tbl := List.mem_of_getElem? (i := 120) (by decide +kernel)
theorem ztl_cs : (.laysStatic "java/lang/String" "COMPACT_STRINGS" "Z" : Cond) ∈ lw_tbl := List.mem_of_getElem? (i := 288) (by decide +kernel)
theorem zti_cs : (.initialized "java/lang/String" : Cond) ∈ lw_tbl := List.mem_of_getElem? (i := 70) (by decide +kernel)
theorem ztl_fm : (.laysStatic "jdk/internal/util/Preconditions" "SIOOBE_FORMATTER" "Ljava/util/function/BiFunction;" : Cond) ∈ lw_tbl := List.mem_of_getElem? (i := 308) (by decide +kernel)
theorem zti_fm : (.initialized "jdk/internal/util/Preconditions" : Cond) ∈ lw_tbl := List.mem_of_getElem? (i := 72) (by decide +kernel)
theorem ztl_ki : (.laysStatic "BedMessages" "KINDS" "[LBedMessages$Kind;" : Cond) ∈ lw_tbl := List.mem_of_getElem? (i := 487) (by decide +kernel)
theorem zti_ki : (.initialized "BedMessages" : Cond) ∈ lw_tbl := List.mem_of_getElem? (i := 61) (by decide +kernel)
theorem ztl_sw : (.laysStatic "BedMessages$1" "$SwitchMap$BedMessages$Kind" "[I" : Cond) ∈ lw_tbl := List.mem_of_getElem? (i := 520) (by decide +kernel)
theorem zti_sw : (.initialized "BedMessages$1" : Cond) ∈ lw_tbl := List.mem_of_getElem? (i := 76) (by decide +kernel)
theorem zts_2_25 : (.stringRef (zRn 2) 25 "HDR" : Cond) ∈ lw_tbl := List.mem_of_getElem? (i := 274) (by decide +kernel)
theorem zts_2_95 : (.stringRef (zRn 2) 95 "FSRET" : Cond) ∈ lw_tbl := List.mem_of_getElem? (i := 393) (by decide +kernel)
theorem zts_2_102 : (.stringRef (zRn 2) 102 "0123456789ABCDEF" : Cond) ∈ lw_tbl := List.mem_of_getElem? (i := 453) (by decide +kernel)
theorem zts_3_34 : (.stringRef (zRn 3) 34 "PID" : Cond) ∈ lw_tbl := List.mem_of_getElem? (i := 494) (by decide +kernel)
theorem zts_3_135 : (.stringRef (zRn 3) 135 "PV1" : Cond) ∈ lw_tbl := List.mem_of_getElem? (i := 517) (by decide +kernel)
theorem zts_3_156 : (.stringRef (zRn 3) 156 "\"\"" : Cond) ∈ lw_tbl := List.mem_of_getElem? (i := 581) (by decide +kernel)
theorem zts_3_109 : (.stringRef (zRn 3) 109 "OBX" : Cond) ∈ lw_tbl := List.mem_of_getElem? (i := 612) (by decide +kernel)
theorem zts_0_194 : (.stringRef (zRn 0) 194 "HDR" : Cond) ∈ lw_tbl := List.mem_of_getElem? (i := 654) (by decide +kernel)
theorem zts_0_207 : (.stringRef (zRn 0) 207 "ENG" : Cond) ∈ lw_tbl := List.mem_of_getElem? (i := 665) (by decide +kernel)
theorem zts_0_215 : (.stringRef (zRn 0) 215 "ACK" : Cond) ∈ lw_tbl := List.mem_of_getElem? (i := 677) (by decide +kernel)
theorem zts_0_217 : (.stringRef (zRn 0) 217 "MSA" : Cond) ∈ lw_tbl := List.mem_of_getElem? (i := 678) (by decide +kernel)
theorem zts_0_219 : (.stringRef (zRn 0) 219 "AA" : Cond) ∈ lw_tbl := List.mem_of_getElem? (i := 680) (by decide +kernel)
theorem zts_0_221 : (.stringRef (zRn 0) 221 "AE" : Cond) ∈ lw_tbl := List.mem_of_getElem? (i := 681) (by decide +kernel)
theorem zts_0_223 : (.stringRef (zRn 0) 223 "AR" : Cond) ∈ lw_tbl := List.mem_of_getElem? (i := 682) (by decide +kernel)
theorem zts_0_225 : (.stringRef (zRn 0) 225 "" : Cond) ∈ lw_tbl := List.mem_of_getElem? (i := 683) (by decide +kernel)
theorem zts_6_93 : (.stringRef (zRn 6) 93 "HDR" : Cond) ∈ lw_tbl := List.mem_of_getElem? (i := 759) (by decide +kernel)
theorem zts_5_33 : (.stringRef (zRn 5) 33 "FSRET" : Cond) ∈ lw_tbl := List.mem_of_getElem? (i := 766) (by decide +kernel)
theorem zts_14_46 : (.stringRef (zRn 14) 46 "ADT" : Cond) ∈ lw_tbl := List.mem_of_getElem? (i := 1155) (by decide +kernel)
theorem zts_14_48 : (.stringRef (zRn 14) 48 "A01" : Cond) ∈ lw_tbl := List.mem_of_getElem? (i := 1156) (by decide +kernel)
theorem zts_14_54 : (.stringRef (zRn 14) 54 "A02" : Cond) ∈ lw_tbl := List.mem_of_getElem? (i := 1157) (by decide +kernel)
theorem zts_14_57 : (.stringRef (zRn 14) 57 "A03" : Cond) ∈ lw_tbl := List.mem_of_getElem? (i := 1158) (by decide +kernel)
theorem zts_14_60 : (.stringRef (zRn 14) 60 "A08" : Cond) ∈ lw_tbl := List.mem_of_getElem? (i := 1159) (by decide +kernel)
theorem zts_14_63 : (.stringRef (zRn 14) 63 "ORU" : Cond) ∈ lw_tbl := List.mem_of_getElem? (i := 1160) (by decide +kernel)
theorem zts_14_65 : (.stringRef (zRn 14) 65 "R01" : Cond) ∈ lw_tbl := List.mem_of_getElem? (i := 1161) (by decide +kernel)
theorem ztf_0 : (.fieldLinkNest "BedMessages$Frame" 61 "BedMessages$Chars" "length" "I" "BedMessages" : Cond) ∈ lw_tbl := List.mem_of_getElem? (i := 100) (by decide +kernel)
theorem ztf_1 : (.fieldLinkNest "BedMessages" 117 "BedMessages$Chars" "length" "I" "BedMessages" : Cond) ∈ lw_tbl := List.mem_of_getElem? (i := 101) (by decide +kernel)
theorem ztf_2 : (.fieldLinkNest "BedMessages" 75 "BedMessages$Frame" "typed" "LBedMessages$Chars;" "BedMessages" : Cond) ∈ lw_tbl := List.mem_of_getElem? (i := 109) (by decide +kernel)
theorem ztf_3 : (.fieldLinkNest "BedMessages" 157 "BedMessages$Measured" "count" "I" "BedMessages" : Cond) ∈ lw_tbl := List.mem_of_getElem? (i := 130) (by decide +kernel)
theorem ztf_4 : (.fieldLinkNest "BedMessages$Frame" 31 "BedMessages$Message" "separators" "LBedMessages$Separators;" "BedMessages" : Cond) ∈ lw_tbl := List.mem_of_getElem? (i := 187) (by decide +kernel)
theorem ztf_5 : (.fieldLinkNest "BedMessages" 200 "BedMessages$Message" "separators" "LBedMessages$Separators;" "BedMessages" : Cond) ∈ lw_tbl := List.mem_of_getElem? (i := 188) (by decide +kernel)
theorem ztf_6 : (.fieldLinkNest "BedMessages$Frame" 53 "BedMessages$Message" "segmentCount" "I" "BedMessages" : Cond) ∈ lw_tbl := List.mem_of_getElem? (i := 193) (by decide +kernel)
theorem ztf_7 : (.fieldLinkNest "BedMessages" 160 "BedMessages$Message" "segmentCount" "I" "BedMessages" : Cond) ∈ lw_tbl := List.mem_of_getElem? (i := 194) (by decide +kernel)
theorem ztf_8 : (.fieldLinkNest "BedMessages$Message" 80 "BedMessages" "KINDS" "[LBedMessages$Kind;" "BedMessages" : Cond) ∈ lw_tbl := List.mem_of_getElem? (i := 486) (by decide +kernel)
theorem ztf_9 : (.fieldLinkNest "BedMessages" 138 "BedMessages$Patient" "family" "LBedMessages$Chars;" "BedMessages" : Cond) ∈ lw_tbl := List.mem_of_getElem? (i := 549) (by decide +kernel)
theorem ztf_10 : (.fieldLinkNest "BedMessages$Hospital" 140 "BedMessages$Patient" "family" "LBedMessages$Chars;" "BedMessages" : Cond) ∈ lw_tbl := List.mem_of_getElem? (i := 550) (by decide +kernel)
theorem ztf_11 : (.fieldLinkNest "BedMessages" 141 "BedMessages$Patient" "first" "LBedMessages$Chars;" "BedMessages" : Cond) ∈ lw_tbl := List.mem_of_getElem? (i := 552) (by decide +kernel)
theorem ztf_12 : (.fieldLinkNest "BedMessages$Hospital" 148 "BedMessages$Patient" "first" "LBedMessages$Chars;" "BedMessages" : Cond) ∈ lw_tbl := List.mem_of_getElem? (i := 553) (by decide +kernel)
theorem ztf_13 : (.fieldLinkNest "BedMessages$Hospital" 102 "BedMessages$Patient" "measured" "LBedMessages$Measured;" "BedMessages" : Cond) ∈ lw_tbl := List.mem_of_getElem? (i := 555) (by decide +kernel)
theorem ztf_14 : (.fieldLinkNest "BedMessages" 144 "BedMessages$Patient" "measured" "LBedMessages$Measured;" "BedMessages" : Cond) ∈ lw_tbl := List.mem_of_getElem? (i := 556) (by decide +kernel)
theorem ztf_15 : (.fieldLinkNest "BedMessages$Hospital" 82 "BedMessages$Patient" "bed" "I" "BedMessages" : Cond) ∈ lw_tbl := List.mem_of_getElem? (i := 558) (by decide +kernel)
theorem ztf_16 : (.fieldLinkNest "BedMessages" 130 "BedMessages$Patient" "bed" "I" "BedMessages" : Cond) ∈ lw_tbl := List.mem_of_getElem? (i := 559) (by decide +kernel)
theorem ztf_17 : (.fieldLinkNest "BedMessages$Message" 84 "BedMessages$Kind" "group" "Ljava/lang/String;" "BedMessages" : Cond) ∈ lw_tbl := List.mem_of_getElem? (i := 1147) (by decide +kernel)
theorem ztf_18 : (.fieldLinkNest "BedMessages$Message" 90 "BedMessages$Kind" "event" "Ljava/lang/String;" "BedMessages" : Cond) ∈ lw_tbl := List.mem_of_getElem? (i := 1148) (by decide +kernel)
theorem znF_in : ∀ q ∈ znF, Cond.fieldLinkNest q.1 q.2.1 q.2.2.1 q.2.2.2.1 q.2.2.2.2.1 q.2.2.2.2.2 ∈ lw_tbl := List.forall_mem_cons.mpr ⟨ztf_0, List.forall_mem_cons.mpr ⟨ztf_1, List.forall_mem_cons.mpr ⟨ztf_2, List.forall_mem_cons.mpr ⟨ztf_3, List.forall_mem_cons.mpr ⟨ztf_4, List.forall_mem_cons.mpr ⟨ztf_5, List.forall_mem_cons.mpr ⟨ztf_6, List.forall_mem_cons.mpr ⟨ztf_7, List.forall_mem_cons.mpr ⟨ztf_8, List.forall_mem_cons.mpr ⟨ztf_9, List.forall_mem_cons.mpr ⟨ztf_10, List.forall_mem_cons.mpr ⟨ztf_11, List.forall_mem_cons.mpr ⟨ztf_12, List.forall_mem_cons.mpr ⟨ztf_13, List.forall_mem_cons.mpr ⟨ztf_14, List.forall_mem_cons.mpr ⟨ztf_15, List.forall_mem_cons.mpr ⟨ztf_16, List.forall_mem_cons.mpr ⟨ztf_17, List.forall_mem_cons.mpr ⟨ztf_18, fun _ h => absurd h List.not_mem_nil⟩⟩⟩⟩⟩⟩⟩⟩⟩⟩⟩⟩⟩⟩⟩⟩⟩⟩⟩
theorem ztm_0 : (.methodLinkNest "BedMessages" 11 ⟨"BedMessages$Frame", "<init>", "()V"⟩ "BedMessages" : Cond) ∈ lw_tbl := List.mem_of_getElem? (i := 88) (by decide +kernel)
theorem ztm_1 : (.methodLinkNest "BedMessages" 18 ⟨"BedMessages$Hospital", "<init>", "()V"⟩ "BedMessages" : Cond) ∈ lw_tbl := List.mem_of_getElem? (i := 115) (by decide +kernel)
theorem ztm_2 : (.methodLinkNest "BedMessages$Hospital" 23 ⟨"BedMessages$Measured", "<init>", "()V"⟩ "BedMessages" : Cond) ∈ lw_tbl := List.mem_of_getElem? (i := 123) (by decide +kernel)
theorem ztm_3 : (.methodLinkNest "BedMessages" 25 ⟨"BedMessages$Ledger", "<init>", "()V"⟩ "BedMessages" : Cond) ∈ lw_tbl := List.mem_of_getElem? (i := 151) (by decide +kernel)
theorem ztm_4 : (.methodLinkNest "BedMessages" 32 ⟨"BedMessages$Separators", "<init>", "()V"⟩ "BedMessages" : Cond) ∈ lw_tbl := List.mem_of_getElem? (i := 168) (by decide +kernel)
theorem ztm_5 : (.methodLinkNest "BedMessages" 51 ⟨"BedMessages$Message", "<init>", "()V"⟩ "BedMessages" : Cond) ∈ lw_tbl := List.mem_of_getElem? (i := 180) (by decide +kernel)
theorem ztm_6 : (.methodLinkNest "BedMessages$Message" 13 ⟨"BedMessages$Separators", "<init>", "()V"⟩ "BedMessages" : Cond) ∈ lw_tbl := List.mem_of_getElem? (i := 185) (by decide +kernel)
theorem ztm_7 : (.methodLinkNest "BedMessages$Separators" 19 ⟨"BedMessages", "isBetween", "(III)Z"⟩ "BedMessages" : Cond) ∈ lw_tbl := List.mem_of_getElem? (i := 344) (by decide +kernel)
theorem ztm_8 : (.methodLinkNest "BedMessages$Separators" 23 ⟨"BedMessages", "isLetterOrDigit", "(I)Z"⟩ "BedMessages" : Cond) ∈ lw_tbl := List.mem_of_getElem? (i := 345) (by decide +kernel)
theorem ztm_9 : (.methodLinkNest "BedMessages$Frame" 81 ⟨"BedMessages", "isCapital", "(I)Z"⟩ "BedMessages" : Cond) ∈ lw_tbl := List.mem_of_getElem? (i := 369) (by decide +kernel)
theorem ztm_10 : (.methodLinkNest "BedMessages$Frame" 84 ⟨"BedMessages", "isDigit", "(I)Z"⟩ "BedMessages" : Cond) ∈ lw_tbl := List.mem_of_getElem? (i := 370) (by decide +kernel)
theorem ztm_11 : (.methodLinkNest "BedMessages$Frame" 104 ⟨"BedMessages", "isBetween", "(III)Z"⟩ "BedMessages" : Cond) ∈ lw_tbl := List.mem_of_getElem? (i := 454) (by decide +kernel)
theorem ztm_12 : (.methodLinkNest "BedMessages$Message" 75 ⟨"BedMessages", "isLetterOrDigit", "(I)Z"⟩ "BedMessages" : Cond) ∈ lw_tbl := List.mem_of_getElem? (i := 467) (by decide +kernel)
theorem ztm_13 : (.methodLinkNest "BedMessages$Message" 60 ⟨"BedMessages", "isDigit", "(I)Z"⟩ "BedMessages" : Cond) ∈ lw_tbl := List.mem_of_getElem? (i := 508) (by decide +kernel)
theorem ztm_14 : (.methodLinkNest "BedMessages$Hospital" 128 ⟨"BedMessages", "isBetween", "(III)Z"⟩ "BedMessages" : Cond) ∈ lw_tbl := List.mem_of_getElem? (i := 509) (by decide +kernel)
theorem ztm_15 : (.methodLinkNest "BedMessages$Hospital" 89 ⟨"BedMessages$Patient", "<init>", "()V"⟩ "BedMessages" : Cond) ∈ lw_tbl := List.mem_of_getElem? (i := 540) (by decide +kernel)
theorem ztm_16 : (.methodLinkNest "BedMessages$Patient" 25 ⟨"BedMessages$Measured", "<init>", "()V"⟩ "BedMessages" : Cond) ∈ lw_tbl := List.mem_of_getElem? (i := 547) (by decide +kernel)
theorem ztm_17 : (.methodLinkNest "BedMessages$Message" 68 ⟨"BedMessages", "codeOf", "(II)I"⟩ "BedMessages" : Cond) ∈ lw_tbl := List.mem_of_getElem? (i := 617) (by decide +kernel)
theorem ztm_18 : (.methodLinkNest "BedMessages$Ledger" 23 ⟨"BedMessages", "receiptFor", "(I)I"⟩ "BedMessages" : Cond) ∈ lw_tbl := List.mem_of_getElem? (i := 647) (by decide +kernel)
theorem znM_in : ∀ q ∈ znM, Cond.methodLinkNest q.1 q.2.1 q.2.2.1 q.2.2.2 ∈ lw_tbl := List.forall_mem_cons.mpr ⟨ztm_0, List.forall_mem_cons.mpr ⟨ztm_1, List.forall_mem_cons.mpr ⟨ztm_2, List.forall_mem_cons.mpr ⟨ztm_3, List.forall_mem_cons.mpr ⟨ztm_4, List.forall_mem_cons.mpr ⟨ztm_5, List.forall_mem_cons.mpr ⟨ztm_6, List.forall_mem_cons.mpr ⟨ztm_7, List.forall_mem_cons.mpr ⟨ztm_8, List.forall_mem_cons.mpr ⟨ztm_9, List.forall_mem_cons.mpr ⟨ztm_10, List.forall_mem_cons.mpr ⟨ztm_11, List.forall_mem_cons.mpr ⟨ztm_12, List.forall_mem_cons.mpr ⟨ztm_13, List.forall_mem_cons.mpr ⟨ztm_14, List.forall_mem_cons.mpr ⟨ztm_15, List.forall_mem_cons.mpr ⟨ztm_16, List.forall_mem_cons.mpr ⟨ztm_17, List.forall_mem_cons.mpr ⟨ztm_18, fun _ h => absurd h List.not_mem_nil⟩⟩⟩⟩⟩⟩⟩⟩⟩⟩⟩⟩⟩⟩⟩⟩⟩⟩⟩
