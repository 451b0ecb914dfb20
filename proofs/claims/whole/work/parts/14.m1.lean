/-! THE REFERENCE's small methods -/
theorem i_Mod_capital_0 : zins 104 0 = some (.iload_n 0) := by decide +kernel
theorem i_Mod_capital_1 : zins 104 1 = some (.bipush 65) := by decide +kernel
theorem i_Mod_capital_3 : zins 104 3 = some (.if_icmp .lt 13) := by decide +kernel
theorem i_Mod_capital_6 : zins 104 6 = some (.iload_n 0) := by decide +kernel
theorem i_Mod_capital_7 : zins 104 7 = some (.bipush 90) := by decide +kernel
theorem i_Mod_capital_9 : zins 104 9 = some (.if_icmp .gt 7) := by decide +kernel
theorem i_Mod_capital_12 : zins 104 12 = some (.iconst 1) := by decide +kernel
theorem i_Mod_capital_13 : zins 104 13 = some (.goto 4) := by decide +kernel
theorem i_Mod_capital_16 : zins 104 16 = some (.iconst 0) := by decide +kernel
theorem i_Mod_capital_17 : zins 104 17 = some (.ireturn) := by decide +kernel
def zcap (c : Int32) : Bool := !decide (c < 65) && !decide (90 < c)
theorem e_Mod_capital (X : zX) (d : Nat) (h : zH) (c : Int32) : zR X d 104 0 (zent 1 [.int c]) [] h (some (.int (zb (zcap c))), h) := by
  refine zr_iload_n i_Mod_capital_0 rfl ?_
  refine zr_bipush i_Mod_capital_1 (v := 65) (by decide) ?_
  refine zr_icmp_lt 16 i_Mod_capital_3 (by decide) (fun c_3 => ?_) (fun c_3 => ?_)
  · skip
    refine zr_iconst i_Mod_capital_16 (v := 0) (by decide) ?_
    exact zR.retE i_Mod_capital_17 rfl (by simp [zb, zcap, *])
  · skip
    refine zr_iload_n i_Mod_capital_6 rfl ?_
    refine zr_bipush i_Mod_capital_7 (v := 90) (by decide) ?_
    refine zr_icmp_gt 16 i_Mod_capital_9 (by decide) (fun c_9 => ?_) (fun c_9 => ?_)
    · skip
      refine zr_iconst i_Mod_capital_16 (v := 0) (by decide) ?_
      exact zR.retE i_Mod_capital_17 rfl (by simp [zb, zcap, *])
    · skip
      refine zr_iconst i_Mod_capital_12 (v := 1) (by decide) ?_
      refine zr_goto 17 i_Mod_capital_13 (by decide) ?_
      exact zR.retE i_Mod_capital_17 rfl (by simp [zb, zcap, *])
theorem i_Mod_small_0 : zins 105 0 = some (.iload_n 0) := by decide +kernel
theorem i_Mod_small_1 : zins 105 1 = some (.bipush 97) := by decide +kernel
theorem i_Mod_small_3 : zins 105 3 = some (.if_icmp .lt 13) := by decide +kernel
theorem i_Mod_small_6 : zins 105 6 = some (.iload_n 0) := by decide +kernel
theorem i_Mod_small_7 : zins 105 7 = some (.bipush 122) := by decide +kernel
theorem i_Mod_small_9 : zins 105 9 = some (.if_icmp .gt 7) := by decide +kernel
theorem i_Mod_small_12 : zins 105 12 = some (.iconst 1) := by decide +kernel
theorem i_Mod_small_13 : zins 105 13 = some (.goto 4) := by decide +kernel
theorem i_Mod_small_16 : zins 105 16 = some (.iconst 0) := by decide +kernel
theorem i_Mod_small_17 : zins 105 17 = some (.ireturn) := by decide +kernel
def zsml (c : Int32) : Bool := !decide (c < 97) && !decide (122 < c)
theorem e_Mod_small (X : zX) (d : Nat) (h : zH) (c : Int32) : zR X d 105 0 (zent 1 [.int c]) [] h (some (.int (zb (zsml c))), h) := by
  refine zr_iload_n i_Mod_small_0 rfl ?_
  refine zr_bipush i_Mod_small_1 (v := 97) (by decide) ?_
  refine zr_icmp_lt 16 i_Mod_small_3 (by decide) (fun c_3 => ?_) (fun c_3 => ?_)
  · skip
    refine zr_iconst i_Mod_small_16 (v := 0) (by decide) ?_
    exact zR.retE i_Mod_small_17 rfl (by simp [zb, zsml, *])
  · skip
    refine zr_iload_n i_Mod_small_6 rfl ?_
    refine zr_bipush i_Mod_small_7 (v := 122) (by decide) ?_
    refine zr_icmp_gt 16 i_Mod_small_9 (by decide) (fun c_9 => ?_) (fun c_9 => ?_)
    · skip
      refine zr_iconst i_Mod_small_16 (v := 0) (by decide) ?_
      exact zR.retE i_Mod_small_17 rfl (by simp [zb, zsml, *])
    · skip
      refine zr_iconst i_Mod_small_12 (v := 1) (by decide) ?_
      refine zr_goto 17 i_Mod_small_13 (by decide) ?_
      exact zR.retE i_Mod_small_17 rfl (by simp [zb, zsml, *])
theorem i_Mod_digit_0 : zins 106 0 = some (.iload_n 0) := by decide +kernel
theorem i_Mod_digit_1 : zins 106 1 = some (.bipush 48) := by decide +kernel
theorem i_Mod_digit_3 : zins 106 3 = some (.if_icmp .lt 13) := by decide +kernel
theorem i_Mod_digit_6 : zins 106 6 = some (.iload_n 0) := by decide +kernel
theorem i_Mod_digit_7 : zins 106 7 = some (.bipush 57) := by decide +kernel
theorem i_Mod_digit_9 : zins 106 9 = some (.if_icmp .gt 7) := by decide +kernel
theorem i_Mod_digit_12 : zins 106 12 = some (.iconst 1) := by decide +kernel
theorem i_Mod_digit_13 : zins 106 13 = some (.goto 4) := by decide +kernel
theorem i_Mod_digit_16 : zins 106 16 = some (.iconst 0) := by decide +kernel
theorem i_Mod_digit_17 : zins 106 17 = some (.ireturn) := by decide +kernel
def zdig (c : Int32) : Bool := !decide (c < 48) && !decide (57 < c)
theorem e_Mod_digit (X : zX) (d : Nat) (h : zH) (c : Int32) : zR X d 106 0 (zent 1 [.int c]) [] h (some (.int (zb (zdig c))), h) := by
  refine zr_iload_n i_Mod_digit_0 rfl ?_
  refine zr_bipush i_Mod_digit_1 (v := 48) (by decide) ?_
  refine zr_icmp_lt 16 i_Mod_digit_3 (by decide) (fun c_3 => ?_) (fun c_3 => ?_)
  · skip
    refine zr_iconst i_Mod_digit_16 (v := 0) (by decide) ?_
    exact zR.retE i_Mod_digit_17 rfl (by simp [zb, zdig, *])
  · skip
    refine zr_iload_n i_Mod_digit_6 rfl ?_
    refine zr_bipush i_Mod_digit_7 (v := 57) (by decide) ?_
    refine zr_icmp_gt 16 i_Mod_digit_9 (by decide) (fun c_9 => ?_) (fun c_9 => ?_)
    · skip
      refine zr_iconst i_Mod_digit_16 (v := 0) (by decide) ?_
      exact zR.retE i_Mod_digit_17 rfl (by simp [zb, zdig, *])
    · skip
      refine zr_iconst i_Mod_digit_12 (v := 1) (by decide) ?_
      refine zr_goto 17 i_Mod_digit_13 (by decide) ?_
      exact zR.retE i_Mod_digit_17 rfl (by simp [zb, zdig, *])
theorem i_Mod_isPatient_0 : zins 150 0 = some (.iload_n 0) := by decide +kernel
theorem i_Mod_isPatient_1 : zins 150 1 = some (.iconst 1) := by decide +kernel
theorem i_Mod_isPatient_2 : zins 150 2 = some (.if_icmp .lt 13) := by decide +kernel
theorem i_Mod_isPatient_5 : zins 150 5 = some (.iload_n 0) := by decide +kernel
theorem i_Mod_isPatient_6 : zins 150 6 = some (.bipush 99) := by decide +kernel
theorem i_Mod_isPatient_8 : zins 150 8 = some (.if_icmp .gt 7) := by decide +kernel
theorem i_Mod_isPatient_11 : zins 150 11 = some (.iconst 1) := by decide +kernel
theorem i_Mod_isPatient_12 : zins 150 12 = some (.goto 4) := by decide +kernel
theorem i_Mod_isPatient_15 : zins 150 15 = some (.iconst 0) := by decide +kernel
theorem i_Mod_isPatient_16 : zins 150 16 = some (.ireturn) := by decide +kernel
def zpat (c : Int32) : Bool := !decide (c < 1) && !decide (99 < c)
theorem e_Mod_isPatient (X : zX) (d : Nat) (h : zH) (c : Int32) : zR X d 150 0 (zent 1 [.int c]) [] h (some (.int (zb (zpat c))), h) := by
  refine zr_iload_n i_Mod_isPatient_0 rfl ?_
  refine zr_iconst i_Mod_isPatient_1 (v := 1) (by decide) ?_
  refine zr_icmp_lt 15 i_Mod_isPatient_2 (by decide) (fun c_2 => ?_) (fun c_2 => ?_)
  · skip
    refine zr_iconst i_Mod_isPatient_15 (v := 0) (by decide) ?_
    exact zR.retE i_Mod_isPatient_16 rfl (by simp [zb, zpat, *])
  · skip
    refine zr_iload_n i_Mod_isPatient_5 rfl ?_
    refine zr_bipush i_Mod_isPatient_6 (v := 99) (by decide) ?_
    refine zr_icmp_gt 15 i_Mod_isPatient_8 (by decide) (fun c_8 => ?_) (fun c_8 => ?_)
    · skip
      refine zr_iconst i_Mod_isPatient_15 (v := 0) (by decide) ?_
      exact zR.retE i_Mod_isPatient_16 rfl (by simp [zb, zpat, *])
    · skip
      refine zr_iconst i_Mod_isPatient_11 (v := 1) (by decide) ?_
      refine zr_goto 16 i_Mod_isPatient_12 (by decide) ?_
      exact zR.retE i_Mod_isPatient_16 rfl (by simp [zb, zpat, *])
theorem i_B_isCapital_0 : zins 7 0 = some (.iload_n 0) := by decide +kernel
theorem i_B_isCapital_1 : zins 7 1 = some (.bipush 65) := by decide +kernel
theorem i_B_isCapital_3 : zins 7 3 = some (.if_icmp .lt 13) := by decide +kernel
theorem i_B_isCapital_6 : zins 7 6 = some (.iload_n 0) := by decide +kernel
theorem i_B_isCapital_7 : zins 7 7 = some (.bipush 90) := by decide +kernel
theorem i_B_isCapital_9 : zins 7 9 = some (.if_icmp .gt 7) := by decide +kernel
theorem i_B_isCapital_12 : zins 7 12 = some (.iconst 1) := by decide +kernel
theorem i_B_isCapital_13 : zins 7 13 = some (.goto 4) := by decide +kernel
theorem i_B_isCapital_16 : zins 7 16 = some (.iconst 0) := by decide +kernel
theorem i_B_isCapital_17 : zins 7 17 = some (.ireturn) := by decide +kernel
def zcapB (c : Int32) : Bool := !decide (c < 65) && !decide (90 < c)
theorem e_B_isCapital (X : zX) (d : Nat) (h : zH) (c : Int32) : zR X d 7 0 (zent 1 [.int c]) [] h (some (.int (zb (zcapB c))), h) := by
  refine zr_iload_n i_B_isCapital_0 rfl ?_
  refine zr_bipush i_B_isCapital_1 (v := 65) (by decide) ?_
  refine zr_icmp_lt 16 i_B_isCapital_3 (by decide) (fun c_3 => ?_) (fun c_3 => ?_)
  · skip
    refine zr_iconst i_B_isCapital_16 (v := 0) (by decide) ?_
    exact zR.retE i_B_isCapital_17 rfl (by simp [zb, zcapB, *])
  · skip
    refine zr_iload_n i_B_isCapital_6 rfl ?_
    refine zr_bipush i_B_isCapital_7 (v := 90) (by decide) ?_
    refine zr_icmp_gt 16 i_B_isCapital_9 (by decide) (fun c_9 => ?_) (fun c_9 => ?_)
    · skip
      refine zr_iconst i_B_isCapital_16 (v := 0) (by decide) ?_
      exact zR.retE i_B_isCapital_17 rfl (by simp [zb, zcapB, *])
    · skip
      refine zr_iconst i_B_isCapital_12 (v := 1) (by decide) ?_
      refine zr_goto 17 i_B_isCapital_13 (by decide) ?_
      exact zR.retE i_B_isCapital_17 rfl (by simp [zb, zcapB, *])
theorem i_B_isSmall_0 : zins 8 0 = some (.iload_n 0) := by decide +kernel
theorem i_B_isSmall_1 : zins 8 1 = some (.bipush 97) := by decide +kernel
theorem i_B_isSmall_3 : zins 8 3 = some (.if_icmp .lt 13) := by decide +kernel
theorem i_B_isSmall_6 : zins 8 6 = some (.iload_n 0) := by decide +kernel
theorem i_B_isSmall_7 : zins 8 7 = some (.bipush 122) := by decide +kernel
theorem i_B_isSmall_9 : zins 8 9 = some (.if_icmp .gt 7) := by decide +kernel
theorem i_B_isSmall_12 : zins 8 12 = some (.iconst 1) := by decide +kernel
theorem i_B_isSmall_13 : zins 8 13 = some (.goto 4) := by decide +kernel
theorem i_B_isSmall_16 : zins 8 16 = some (.iconst 0) := by decide +kernel
theorem i_B_isSmall_17 : zins 8 17 = some (.ireturn) := by decide +kernel
def zsmlB (c : Int32) : Bool := !decide (c < 97) && !decide (122 < c)
theorem e_B_isSmall (X : zX) (d : Nat) (h : zH) (c : Int32) : zR X d 8 0 (zent 1 [.int c]) [] h (some (.int (zb (zsmlB c))), h) := by
  refine zr_iload_n i_B_isSmall_0 rfl ?_
  refine zr_bipush i_B_isSmall_1 (v := 97) (by decide) ?_
  refine zr_icmp_lt 16 i_B_isSmall_3 (by decide) (fun c_3 => ?_) (fun c_3 => ?_)
  · skip
    refine zr_iconst i_B_isSmall_16 (v := 0) (by decide) ?_
    exact zR.retE i_B_isSmall_17 rfl (by simp [zb, zsmlB, *])
  · skip
    refine zr_iload_n i_B_isSmall_6 rfl ?_
    refine zr_bipush i_B_isSmall_7 (v := 122) (by decide) ?_
    refine zr_icmp_gt 16 i_B_isSmall_9 (by decide) (fun c_9 => ?_) (fun c_9 => ?_)
    · skip
      refine zr_iconst i_B_isSmall_16 (v := 0) (by decide) ?_
      exact zR.retE i_B_isSmall_17 rfl (by simp [zb, zsmlB, *])
    · skip
      refine zr_iconst i_B_isSmall_12 (v := 1) (by decide) ?_
      refine zr_goto 17 i_B_isSmall_13 (by decide) ?_
      exact zR.retE i_B_isSmall_17 rfl (by simp [zb, zsmlB, *])
theorem i_B_isDigit_0 : zins 9 0 = some (.iload_n 0) := by decide +kernel
theorem i_B_isDigit_1 : zins 9 1 = some (.bipush 48) := by decide +kernel
theorem i_B_isDigit_3 : zins 9 3 = some (.if_icmp .lt 13) := by decide +kernel
theorem i_B_isDigit_6 : zins 9 6 = some (.iload_n 0) := by decide +kernel
theorem i_B_isDigit_7 : zins 9 7 = some (.bipush 57) := by decide +kernel
theorem i_B_isDigit_9 : zins 9 9 = some (.if_icmp .gt 7) := by decide +kernel
theorem i_B_isDigit_12 : zins 9 12 = some (.iconst 1) := by decide +kernel
theorem i_B_isDigit_13 : zins 9 13 = some (.goto 4) := by decide +kernel
theorem i_B_isDigit_16 : zins 9 16 = some (.iconst 0) := by decide +kernel
theorem i_B_isDigit_17 : zins 9 17 = some (.ireturn) := by decide +kernel
def zdigB (c : Int32) : Bool := !decide (c < 48) && !decide (57 < c)
theorem e_B_isDigit (X : zX) (d : Nat) (h : zH) (c : Int32) : zR X d 9 0 (zent 1 [.int c]) [] h (some (.int (zb (zdigB c))), h) := by
  refine zr_iload_n i_B_isDigit_0 rfl ?_
  refine zr_bipush i_B_isDigit_1 (v := 48) (by decide) ?_
  refine zr_icmp_lt 16 i_B_isDigit_3 (by decide) (fun c_3 => ?_) (fun c_3 => ?_)
  · skip
    refine zr_iconst i_B_isDigit_16 (v := 0) (by decide) ?_
    exact zR.retE i_B_isDigit_17 rfl (by simp [zb, zdigB, *])
  · skip
    refine zr_iload_n i_B_isDigit_6 rfl ?_
    refine zr_bipush i_B_isDigit_7 (v := 57) (by decide) ?_
    refine zr_icmp_gt 16 i_B_isDigit_9 (by decide) (fun c_9 => ?_) (fun c_9 => ?_)
    · skip
      refine zr_iconst i_B_isDigit_16 (v := 0) (by decide) ?_
      exact zR.retE i_B_isDigit_17 rfl (by simp [zb, zdigB, *])
    · skip
      refine zr_iconst i_B_isDigit_12 (v := 1) (by decide) ?_
      refine zr_goto 17 i_B_isDigit_13 (by decide) ?_
      exact zR.retE i_B_isDigit_17 rfl (by simp [zb, zdigB, *])
