/-! THE WORDS that every method's contract carries -/
def zcore : List Cond := lw_tbl.filter goodWord
def zws (j : Nat) : List Cond := Cond.code (zname j) (zcode j) (zmaxL j) (zrt j) :: zcore
def zat (p : Nat) (w : Cond) : Bool := decide (lw_tbl[p]? = some w) && goodWord w
theorem zat_ok {p : Nat} {w : Cond} (h : zat p w = true) : w ∈ zcore := by
  unfold zat at h
  simp only [Bool.and_eq_true, decide_eq_true_eq] at h
  exact List.mem_filter.mpr ⟨List.mem_of_getElem? h.1, h.2⟩
theorem zgood_all {w : Cond} (h : w ∈ zcore) : w ∈ zcore ∧ ((w.onTables && w.keeps) = true ∨ ∃ ty, w = .arrayClass ty) := ⟨h, good_of_word (List.mem_filter.mp h).2⟩
def zjk (j : Nat) : Bool := plainName (zname j).cls && decide ((zname j).cls = zRn (zown j)) && decide (zmaxL j ≤ 21) && decide ((zname j).cls ≠ "java/lang/invoke/MethodHandle" ∧ (zname j).cls ≠ "java/lang/invoke/VarHandle") && (!(zini j) || decide ((zname j).name = "<init>" ∧ zrt j = none))
theorem zjk_all : (List.range zNM).all zjk = true := by decide +kernel
def zjok (j : Nat) : Bool := decide (j < zNM)
theorem zjok_all {j : Nat} (h : zjok j = true) : zjk j = true := List.all_eq_true.mp zjk_all j (List.mem_range.mpr (of_decide_eq_true h))
theorem zjok_ok {j : Nat} (h : zjok j = true) : plainName (zname j).cls = true ∧ (zname j).cls = zRn (zown j) := by
  have h1 := zjok_all h
  unfold zjk at h1
  simp only [Bool.and_eq_true, decide_eq_true_eq] at h1
  exact ⟨h1.1.1.1.1, h1.1.1.1.2⟩
theorem zmaxL_le {j : Nat} (h : zjok j = true) : zmaxL j ≤ 21 := by
  have h1 := zjok_all h
  unfold zjk at h1
  simp only [Bool.and_eq_true, decide_eq_true_eq] at h1
  exact h1.1.1.2
theorem znotMH {j : Nat} (h : zjok j = true) : (zname j).cls ≠ "java/lang/invoke/MethodHandle" ∧ (zname j).cls ≠ "java/lang/invoke/VarHandle" := by
  have h1 := zjok_all h
  unfold zjk at h1
  simp only [Bool.and_eq_true, decide_eq_true_eq] at h1
  exact h1.1.2
theorem zini_lt {j : Nat} (h : zini j = true) : j < zNM := by
  rcases Nat.lt_or_ge j zNM with q | q
  · exact q
  · have e : zini j = false := by
      unfold zini
      rw [List.getD_eq_getElem?_getD, List.getElem?_eq_none (by exact q)]
      rfl
    rw [e] at h
    cases h
theorem zini_ok {j : Nat} (h : zini j = true) : (zname j).name = "<init>" := by
  have h1 := zjok_all (decide_eq_true (zini_lt h))
  unfold zjk at h1
  simp only [Bool.and_eq_true, h] at h1
  exact (of_decide_eq_true h1.2).1
theorem zini_rt {j : Nat} (h : zini j = true) : zrt j = none := by
  have h1 := zjok_all (decide_eq_true (zini_lt h))
  unfold zjk at h1
  simp only [Bool.and_eq_true, h] at h1
  exact (of_decide_eq_true h1.2).2
set_option maxRecDepth 20000 in
theorem zcp_0 : Cond.code (zname 0) (zcode 0) (zmaxL 0) (zrt 0) ∈ lw_tbl := List.mem_append_right _ (List.mem_append_left _ (List.mem_of_getElem? (i := 22) rfl))
set_option maxRecDepth 20000 in
theorem zcp_1 : Cond.code (zname 1) (zcode 1) (zmaxL 1) (zrt 1) ∈ lw_tbl := List.mem_append_right _ (List.mem_append_left _ (List.mem_of_getElem? (i := 180) rfl))
set_option maxRecDepth 20000 in
theorem zcp_2 : Cond.code (zname 2) (zcode 2) (zmaxL 2) (zrt 2) ∈ lw_tbl := List.mem_append_right _ (List.mem_append_left _ (List.mem_of_getElem? (i := 183) rfl))
set_option maxRecDepth 20000 in
theorem zcp_3 : Cond.code (zname 3) (zcode 3) (zmaxL 3) (zrt 3) ∈ lw_tbl := List.mem_append_right _ (List.mem_append_left _ (List.mem_of_getElem? (i := 186) rfl))
set_option maxRecDepth 20000 in
theorem zcp_4 : Cond.code (zname 4) (zcode 4) (zmaxL 4) (zrt 4) ∈ lw_tbl := List.mem_append_right _ (List.mem_append_left _ (List.mem_of_getElem? (i := 189) rfl))
set_option maxRecDepth 20000 in
theorem zcp_5 : Cond.code (zname 5) (zcode 5) (zmaxL 5) (zrt 5) ∈ lw_tbl := List.mem_append_right _ (List.mem_append_left _ (List.mem_of_getElem? (i := 201) rfl))
set_option maxRecDepth 20000 in
theorem zcp_6 : Cond.code (zname 6) (zcode 6) (zmaxL 6) (zrt 6) ∈ lw_tbl := List.mem_append_right _ (List.mem_append_right _ (List.mem_append_left _ (List.mem_of_getElem? (i := 47) rfl)))
set_option maxRecDepth 20000 in
theorem zcp_7 : Cond.code (zname 7) (zcode 7) (zmaxL 7) (zrt 7) ∈ lw_tbl := List.mem_append_right _ (List.mem_append_right _ (List.mem_append_left _ (List.mem_of_getElem? (i := 50) rfl)))
set_option maxRecDepth 20000 in
theorem zcp_8 : Cond.code (zname 8) (zcode 8) (zmaxL 8) (zrt 8) ∈ lw_tbl := List.mem_append_right _ (List.mem_append_right _ (List.mem_append_left _ (List.mem_of_getElem? (i := 53) rfl)))
set_option maxRecDepth 20000 in
theorem zcp_9 : Cond.code (zname 9) (zcode 9) (zmaxL 9) (zrt 9) ∈ lw_tbl := List.mem_append_right _ (List.mem_append_right _ (List.mem_append_left _ (List.mem_of_getElem? (i := 56) rfl)))
set_option maxRecDepth 20000 in
theorem zcp_10 : Cond.code (zname 10) (zcode 10) (zmaxL 10) (zrt 10) ∈ lw_tbl := List.mem_append_right _ (List.mem_append_right _ (List.mem_append_left _ (List.mem_of_getElem? (i := 172) rfl)))
set_option maxRecDepth 20000 in
theorem zcp_11 : Cond.code (zname 11) (zcode 11) (zmaxL 11) (zrt 11) ∈ lw_tbl := List.mem_append_right _ (List.mem_append_right _ (List.mem_append_right _ (List.mem_append_left _ (List.mem_of_getElem? (i := 79) rfl))))
set_option maxRecDepth 20000 in
theorem zcp_12 : Cond.code (zname 12) (zcode 12) (zmaxL 12) (zrt 12) ∈ lw_tbl := List.mem_append_right _ (List.mem_append_right _ (List.mem_append_right _ (List.mem_append_left _ (List.mem_of_getElem? (i := 109) rfl))))
set_option maxRecDepth 20000 in
theorem zcp_13 : Cond.code (zname 13) (zcode 13) (zmaxL 13) (zrt 13) ∈ lw_tbl := List.mem_append_right _ (List.mem_append_right _ (List.mem_append_right _ (List.mem_append_left _ (List.mem_of_getElem? (i := 113) rfl))))
set_option maxRecDepth 20000 in
theorem zcp_14 : Cond.code (zname 14) (zcode 14) (zmaxL 14) (zrt 14) ∈ lw_tbl := List.mem_append_right _ (List.mem_append_right _ (List.mem_append_right _ (List.mem_append_left _ (List.mem_of_getElem? (i := 129) rfl))))
set_option maxRecDepth 20000 in
theorem zcp_15 : Cond.code (zname 15) (zcode 15) (zmaxL 15) (zrt 15) ∈ lw_tbl := List.mem_append_right _ (List.mem_append_right _ (List.mem_append_right _ (List.mem_append_left _ (List.mem_of_getElem? (i := 134) rfl))))
set_option maxRecDepth 20000 in
theorem zcp_16 : Cond.code (zname 16) (zcode 16) (zmaxL 16) (zrt 16) ∈ lw_tbl := List.mem_append_right _ (List.mem_append_right _ (List.mem_append_right _ (List.mem_append_left _ (List.mem_of_getElem? (i := 147) rfl))))
set_option maxRecDepth 20000 in
theorem zcp_17 : Cond.code (zname 17) (zcode 17) (zmaxL 17) (zrt 17) ∈ lw_tbl := List.mem_append_right _ (List.mem_append_right _ (List.mem_append_right _ (List.mem_append_left _ (List.mem_of_getElem? (i := 151) rfl))))
set_option maxRecDepth 20000 in
theorem zcp_18 : Cond.code (zname 18) (zcode 18) (zmaxL 18) (zrt 18) ∈ lw_tbl := List.mem_append_right _ (List.mem_append_right _ (List.mem_append_right _ (List.mem_append_left _ (List.mem_of_getElem? (i := 155) rfl))))
set_option maxRecDepth 20000 in
theorem zcp_19 : Cond.code (zname 19) (zcode 19) (zmaxL 19) (zrt 19) ∈ lw_tbl := List.mem_append_right _ (List.mem_append_right _ (List.mem_append_right _ (List.mem_append_left _ (List.mem_of_getElem? (i := 159) rfl))))
set_option maxRecDepth 20000 in
theorem zcp_20 : Cond.code (zname 20) (zcode 20) (zmaxL 20) (zrt 20) ∈ lw_tbl := List.mem_append_right _ (List.mem_append_right _ (List.mem_append_right _ (List.mem_append_left _ (List.mem_of_getElem? (i := 164) rfl))))
set_option maxRecDepth 20000 in
theorem zcp_21 : Cond.code (zname 21) (zcode 21) (zmaxL 21) (zrt 21) ∈ lw_tbl := List.mem_append_right _ (List.mem_append_right _ (List.mem_append_right _ (List.mem_append_left _ (List.mem_of_getElem? (i := 169) rfl))))
set_option maxRecDepth 20000 in
theorem zcp_22 : Cond.code (zname 22) (zcode 22) (zmaxL 22) (zrt 22) ∈ lw_tbl := List.mem_append_right _ (List.mem_append_right _ (List.mem_append_right _ (List.mem_append_left _ (List.mem_of_getElem? (i := 174) rfl))))
set_option maxRecDepth 20000 in
theorem zcp_23 : Cond.code (zname 23) (zcode 23) (zmaxL 23) (zrt 23) ∈ lw_tbl := List.mem_append_right _ (List.mem_append_right _ (List.mem_append_right _ (List.mem_append_left _ (List.mem_of_getElem? (i := 182) rfl))))
set_option maxRecDepth 20000 in
theorem zcp_24 : Cond.code (zname 24) (zcode 24) (zmaxL 24) (zrt 24) ∈ lw_tbl := List.mem_append_right _ (List.mem_append_right _ (List.mem_append_right _ (List.mem_append_left _ (List.mem_of_getElem? (i := 186) rfl))))
set_option maxRecDepth 20000 in
theorem zcp_25 : Cond.code (zname 25) (zcode 25) (zmaxL 25) (zrt 25) ∈ lw_tbl := List.mem_append_right _ (List.mem_append_right _ (List.mem_append_right _ (List.mem_append_left _ (List.mem_of_getElem? (i := 190) rfl))))
set_option maxRecDepth 20000 in
theorem zcp_26 : Cond.code (zname 26) (zcode 26) (zmaxL 26) (zrt 26) ∈ lw_tbl := List.mem_append_right _ (List.mem_append_right _ (List.mem_append_right _ (List.mem_append_left _ (List.mem_of_getElem? (i := 199) rfl))))
set_option maxRecDepth 20000 in
theorem zcp_27 : Cond.code (zname 27) (zcode 27) (zmaxL 27) (zrt 27) ∈ lw_tbl := List.mem_append_right _ (List.mem_append_right _ (List.mem_append_right _ (List.mem_append_left _ (List.mem_of_getElem? (i := 203) rfl))))
set_option maxRecDepth 20000 in
theorem zcp_28 : Cond.code (zname 28) (zcode 28) (zmaxL 28) (zrt 28) ∈ lw_tbl := List.mem_append_right _ (List.mem_append_right _ (List.mem_append_right _ (List.mem_append_left _ (List.mem_of_getElem? (i := 207) rfl))))
set_option maxRecDepth 20000 in
theorem zcp_29 : Cond.code (zname 29) (zcode 29) (zmaxL 29) (zrt 29) ∈ lw_tbl := List.mem_append_right _ (List.mem_append_right _ (List.mem_append_right _ (List.mem_append_left _ (List.mem_of_getElem? (i := 212) rfl))))
set_option maxRecDepth 20000 in
theorem zcp_30 : Cond.code (zname 30) (zcode 30) (zmaxL 30) (zrt 30) ∈ lw_tbl := List.mem_append_right _ (List.mem_append_right _ (List.mem_append_right _ (List.mem_append_left _ (List.mem_of_getElem? (i := 232) rfl))))
set_option maxRecDepth 20000 in
theorem zcp_31 : Cond.code (zname 31) (zcode 31) (zmaxL 31) (zrt 31) ∈ lw_tbl := List.mem_append_right _ (List.mem_append_left _ (List.mem_of_getElem? (i := 36) rfl))
set_option maxRecDepth 20000 in
theorem zcp_32 : Cond.code (zname 32) (zcode 32) (zmaxL 32) (zrt 32) ∈ lw_tbl := List.mem_append_right _ (List.mem_append_left _ (List.mem_of_getElem? (i := 193) rfl))
set_option maxRecDepth 20000 in
theorem zcp_33 : Cond.code (zname 33) (zcode 33) (zmaxL 33) (zrt 33) ∈ lw_tbl := List.mem_append_right _ (List.mem_append_left _ (List.mem_of_getElem? (i := 197) rfl))
set_option maxRecDepth 20000 in
theorem zcp_34 : Cond.code (zname 34) (zcode 34) (zmaxL 34) (zrt 34) ∈ lw_tbl := List.mem_append_right _ (List.mem_append_left _ (List.mem_of_getElem? (i := 205) rfl))
set_option maxRecDepth 20000 in
theorem zcp_35 : Cond.code (zname 35) (zcode 35) (zmaxL 35) (zrt 35) ∈ lw_tbl := List.mem_append_right _ (List.mem_append_left _ (List.mem_of_getElem? (i := 218) rfl))
set_option maxRecDepth 20000 in
theorem zcp_36 : Cond.code (zname 36) (zcode 36) (zmaxL 36) (zrt 36) ∈ lw_tbl := List.mem_append_right _ (List.mem_append_left _ (List.mem_of_getElem? (i := 232) rfl))
set_option maxRecDepth 20000 in
theorem zcp_37 : Cond.code (zname 37) (zcode 37) (zmaxL 37) (zrt 37) ∈ lw_tbl := List.mem_append_right _ (List.mem_append_right _ (List.mem_append_right _ (List.mem_append_left _ (List.mem_of_getElem? (i := 118) rfl))))
set_option maxRecDepth 20000 in
theorem zcp_38 : Cond.code (zname 38) (zcode 38) (zmaxL 38) (zrt 38) ∈ lw_tbl := List.mem_append_right _ (List.mem_append_left _ (List.mem_of_getElem? (i := 30) rfl))
set_option maxRecDepth 20000 in
theorem zcp_39 : Cond.code (zname 39) (zcode 39) (zmaxL 39) (zrt 39) ∈ lw_tbl := List.mem_append_right _ (List.mem_append_left _ (List.mem_of_getElem? (i := 209) rfl))
set_option maxRecDepth 20000 in
theorem zcp_40 : Cond.code (zname 40) (zcode 40) (zmaxL 40) (zrt 40) ∈ lw_tbl := List.mem_append_right _ (List.mem_append_right _ (List.mem_append_left _ (List.mem_of_getElem? (i := 60) rfl)))
set_option maxRecDepth 20000 in
theorem zcp_41 : Cond.code (zname 41) (zcode 41) (zmaxL 41) (zrt 41) ∈ lw_tbl := List.mem_append_right _ (List.mem_append_right _ (List.mem_append_left _ (List.mem_of_getElem? (i := 64) rfl)))
set_option maxRecDepth 20000 in
theorem zcp_42 : Cond.code (zname 42) (zcode 42) (zmaxL 42) (zrt 42) ∈ lw_tbl := List.mem_append_right _ (List.mem_append_right _ (List.mem_append_left _ (List.mem_of_getElem? (i := 68) rfl)))
set_option maxRecDepth 20000 in
theorem zcp_43 : Cond.code (zname 43) (zcode 43) (zmaxL 43) (zrt 43) ∈ lw_tbl := List.mem_append_right _ (List.mem_append_right _ (List.mem_append_left _ (List.mem_of_getElem? (i := 83) rfl)))
set_option maxRecDepth 20000 in
theorem zcp_44 : Cond.code (zname 44) (zcode 44) (zmaxL 44) (zrt 44) ∈ lw_tbl := List.mem_append_right _ (List.mem_append_right _ (List.mem_append_left _ (List.mem_of_getElem? (i := 92) rfl)))
set_option maxRecDepth 20000 in
theorem zcp_45 : Cond.code (zname 45) (zcode 45) (zmaxL 45) (zrt 45) ∈ lw_tbl := List.mem_append_right _ (List.mem_append_left _ (List.mem_of_getElem? (i := 57) rfl))
set_option maxRecDepth 20000 in
theorem zcp_46 : Cond.code (zname 46) (zcode 46) (zmaxL 46) (zrt 46) ∈ lw_tbl := List.mem_append_right _ (List.mem_append_right _ (List.mem_append_left _ (List.mem_of_getElem? (i := 181) rfl)))
set_option maxRecDepth 20000 in
theorem zcp_47 : Cond.code (zname 47) (zcode 47) (zmaxL 47) (zrt 47) ∈ lw_tbl := List.mem_append_right _ (List.mem_append_right _ (List.mem_append_left _ (List.mem_of_getElem? (i := 202) rfl)))
set_option maxRecDepth 20000 in
theorem zcp_48 : Cond.code (zname 48) (zcode 48) (zmaxL 48) (zrt 48) ∈ lw_tbl := List.mem_append_right _ (List.mem_append_right _ (List.mem_append_left _ (List.mem_of_getElem? (i := 216) rfl)))
set_option maxRecDepth 20000 in
theorem zcp_49 : Cond.code (zname 49) (zcode 49) (zmaxL 49) (zrt 49) ∈ lw_tbl := List.mem_append_right _ (List.mem_append_right _ (List.mem_append_left _ (List.mem_of_getElem? (i := 230) rfl)))
set_option maxRecDepth 20000 in
theorem zcp_50 : Cond.code (zname 50) (zcode 50) (zmaxL 50) (zrt 50) ∈ lw_tbl := List.mem_append_right _ (List.mem_append_right _ (List.mem_append_left _ (List.mem_of_getElem? (i := 234) rfl)))
set_option maxRecDepth 20000 in
theorem zcp_51 : Cond.code (zname 51) (zcode 51) (zmaxL 51) (zrt 51) ∈ lw_tbl := List.mem_append_right _ (List.mem_append_right _ (List.mem_append_left _ (List.mem_of_getElem? (i := 238) rfl)))
set_option maxRecDepth 20000 in
theorem zcp_52 : Cond.code (zname 52) (zcode 52) (zmaxL 52) (zrt 52) ∈ lw_tbl := List.mem_append_right _ (List.mem_append_right _ (List.mem_append_right _ (List.mem_append_left _ (List.mem_of_getElem? (i := 33) rfl))))
set_option maxRecDepth 20000 in
theorem zcp_53 : Cond.code (zname 53) (zcode 53) (zmaxL 53) (zrt 53) ∈ lw_tbl := List.mem_append_right _ (List.mem_append_right _ (List.mem_append_right _ (List.mem_append_left _ (List.mem_of_getElem? (i := 36) rfl))))
set_option maxRecDepth 20000 in
theorem zcp_54 : Cond.code (zname 54) (zcode 54) (zmaxL 54) (zrt 54) ∈ lw_tbl := List.mem_append_right _ (List.mem_append_right _ (List.mem_append_right _ (List.mem_append_left _ (List.mem_of_getElem? (i := 39) rfl))))
set_option maxRecDepth 20000 in
theorem zcp_55 : Cond.code (zname 55) (zcode 55) (zmaxL 55) (zrt 55) ∈ lw_tbl := List.mem_append_right _ (List.mem_append_right _ (List.mem_append_right _ (List.mem_append_left _ (List.mem_of_getElem? (i := 51) rfl))))
set_option maxRecDepth 20000 in
theorem zcp_56 : Cond.code (zname 56) (zcode 56) (zmaxL 56) (zrt 56) ∈ lw_tbl := List.mem_append_right _ (List.mem_append_right _ (List.mem_append_right _ (List.mem_append_left _ (List.mem_of_getElem? (i := 55) rfl))))
set_option maxRecDepth 20000 in
theorem zcp_57 : Cond.code (zname 57) (zcode 57) (zmaxL 57) (zrt 57) ∈ lw_tbl := List.mem_append_right _ (List.mem_append_right _ (List.mem_append_right _ (List.mem_append_left _ (List.mem_of_getElem? (i := 59) rfl))))
set_option maxRecDepth 20000 in
theorem zcp_58 : Cond.code (zname 58) (zcode 58) (zmaxL 58) (zrt 58) ∈ lw_tbl := List.mem_append_right _ (List.mem_append_right _ (List.mem_append_right _ (List.mem_append_left _ (List.mem_of_getElem? (i := 63) rfl))))
set_option maxRecDepth 20000 in
theorem zcp_59 : Cond.code (zname 59) (zcode 59) (zmaxL 59) (zrt 59) ∈ lw_tbl := List.mem_append_right _ (List.mem_append_right _ (List.mem_append_right _ (List.mem_append_left _ (List.mem_of_getElem? (i := 67) rfl))))
set_option maxRecDepth 20000 in
theorem zcp_60 : Cond.code (zname 60) (zcode 60) (zmaxL 60) (zrt 60) ∈ lw_tbl := List.mem_append_right _ (List.mem_append_right _ (List.mem_append_right _ (List.mem_append_left _ (List.mem_of_getElem? (i := 82) rfl))))
set_option maxRecDepth 20000 in
theorem zcp_61 : Cond.code (zname 61) (zcode 61) (zmaxL 61) (zrt 61) ∈ lw_tbl := List.mem_append_right _ (List.mem_append_right _ (List.mem_append_right _ (List.mem_append_left _ (List.mem_of_getElem? (i := 90) rfl))))
set_option maxRecDepth 20000 in
theorem zcp_62 : Cond.code (zname 62) (zcode 62) (zmaxL 62) (zrt 62) ∈ lw_tbl := List.mem_append_right _ (List.mem_append_right _ (List.mem_append_right _ (List.mem_append_left _ (List.mem_of_getElem? (i := 178) rfl))))
set_option maxRecDepth 20000 in
theorem zcp_63 : Cond.code (zname 63) (zcode 63) (zmaxL 63) (zrt 63) ∈ lw_tbl := List.mem_append_right _ (List.mem_append_left _ (List.mem_of_getElem? (i := 93) rfl))
set_option maxRecDepth 20000 in
theorem zcp_64 : Cond.code (zname 64) (zcode 64) (zmaxL 64) (zrt 64) ∈ lw_tbl := List.mem_append_right _ (List.mem_append_right _ (List.mem_append_left _ (List.mem_of_getElem? (i := 177) rfl)))
set_option maxRecDepth 20000 in
theorem zcp_65 : Cond.code (zname 65) (zcode 65) (zmaxL 65) (zrt 65) ∈ lw_tbl := List.mem_append_right _ (List.mem_append_right _ (List.mem_append_right _ (List.mem_append_left _ (List.mem_of_getElem? (i := 106) rfl))))
set_option maxRecDepth 20000 in
theorem zcp_66 : Cond.code (zname 66) (zcode 66) (zmaxL 66) (zrt 66) ∈ lw_tbl := List.mem_append_right _ (List.mem_append_left _ (List.mem_of_getElem? (i := 110) rfl))
set_option maxRecDepth 20000 in
theorem zcp_67 : Cond.code (zname 67) (zcode 67) (zmaxL 67) (zrt 67) ∈ lw_tbl := List.mem_append_right _ (List.mem_append_right _ (List.mem_append_left _ (List.mem_of_getElem? (i := 35) rfl)))
set_option maxRecDepth 20000 in
theorem zcp_68 : Cond.code (zname 68) (zcode 68) (zmaxL 68) (zrt 68) ∈ lw_tbl := List.mem_append_right _ (List.mem_append_right _ (List.mem_append_left _ (List.mem_of_getElem? (i := 39) rfl)))
set_option maxRecDepth 20000 in
theorem zcp_69 : Cond.code (zname 69) (zcode 69) (zmaxL 69) (zrt 69) ∈ lw_tbl := List.mem_append_right _ (List.mem_append_right _ (List.mem_append_left _ (List.mem_of_getElem? (i := 43) rfl)))
set_option maxRecDepth 20000 in
theorem zcp_70 : Cond.code (zname 70) (zcode 70) (zmaxL 70) (zrt 70) ∈ lw_tbl := List.mem_append_right _ (List.mem_append_right _ (List.mem_append_left _ (List.mem_of_getElem? (i := 87) rfl)))
set_option maxRecDepth 20000 in
theorem zcp_71 : Cond.code (zname 71) (zcode 71) (zmaxL 71) (zrt 71) ∈ lw_tbl := List.mem_append_right _ (List.mem_append_right _ (List.mem_append_right _ (List.mem_append_left _ (List.mem_of_getElem? (i := 123) rfl))))
set_option maxRecDepth 20000 in
theorem zcp_72 : Cond.code (zname 72) (zcode 72) (zmaxL 72) (zrt 72) ∈ lw_tbl := List.mem_append_right _ (List.mem_append_right _ (List.mem_append_right _ (List.mem_append_left _ (List.mem_of_getElem? (i := 225) rfl))))
set_option maxRecDepth 20000 in
theorem zcp_73 : Cond.code (zname 73) (zcode 73) (zmaxL 73) (zrt 73) ∈ lw_tbl := List.mem_append_right _ (List.mem_append_left _ (List.mem_of_getElem? (i := 122) rfl))
set_option maxRecDepth 20000 in
theorem zcp_74 : Cond.code (zname 74) (zcode 74) (zmaxL 74) (zrt 74) ∈ lw_tbl := List.mem_append_right _ (List.mem_append_left _ (List.mem_of_getElem? (i := 213) rfl))
set_option maxRecDepth 20000 in
theorem zcp_75 : Cond.code (zname 75) (zcode 75) (zmaxL 75) (zrt 75) ∈ lw_tbl := List.mem_append_right _ (List.mem_append_right _ (List.mem_append_left _ (List.mem_of_getElem? (i := 74) rfl)))
set_option maxRecDepth 20000 in
theorem zcp_76 : Cond.code (zname 76) (zcode 76) (zmaxL 76) (zrt 76) ∈ lw_tbl := List.mem_append_right _ (List.mem_append_right _ (List.mem_append_left _ (List.mem_of_getElem? (i := 78) rfl)))
set_option maxRecDepth 20000 in
theorem zcp_77 : Cond.code (zname 77) (zcode 77) (zmaxL 77) (zrt 77) ∈ lw_tbl := List.mem_append_right _ (List.mem_append_right _ (List.mem_append_left _ (List.mem_of_getElem? (i := 158) rfl)))
set_option maxRecDepth 20000 in
theorem zcp_78 : Cond.code (zname 78) (zcode 78) (zmaxL 78) (zrt 78) ∈ lw_tbl := List.mem_append_right _ (List.mem_append_right _ (List.mem_append_left _ (List.mem_of_getElem? (i := 162) rfl)))
set_option maxRecDepth 20000 in
theorem zcp_79 : Cond.code (zname 79) (zcode 79) (zmaxL 79) (zrt 79) ∈ lw_tbl := List.mem_append_right _ (List.mem_append_right _ (List.mem_append_left _ (List.mem_of_getElem? (i := 166) rfl)))
set_option maxRecDepth 20000 in
theorem zcp_80 : Cond.code (zname 80) (zcode 80) (zmaxL 80) (zrt 80) ∈ lw_tbl := List.mem_append_right _ (List.mem_append_right _ (List.mem_append_left _ (List.mem_of_getElem? (i := 185) rfl)))
set_option maxRecDepth 20000 in
theorem zcp_81 : Cond.code (zname 81) (zcode 81) (zmaxL 81) (zrt 81) ∈ lw_tbl := List.mem_append_right _ (List.mem_append_right _ (List.mem_append_left _ (List.mem_of_getElem? (i := 191) rfl)))
set_option maxRecDepth 20000 in
theorem zcp_82 : Cond.code (zname 82) (zcode 82) (zmaxL 82) (zrt 82) ∈ lw_tbl := List.mem_append_right _ (List.mem_append_right _ (List.mem_append_left _ (List.mem_of_getElem? (i := 198) rfl)))
set_option maxRecDepth 20000 in
theorem zcp_83 : Cond.code (zname 83) (zcode 83) (zmaxL 83) (zrt 83) ∈ lw_tbl := List.mem_append_right _ (List.mem_append_right _ (List.mem_append_left _ (List.mem_of_getElem? (i := 207) rfl)))
set_option maxRecDepth 20000 in
theorem zcp_84 : Cond.code (zname 84) (zcode 84) (zmaxL 84) (zrt 84) ∈ lw_tbl := List.mem_append_right _ (List.mem_append_right _ (List.mem_append_left _ (List.mem_of_getElem? (i := 213) rfl)))
set_option maxRecDepth 20000 in
theorem zcp_85 : Cond.code (zname 85) (zcode 85) (zmaxL 85) (zrt 85) ∈ lw_tbl := List.mem_append_right _ (List.mem_append_right _ (List.mem_append_right _ (List.mem_append_left _ (List.mem_of_getElem? (i := 46) rfl))))
set_option maxRecDepth 20000 in
theorem zcp_86 : Cond.code (zname 86) (zcode 86) (zmaxL 86) (zrt 86) ∈ lw_tbl := List.mem_append_right _ (List.mem_append_right _ (List.mem_append_right _ (List.mem_append_left _ (List.mem_of_getElem? (i := 76) rfl))))
set_option maxRecDepth 20000 in
theorem zcp_87 : Cond.code (zname 87) (zcode 87) (zmaxL 87) (zrt 87) ∈ lw_tbl := List.mem_append_right _ (List.mem_append_right _ (List.mem_append_right _ (List.mem_append_left _ (List.mem_of_getElem? (i := 86) rfl))))
set_option maxRecDepth 20000 in
theorem zcp_88 : Cond.code (zname 88) (zcode 88) (zmaxL 88) (zrt 88) ∈ lw_tbl := List.mem_append_right _ (List.mem_append_right _ (List.mem_append_right _ (List.mem_append_left _ (List.mem_of_getElem? (i := 218) rfl))))
set_option maxRecDepth 20000 in
theorem zcp_89 : Cond.code (zname 89) (zcode 89) (zmaxL 89) (zrt 89) ∈ lw_tbl := List.mem_append_right _ (List.mem_append_left _ (List.mem_of_getElem? (i := 65) rfl))
set_option maxRecDepth 20000 in
theorem zcp_90 : Cond.code (zname 90) (zcode 90) (zmaxL 90) (zrt 90) ∈ lw_tbl := List.mem_append_right _ (List.mem_append_right _ (List.mem_append_right _ (List.mem_append_left _ (List.mem_of_getElem? (i := 71) rfl))))
set_option maxRecDepth 20000 in
theorem zcp_91 : Cond.code (zname 91) (zcode 91) (zmaxL 91) (zrt 91) ∈ lw_tbl := List.mem_append_right _ (List.mem_append_right _ (List.mem_append_right _ (List.mem_append_left _ (List.mem_of_getElem? (i := 94) rfl))))
set_option maxRecDepth 20000 in
theorem zcp_92 : Cond.code (zname 92) (zcode 92) (zmaxL 92) (zrt 92) ∈ lw_tbl := List.mem_append_right _ (List.mem_append_right _ (List.mem_append_right _ (List.mem_append_left _ (List.mem_of_getElem? (i := 98) rfl))))
set_option maxRecDepth 20000 in
theorem zcp_93 : Cond.code (zname 93) (zcode 93) (zmaxL 93) (zrt 93) ∈ lw_tbl := List.mem_append_right _ (List.mem_append_right _ (List.mem_append_right _ (List.mem_append_left _ (List.mem_of_getElem? (i := 102) rfl))))
set_option maxRecDepth 20000 in
theorem zcp_94 : Cond.code (zname 94) (zcode 94) (zmaxL 94) (zrt 94) ∈ lw_tbl := List.mem_append_right _ (List.mem_append_right _ (List.mem_append_right _ (List.mem_append_left _ (List.mem_of_getElem? (i := 195) rfl))))
set_option maxRecDepth 20000 in
theorem zcp_95 : Cond.code (zname 95) (zcode 95) (zmaxL 95) (zrt 95) ∈ lw_tbl := List.mem_append_right _ (List.mem_append_right _ (List.mem_append_right _ (List.mem_append_left _ (List.mem_of_getElem? (i := 2) rfl))))
set_option maxRecDepth 20000 in
theorem zcp_96 : Cond.code (zname 96) (zcode 96) (zmaxL 96) (zrt 96) ∈ lw_tbl := List.mem_append_right _ (List.mem_append_right _ (List.mem_append_right _ (List.mem_append_left _ (List.mem_of_getElem? (i := 237) rfl))))
set_option maxRecDepth 20000 in
theorem zcp_97 : Cond.code (zname 97) (zcode 97) (zmaxL 97) (zrt 97) ∈ lw_tbl := List.mem_append_right _ (List.mem_append_right _ (List.mem_append_right _ (List.mem_append_right _ (List.mem_append_left _ (List.mem_of_getElem? (i := 106) rfl)))))
set_option maxRecDepth 20000 in
theorem zcp_98 : Cond.code (zname 98) (zcode 98) (zmaxL 98) (zrt 98) ∈ lw_tbl := List.mem_append_right _ (List.mem_append_right _ (List.mem_append_right _ (List.mem_append_right _ (List.mem_append_left _ (List.mem_of_getElem? (i := 114) rfl)))))
set_option maxRecDepth 20000 in
theorem zcp_99 : Cond.code (zname 99) (zcode 99) (zmaxL 99) (zrt 99) ∈ lw_tbl := List.mem_append_right _ (List.mem_append_right _ (List.mem_append_right _ (List.mem_append_right _ (List.mem_append_left _ (List.mem_of_getElem? (i := 118) rfl)))))
set_option maxRecDepth 20000 in
theorem zcp_100 : Cond.code (zname 100) (zcode 100) (zmaxL 100) (zrt 100) ∈ lw_tbl := List.mem_append_right _ (List.mem_append_right _ (List.mem_append_right _ (List.mem_append_right _ (List.mem_append_left _ (List.mem_of_getElem? (i := 122) rfl)))))
set_option maxRecDepth 20000 in
theorem zcp_101 : Cond.code (zname 101) (zcode 101) (zmaxL 101) (zrt 101) ∈ lw_tbl := List.mem_append_right _ (List.mem_append_right _ (List.mem_append_right _ (List.mem_append_right _ (List.mem_append_left _ (List.mem_of_getElem? (i := 126) rfl)))))
set_option maxRecDepth 20000 in
theorem zcp_102 : Cond.code (zname 102) (zcode 102) (zmaxL 102) (zrt 102) ∈ lw_tbl := List.mem_append_right _ (List.mem_append_right _ (List.mem_append_right _ (List.mem_append_right _ (List.mem_append_left _ (List.mem_of_getElem? (i := 130) rfl)))))
set_option maxRecDepth 20000 in
theorem zcp_103 : Cond.code (zname 103) (zcode 103) (zmaxL 103) (zrt 103) ∈ lw_tbl := List.mem_append_right _ (List.mem_append_right _ (List.mem_append_right _ (List.mem_append_right _ (List.mem_append_left _ (List.mem_of_getElem? (i := 133) rfl)))))
set_option maxRecDepth 20000 in
theorem zcp_104 : Cond.code (zname 104) (zcode 104) (zmaxL 104) (zrt 104) ∈ lw_tbl := List.mem_append_right _ (List.mem_append_right _ (List.mem_append_right _ (List.mem_append_right _ (List.mem_append_left _ (List.mem_of_getElem? (i := 136) rfl)))))
set_option maxRecDepth 20000 in
theorem zcp_105 : Cond.code (zname 105) (zcode 105) (zmaxL 105) (zrt 105) ∈ lw_tbl := List.mem_append_right _ (List.mem_append_right _ (List.mem_append_right _ (List.mem_append_right _ (List.mem_append_left _ (List.mem_of_getElem? (i := 139) rfl)))))
set_option maxRecDepth 20000 in
theorem zcp_106 : Cond.code (zname 106) (zcode 106) (zmaxL 106) (zrt 106) ∈ lw_tbl := List.mem_append_right _ (List.mem_append_right _ (List.mem_append_right _ (List.mem_append_right _ (List.mem_append_left _ (List.mem_of_getElem? (i := 142) rfl)))))
set_option maxRecDepth 20000 in
theorem zcp_107 : Cond.code (zname 107) (zcode 107) (zmaxL 107) (zrt 107) ∈ lw_tbl := List.mem_append_right _ (List.mem_append_right _ (List.mem_append_right _ (List.mem_append_right _ (List.mem_append_left _ (List.mem_of_getElem? (i := 146) rfl)))))
set_option maxRecDepth 20000 in
theorem zcp_108 : Cond.code (zname 108) (zcode 108) (zmaxL 108) (zrt 108) ∈ lw_tbl := List.mem_append_right _ (List.mem_append_right _ (List.mem_append_right _ (List.mem_append_right _ (List.mem_append_left _ (List.mem_of_getElem? (i := 150) rfl)))))
set_option maxRecDepth 20000 in
theorem zcp_109 : Cond.code (zname 109) (zcode 109) (zmaxL 109) (zrt 109) ∈ lw_tbl := List.mem_append_right _ (List.mem_append_right _ (List.mem_append_right _ (List.mem_append_right _ (List.mem_append_left _ (List.mem_of_getElem? (i := 154) rfl)))))
set_option maxRecDepth 20000 in
theorem zcp_110 : Cond.code (zname 110) (zcode 110) (zmaxL 110) (zrt 110) ∈ lw_tbl := List.mem_append_right _ (List.mem_append_right _ (List.mem_append_right _ (List.mem_append_right _ (List.mem_append_left _ (List.mem_of_getElem? (i := 158) rfl)))))
set_option maxRecDepth 20000 in
theorem zcp_111 : Cond.code (zname 111) (zcode 111) (zmaxL 111) (zrt 111) ∈ lw_tbl := List.mem_append_right _ (List.mem_append_right _ (List.mem_append_right _ (List.mem_append_right _ (List.mem_append_left _ (List.mem_of_getElem? (i := 162) rfl)))))
set_option maxRecDepth 20000 in
theorem zcp_112 : Cond.code (zname 112) (zcode 112) (zmaxL 112) (zrt 112) ∈ lw_tbl := List.mem_append_right _ (List.mem_append_right _ (List.mem_append_right _ (List.mem_append_right _ (List.mem_append_left _ (List.mem_of_getElem? (i := 165) rfl)))))
set_option maxRecDepth 20000 in
theorem zcp_113 : Cond.code (zname 113) (zcode 113) (zmaxL 113) (zrt 113) ∈ lw_tbl := List.mem_append_right _ (List.mem_append_right _ (List.mem_append_right _ (List.mem_append_right _ (List.mem_append_left _ (List.mem_of_getElem? (i := 169) rfl)))))
set_option maxRecDepth 20000 in
theorem zcp_114 : Cond.code (zname 114) (zcode 114) (zmaxL 114) (zrt 114) ∈ lw_tbl := List.mem_append_right _ (List.mem_append_right _ (List.mem_append_right _ (List.mem_append_right _ (List.mem_append_left _ (List.mem_of_getElem? (i := 173) rfl)))))
set_option maxRecDepth 20000 in
theorem zcp_115 : Cond.code (zname 115) (zcode 115) (zmaxL 115) (zrt 115) ∈ lw_tbl := List.mem_append_right _ (List.mem_append_right _ (List.mem_append_right _ (List.mem_append_right _ (List.mem_append_left _ (List.mem_of_getElem? (i := 177) rfl)))))
set_option maxRecDepth 20000 in
theorem zcp_116 : Cond.code (zname 116) (zcode 116) (zmaxL 116) (zrt 116) ∈ lw_tbl := List.mem_append_right _ (List.mem_append_right _ (List.mem_append_right _ (List.mem_append_right _ (List.mem_append_left _ (List.mem_of_getElem? (i := 181) rfl)))))
set_option maxRecDepth 20000 in
theorem zcp_117 : Cond.code (zname 117) (zcode 117) (zmaxL 117) (zrt 117) ∈ lw_tbl := List.mem_append_right _ (List.mem_append_right _ (List.mem_append_right _ (List.mem_append_right _ (List.mem_append_left _ (List.mem_of_getElem? (i := 185) rfl)))))
set_option maxRecDepth 20000 in
theorem zcp_118 : Cond.code (zname 118) (zcode 118) (zmaxL 118) (zrt 118) ∈ lw_tbl := List.mem_append_right _ (List.mem_append_right _ (List.mem_append_right _ (List.mem_append_right _ (List.mem_append_left _ (List.mem_of_getElem? (i := 189) rfl)))))
set_option maxRecDepth 20000 in
theorem zcp_119 : Cond.code (zname 119) (zcode 119) (zmaxL 119) (zrt 119) ∈ lw_tbl := List.mem_append_right _ (List.mem_append_right _ (List.mem_append_right _ (List.mem_append_right _ (List.mem_append_left _ (List.mem_of_getElem? (i := 193) rfl)))))
set_option maxRecDepth 20000 in
theorem zcp_120 : Cond.code (zname 120) (zcode 120) (zmaxL 120) (zrt 120) ∈ lw_tbl := List.mem_append_right _ (List.mem_append_right _ (List.mem_append_right _ (List.mem_append_right _ (List.mem_append_left _ (List.mem_of_getElem? (i := 197) rfl)))))
set_option maxRecDepth 20000 in
theorem zcp_121 : Cond.code (zname 121) (zcode 121) (zmaxL 121) (zrt 121) ∈ lw_tbl := List.mem_append_right _ (List.mem_append_right _ (List.mem_append_right _ (List.mem_append_right _ (List.mem_append_left _ (List.mem_of_getElem? (i := 201) rfl)))))
set_option maxRecDepth 20000 in
theorem zcp_122 : Cond.code (zname 122) (zcode 122) (zmaxL 122) (zrt 122) ∈ lw_tbl := List.mem_append_right _ (List.mem_append_right _ (List.mem_append_right _ (List.mem_append_right _ (List.mem_append_left _ (List.mem_of_getElem? (i := 205) rfl)))))
set_option maxRecDepth 20000 in
theorem zcp_123 : Cond.code (zname 123) (zcode 123) (zmaxL 123) (zrt 123) ∈ lw_tbl := List.mem_append_right _ (List.mem_append_right _ (List.mem_append_right _ (List.mem_append_right _ (List.mem_append_left _ (List.mem_of_getElem? (i := 209) rfl)))))
set_option maxRecDepth 20000 in
theorem zcp_124 : Cond.code (zname 124) (zcode 124) (zmaxL 124) (zrt 124) ∈ lw_tbl := List.mem_append_right _ (List.mem_append_right _ (List.mem_append_right _ (List.mem_append_right _ (List.mem_append_left _ (List.mem_of_getElem? (i := 213) rfl)))))
set_option maxRecDepth 20000 in
theorem zcp_125 : Cond.code (zname 125) (zcode 125) (zmaxL 125) (zrt 125) ∈ lw_tbl := List.mem_append_right _ (List.mem_append_right _ (List.mem_append_right _ (List.mem_append_right _ (List.mem_append_left _ (List.mem_of_getElem? (i := 217) rfl)))))
set_option maxRecDepth 20000 in
theorem zcp_126 : Cond.code (zname 126) (zcode 126) (zmaxL 126) (zrt 126) ∈ lw_tbl := List.mem_append_right _ (List.mem_append_right _ (List.mem_append_right _ (List.mem_append_right _ (List.mem_append_left _ (List.mem_of_getElem? (i := 221) rfl)))))
set_option maxRecDepth 20000 in
theorem zcp_127 : Cond.code (zname 127) (zcode 127) (zmaxL 127) (zrt 127) ∈ lw_tbl := List.mem_append_right _ (List.mem_append_right _ (List.mem_append_right _ (List.mem_append_right _ (List.mem_append_left _ (List.mem_of_getElem? (i := 225) rfl)))))
set_option maxRecDepth 20000 in
theorem zcp_128 : Cond.code (zname 128) (zcode 128) (zmaxL 128) (zrt 128) ∈ lw_tbl := List.mem_append_right _ (List.mem_append_right _ (List.mem_append_right _ (List.mem_append_right _ (List.mem_append_left _ (List.mem_of_getElem? (i := 229) rfl)))))
set_option maxRecDepth 20000 in
theorem zcp_129 : Cond.code (zname 129) (zcode 129) (zmaxL 129) (zrt 129) ∈ lw_tbl := List.mem_append_right _ (List.mem_append_right _ (List.mem_append_right _ (List.mem_append_right _ (List.mem_append_left _ (List.mem_of_getElem? (i := 233) rfl)))))
set_option maxRecDepth 20000 in
theorem zcp_130 : Cond.code (zname 130) (zcode 130) (zmaxL 130) (zrt 130) ∈ lw_tbl := List.mem_append_right _ (List.mem_append_right _ (List.mem_append_right _ (List.mem_append_right _ (List.mem_append_left _ (List.mem_of_getElem? (i := 237) rfl)))))
set_option maxRecDepth 20000 in
theorem zcp_131 : Cond.code (zname 131) (zcode 131) (zmaxL 131) (zrt 131) ∈ lw_tbl := List.mem_append_right _ (List.mem_append_right _ (List.mem_append_right _ (List.mem_append_right _ (List.mem_append_right _ (List.mem_of_getElem? (i := 1) rfl)))))
set_option maxRecDepth 20000 in
theorem zcp_132 : Cond.code (zname 132) (zcode 132) (zmaxL 132) (zrt 132) ∈ lw_tbl := List.mem_append_right _ (List.mem_append_right _ (List.mem_append_right _ (List.mem_append_right _ (List.mem_append_right _ (List.mem_of_getElem? (i := 5) rfl)))))
set_option maxRecDepth 20000 in
theorem zcp_133 : Cond.code (zname 133) (zcode 133) (zmaxL 133) (zrt 133) ∈ lw_tbl := List.mem_append_right _ (List.mem_append_right _ (List.mem_append_right _ (List.mem_append_right _ (List.mem_append_right _ (List.mem_of_getElem? (i := 9) rfl)))))
set_option maxRecDepth 20000 in
theorem zcp_134 : Cond.code (zname 134) (zcode 134) (zmaxL 134) (zrt 134) ∈ lw_tbl := List.mem_append_right _ (List.mem_append_right _ (List.mem_append_right _ (List.mem_append_right _ (List.mem_append_right _ (List.mem_of_getElem? (i := 13) rfl)))))
set_option maxRecDepth 20000 in
theorem zcp_135 : Cond.code (zname 135) (zcode 135) (zmaxL 135) (zrt 135) ∈ lw_tbl := List.mem_append_right _ (List.mem_append_right _ (List.mem_append_right _ (List.mem_append_right _ (List.mem_append_right _ (List.mem_of_getElem? (i := 17) rfl)))))
set_option maxRecDepth 20000 in
theorem zcp_136 : Cond.code (zname 136) (zcode 136) (zmaxL 136) (zrt 136) ∈ lw_tbl := List.mem_append_right _ (List.mem_append_right _ (List.mem_append_right _ (List.mem_append_right _ (List.mem_append_right _ (List.mem_of_getElem? (i := 21) rfl)))))
set_option maxRecDepth 20000 in
theorem zcp_137 : Cond.code (zname 137) (zcode 137) (zmaxL 137) (zrt 137) ∈ lw_tbl := List.mem_append_right _ (List.mem_append_right _ (List.mem_append_right _ (List.mem_append_right _ (List.mem_append_right _ (List.mem_of_getElem? (i := 25) rfl)))))
set_option maxRecDepth 20000 in
theorem zcp_138 : Cond.code (zname 138) (zcode 138) (zmaxL 138) (zrt 138) ∈ lw_tbl := List.mem_append_right _ (List.mem_append_right _ (List.mem_append_right _ (List.mem_append_right _ (List.mem_append_right _ (List.mem_of_getElem? (i := 29) rfl)))))
set_option maxRecDepth 20000 in
theorem zcp_139 : Cond.code (zname 139) (zcode 139) (zmaxL 139) (zrt 139) ∈ lw_tbl := List.mem_append_right _ (List.mem_append_right _ (List.mem_append_right _ (List.mem_append_right _ (List.mem_append_right _ (List.mem_of_getElem? (i := 33) rfl)))))
set_option maxRecDepth 20000 in
theorem zcp_140 : Cond.code (zname 140) (zcode 140) (zmaxL 140) (zrt 140) ∈ lw_tbl := List.mem_append_right _ (List.mem_append_right _ (List.mem_append_right _ (List.mem_append_right _ (List.mem_append_right _ (List.mem_of_getElem? (i := 37) rfl)))))
set_option maxRecDepth 20000 in
theorem zcp_141 : Cond.code (zname 141) (zcode 141) (zmaxL 141) (zrt 141) ∈ lw_tbl := List.mem_append_right _ (List.mem_append_right _ (List.mem_append_right _ (List.mem_append_right _ (List.mem_append_right _ (List.mem_of_getElem? (i := 41) rfl)))))
set_option maxRecDepth 20000 in
theorem zcp_142 : Cond.code (zname 142) (zcode 142) (zmaxL 142) (zrt 142) ∈ lw_tbl := List.mem_append_right _ (List.mem_append_right _ (List.mem_append_right _ (List.mem_append_right _ (List.mem_append_right _ (List.mem_of_getElem? (i := 45) rfl)))))
set_option maxRecDepth 20000 in
theorem zcp_143 : Cond.code (zname 143) (zcode 143) (zmaxL 143) (zrt 143) ∈ lw_tbl := List.mem_append_right _ (List.mem_append_right _ (List.mem_append_right _ (List.mem_append_right _ (List.mem_append_right _ (List.mem_of_getElem? (i := 48) rfl)))))
set_option maxRecDepth 20000 in
theorem zcp_144 : Cond.code (zname 144) (zcode 144) (zmaxL 144) (zrt 144) ∈ lw_tbl := List.mem_append_right _ (List.mem_append_right _ (List.mem_append_right _ (List.mem_append_right _ (List.mem_append_right _ (List.mem_of_getElem? (i := 52) rfl)))))
set_option maxRecDepth 20000 in
theorem zcp_145 : Cond.code (zname 145) (zcode 145) (zmaxL 145) (zrt 145) ∈ lw_tbl := List.mem_append_right _ (List.mem_append_right _ (List.mem_append_right _ (List.mem_append_right _ (List.mem_append_right _ (List.mem_of_getElem? (i := 56) rfl)))))
set_option maxRecDepth 20000 in
theorem zcp_146 : Cond.code (zname 146) (zcode 146) (zmaxL 146) (zrt 146) ∈ lw_tbl := List.mem_append_right _ (List.mem_append_right _ (List.mem_append_right _ (List.mem_append_right _ (List.mem_append_right _ (List.mem_of_getElem? (i := 60) rfl)))))
set_option maxRecDepth 20000 in
theorem zcp_147 : Cond.code (zname 147) (zcode 147) (zmaxL 147) (zrt 147) ∈ lw_tbl := List.mem_append_right _ (List.mem_append_right _ (List.mem_append_right _ (List.mem_append_right _ (List.mem_append_right _ (List.mem_of_getElem? (i := 64) rfl)))))
set_option maxRecDepth 20000 in
theorem zcp_148 : Cond.code (zname 148) (zcode 148) (zmaxL 148) (zrt 148) ∈ lw_tbl := List.mem_append_right _ (List.mem_append_right _ (List.mem_append_right _ (List.mem_append_right _ (List.mem_append_right _ (List.mem_of_getElem? (i := 68) rfl)))))
set_option maxRecDepth 20000 in
theorem zcp_149 : Cond.code (zname 149) (zcode 149) (zmaxL 149) (zrt 149) ∈ lw_tbl := List.mem_append_right _ (List.mem_append_right _ (List.mem_append_right _ (List.mem_append_right _ (List.mem_append_right _ (List.mem_of_getElem? (i := 72) rfl)))))
set_option maxRecDepth 20000 in
theorem zcp_150 : Cond.code (zname 150) (zcode 150) (zmaxL 150) (zrt 150) ∈ lw_tbl := List.mem_append_right _ (List.mem_append_right _ (List.mem_append_right _ (List.mem_append_right _ (List.mem_append_right _ (List.mem_of_getElem? (i := 75) rfl)))))
set_option maxRecDepth 20000 in
theorem zcp_151 : Cond.code (zname 151) (zcode 151) (zmaxL 151) (zrt 151) ∈ lw_tbl := List.mem_append_right _ (List.mem_append_right _ (List.mem_append_right _ (List.mem_append_right _ (List.mem_append_right _ (List.mem_of_getElem? (i := 79) rfl)))))
set_option maxRecDepth 20000 in
theorem zcp_152 : Cond.code (zname 152) (zcode 152) (zmaxL 152) (zrt 152) ∈ lw_tbl := List.mem_append_right _ (List.mem_append_right _ (List.mem_append_right _ (List.mem_append_right _ (List.mem_append_right _ (List.mem_of_getElem? (i := 83) rfl)))))
set_option maxRecDepth 20000 in
theorem zcp_153 : Cond.code (zname 153) (zcode 153) (zmaxL 153) (zrt 153) ∈ lw_tbl := List.mem_append_right _ (List.mem_append_right _ (List.mem_append_right _ (List.mem_append_right _ (List.mem_append_right _ (List.mem_of_getElem? (i := 87) rfl)))))
set_option maxRecDepth 20000 in
theorem zcp_154 : Cond.code (zname 154) (zcode 154) (zmaxL 154) (zrt 154) ∈ lw_tbl := List.mem_append_right _ (List.mem_append_right _ (List.mem_append_right _ (List.mem_append_right _ (List.mem_append_right _ (List.mem_of_getElem? (i := 91) rfl)))))
set_option maxRecDepth 20000 in
theorem zcp_155 : Cond.code (zname 155) (zcode 155) (zmaxL 155) (zrt 155) ∈ lw_tbl := List.mem_append_right _ (List.mem_append_right _ (List.mem_append_right _ (List.mem_append_right _ (List.mem_append_right _ (List.mem_of_getElem? (i := 95) rfl)))))
set_option maxRecDepth 20000 in
theorem zcp_156 : Cond.code (zname 156) (zcode 156) (zmaxL 156) (zrt 156) ∈ lw_tbl := List.mem_append_right _ (List.mem_append_right _ (List.mem_append_right _ (List.mem_append_right _ (List.mem_append_right _ (List.mem_of_getElem? (i := 99) rfl)))))
set_option maxRecDepth 20000 in
theorem zcp_157 : Cond.code (zname 157) (zcode 157) (zmaxL 157) (zrt 157) ∈ lw_tbl := List.mem_append_right _ (List.mem_append_right _ (List.mem_append_right _ (List.mem_append_right _ (List.mem_append_right _ (List.mem_of_getElem? (i := 103) rfl)))))
set_option maxRecDepth 20000 in
theorem zcp_158 : Cond.code (zname 158) (zcode 158) (zmaxL 158) (zrt 158) ∈ lw_tbl := List.mem_append_right _ (List.mem_append_right _ (List.mem_append_right _ (List.mem_append_right _ (List.mem_append_right _ (List.mem_of_getElem? (i := 107) rfl)))))
set_option maxRecDepth 20000 in
theorem zcp_159 : Cond.code (zname 159) (zcode 159) (zmaxL 159) (zrt 159) ∈ lw_tbl := List.mem_append_right _ (List.mem_append_right _ (List.mem_append_right _ (List.mem_append_right _ (List.mem_append_right _ (List.mem_of_getElem? (i := 111) rfl)))))
set_option maxRecDepth 20000 in
theorem zcp_160 : Cond.code (zname 160) (zcode 160) (zmaxL 160) (zrt 160) ∈ lw_tbl := List.mem_append_right _ (List.mem_append_right _ (List.mem_append_right _ (List.mem_append_right _ (List.mem_append_right _ (List.mem_of_getElem? (i := 115) rfl)))))
set_option maxRecDepth 20000 in
theorem zcp_161 : Cond.code (zname 161) (zcode 161) (zmaxL 161) (zrt 161) ∈ lw_tbl := List.mem_append_right _ (List.mem_append_right _ (List.mem_append_right _ (List.mem_append_right _ (List.mem_append_right _ (List.mem_of_getElem? (i := 119) rfl)))))
set_option maxRecDepth 20000 in
theorem zcp_162 : Cond.code (zname 162) (zcode 162) (zmaxL 162) (zrt 162) ∈ lw_tbl := List.mem_append_right _ (List.mem_append_right _ (List.mem_append_right _ (List.mem_append_right _ (List.mem_append_right _ (List.mem_of_getElem? (i := 123) rfl)))))
set_option maxRecDepth 20000 in
theorem zcp_163 : Cond.code (zname 163) (zcode 163) (zmaxL 163) (zrt 163) ∈ lw_tbl := List.mem_append_right _ (List.mem_append_left _ (List.mem_of_getElem? (i := 222) rfl))
set_option maxRecDepth 20000 in
theorem zcp_164 : Cond.code (zname 164) (zcode 164) (zmaxL 164) (zrt 164) ∈ lw_tbl := List.mem_append_right _ (List.mem_append_left _ (List.mem_of_getElem? (i := 226) rfl))
set_option maxRecDepth 20000 in
theorem zcp_165 : Cond.code (zname 165) (zcode 165) (zmaxL 165) (zrt 165) ∈ lw_tbl := List.mem_append_right _ (List.mem_append_left _ (List.mem_of_getElem? (i := 236) rfl))
set_option maxRecDepth 20000 in
theorem zcp_166 : Cond.code (zname 166) (zcode 166) (zmaxL 166) (zrt 166) ∈ lw_tbl := List.mem_append_right _ (List.mem_append_right _ (List.mem_append_left _ (List.mem_of_getElem? (i := 0) rfl)))
set_option maxRecDepth 20000 in
theorem zcp_167 : Cond.code (zname 167) (zcode 167) (zmaxL 167) (zrt 167) ∈ lw_tbl := List.mem_append_right _ (List.mem_append_right _ (List.mem_append_left _ (List.mem_of_getElem? (i := 6) rfl)))
set_option maxRecDepth 20000 in
theorem zcp_168 : Cond.code (zname 168) (zcode 168) (zmaxL 168) (zrt 168) ∈ lw_tbl := List.mem_append_right _ (List.mem_append_right _ (List.mem_append_left _ (List.mem_of_getElem? (i := 97) rfl)))
set_option maxRecDepth 20000 in
theorem zcp_169 : Cond.code (zname 169) (zcode 169) (zmaxL 169) (zrt 169) ∈ lw_tbl := List.mem_append_right _ (List.mem_append_right _ (List.mem_append_left _ (List.mem_of_getElem? (i := 101) rfl)))
set_option maxRecDepth 20000 in
theorem zcp_170 : Cond.code (zname 170) (zcode 170) (zmaxL 170) (zrt 170) ∈ lw_tbl := List.mem_append_right _ (List.mem_append_right _ (List.mem_append_left _ (List.mem_of_getElem? (i := 3) rfl)))
set_option maxRecDepth 20000 in
theorem zcp_171 : Cond.code (zname 171) (zcode 171) (zmaxL 171) (zrt 171) ∈ lw_tbl := List.mem_append_right _ (List.mem_append_right _ (List.mem_append_left _ (List.mem_of_getElem? (i := 105) rfl)))
set_option maxRecDepth 20000 in
theorem zcp_172 : Cond.code (zname 172) (zcode 172) (zmaxL 172) (zrt 172) ∈ lw_tbl := List.mem_append_right _ (List.mem_append_right _ (List.mem_append_left _ (List.mem_of_getElem? (i := 108) rfl)))
set_option maxRecDepth 20000 in
theorem zcp_173 : Cond.code (zname 173) (zcode 173) (zmaxL 173) (zrt 173) ∈ lw_tbl := List.mem_append_right _ (List.mem_append_right _ (List.mem_append_left _ (List.mem_of_getElem? (i := 117) rfl)))
set_option maxRecDepth 20000 in
theorem zcp_174 : Cond.code (zname 174) (zcode 174) (zmaxL 174) (zrt 174) ∈ lw_tbl := List.mem_append_right _ (List.mem_append_right _ (List.mem_append_left _ (List.mem_of_getElem? (i := 11) rfl)))
set_option maxRecDepth 20000 in
theorem zcp_175 : Cond.code (zname 175) (zcode 175) (zmaxL 175) (zrt 175) ∈ lw_tbl := List.mem_append_right _ (List.mem_append_right _ (List.mem_append_left _ (List.mem_of_getElem? (i := 226) rfl)))
theorem zcode_tb : ∀ j, j < zNM → Cond.code (zname j) (zcode j) (zmaxL j) (zrt j) ∈ lw_tbl := fun j hj => match j, hj with
  | 0, _ => zcp_0
  | 1, _ => zcp_1
  | 2, _ => zcp_2
  | 3, _ => zcp_3
  | 4, _ => zcp_4
  | 5, _ => zcp_5
  | 6, _ => zcp_6
  | 7, _ => zcp_7
  | 8, _ => zcp_8
  | 9, _ => zcp_9
  | 10, _ => zcp_10
  | 11, _ => zcp_11
  | 12, _ => zcp_12
  | 13, _ => zcp_13
  | 14, _ => zcp_14
  | 15, _ => zcp_15
  | 16, _ => zcp_16
  | 17, _ => zcp_17
  | 18, _ => zcp_18
  | 19, _ => zcp_19
  | 20, _ => zcp_20
  | 21, _ => zcp_21
  | 22, _ => zcp_22
  | 23, _ => zcp_23
  | 24, _ => zcp_24
  | 25, _ => zcp_25
  | 26, _ => zcp_26
  | 27, _ => zcp_27
  | 28, _ => zcp_28
  | 29, _ => zcp_29
  | 30, _ => zcp_30
  | 31, _ => zcp_31
  | 32, _ => zcp_32
  | 33, _ => zcp_33
  | 34, _ => zcp_34
  | 35, _ => zcp_35
  | 36, _ => zcp_36
  | 37, _ => zcp_37
  | 38, _ => zcp_38
  | 39, _ => zcp_39
  | 40, _ => zcp_40
  | 41, _ => zcp_41
  | 42, _ => zcp_42
  | 43, _ => zcp_43
  | 44, _ => zcp_44
  | 45, _ => zcp_45
  | 46, _ => zcp_46
  | 47, _ => zcp_47
  | 48, _ => zcp_48
  | 49, _ => zcp_49
  | 50, _ => zcp_50
  | 51, _ => zcp_51
  | 52, _ => zcp_52
  | 53, _ => zcp_53
  | 54, _ => zcp_54
  | 55, _ => zcp_55
  | 56, _ => zcp_56
  | 57, _ => zcp_57
  | 58, _ => zcp_58
  | 59, _ => zcp_59
  | 60, _ => zcp_60
  | 61, _ => zcp_61
  | 62, _ => zcp_62
  | 63, _ => zcp_63
  | 64, _ => zcp_64
  | 65, _ => zcp_65
  | 66, _ => zcp_66
  | 67, _ => zcp_67
  | 68, _ => zcp_68
  | 69, _ => zcp_69
  | 70, _ => zcp_70
  | 71, _ => zcp_71
  | 72, _ => zcp_72
  | 73, _ => zcp_73
  | 74, _ => zcp_74
  | 75, _ => zcp_75
  | 76, _ => zcp_76
  | 77, _ => zcp_77
  | 78, _ => zcp_78
  | 79, _ => zcp_79
  | 80, _ => zcp_80
  | 81, _ => zcp_81
  | 82, _ => zcp_82
  | 83, _ => zcp_83
  | 84, _ => zcp_84
  | 85, _ => zcp_85
  | 86, _ => zcp_86
  | 87, _ => zcp_87
  | 88, _ => zcp_88
  | 89, _ => zcp_89
  | 90, _ => zcp_90
  | 91, _ => zcp_91
  | 92, _ => zcp_92
  | 93, _ => zcp_93
  | 94, _ => zcp_94
  | 95, _ => zcp_95
  | 96, _ => zcp_96
  | 97, _ => zcp_97
  | 98, _ => zcp_98
  | 99, _ => zcp_99
  | 100, _ => zcp_100
  | 101, _ => zcp_101
  | 102, _ => zcp_102
  | 103, _ => zcp_103
  | 104, _ => zcp_104
  | 105, _ => zcp_105
  | 106, _ => zcp_106
  | 107, _ => zcp_107
  | 108, _ => zcp_108
  | 109, _ => zcp_109
  | 110, _ => zcp_110
  | 111, _ => zcp_111
  | 112, _ => zcp_112
  | 113, _ => zcp_113
  | 114, _ => zcp_114
  | 115, _ => zcp_115
  | 116, _ => zcp_116
  | 117, _ => zcp_117
  | 118, _ => zcp_118
  | 119, _ => zcp_119
  | 120, _ => zcp_120
  | 121, _ => zcp_121
  | 122, _ => zcp_122
  | 123, _ => zcp_123
  | 124, _ => zcp_124
  | 125, _ => zcp_125
  | 126, _ => zcp_126
  | 127, _ => zcp_127
  | 128, _ => zcp_128
  | 129, _ => zcp_129
  | 130, _ => zcp_130
  | 131, _ => zcp_131
  | 132, _ => zcp_132
  | 133, _ => zcp_133
  | 134, _ => zcp_134
  | 135, _ => zcp_135
  | 136, _ => zcp_136
  | 137, _ => zcp_137
  | 138, _ => zcp_138
  | 139, _ => zcp_139
  | 140, _ => zcp_140
  | 141, _ => zcp_141
  | 142, _ => zcp_142
  | 143, _ => zcp_143
  | 144, _ => zcp_144
  | 145, _ => zcp_145
  | 146, _ => zcp_146
  | 147, _ => zcp_147
  | 148, _ => zcp_148
  | 149, _ => zcp_149
  | 150, _ => zcp_150
  | 151, _ => zcp_151
  | 152, _ => zcp_152
  | 153, _ => zcp_153
  | 154, _ => zcp_154
  | 155, _ => zcp_155
  | 156, _ => zcp_156
  | 157, _ => zcp_157
  | 158, _ => zcp_158
  | 159, _ => zcp_159
  | 160, _ => zcp_160
  | 161, _ => zcp_161
  | 162, _ => zcp_162
  | 163, _ => zcp_163
  | 164, _ => zcp_164
  | 165, _ => zcp_165
  | 166, _ => zcp_166
  | 167, _ => zcp_167
  | 168, _ => zcp_168
  | 169, _ => zcp_169
  | 170, _ => zcp_170
  | 171, _ => zcp_171
  | 172, _ => zcp_172
  | 173, _ => zcp_173
  | 174, _ => zcp_174
  | 175, _ => zcp_175
  | j + 176, hj => absurd hj (by show ¬ (j + 176 < 176); omega)
theorem zcode_in {j : Nat} (h : zjok j = true) : Cond.code (zname j) (zcode j) (zmaxL j) (zrt j) ∈ zcore := List.mem_filter.mpr ⟨zcode_tb j (of_decide_eq_true h), rfl⟩
theorem zgoodW {j : Nat} (h : Cond.code (zname j) (zcode j) (zmaxL j) (zrt j) ∈ zcore) : GoodIn zcore (zws j) := fun w hw => by
  rcases List.mem_cons.mp hw with rfl | hw
  · exact zgood_all h
  · exact zgood_all hw
theorem zgoodA {a b : List Cond} (ha : ∀ w ∈ a, w ∈ zcore) (hb : GoodIn zcore b) : GoodIn zcore (a ++ b) := fun w hw => (List.mem_append.mp hw).elim (fun h => zgood_all (ha w h)) (hb w)
def zds (j n : Nat) : Bool := decide ((parseMethodDescriptor (zname j).desc).map (fun d => d.parameters.length) = some n)
def znl (o i j : Nat) : Bool := znM.any (fun e => decide (e.1 = zRn o) && decide (e.2.1 = i) && decide (e.2.2.1 = zname j))
theorem znl_ok {o i j : Nat} (h : znl o i j = true) : ∃ host, (zRn o, i, zname j, host) ∈ znM := by
  obtain ⟨e, he, h1⟩ := List.any_eq_true.mp h
  simp only [Bool.and_eq_true, decide_eq_true_eq] at h1
  obtain ⟨a, b, c, d⟩ := e
  obtain ⟨⟨rfl, rfl⟩, rfl⟩ := h1
  exact ⟨d, he⟩
/-- what the words say of a link -/
def zmck (o i kd j n : Nat) (ps : List Nat) : Bool := match kd with
  | 0 => zjok j && zat (ps.getD 0 0) (.methodLink (zRn o) i (zname j)) && zat (ps.getD 1 0) (.instanceMethod (zname j)) && zat (ps.getD 2 0) (.selects (zRn (zown j)) (zname j) (zname j)) && zat (ps.getD 3 0) (.initialized (zRn (zown j))) && zds j n
  | 1 => zjok j && znl o i j && zat (ps.getD 1 0) (.instanceMethod (zname j)) && zat (ps.getD 2 0) (.selects (zRn (zown j)) (zname j) (zname j)) && zat (ps.getD 3 0) (.initialized (zname j).cls) && zds j n
  | 2 => zjok j && zat (ps.getD 0 0) (.methodLink (zRn o) i (zname j)) && zat (ps.getD 1 0) (.static (zname j)) && zat (ps.getD 2 0) (.initialized (zname j).cls) && zds j n
  | 3 => zjok j && znl o i j && zat (ps.getD 1 0) (.static (zname j)) && zat (ps.getD 2 0) (.initialized (zname j).cls) && zds j n
  | 4 => zjok j && zat (ps.getD 0 0) (.methodLink (zRn o) i (zname j)) && zat (ps.getD 1 0) (.instanceMethod (zname j)) && zat (ps.getD 2 0) (.initialized (zname j).cls) && zini j && zds j n
  | 5 => zjok j && znl o i j && zat (ps.getD 1 0) (.instanceMethod (zname j)) && zat (ps.getD 2 0) (.initialized (zname j).cls) && zini j && zds j n
  | 6 => zat (ps.getD 0 0) (.methodLink (zRn o) i Lib.objectInit)
  | 7 => zat (ps.getD 0 0) (.methodLink (zRn o) i Lib.Math.max.name) && zat (ps.getD 1 0) (.static Lib.Math.max.name) && zat (ps.getD 2 0) (.initialized "java/lang/Math")
  | 9 => zat (ps.getD 0 0) (.methodLink (zRn o) i Lib.Math.min.name) && zat (ps.getD 1 0) (.static Lib.Math.min.name) && zat (ps.getD 2 0) (.initialized "java/lang/Math")
  | 8 => zat (ps.getD 0 0) (.methodLink (zRn o) i ⟨"BedMessages$Kind", "ordinal", "()I"⟩)
  | _ => true
def zmc (o i : Nat) (q : Nat × Nat × Nat) : Bool := match zlk zmpT o i with
  | some ps => zmck o i q.1 q.2.1 q.2.2 ps
  | none => false
theorem zml_all : (List.range zmlT.length).all (fun o => (zmlT.getD o []).all (fun e => zmc o e.1 e.2)) = true := by decide +kernel
theorem zml_ck {o i kd j n : Nat} (h : zml o i = some (kd, j, n)) : ∃ ps, zmck o i kd j n ps = true := by
  have h1 := zlk_all (p := zmc) zml_all h
  unfold zmc at h1
  split at h1
  · exact ⟨_, h1⟩
  · cases h1
theorem zobj_in : Cond.instanceMethod Lib.objectInit ∈ zcore := zat_ok (p := 84) (by decide +kernel)
theorem zobj_code : Cond.code Lib.objectInit ⟨#[0xb1]⟩ 1 none ∈ zcore := zat_ok (p := 85) (by decide +kernel)
theorem zmax_code : Cond.code Lib.Math.max.name Lib.Math.max.code 2 (some .int) ∈ zcore := zat_ok (p := 411) (by decide +kernel)
theorem zmin_code : Cond.code Lib.Math.min.name Lib.Math.min.code 2 (some .int) ∈ zcore := zat_ok (p := 414) (by decide +kernel)
theorem zarr_int : Cond.arrayClass .int ∈ zcore := zat_ok (p := 138) (by decide +kernel)
theorem zarr_char : Cond.arrayClass .char ∈ zcore := zat_ok (p := 107) (by decide +kernel)
theorem zarr_long : Cond.arrayClass .long ∈ zcore := zat_ok (p := 165) (by decide +kernel)
theorem zarr_boolean : Cond.arrayClass .boolean ∈ zcore := zat_ok (p := 882) (by decide +kernel)
theorem zml_obj {o i a b : Nat} (h : zml o i = some (6, a, b)) : Cond.methodLink (zRn o) i Lib.objectInit ∈ zcore ∧ Cond.instanceMethod Lib.objectInit ∈ zcore ∧ Cond.code Lib.objectInit ⟨#[0xb1]⟩ 1 none ∈ zcore := by
  obtain ⟨ps, h1⟩ := zml_ck h
  exact ⟨zat_ok h1, zobj_in, zobj_code⟩
theorem zml_max {o i a b : Nat} (h : zml o i = some (7, a, b)) : Cond.methodLink (zRn o) i Lib.Math.max.name ∈ zcore ∧ Cond.static Lib.Math.max.name ∈ zcore ∧ Cond.initialized "java/lang/Math" ∈ zcore ∧ Cond.code Lib.Math.max.name Lib.Math.max.code 2 (some .int) ∈ zcore := by
  obtain ⟨ps, h1⟩ := zml_ck h
  unfold zmck at h1
  simp only [Bool.and_eq_true] at h1
  exact ⟨zat_ok h1.1.1, zat_ok h1.1.2, zat_ok h1.2, zmax_code⟩
theorem zml_min {o i a b : Nat} (h : zml o i = some (9, a, b)) : Cond.methodLink (zRn o) i Lib.Math.min.name ∈ zcore ∧ Cond.static Lib.Math.min.name ∈ zcore ∧ Cond.initialized "java/lang/Math" ∈ zcore ∧ Cond.code Lib.Math.min.name Lib.Math.min.code 2 (some .int) ∈ zcore := by
  obtain ⟨ps, h1⟩ := zml_ck h
  unfold zmck at h1
  simp only [Bool.and_eq_true] at h1
  exact ⟨zat_ok h1.1.1, zat_ok h1.1.2, zat_ok h1.2, zmin_code⟩
theorem zml_v {o i j n : Nat} (h : zml o i = some (0, j, n)) : zjok j = true ∧ Cond.methodLink (zRn o) i (zname j) ∈ zcore ∧ Cond.instanceMethod (zname j) ∈ zcore ∧ Cond.selects (zRn (zown j)) (zname j) (zname j) ∈ zcore ∧ Cond.initialized (zRn (zown j)) ∈ zcore ∧ ((zname j).cls = zRn (zown j) ∧ (zname j).cls ≠ "java/lang/invoke/MethodHandle" ∧ (zname j).cls ≠ "java/lang/invoke/VarHandle" ∧ (parseMethodDescriptor (zname j).desc).map (fun d => d.parameters.length) = some n) := by
  obtain ⟨ps, h1⟩ := zml_ck h
  unfold zmck at h1
  simp only [Bool.and_eq_true] at h1
  have hj := h1.1.1.1.1.1
  exact ⟨hj, zat_ok h1.1.1.1.1.2, zat_ok h1.1.1.1.2, zat_ok h1.1.1.2, zat_ok h1.1.2, (zjok_ok hj).2, (znotMH hj).1, (znotMH hj).2, of_decide_eq_true h1.2⟩
theorem zml_vn {o i j n : Nat} (h : zml o i = some (1, j, n)) : zjok j = true ∧ (∃ host, (zRn o, i, zname j, host) ∈ znM) ∧ Cond.instanceMethod (zname j) ∈ zcore ∧ Cond.selects (zRn (zown j)) (zname j) (zname j) ∈ zcore ∧ Cond.initialized (zname j).cls ∈ zcore ∧ ((zname j).cls ≠ "java/lang/invoke/MethodHandle" ∧ (zname j).cls ≠ "java/lang/invoke/VarHandle" ∧ (parseMethodDescriptor (zname j).desc).map (fun d => d.parameters.length) = some n) := by
  obtain ⟨ps, h1⟩ := zml_ck h
  unfold zmck at h1
  simp only [Bool.and_eq_true] at h1
  have hj := h1.1.1.1.1.1
  exact ⟨hj, znl_ok h1.1.1.1.1.2, zat_ok h1.1.1.1.2, zat_ok h1.1.1.2, zat_ok h1.1.2, (znotMH hj).1, (znotMH hj).2, of_decide_eq_true h1.2⟩
theorem zml_s {o i j n : Nat} (h : zml o i = some (2, j, n)) : zjok j = true ∧ Cond.methodLink (zRn o) i (zname j) ∈ zcore ∧ Cond.static (zname j) ∈ zcore ∧ Cond.initialized (zname j).cls ∈ zcore ∧ ((zname j).cls ≠ "java/lang/invoke/MethodHandle" ∧ (zname j).cls ≠ "java/lang/invoke/VarHandle" ∧ (parseMethodDescriptor (zname j).desc).map (fun d => d.parameters.length) = some n) := by
  obtain ⟨ps, h1⟩ := zml_ck h
  unfold zmck at h1
  simp only [Bool.and_eq_true] at h1
  have hj := h1.1.1.1.1
  exact ⟨hj, zat_ok h1.1.1.1.2, zat_ok h1.1.1.2, zat_ok h1.1.2, (znotMH hj).1, (znotMH hj).2, of_decide_eq_true h1.2⟩
theorem zml_sn {o i j n : Nat} (h : zml o i = some (3, j, n)) : zjok j = true ∧ (∃ host, (zRn o, i, zname j, host) ∈ znM) ∧ Cond.static (zname j) ∈ zcore ∧ Cond.initialized (zname j).cls ∈ zcore ∧ ((zname j).cls ≠ "java/lang/invoke/MethodHandle" ∧ (zname j).cls ≠ "java/lang/invoke/VarHandle" ∧ (parseMethodDescriptor (zname j).desc).map (fun d => d.parameters.length) = some n) := by
  obtain ⟨ps, h1⟩ := zml_ck h
  unfold zmck at h1
  simp only [Bool.and_eq_true] at h1
  have hj := h1.1.1.1.1
  exact ⟨hj, znl_ok h1.1.1.1.2, zat_ok h1.1.1.2, zat_ok h1.1.2, (znotMH hj).1, (znotMH hj).2, of_decide_eq_true h1.2⟩
theorem zml_i {o i j n : Nat} (h : zml o i = some (4, j, n)) : zjok j = true ∧ Cond.methodLink (zRn o) i (zname j) ∈ zcore ∧ Cond.instanceMethod (zname j) ∈ zcore ∧ Cond.initialized (zname j).cls ∈ zcore ∧ (zname j).name = "<init>" ∧ zrt j = none ∧ ((zname j).cls ≠ "java/lang/invoke/MethodHandle" ∧ (zname j).cls ≠ "java/lang/invoke/VarHandle" ∧ (parseMethodDescriptor (zname j).desc).map (fun d => d.parameters.length) = some n) := by
  obtain ⟨ps, h1⟩ := zml_ck h
  unfold zmck at h1
  simp only [Bool.and_eq_true] at h1
  have hj := h1.1.1.1.1.1
  exact ⟨hj, zat_ok h1.1.1.1.1.2, zat_ok h1.1.1.1.2, zat_ok h1.1.1.2, zini_ok h1.1.2, zini_rt h1.1.2, (znotMH hj).1, (znotMH hj).2, of_decide_eq_true h1.2⟩
theorem zml_in {o i j n : Nat} (h : zml o i = some (5, j, n)) : zjok j = true ∧ (∃ host, (zRn o, i, zname j, host) ∈ znM) ∧ Cond.instanceMethod (zname j) ∈ zcore ∧ Cond.initialized (zname j).cls ∈ zcore ∧ (zname j).name = "<init>" ∧ zrt j = none ∧ ((zname j).cls ≠ "java/lang/invoke/MethodHandle" ∧ (zname j).cls ≠ "java/lang/invoke/VarHandle" ∧ (parseMethodDescriptor (zname j).desc).map (fun d => d.parameters.length) = some n) := by
  obtain ⟨ps, h1⟩ := zml_ck h
  unfold zmck at h1
  simp only [Bool.and_eq_true] at h1
  have hj := h1.1.1.1.1.1
  exact ⟨hj, znl_ok h1.1.1.1.1.2, zat_ok h1.1.1.1.2, zat_ok h1.1.1.2, zini_ok h1.1.2, zini_rt h1.1.2, (znotMH hj).1, (znotMH hj).2, of_decide_eq_true h1.2⟩
theorem zgoodV {o i j : Nat} (w1 : Cond.methodLink (zRn o) i (zname j) ∈ zcore) (w2 : Cond.instanceMethod (zname j) ∈ zcore) (w3 : Cond.selects (zRn (zown j)) (zname j) (zname j) ∈ zcore) (w4 : Cond.initialized (zRn (zown j)) ∈ zcore) (hc : Cond.code (zname j) (zcode j) (zmaxL j) (zrt j) ∈ zcore) : GoodIn zcore (wsV (zRn o) i (zRn (zown j)) (zname j) (zws j)) :=
  zgoodA (fun w hw => by
    rcases List.mem_cons.mp hw with rfl | hw
    · exact w1
    rcases List.mem_cons.mp hw with rfl | hw
    · exact w2
    rcases List.mem_cons.mp hw with rfl | hw
    · exact w3
    rcases List.mem_cons.mp hw with rfl | hw
    · exact w4
    cases hw) (zgoodW hc)
theorem zgoodS {o i j : Nat} (w1 : Cond.methodLink (zRn o) i (zname j) ∈ zcore) (w2 : Cond.static (zname j) ∈ zcore) (w3 : Cond.initialized (zname j).cls ∈ zcore) (hc : Cond.code (zname j) (zcode j) (zmaxL j) (zrt j) ∈ zcore) : GoodIn zcore (va_wsS (zRn o) i (zname j) (zws j)) :=
  zgoodA (fun w hw => by
    rcases List.mem_cons.mp hw with rfl | hw
    · exact w1
    rcases List.mem_cons.mp hw with rfl | hw
    · exact w2
    rcases List.mem_cons.mp hw with rfl | hw
    · exact w3
    cases hw) (zgoodW hc)
theorem zml_ordl {o i a b : Nat} (h : zml o i = some (8, a, b)) : Cond.methodLink (zRn o) i ⟨"BedMessages$Kind", "ordinal", "()I"⟩ ∈ zcore := by
  obtain ⟨ps, h1⟩ := zml_ck h
  exact zat_ok h1
theorem zord_2 : Cond.sameMethod "BedMessages$Kind" "java/lang/Enum" "ordinal" "()I" ∈ zcore := zat_ok (p := 522) (by decide +kernel)
theorem zord_3 : Cond.selects "BedMessages$Kind" ⟨"BedMessages$Kind", "ordinal", "()I"⟩ ⟨"java/lang/Enum", "ordinal", "()I"⟩ ∈ zcore := zat_ok (p := 524) (by decide +kernel)
theorem zord_4 : Cond.instanceMethod ⟨"java/lang/Enum", "ordinal", "()I"⟩ ∈ zcore := zat_ok (p := 525) (by decide +kernel)
theorem zord_6 : Cond.fieldLink "java/lang/Enum" 7 "java/lang/Enum" "ordinal" "I" ∈ zcore := zat_ok (p := 1149) (by decide +kernel)
theorem zord_5 : Cond.code ⟨"java/lang/Enum", "ordinal", "()I"⟩ prog_15_method_2_code 1 (some .int) ∈ zcore := zcode_in (j := j_Enum_ordinal) rfl
