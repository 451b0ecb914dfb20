/-! THE CLASS: its constructor -/
theorem i_B_init_0 : zins 0 0 = some (.aload_n 0) := by decide +kernel
theorem i_B_init_1 : zins 0 1 = some (.invokespecial 3) := by decide +kernel
theorem i_B_init_4 : zins 0 4 = some (.aload_n 0) := by decide +kernel
theorem i_B_init_5 : zins 0 5 = some (.new 9) := by decide +kernel
theorem i_B_init_8 : zins 0 8 = some (.dup) := by decide +kernel
theorem i_B_init_9 : zins 0 9 = some (.invokespecial 11) := by decide +kernel
theorem i_B_init_12 : zins 0 12 = some (.putfield 12) := by decide +kernel
theorem i_B_init_15 : zins 0 15 = some (.aload_n 0) := by decide +kernel
theorem i_B_init_16 : zins 0 16 = some (.new 16) := by decide +kernel
theorem i_B_init_19 : zins 0 19 = some (.dup) := by decide +kernel
theorem i_B_init_20 : zins 0 20 = some (.invokespecial 18) := by decide +kernel
theorem i_B_init_23 : zins 0 23 = some (.putfield 19) := by decide +kernel
theorem i_B_init_26 : zins 0 26 = some (.aload_n 0) := by decide +kernel
theorem i_B_init_27 : zins 0 27 = some (.new 23) := by decide +kernel
theorem i_B_init_30 : zins 0 30 = some (.dup) := by decide +kernel
theorem i_B_init_31 : zins 0 31 = some (.invokespecial 25) := by decide +kernel
theorem i_B_init_34 : zins 0 34 = some (.putfield 26) := by decide +kernel
theorem i_B_init_37 : zins 0 37 = some (.aload_n 0) := by decide +kernel
theorem i_B_init_38 : zins 0 38 = some (.new 30) := by decide +kernel
theorem i_B_init_41 : zins 0 41 = some (.dup) := by decide +kernel
theorem i_B_init_42 : zins 0 42 = some (.invokespecial 32) := by decide +kernel
theorem i_B_init_45 : zins 0 45 = some (.putfield 33) := by decide +kernel
theorem i_B_init_48 : zins 0 48 = some (.aload_n 0) := by decide +kernel
theorem i_B_init_49 : zins 0 49 = some (.new 37) := by decide +kernel
theorem i_B_init_52 : zins 0 52 = some (.dup) := by decide +kernel
theorem i_B_init_53 : zins 0 53 = some (.bipush 40) := by decide +kernel
theorem i_B_init_55 : zins 0 55 = some (.invokespecial 39) := by decide +kernel
theorem i_B_init_58 : zins 0 58 = some (.putfield 42) := by decide +kernel
theorem i_B_init_61 : zins 0 61 = some (.aload_n 0) := by decide +kernel
theorem i_B_init_62 : zins 0 62 = some (.new 37) := by decide +kernel
theorem i_B_init_65 : zins 0 65 = some (.dup) := by decide +kernel
theorem i_B_init_66 : zins 0 66 = some (.sipush 600) := by decide +kernel
theorem i_B_init_69 : zins 0 69 = some (.invokespecial 39) := by decide +kernel
theorem i_B_init_72 : zins 0 72 = some (.putfield 46) := by decide +kernel
theorem i_B_init_75 : zins 0 75 = some (.aload_n 0) := by decide +kernel
theorem i_B_init_76 : zins 0 76 = some (.new 49) := by decide +kernel
theorem i_B_init_79 : zins 0 79 = some (.dup) := by decide +kernel
theorem i_B_init_80 : zins 0 80 = some (.invokespecial 51) := by decide +kernel
theorem i_B_init_83 : zins 0 83 = some (.putfield 52) := by decide +kernel
theorem i_B_init_86 : zins 0 86 = some (.aload_n 0) := by decide +kernel
theorem i_B_init_87 : zins 0 87 = some (.new 49) := by decide +kernel
theorem i_B_init_90 : zins 0 90 = some (.dup) := by decide +kernel
theorem i_B_init_91 : zins 0 91 = some (.invokespecial 51) := by decide +kernel
theorem i_B_init_94 : zins 0 94 = some (.putfield 56) := by decide +kernel
theorem i_B_init_97 : zins 0 97 = some (.aload_n 0) := by decide +kernel
theorem i_B_init_98 : zins 0 98 = some (.iconst (-1)) := by decide +kernel
theorem i_B_init_99 : zins 0 99 = some (.putfield 59) := by decide +kernel
theorem i_B_init_102 : zins 0 102 = some (.aload_n 0) := by decide +kernel
theorem i_B_init_103 : zins 0 103 = some (.iconst 0) := by decide +kernel
theorem i_B_init_104 : zins 0 104 = some (.putfield 63) := by decide +kernel
theorem i_B_init_107 : zins 0 107 = some (.return_) := by decide +kernel
theorem i_Frame_init_0 : zins 38 0 = some (.aload_n 0) := by decide +kernel
theorem i_Frame_init_1 : zins 38 1 = some (.invokespecial 3) := by decide +kernel
theorem i_Frame_init_4 : zins 38 4 = some (.aload_n 0) := by decide +kernel
theorem i_Frame_init_5 : zins 38 5 = some (.new 9) := by decide +kernel
theorem i_Frame_init_8 : zins 38 8 = some (.dup) := by decide +kernel
theorem i_Frame_init_9 : zins 38 9 = some (.sipush 200) := by decide +kernel
theorem i_Frame_init_12 : zins 38 12 = some (.invokespecial 11) := by decide +kernel
theorem i_Frame_init_15 : zins 38 15 = some (.putfield 14) := by decide +kernel
theorem i_Frame_init_18 : zins 38 18 = some (.return_) := by decide +kernel
def hb1 : zH := znew (0, 0, fun _ => none) 10 (.inr (0, [.null, .null, .null, .null, .null, .null, .null, .null, .int 0, .int 0]))
def hb2 : zH := znew hb1 1 (.inr (2, [.null]))
def hb3 : zH := znew hb2 2 (.inr (1, [.null, .int 0]))
def hb4 : zH := zwr hb3 102 (.inr (1, [.null, .int 0]))
def hb5 : zH := znew hb4 200 (.inl (1, (200, .inl (fun _ => 0))))
def hb6 : zH := zwr hb5 102 (.inr (1, [.ref 103, .int 0]))
theorem c6_Chars_init (X : zX) (d : Nat) : zR X (d + 1) 31 0 (zent 2 [.ref 102, .int 200]) [] hb3 (none, hb6) := by
  refine zr_aload_n i_Chars_init_0 rfl ?_
  refine zr_obj i_Chars_init_1 rfl (Nat.le_of_ble_eq_true rfl) ?_
  refine zr_aload_n i_Chars_init_4 rfl ?_
  refine zr_iconst i_Chars_init_5 (v := 0) (by decide) ?_
  refine zr_putf i_Chars_init_6 (fs := [.null, .int 0]) rfl rfl (Nat.le_of_ble_eq_true rfl) rfl (by decide) ?_
  show zR X _ 31 9 _ _ hb4 _
  refine zr_aload_n i_Chars_init_9 rfl ?_
  refine zr_iload_n i_Chars_init_10 rfl ?_
  refine zr_newa_char (N := 200) i_Chars_init_11 (by decide) (by decide) ?_
  show zR X _ 31 13 _ _ hb5 _
  refine zr_putf i_Chars_init_13 (fs := [.null, .int 0]) rfl rfl (Nat.le_of_ble_eq_true rfl) rfl (by decide) ?_
  show zR X _ 31 16 _ _ hb6 _
  exact zR.retE i_Chars_init_16 rfl rfl
def hb7 : zH := zwr hb6 101 (.inr (2, [.ref 102]))
theorem c7_Frame_init (X : zX) (d : Nat) : zR X (d + 2) 38 0 (zent 1 [.ref 101]) [] hb2 (none, hb7) := by
  refine zr_aload_n i_Frame_init_0 rfl ?_
  refine zr_obj i_Frame_init_1 rfl (Nat.le_of_ble_eq_true rfl) ?_
  refine zr_aload_n i_Frame_init_4 rfl ?_
  refine zr_new i_Frame_init_5 rfl rfl rfl ?_
  show zR X _ 38 8 _ _ hb3 _
  refine zr_dup i_Frame_init_8 rfl ?_
  refine zr_sipush i_Frame_init_9 (v := 200) (by decide) ?_
  refine zr_ci10 i_Frame_init_12 rfl (by decide) (Nat.le_of_ble_eq_true rfl) (Nat.le_of_ble_eq_true rfl) (c6_Chars_init X _) ?_
  refine zr_putf i_Frame_init_15 (fs := [.null]) rfl rfl (Nat.le_of_ble_eq_true rfl) rfl (by decide) ?_
  show zR X _ 38 18 _ _ hb7 _
  exact zR.retE i_Frame_init_18 rfl rfl
theorem i_Hosp_init_0 : zins 45 0 = some (.aload_n 0) := by decide +kernel
theorem i_Hosp_init_1 : zins 45 1 = some (.invokespecial 3) := by decide +kernel
theorem i_Hosp_init_4 : zins 45 4 = some (.aload_n 0) := by decide +kernel
theorem i_Hosp_init_5 : zins 45 5 = some (.bipush 32) := by decide +kernel
theorem i_Hosp_init_7 : zins 45 7 = some (.newarray .int) := by decide +kernel
theorem i_Hosp_init_9 : zins 45 9 = some (.putfield 9) := by decide +kernel
theorem i_Hosp_init_12 : zins 45 12 = some (.aload_n 0) := by decide +kernel
theorem i_Hosp_init_13 : zins 45 13 = some (.bipush 100) := by decide +kernel
theorem i_Hosp_init_15 : zins 45 15 = some (.anewarray 15) := by decide +kernel
theorem i_Hosp_init_18 : zins 45 18 = some (.putfield 17) := by decide +kernel
theorem i_Hosp_init_21 : zins 45 21 = some (.aload_n 0) := by decide +kernel
theorem i_Hosp_init_22 : zins 45 22 = some (.new 21) := by decide +kernel
theorem i_Hosp_init_25 : zins 45 25 = some (.dup) := by decide +kernel
theorem i_Hosp_init_26 : zins 45 26 = some (.invokespecial 23) := by decide +kernel
theorem i_Hosp_init_29 : zins 45 29 = some (.putfield 24) := by decide +kernel
theorem i_Hosp_init_32 : zins 45 32 = some (.return_) := by decide +kernel
def hb8 : zH := zwr hb7 100 (.inr (0, [.ref 101, .null, .null, .null, .null, .null, .null, .null, .int 0, .int 0]))
def hb9 : zH := znew hb8 3 (.inr (3, [.null, .null, .null]))
def hb10 : zH := znew hb9 32 (.inl (0, (32, .inl (fun _ => 0))))
def hb11 : zH := zwr hb10 104 (.inr (3, [.ref 105, .null, .null]))
def hb12 : zH := znew hb11 100 (.inl (5, 100, .inr (.inr (.inr (.inr (fun _ => none))))))
def hb13 : zH := zwr hb12 104 (.inr (3, [.ref 105, .ref 106, .null]))
def hb14 : zH := znew hb13 3 (.inr (7, [.null, .null, .int 0]))
def hb15 : zH := znew hb14 12 (.inl (0, (12, .inl (fun _ => 0))))
def hb16 : zH := zwr hb15 107 (.inr (7, [.ref 108, .null, .int 0]))
def hb17 : zH := znew hb16 12 (.inl (0, (12, .inl (fun _ => 0))))
def hb18 : zH := zwr hb17 107 (.inr (7, [.ref 108, .ref 109, .int 0]))
def hb19 : zH := zwr hb18 107 (.inr (7, [.ref 108, .ref 109, .int 0]))
theorem c19_Meas_init (X : zX) (d : Nat) : zR X (d + 1) 89 0 (zent 1 [.ref 107]) [] hb14 (none, hb19) := by
  refine zr_aload_n i_Meas_init_0 rfl ?_
  refine zr_obj i_Meas_init_1 rfl (Nat.le_of_ble_eq_true rfl) ?_
  refine zr_aload_n i_Meas_init_4 rfl ?_
  refine zr_bipush i_Meas_init_5 (v := 12) (by decide) ?_
  refine zr_newa_int (N := 12) i_Meas_init_7 (by decide) (by decide) ?_
  show zR X _ 89 9 _ _ hb15 _
  refine zr_putf i_Meas_init_9 (fs := [.null, .null, .int 0]) rfl rfl (Nat.le_of_ble_eq_true rfl) rfl (by decide) ?_
  show zR X _ 89 12 _ _ hb16 _
  refine zr_aload_n i_Meas_init_12 rfl ?_
  refine zr_bipush i_Meas_init_13 (v := 12) (by decide) ?_
  refine zr_newa_int (N := 12) i_Meas_init_15 (by decide) (by decide) ?_
  show zR X _ 89 17 _ _ hb17 _
  refine zr_putf i_Meas_init_17 (fs := [.ref 108, .null, .int 0]) rfl rfl (Nat.le_of_ble_eq_true rfl) rfl (by decide) ?_
  show zR X _ 89 20 _ _ hb18 _
  refine zr_aload_n i_Meas_init_20 rfl ?_
  refine zr_iconst i_Meas_init_21 (v := 0) (by decide) ?_
  refine zr_putf i_Meas_init_22 (fs := [.ref 108, .ref 109, .int 0]) rfl rfl (Nat.le_of_ble_eq_true rfl) rfl (by decide) ?_
  show zR X _ 89 25 _ _ hb19 _
  exact zR.retE i_Meas_init_25 rfl rfl
def hb20 : zH := zwr hb19 104 (.inr (3, [.ref 105, .ref 106, .ref 107]))
theorem c20_Hosp_init (X : zX) (d : Nat) : zR X (d + 2) 45 0 (zent 1 [.ref 104]) [] hb9 (none, hb20) := by
  refine zr_aload_n i_Hosp_init_0 rfl ?_
  refine zr_obj i_Hosp_init_1 rfl (Nat.le_of_ble_eq_true rfl) ?_
  refine zr_aload_n i_Hosp_init_4 rfl ?_
  refine zr_bipush i_Hosp_init_5 (v := 32) (by decide) ?_
  refine zr_newa_int (N := 32) i_Hosp_init_7 (by decide) (by decide) ?_
  show zR X _ 45 9 _ _ hb10 _
  refine zr_putf i_Hosp_init_9 (fs := [.null, .null, .null]) rfl rfl (Nat.le_of_ble_eq_true rfl) rfl (by decide) ?_
  show zR X _ 45 12 _ _ hb11 _
  refine zr_aload_n i_Hosp_init_12 rfl ?_
  refine zr_bipush i_Hosp_init_13 (v := 100) (by decide) ?_
  refine zr_anew (N := 100) i_Hosp_init_15 (by decide) rfl (by decide) ?_
  show zR X _ 45 18 _ _ hb12 _
  refine zr_putf i_Hosp_init_18 (fs := [.ref 105, .null, .null]) rfl rfl (Nat.le_of_ble_eq_true rfl) rfl (by decide) ?_
  show zR X _ 45 21 _ _ hb13 _
  refine zr_aload_n i_Hosp_init_21 rfl ?_
  refine zr_new i_Hosp_init_22 rfl rfl rfl ?_
  show zR X _ 45 25 _ _ hb14 _
  refine zr_dup i_Hosp_init_25 rfl ?_
  refine zr_ci00 i_Hosp_init_26 rfl (by decide) (Nat.le_of_ble_eq_true rfl) (Nat.le_of_ble_eq_true rfl) (c19_Meas_init X _) ?_
  refine zr_putf i_Hosp_init_29 (fs := [.ref 105, .ref 106, .null]) rfl rfl (Nat.le_of_ble_eq_true rfl) rfl (by decide) ?_
  show zR X _ 45 32 _ _ hb20 _
  exact zR.retE i_Hosp_init_32 rfl rfl
theorem i_Ledg_init_0 : zins 63 0 = some (.aload_n 0) := by decide +kernel
theorem i_Ledg_init_1 : zins 63 1 = some (.invokespecial 3) := by decide +kernel
theorem i_Ledg_init_4 : zins 63 4 = some (.aload_n 0) := by decide +kernel
theorem i_Ledg_init_5 : zins 63 5 = some (.bipush 16) := by decide +kernel
theorem i_Ledg_init_7 : zins 63 7 = some (.newarray .long) := by decide +kernel
theorem i_Ledg_init_9 : zins 63 9 = some (.putfield 9) := by decide +kernel
theorem i_Ledg_init_12 : zins 63 12 = some (.aload_n 0) := by decide +kernel
theorem i_Ledg_init_13 : zins 63 13 = some (.bipush 16) := by decide +kernel
theorem i_Ledg_init_15 : zins 63 15 = some (.newarray .int) := by decide +kernel
theorem i_Ledg_init_17 : zins 63 17 = some (.putfield 15) := by decide +kernel
theorem i_Ledg_init_20 : zins 63 20 = some (.aload_n 0) := by decide +kernel
theorem i_Ledg_init_21 : zins 63 21 = some (.iconst 0) := by decide +kernel
theorem i_Ledg_init_22 : zins 63 22 = some (.putfield 19) := by decide +kernel
theorem i_Ledg_init_25 : zins 63 25 = some (.return_) := by decide +kernel
def hb21 : zH := zwr hb20 100 (.inr (0, [.ref 101, .ref 104, .null, .null, .null, .null, .null, .null, .int 0, .int 0]))
def hb22 : zH := znew hb21 3 (.inr (4, [.null, .null, .int 0]))
def hb23 : zH := znew hb22 16 (.inl (2, (16, .inr (.inl (fun _ => 0)))))
def hb24 : zH := zwr hb23 110 (.inr (4, [.ref 111, .null, .int 0]))
def hb25 : zH := znew hb24 16 (.inl (0, (16, .inl (fun _ => 0))))
def hb26 : zH := zwr hb25 110 (.inr (4, [.ref 111, .ref 112, .int 0]))
def hb27 : zH := zwr hb26 110 (.inr (4, [.ref 111, .ref 112, .int 0]))
theorem c27_Ledg_init (X : zX) (d : Nat) : zR X (d + 1) 63 0 (zent 1 [.ref 110]) [] hb22 (none, hb27) := by
  refine zr_aload_n i_Ledg_init_0 rfl ?_
  refine zr_obj i_Ledg_init_1 rfl (Nat.le_of_ble_eq_true rfl) ?_
  refine zr_aload_n i_Ledg_init_4 rfl ?_
  refine zr_bipush i_Ledg_init_5 (v := 16) (by decide) ?_
  refine zr_newa_long (N := 16) i_Ledg_init_7 (by decide) (by decide) ?_
  show zR X _ 63 9 _ _ hb23 _
  refine zr_putf i_Ledg_init_9 (fs := [.null, .null, .int 0]) rfl rfl (Nat.le_of_ble_eq_true rfl) rfl (by decide) ?_
  show zR X _ 63 12 _ _ hb24 _
  refine zr_aload_n i_Ledg_init_12 rfl ?_
  refine zr_bipush i_Ledg_init_13 (v := 16) (by decide) ?_
  refine zr_newa_int (N := 16) i_Ledg_init_15 (by decide) (by decide) ?_
  show zR X _ 63 17 _ _ hb25 _
  refine zr_putf i_Ledg_init_17 (fs := [.ref 111, .null, .int 0]) rfl rfl (Nat.le_of_ble_eq_true rfl) rfl (by decide) ?_
  show zR X _ 63 20 _ _ hb26 _
  refine zr_aload_n i_Ledg_init_20 rfl ?_
  refine zr_iconst i_Ledg_init_21 (v := 0) (by decide) ?_
  refine zr_putf i_Ledg_init_22 (fs := [.ref 111, .ref 112, .int 0]) rfl rfl (Nat.le_of_ble_eq_true rfl) rfl (by decide) ?_
  show zR X _ 63 25 _ _ hb27 _
  exact zR.retE i_Ledg_init_25 rfl rfl
theorem i_Seps_init_0 : zins 66 0 = some (.aload_n 0) := by decide +kernel
theorem i_Seps_init_1 : zins 66 1 = some (.invokespecial 3) := by decide +kernel
theorem i_Seps_init_4 : zins 66 4 = some (.aload_n 0) := by decide +kernel
theorem i_Seps_init_5 : zins 66 5 = some (.iconst 5) := by decide +kernel
theorem i_Seps_init_6 : zins 66 6 = some (.newarray .int) := by decide +kernel
theorem i_Seps_init_8 : zins 66 8 = some (.putfield 9) := by decide +kernel
theorem i_Seps_init_11 : zins 66 11 = some (.return_) := by decide +kernel
def hb28 : zH := zwr hb27 100 (.inr (0, [.ref 101, .ref 104, .ref 110, .null, .null, .null, .null, .null, .int 0, .int 0]))
def hb29 : zH := znew hb28 1 (.inr (5, [.null]))
def hb30 : zH := znew hb29 5 (.inl (0, (5, .inl (fun _ => 0))))
def hb31 : zH := zwr hb30 113 (.inr (5, [.ref 114]))
theorem c31_Seps_init (X : zX) (d : Nat) : zR X (d + 1) 66 0 (zent 1 [.ref 113]) [] hb29 (none, hb31) := by
  refine zr_aload_n i_Seps_init_0 rfl ?_
  refine zr_obj i_Seps_init_1 rfl (Nat.le_of_ble_eq_true rfl) ?_
  refine zr_aload_n i_Seps_init_4 rfl ?_
  refine zr_iconst i_Seps_init_5 (v := 5) (by decide) ?_
  refine zr_newa_int (N := 5) i_Seps_init_6 (by decide) (by decide) ?_
  show zR X _ 66 8 _ _ hb30 _
  refine zr_putf i_Seps_init_8 (fs := [.null]) rfl rfl (Nat.le_of_ble_eq_true rfl) rfl (by decide) ?_
  show zR X _ 66 11 _ _ hb31 _
  exact zR.retE i_Seps_init_11 rfl rfl
def hb32 : zH := zwr hb31 100 (.inr (0, [.ref 101, .ref 104, .ref 110, .ref 113, .null, .null, .null, .null, .int 0, .int 0]))
def hb33 : zH := znew hb32 2 (.inr (1, [.null, .int 0]))
def hb34 : zH := zwr hb33 115 (.inr (1, [.null, .int 0]))
def hb35 : zH := znew hb34 40 (.inl (1, (40, .inl (fun _ => 0))))
def hb36 : zH := zwr hb35 115 (.inr (1, [.ref 116, .int 0]))
theorem c36_Chars_init (X : zX) (d : Nat) : zR X (d + 1) 31 0 (zent 2 [.ref 115, .int 40]) [] hb33 (none, hb36) := by
  refine zr_aload_n i_Chars_init_0 rfl ?_
  refine zr_obj i_Chars_init_1 rfl (Nat.le_of_ble_eq_true rfl) ?_
  refine zr_aload_n i_Chars_init_4 rfl ?_
  refine zr_iconst i_Chars_init_5 (v := 0) (by decide) ?_
  refine zr_putf i_Chars_init_6 (fs := [.null, .int 0]) rfl rfl (Nat.le_of_ble_eq_true rfl) rfl (by decide) ?_
  show zR X _ 31 9 _ _ hb34 _
  refine zr_aload_n i_Chars_init_9 rfl ?_
  refine zr_iload_n i_Chars_init_10 rfl ?_
  refine zr_newa_char (N := 40) i_Chars_init_11 (by decide) (by decide) ?_
  show zR X _ 31 13 _ _ hb35 _
  refine zr_putf i_Chars_init_13 (fs := [.null, .int 0]) rfl rfl (Nat.le_of_ble_eq_true rfl) rfl (by decide) ?_
  show zR X _ 31 16 _ _ hb36 _
  exact zR.retE i_Chars_init_16 rfl rfl
def hb37 : zH := zwr hb36 100 (.inr (0, [.ref 101, .ref 104, .ref 110, .ref 113, .ref 115, .null, .null, .null, .int 0, .int 0]))
def hb38 : zH := znew hb37 2 (.inr (1, [.null, .int 0]))
def hb39 : zH := zwr hb38 117 (.inr (1, [.null, .int 0]))
def hb40 : zH := znew hb39 600 (.inl (1, (600, .inl (fun _ => 0))))
def hb41 : zH := zwr hb40 117 (.inr (1, [.ref 118, .int 0]))
theorem c41_Chars_init (X : zX) (d : Nat) : zR X (d + 1) 31 0 (zent 2 [.ref 117, .int 600]) [] hb38 (none, hb41) := by
  refine zr_aload_n i_Chars_init_0 rfl ?_
  refine zr_obj i_Chars_init_1 rfl (Nat.le_of_ble_eq_true rfl) ?_
  refine zr_aload_n i_Chars_init_4 rfl ?_
  refine zr_iconst i_Chars_init_5 (v := 0) (by decide) ?_
  refine zr_putf i_Chars_init_6 (fs := [.null, .int 0]) rfl rfl (Nat.le_of_ble_eq_true rfl) rfl (by decide) ?_
  show zR X _ 31 9 _ _ hb39 _
  refine zr_aload_n i_Chars_init_9 rfl ?_
  refine zr_iload_n i_Chars_init_10 rfl ?_
  refine zr_newa_char (N := 600) i_Chars_init_11 (by decide) (by decide) ?_
  show zR X _ 31 13 _ _ hb40 _
  refine zr_putf i_Chars_init_13 (fs := [.null, .int 0]) rfl rfl (Nat.le_of_ble_eq_true rfl) rfl (by decide) ?_
  show zR X _ 31 16 _ _ hb41 _
  exact zR.retE i_Chars_init_16 rfl rfl
theorem i_Mess_init_0 : zins 73 0 = some (.aload_n 0) := by decide +kernel
theorem i_Mess_init_1 : zins 73 1 = some (.invokespecial 5) := by decide +kernel
theorem i_Mess_init_4 : zins 73 4 = some (.aload_n 0) := by decide +kernel
theorem i_Mess_init_5 : zins 73 5 = some (.new 11) := by decide +kernel
theorem i_Mess_init_8 : zins 73 8 = some (.dup) := by decide +kernel
theorem i_Mess_init_9 : zins 73 9 = some (.invokespecial 13) := by decide +kernel
theorem i_Mess_init_12 : zins 73 12 = some (.putfield 14) := by decide +kernel
theorem i_Mess_init_15 : zins 73 15 = some (.aload_n 0) := by decide +kernel
theorem i_Mess_init_16 : zins 73 16 = some (.sipush 200) := by decide +kernel
theorem i_Mess_init_19 : zins 73 19 = some (.newarray .int) := by decide +kernel
theorem i_Mess_init_21 : zins 73 21 = some (.putfield 18) := by decide +kernel
theorem i_Mess_init_24 : zins 73 24 = some (.aload_n 0) := by decide +kernel
theorem i_Mess_init_25 : zins 73 25 = some (.bipush 8) := by decide +kernel
theorem i_Mess_init_27 : zins 73 27 = some (.newarray .int) := by decide +kernel
theorem i_Mess_init_29 : zins 73 29 = some (.putfield 22) := by decide +kernel
theorem i_Mess_init_32 : zins 73 32 = some (.aload_n 0) := by decide +kernel
theorem i_Mess_init_33 : zins 73 33 = some (.iconst 0) := by decide +kernel
theorem i_Mess_init_34 : zins 73 34 = some (.putfield 25) := by decide +kernel
theorem i_Mess_init_37 : zins 73 37 = some (.aload_n 0) := by decide +kernel
theorem i_Mess_init_38 : zins 73 38 = some (.iconst 0) := by decide +kernel
theorem i_Mess_init_39 : zins 73 39 = some (.putfield 29) := by decide +kernel
theorem i_Mess_init_42 : zins 73 42 = some (.return_) := by decide +kernel
def hb42 : zH := zwr hb41 100 (.inr (0, [.ref 101, .ref 104, .ref 110, .ref 113, .ref 115, .ref 117, .null, .null, .int 0, .int 0]))
def hb43 : zH := znew hb42 5 (.inr (6, [.null, .null, .null, .int 0, .int 0]))
def hb44 : zH := znew hb43 1 (.inr (5, [.null]))
def hb45 : zH := znew hb44 5 (.inl (0, (5, .inl (fun _ => 0))))
def hb46 : zH := zwr hb45 120 (.inr (5, [.ref 121]))
theorem c46_Seps_init (X : zX) (d : Nat) : zR X (d + 1) 66 0 (zent 1 [.ref 120]) [] hb44 (none, hb46) := by
  refine zr_aload_n i_Seps_init_0 rfl ?_
  refine zr_obj i_Seps_init_1 rfl (Nat.le_of_ble_eq_true rfl) ?_
  refine zr_aload_n i_Seps_init_4 rfl ?_
  refine zr_iconst i_Seps_init_5 (v := 5) (by decide) ?_
  refine zr_newa_int (N := 5) i_Seps_init_6 (by decide) (by decide) ?_
  show zR X _ 66 8 _ _ hb45 _
  refine zr_putf i_Seps_init_8 (fs := [.null]) rfl rfl (Nat.le_of_ble_eq_true rfl) rfl (by decide) ?_
  show zR X _ 66 11 _ _ hb46 _
  exact zR.retE i_Seps_init_11 rfl rfl
def hb47 : zH := zwr hb46 119 (.inr (6, [.ref 120, .null, .null, .int 0, .int 0]))
def hb48 : zH := znew hb47 200 (.inl (0, (200, .inl (fun _ => 0))))
def hb49 : zH := zwr hb48 119 (.inr (6, [.ref 120, .ref 122, .null, .int 0, .int 0]))
def hb50 : zH := znew hb49 8 (.inl (0, (8, .inl (fun _ => 0))))
def hb51 : zH := zwr hb50 119 (.inr (6, [.ref 120, .ref 122, .ref 123, .int 0, .int 0]))
def hb52 : zH := zwr hb51 119 (.inr (6, [.ref 120, .ref 122, .ref 123, .int 0, .int 0]))
def hb53 : zH := zwr hb52 119 (.inr (6, [.ref 120, .ref 122, .ref 123, .int 0, .int 0]))
theorem c53_Mess_init (X : zX) (d : Nat) : zR X (d + 2) 73 0 (zent 1 [.ref 119]) [] hb43 (none, hb53) := by
  refine zr_aload_n i_Mess_init_0 rfl ?_
  refine zr_obj i_Mess_init_1 rfl (Nat.le_of_ble_eq_true rfl) ?_
  refine zr_aload_n i_Mess_init_4 rfl ?_
  refine zr_new i_Mess_init_5 rfl rfl rfl ?_
  show zR X _ 73 8 _ _ hb44 _
  refine zr_dup i_Mess_init_8 rfl ?_
  refine zr_ci00 i_Mess_init_9 rfl (by decide) (Nat.le_of_ble_eq_true rfl) (Nat.le_of_ble_eq_true rfl) (c46_Seps_init X _) ?_
  refine zr_putf i_Mess_init_12 (fs := [.null, .null, .null, .int 0, .int 0]) rfl rfl (Nat.le_of_ble_eq_true rfl) rfl (by decide) ?_
  show zR X _ 73 15 _ _ hb47 _
  refine zr_aload_n i_Mess_init_15 rfl ?_
  refine zr_sipush i_Mess_init_16 (v := 200) (by decide) ?_
  refine zr_newa_int (N := 200) i_Mess_init_19 (by decide) (by decide) ?_
  show zR X _ 73 21 _ _ hb48 _
  refine zr_putf i_Mess_init_21 (fs := [.ref 120, .null, .null, .int 0, .int 0]) rfl rfl (Nat.le_of_ble_eq_true rfl) rfl (by decide) ?_
  show zR X _ 73 24 _ _ hb49 _
  refine zr_aload_n i_Mess_init_24 rfl ?_
  refine zr_bipush i_Mess_init_25 (v := 8) (by decide) ?_
  refine zr_newa_int (N := 8) i_Mess_init_27 (by decide) (by decide) ?_
  show zR X _ 73 29 _ _ hb50 _
  refine zr_putf i_Mess_init_29 (fs := [.ref 120, .ref 122, .null, .int 0, .int 0]) rfl rfl (Nat.le_of_ble_eq_true rfl) rfl (by decide) ?_
  show zR X _ 73 32 _ _ hb51 _
  refine zr_aload_n i_Mess_init_32 rfl ?_
  refine zr_iconst i_Mess_init_33 (v := 0) (by decide) ?_
  refine zr_putf i_Mess_init_34 (fs := [.ref 120, .ref 122, .ref 123, .int 0, .int 0]) rfl rfl (Nat.le_of_ble_eq_true rfl) rfl (by decide) ?_
  show zR X _ 73 37 _ _ hb52 _
  refine zr_aload_n i_Mess_init_37 rfl ?_
  refine zr_iconst i_Mess_init_38 (v := 0) (by decide) ?_
  refine zr_putf i_Mess_init_39 (fs := [.ref 120, .ref 122, .ref 123, .int 0, .int 0]) rfl rfl (Nat.le_of_ble_eq_true rfl) rfl (by decide) ?_
  show zR X _ 73 42 _ _ hb53 _
  exact zR.retE i_Mess_init_42 rfl rfl
def hb54 : zH := zwr hb53 100 (.inr (0, [.ref 101, .ref 104, .ref 110, .ref 113, .ref 115, .ref 117, .ref 119, .null, .int 0, .int 0]))
def hb55 : zH := znew hb54 5 (.inr (6, [.null, .null, .null, .int 0, .int 0]))
def hb56 : zH := znew hb55 1 (.inr (5, [.null]))
def hb57 : zH := znew hb56 5 (.inl (0, (5, .inl (fun _ => 0))))
def hb58 : zH := zwr hb57 125 (.inr (5, [.ref 126]))
theorem c58_Seps_init (X : zX) (d : Nat) : zR X (d + 1) 66 0 (zent 1 [.ref 125]) [] hb56 (none, hb58) := by
  refine zr_aload_n i_Seps_init_0 rfl ?_
  refine zr_obj i_Seps_init_1 rfl (Nat.le_of_ble_eq_true rfl) ?_
  refine zr_aload_n i_Seps_init_4 rfl ?_
  refine zr_iconst i_Seps_init_5 (v := 5) (by decide) ?_
  refine zr_newa_int (N := 5) i_Seps_init_6 (by decide) (by decide) ?_
  show zR X _ 66 8 _ _ hb57 _
  refine zr_putf i_Seps_init_8 (fs := [.null]) rfl rfl (Nat.le_of_ble_eq_true rfl) rfl (by decide) ?_
  show zR X _ 66 11 _ _ hb58 _
  exact zR.retE i_Seps_init_11 rfl rfl
def hb59 : zH := zwr hb58 124 (.inr (6, [.ref 125, .null, .null, .int 0, .int 0]))
def hb60 : zH := znew hb59 200 (.inl (0, (200, .inl (fun _ => 0))))
def hb61 : zH := zwr hb60 124 (.inr (6, [.ref 125, .ref 127, .null, .int 0, .int 0]))
def hb62 : zH := znew hb61 8 (.inl (0, (8, .inl (fun _ => 0))))
def hb63 : zH := zwr hb62 124 (.inr (6, [.ref 125, .ref 127, .ref 128, .int 0, .int 0]))
def hb64 : zH := zwr hb63 124 (.inr (6, [.ref 125, .ref 127, .ref 128, .int 0, .int 0]))
def hb65 : zH := zwr hb64 124 (.inr (6, [.ref 125, .ref 127, .ref 128, .int 0, .int 0]))
theorem c65_Mess_init (X : zX) (d : Nat) : zR X (d + 2) 73 0 (zent 1 [.ref 124]) [] hb55 (none, hb65) := by
  refine zr_aload_n i_Mess_init_0 rfl ?_
  refine zr_obj i_Mess_init_1 rfl (Nat.le_of_ble_eq_true rfl) ?_
  refine zr_aload_n i_Mess_init_4 rfl ?_
  refine zr_new i_Mess_init_5 rfl rfl rfl ?_
  show zR X _ 73 8 _ _ hb56 _
  refine zr_dup i_Mess_init_8 rfl ?_
  refine zr_ci00 i_Mess_init_9 rfl (by decide) (Nat.le_of_ble_eq_true rfl) (Nat.le_of_ble_eq_true rfl) (c58_Seps_init X _) ?_
  refine zr_putf i_Mess_init_12 (fs := [.null, .null, .null, .int 0, .int 0]) rfl rfl (Nat.le_of_ble_eq_true rfl) rfl (by decide) ?_
  show zR X _ 73 15 _ _ hb59 _
  refine zr_aload_n i_Mess_init_15 rfl ?_
  refine zr_sipush i_Mess_init_16 (v := 200) (by decide) ?_
  refine zr_newa_int (N := 200) i_Mess_init_19 (by decide) (by decide) ?_
  show zR X _ 73 21 _ _ hb60 _
  refine zr_putf i_Mess_init_21 (fs := [.ref 125, .null, .null, .int 0, .int 0]) rfl rfl (Nat.le_of_ble_eq_true rfl) rfl (by decide) ?_
  show zR X _ 73 24 _ _ hb61 _
  refine zr_aload_n i_Mess_init_24 rfl ?_
  refine zr_bipush i_Mess_init_25 (v := 8) (by decide) ?_
  refine zr_newa_int (N := 8) i_Mess_init_27 (by decide) (by decide) ?_
  show zR X _ 73 29 _ _ hb62 _
  refine zr_putf i_Mess_init_29 (fs := [.ref 125, .ref 127, .null, .int 0, .int 0]) rfl rfl (Nat.le_of_ble_eq_true rfl) rfl (by decide) ?_
  show zR X _ 73 32 _ _ hb63 _
  refine zr_aload_n i_Mess_init_32 rfl ?_
  refine zr_iconst i_Mess_init_33 (v := 0) (by decide) ?_
  refine zr_putf i_Mess_init_34 (fs := [.ref 125, .ref 127, .ref 128, .int 0, .int 0]) rfl rfl (Nat.le_of_ble_eq_true rfl) rfl (by decide) ?_
  show zR X _ 73 37 _ _ hb64 _
  refine zr_aload_n i_Mess_init_37 rfl ?_
  refine zr_iconst i_Mess_init_38 (v := 0) (by decide) ?_
  refine zr_putf i_Mess_init_39 (fs := [.ref 125, .ref 127, .ref 128, .int 0, .int 0]) rfl rfl (Nat.le_of_ble_eq_true rfl) rfl (by decide) ?_
  show zR X _ 73 42 _ _ hb65 _
  exact zR.retE i_Mess_init_42 rfl rfl
def hb66 : zH := zwr hb65 100 (.inr (0, [.ref 101, .ref 104, .ref 110, .ref 113, .ref 115, .ref 117, .ref 119, .ref 124, .int 0, .int 0]))
def hb67 : zH := zwr hb66 100 (.inr (0, [.ref 101, .ref 104, .ref 110, .ref 113, .ref 115, .ref 117, .ref 119, .ref 124, .int (-1), .int 0]))
def hb68 : zH := zwr hb67 100 (.inr (0, [.ref 101, .ref 104, .ref 110, .ref 113, .ref 115, .ref 117, .ref 119, .ref 124, .int (-1), .int 0]))
theorem c68_B_init (X : zX) (d : Nat) : zR X (d + 3) 0 0 (zent 1 [.ref 100]) [] hb1 (none, hb68) := by
  refine zr_aload_n i_B_init_0 rfl ?_
  refine zr_obj i_B_init_1 rfl (Nat.le_of_ble_eq_true rfl) ?_
  refine zr_aload_n i_B_init_4 rfl ?_
  refine zr_new i_B_init_5 rfl rfl rfl ?_
  show zR X _ 0 8 _ _ hb2 _
  refine zr_dup i_B_init_8 rfl ?_
  refine zr_ci00 i_B_init_9 rfl (by decide) (Nat.le_of_ble_eq_true rfl) (Nat.le_of_ble_eq_true rfl) (c7_Frame_init X _) ?_
  refine zr_putf i_B_init_12 (fs := [.null, .null, .null, .null, .null, .null, .null, .null, .int 0, .int 0]) rfl rfl (Nat.le_of_ble_eq_true rfl) rfl (by decide) ?_
  show zR X _ 0 15 _ _ hb8 _
  refine zr_aload_n i_B_init_15 rfl ?_
  refine zr_new i_B_init_16 rfl rfl rfl ?_
  show zR X _ 0 19 _ _ hb9 _
  refine zr_dup i_B_init_19 rfl ?_
  refine zr_ci00 i_B_init_20 rfl (by decide) (Nat.le_of_ble_eq_true rfl) (Nat.le_of_ble_eq_true rfl) (c20_Hosp_init X _) ?_
  refine zr_putf i_B_init_23 (fs := [.ref 101, .null, .null, .null, .null, .null, .null, .null, .int 0, .int 0]) rfl rfl (Nat.le_of_ble_eq_true rfl) rfl (by decide) ?_
  show zR X _ 0 26 _ _ hb21 _
  refine zr_aload_n i_B_init_26 rfl ?_
  refine zr_new i_B_init_27 rfl rfl rfl ?_
  show zR X _ 0 30 _ _ hb22 _
  refine zr_dup i_B_init_30 rfl ?_
  refine zr_ci00 i_B_init_31 rfl (by decide) (Nat.le_of_ble_eq_true rfl) (Nat.le_of_ble_eq_true rfl) (c27_Ledg_init X _) ?_
  refine zr_putf i_B_init_34 (fs := [.ref 101, .ref 104, .null, .null, .null, .null, .null, .null, .int 0, .int 0]) rfl rfl (Nat.le_of_ble_eq_true rfl) rfl (by decide) ?_
  show zR X _ 0 37 _ _ hb28 _
  refine zr_aload_n i_B_init_37 rfl ?_
  refine zr_new i_B_init_38 rfl rfl rfl ?_
  show zR X _ 0 41 _ _ hb29 _
  refine zr_dup i_B_init_41 rfl ?_
  refine zr_ci00 i_B_init_42 rfl (by decide) (Nat.le_of_ble_eq_true rfl) (Nat.le_of_ble_eq_true rfl) (c31_Seps_init X _) ?_
  refine zr_putf i_B_init_45 (fs := [.ref 101, .ref 104, .ref 110, .null, .null, .null, .null, .null, .int 0, .int 0]) rfl rfl (Nat.le_of_ble_eq_true rfl) rfl (by decide) ?_
  show zR X _ 0 48 _ _ hb32 _
  refine zr_aload_n i_B_init_48 rfl ?_
  refine zr_new i_B_init_49 rfl rfl rfl ?_
  show zR X _ 0 52 _ _ hb33 _
  refine zr_dup i_B_init_52 rfl ?_
  refine zr_bipush i_B_init_53 (v := 40) (by decide) ?_
  refine zr_ci10 i_B_init_55 rfl (by decide) (Nat.le_of_ble_eq_true rfl) (Nat.le_of_ble_eq_true rfl) (c36_Chars_init X _) ?_
  refine zr_putf i_B_init_58 (fs := [.ref 101, .ref 104, .ref 110, .ref 113, .null, .null, .null, .null, .int 0, .int 0]) rfl rfl (Nat.le_of_ble_eq_true rfl) rfl (by decide) ?_
  show zR X _ 0 61 _ _ hb37 _
  refine zr_aload_n i_B_init_61 rfl ?_
  refine zr_new i_B_init_62 rfl rfl rfl ?_
  show zR X _ 0 65 _ _ hb38 _
  refine zr_dup i_B_init_65 rfl ?_
  refine zr_sipush i_B_init_66 (v := 600) (by decide) ?_
  refine zr_ci10 i_B_init_69 rfl (by decide) (Nat.le_of_ble_eq_true rfl) (Nat.le_of_ble_eq_true rfl) (c41_Chars_init X _) ?_
  refine zr_putf i_B_init_72 (fs := [.ref 101, .ref 104, .ref 110, .ref 113, .ref 115, .null, .null, .null, .int 0, .int 0]) rfl rfl (Nat.le_of_ble_eq_true rfl) rfl (by decide) ?_
  show zR X _ 0 75 _ _ hb42 _
  refine zr_aload_n i_B_init_75 rfl ?_
  refine zr_new i_B_init_76 rfl rfl rfl ?_
  show zR X _ 0 79 _ _ hb43 _
  refine zr_dup i_B_init_79 rfl ?_
  refine zr_ci00 i_B_init_80 rfl (by decide) (Nat.le_of_ble_eq_true rfl) (Nat.le_of_ble_eq_true rfl) (c53_Mess_init X _) ?_
  refine zr_putf i_B_init_83 (fs := [.ref 101, .ref 104, .ref 110, .ref 113, .ref 115, .ref 117, .null, .null, .int 0, .int 0]) rfl rfl (Nat.le_of_ble_eq_true rfl) rfl (by decide) ?_
  show zR X _ 0 86 _ _ hb54 _
  refine zr_aload_n i_B_init_86 rfl ?_
  refine zr_new i_B_init_87 rfl rfl rfl ?_
  show zR X _ 0 90 _ _ hb55 _
  refine zr_dup i_B_init_90 rfl ?_
  refine zr_ci00 i_B_init_91 rfl (by decide) (Nat.le_of_ble_eq_true rfl) (Nat.le_of_ble_eq_true rfl) (c65_Mess_init X _) ?_
  refine zr_putf i_B_init_94 (fs := [.ref 101, .ref 104, .ref 110, .ref 113, .ref 115, .ref 117, .ref 119, .null, .int 0, .int 0]) rfl rfl (Nat.le_of_ble_eq_true rfl) rfl (by decide) ?_
  show zR X _ 0 97 _ _ hb66 _
  refine zr_aload_n i_B_init_97 rfl ?_
  refine zr_iconst i_B_init_98 (v := (-1)) (by decide) ?_
  refine zr_putf i_B_init_99 (fs := [.ref 101, .ref 104, .ref 110, .ref 113, .ref 115, .ref 117, .ref 119, .ref 124, .int 0, .int 0]) rfl rfl (Nat.le_of_ble_eq_true rfl) rfl (by decide) ?_
  show zR X _ 0 102 _ _ hb67 _
  refine zr_aload_n i_B_init_102 rfl ?_
  refine zr_iconst i_B_init_103 (v := 0) (by decide) ?_
  refine zr_putf i_B_init_104 (fs := [.ref 101, .ref 104, .ref 110, .ref 113, .ref 115, .ref 117, .ref 119, .ref 124, .int (-1), .int 0]) rfl rfl (Nat.le_of_ble_eq_true rfl) rfl (by decide) ?_
  show zR X _ 0 107 _ _ hb68 _
  exact zR.retE i_B_init_107 rfl rfl
def hBM : zH := hb68
theorem e_B_init (X : zX) (d : Nat) : zR X (d + 3) 0 0 (zent 1 [.ref 100]) [] hb1 (none, hBM) := c68_B_init X d
