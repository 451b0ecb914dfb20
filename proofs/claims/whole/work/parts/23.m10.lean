/-! THE REFERENCE: the receipt, keeping -/
def recF (s : Nat → Int32) (id : List Int32) (r : Nat) : List Int32 := [72, 68, 82, s 0, s 1, s 2, s 3, s 4, s 0, 69, 78, 71, s 0] ++ id ++ [s 0, 65, 67, 75, 13, 77, 83, 65, s 0, 65, if r = 0 then 65 else if 10 < r then 69 else 82, s 0] ++ id ++ [s 0] ++ (if 9 < r then [49] else []) ++ [nI (48 + r % 10)]
theorem i_Mod_write0_0 : zins 138 0 = some (.aload_n 0) := by decide +kernel
theorem i_Mod_write0_1 : zins 138 1 = some (.bipush 72) := by decide +kernel
theorem i_Mod_write0_3 : zins 138 3 = some (.bipush 68) := by decide +kernel
theorem i_Mod_write0_5 : zins 138 5 = some (.bipush 82) := by decide +kernel
theorem i_Mod_write0_7 : zins 138 7 = some (.invokevirtual 230) := by decide +kernel
theorem i_Mod_write0_10 : zins 138 10 = some (.iconst 0) := by decide +kernel
theorem i_Mod_write0_11 : zins 138 11 = some (.istore_n 2) := by decide +kernel
theorem i_Mod_write0_12 : zins 138 12 = some (.iload_n 2) := by decide +kernel
theorem i_Mod_write0_13 : zins 138 13 = some (.iconst 5) := by decide +kernel
theorem i_Mod_write0_14 : zins 138 14 = some (.if_icmp .ge 19) := by decide +kernel
theorem i_Mod_write0_17 : zins 138 17 = some (.aload_n 0) := by decide +kernel
theorem i_Mod_write0_18 : zins 138 18 = some (.aload_n 0) := by decide +kernel
theorem i_Mod_write0_19 : zins 138 19 = some (.getfield 50) := by decide +kernel
theorem i_Mod_write0_22 : zins 138 22 = some (.iload_n 2) := by decide +kernel
theorem i_Mod_write0_23 : zins 138 23 = some (.caload) := by decide +kernel
theorem i_Mod_write0_24 : zins 138 24 = some (.invokevirtual 227) := by decide +kernel
theorem i_Mod_write0_27 : zins 138 27 = some (.iinc 2 1) := by decide +kernel
theorem i_Mod_write0_30 : zins 138 30 = some (.goto (-18)) := by decide +kernel
theorem i_Mod_write0_33 : zins 138 33 = some (.aload_n 0) := by decide +kernel
theorem i_Mod_write0_34 : zins 138 34 = some (.aload_n 0) := by decide +kernel
theorem i_Mod_write0_35 : zins 138 35 = some (.getfield 50) := by decide +kernel
theorem i_Mod_write0_38 : zins 138 38 = some (.iconst 0) := by decide +kernel
theorem i_Mod_write0_39 : zins 138 39 = some (.caload) := by decide +kernel
theorem i_Mod_write0_40 : zins 138 40 = some (.invokevirtual 227) := by decide +kernel
theorem i_Mod_write0_43 : zins 138 43 = some (.aload_n 0) := by decide +kernel
theorem i_Mod_write0_44 : zins 138 44 = some (.bipush 69) := by decide +kernel
theorem i_Mod_write0_46 : zins 138 46 = some (.bipush 78) := by decide +kernel
theorem i_Mod_write0_48 : zins 138 48 = some (.bipush 71) := by decide +kernel
theorem i_Mod_write0_50 : zins 138 50 = some (.invokevirtual 230) := by decide +kernel
theorem i_Mod_write0_53 : zins 138 53 = some (.aload_n 0) := by decide +kernel
theorem i_Mod_write0_54 : zins 138 54 = some (.invokevirtual 234) := by decide +kernel
theorem i_Mod_write0_57 : zins 138 57 = some (.aload_n 0) := by decide +kernel
theorem i_Mod_write0_58 : zins 138 58 = some (.bipush 65) := by decide +kernel
theorem i_Mod_write0_60 : zins 138 60 = some (.bipush 67) := by decide +kernel
theorem i_Mod_write0_62 : zins 138 62 = some (.bipush 75) := by decide +kernel
theorem i_Mod_write0_64 : zins 138 64 = some (.invokevirtual 230) := by decide +kernel
theorem i_Mod_write0_67 : zins 138 67 = some (.aload_n 0) := by decide +kernel
theorem i_Mod_write0_68 : zins 138 68 = some (.bipush 13) := by decide +kernel
theorem i_Mod_write0_70 : zins 138 70 = some (.invokevirtual 227) := by decide +kernel
theorem i_Mod_write0_73 : zins 138 73 = some (.aload_n 0) := by decide +kernel
theorem i_Mod_write0_74 : zins 138 74 = some (.bipush 77) := by decide +kernel
theorem i_Mod_write0_76 : zins 138 76 = some (.bipush 83) := by decide +kernel
theorem i_Mod_write0_78 : zins 138 78 = some (.bipush 65) := by decide +kernel
theorem i_Mod_write0_80 : zins 138 80 = some (.invokevirtual 230) := by decide +kernel
theorem i_Mod_write0_83 : zins 138 83 = some (.aload_n 0) := by decide +kernel
theorem i_Mod_write0_84 : zins 138 84 = some (.aload_n 0) := by decide +kernel
theorem i_Mod_write0_85 : zins 138 85 = some (.getfield 50) := by decide +kernel
theorem i_Mod_write0_88 : zins 138 88 = some (.iconst 0) := by decide +kernel
theorem i_Mod_write0_89 : zins 138 89 = some (.caload) := by decide +kernel
theorem i_Mod_write0_90 : zins 138 90 = some (.invokevirtual 227) := by decide +kernel
theorem i_Mod_write0_93 : zins 138 93 = some (.aload_n 0) := by decide +kernel
theorem i_Mod_write0_94 : zins 138 94 = some (.bipush 65) := by decide +kernel
theorem i_Mod_write0_96 : zins 138 96 = some (.invokevirtual 227) := by decide +kernel
theorem i_Mod_write0_99 : zins 138 99 = some (.aload_n 0) := by decide +kernel
theorem i_Mod_write0_100 : zins 138 100 = some (.iload_n 1) := by decide +kernel
theorem i_Mod_write0_101 : zins 138 101 = some (.ifCond .ne 8) := by decide +kernel
theorem i_Mod_write0_104 : zins 138 104 = some (.bipush 65) := by decide +kernel
theorem i_Mod_write0_106 : zins 138 106 = some (.goto 16) := by decide +kernel
theorem i_Mod_write0_109 : zins 138 109 = some (.iload_n 1) := by decide +kernel
theorem i_Mod_write0_110 : zins 138 110 = some (.bipush 10) := by decide +kernel
theorem i_Mod_write0_112 : zins 138 112 = some (.if_icmp .le 8) := by decide +kernel
theorem i_Mod_write0_115 : zins 138 115 = some (.bipush 69) := by decide +kernel
theorem i_Mod_write0_117 : zins 138 117 = some (.goto 5) := by decide +kernel
theorem i_Mod_write0_120 : zins 138 120 = some (.bipush 82) := by decide +kernel
theorem i_Mod_write0_122 : zins 138 122 = some (.invokevirtual 227) := by decide +kernel
theorem i_Mod_write0_125 : zins 138 125 = some (.aload_n 0) := by decide +kernel
theorem i_Mod_write0_126 : zins 138 126 = some (.invokevirtual 234) := by decide +kernel
theorem i_Mod_write0_129 : zins 138 129 = some (.iload_n 1) := by decide +kernel
theorem i_Mod_write0_130 : zins 138 130 = some (.bipush 9) := by decide +kernel
theorem i_Mod_write0_132 : zins 138 132 = some (.if_icmp .le 9) := by decide +kernel
theorem i_Mod_write0_135 : zins 138 135 = some (.aload_n 0) := by decide +kernel
theorem i_Mod_write0_136 : zins 138 136 = some (.bipush 49) := by decide +kernel
theorem i_Mod_write0_138 : zins 138 138 = some (.invokevirtual 227) := by decide +kernel
theorem i_Mod_write0_141 : zins 138 141 = some (.aload_n 0) := by decide +kernel
theorem i_Mod_write0_142 : zins 138 142 = some (.bipush 48) := by decide +kernel
theorem i_Mod_write0_144 : zins 138 144 = some (.iload_n 1) := by decide +kernel
theorem i_Mod_write0_145 : zins 138 145 = some (.bipush 10) := by decide +kernel
theorem i_Mod_write0_147 : zins 138 147 = some (.irem) := by decide +kernel
theorem i_Mod_write0_148 : zins 138 148 = some (.iadd) := by decide +kernel
theorem i_Mod_write0_149 : zins 138 149 = some (.i2c) := by decide +kernel
theorem i_Mod_write0_150 : zins 138 150 = some (.invokevirtual 227) := by decide +kernel
theorem i_Mod_write0_153 : zins 138 153 = some (.return_) := by decide +kernel
theorem e_Mod_write0 (X : zX) (d : Nat) (g : zH) (ms : zMS) (cnt : Nat) (hT : mTV ms 0 cnt) (r : Nat) (hr : r < 20) (hid : ((mV ms 1 2 1 1).getD []).length ≤ 6) (hS : ∀ k, k < 5 → zch (ms.2 14 k)) (hC : ∀ i, i < tl (mV ms 1 2 1 1) → zch (tc (mV ms 1 2 1 1) i)) : zR X (d + 3) 138 0 (zent 3 [.ref 129, .int (nI r)]) [] (mset g (mrc ms [])) (none, mset g (mrc ms (recF (ms.2 14) ((mV ms 1 2 1 1).getD []) r))) := by
  refine zr_aload_n i_Mod_write0_0 rfl ?_
  refine zr_bipush i_Mod_write0_1 (v := 72) (by decide) ?_
  refine zr_bipush i_Mod_write0_3 (v := 68) (by decide) ?_
  refine zr_bipush i_Mod_write0_5 (v := 82) (by decide) ?_
  refine zr_cv30 i_Mod_write0_7 rfl (by decide) rfl (Nat.le_of_ble_eq_true rfl) (Nat.le_of_ble_eq_true rfl) (e_Mod_sayThree X _ g ms [] (by simp <;> omega) 72 68 82 (by unfold zch; decide) (by unfold zch; decide) (by unfold zch; decide)) ?_
  refine zn_iconst 0 i_Mod_write0_10 (by decide) ?_
  refine zr_istore_n i_Mod_write0_11 rfl ?_
  refine zr_iload_n i_Mod_write0_12 rfl ?_
  refine zn_iconst 5 i_Mod_write0_13 (by decide) ?_
  refine zr_icmp_ge 33 i_Mod_write0_14 (by decide) (fun q => absurd q (by decide)) (fun _ => ?_)
  refine zr_aload_n i_Mod_write0_17 rfl ?_
  refine zr_aload_n i_Mod_write0_18 rfl ?_
  refine zr_getf i_Mod_write0_19 rfl rfl rfl ?_
  refine zr_iload_n i_Mod_write0_22 rfl ?_
  refine zn_caload i_Mod_write0_23 rfl (by omega) (by decide) ?_
  refine zr_cv10 i_Mod_write0_24 rfl (by decide) rfl (Nat.le_of_ble_eq_true rfl) (Nat.le_of_ble_eq_true rfl) (e_Mod_say X _ g ms ([] ++ [72, 68, 82]) (by simp <;> omega) (ms.2 14 0) (hS _ (by decide))) ?_
  refine zn_iinc i_Mod_write0_27 rfl rfl ?_
  refine zr_goto 12 i_Mod_write0_30 (by decide) ?_
  refine zr_iload_n i_Mod_write0_12 rfl ?_
  refine zn_iconst 5 i_Mod_write0_13 (by decide) ?_
  refine zr_icmp_ge 33 i_Mod_write0_14 (by decide) (fun q => absurd q (by decide)) (fun _ => ?_)
  refine zr_aload_n i_Mod_write0_17 rfl ?_
  refine zr_aload_n i_Mod_write0_18 rfl ?_
  refine zr_getf i_Mod_write0_19 rfl rfl rfl ?_
  refine zr_iload_n i_Mod_write0_22 rfl ?_
  refine zn_caload i_Mod_write0_23 rfl (by omega) (by decide) ?_
  refine zr_cv10 i_Mod_write0_24 rfl (by decide) rfl (Nat.le_of_ble_eq_true rfl) (Nat.le_of_ble_eq_true rfl) (e_Mod_say X _ g ms (([] ++ [72, 68, 82]) ++ [(ms.2 14 0)]) (by simp <;> omega) (ms.2 14 1) (hS _ (by decide))) ?_
  refine zn_iinc i_Mod_write0_27 rfl rfl ?_
  refine zr_goto 12 i_Mod_write0_30 (by decide) ?_
  refine zr_iload_n i_Mod_write0_12 rfl ?_
  refine zn_iconst 5 i_Mod_write0_13 (by decide) ?_
  refine zr_icmp_ge 33 i_Mod_write0_14 (by decide) (fun q => absurd q (by decide)) (fun _ => ?_)
  refine zr_aload_n i_Mod_write0_17 rfl ?_
  refine zr_aload_n i_Mod_write0_18 rfl ?_
  refine zr_getf i_Mod_write0_19 rfl rfl rfl ?_
  refine zr_iload_n i_Mod_write0_22 rfl ?_
  refine zn_caload i_Mod_write0_23 rfl (by omega) (by decide) ?_
  refine zr_cv10 i_Mod_write0_24 rfl (by decide) rfl (Nat.le_of_ble_eq_true rfl) (Nat.le_of_ble_eq_true rfl) (e_Mod_say X _ g ms ((([] ++ [72, 68, 82]) ++ [(ms.2 14 0)]) ++ [(ms.2 14 1)]) (by simp <;> omega) (ms.2 14 2) (hS _ (by decide))) ?_
  refine zn_iinc i_Mod_write0_27 rfl rfl ?_
  refine zr_goto 12 i_Mod_write0_30 (by decide) ?_
  refine zr_iload_n i_Mod_write0_12 rfl ?_
  refine zn_iconst 5 i_Mod_write0_13 (by decide) ?_
  refine zr_icmp_ge 33 i_Mod_write0_14 (by decide) (fun q => absurd q (by decide)) (fun _ => ?_)
  refine zr_aload_n i_Mod_write0_17 rfl ?_
  refine zr_aload_n i_Mod_write0_18 rfl ?_
  refine zr_getf i_Mod_write0_19 rfl rfl rfl ?_
  refine zr_iload_n i_Mod_write0_22 rfl ?_
  refine zn_caload i_Mod_write0_23 rfl (by omega) (by decide) ?_
  refine zr_cv10 i_Mod_write0_24 rfl (by decide) rfl (Nat.le_of_ble_eq_true rfl) (Nat.le_of_ble_eq_true rfl) (e_Mod_say X _ g ms (((([] ++ [72, 68, 82]) ++ [(ms.2 14 0)]) ++ [(ms.2 14 1)]) ++ [(ms.2 14 2)]) (by simp <;> omega) (ms.2 14 3) (hS _ (by decide))) ?_
  refine zn_iinc i_Mod_write0_27 rfl rfl ?_
  refine zr_goto 12 i_Mod_write0_30 (by decide) ?_
  refine zr_iload_n i_Mod_write0_12 rfl ?_
  refine zn_iconst 5 i_Mod_write0_13 (by decide) ?_
  refine zr_icmp_ge 33 i_Mod_write0_14 (by decide) (fun q => absurd q (by decide)) (fun _ => ?_)
  refine zr_aload_n i_Mod_write0_17 rfl ?_
  refine zr_aload_n i_Mod_write0_18 rfl ?_
  refine zr_getf i_Mod_write0_19 rfl rfl rfl ?_
  refine zr_iload_n i_Mod_write0_22 rfl ?_
  refine zn_caload i_Mod_write0_23 rfl (by omega) (by decide) ?_
  refine zr_cv10 i_Mod_write0_24 rfl (by decide) rfl (Nat.le_of_ble_eq_true rfl) (Nat.le_of_ble_eq_true rfl) (e_Mod_say X _ g ms ((((([] ++ [72, 68, 82]) ++ [(ms.2 14 0)]) ++ [(ms.2 14 1)]) ++ [(ms.2 14 2)]) ++ [(ms.2 14 3)]) (by simp <;> omega) (ms.2 14 4) (hS _ (by decide))) ?_
  refine zn_iinc i_Mod_write0_27 rfl rfl ?_
  refine zr_goto 12 i_Mod_write0_30 (by decide) ?_
  refine zr_iload_n i_Mod_write0_12 rfl ?_
  refine zn_iconst 5 i_Mod_write0_13 (by decide) ?_
  refine zr_icmp_ge 33 i_Mod_write0_14 (by decide) (fun _ => ?_) (fun q => absurd q (by decide))
  refine zr_aload_n i_Mod_write0_33 rfl ?_
  refine zr_aload_n i_Mod_write0_34 rfl ?_
  refine zr_getf i_Mod_write0_35 rfl rfl rfl ?_
  refine zn_iconst 0 i_Mod_write0_38 (by decide) ?_
  refine zn_caload i_Mod_write0_39 rfl (by omega) (by decide) ?_
  refine zr_cv10 i_Mod_write0_40 rfl (by decide) rfl (Nat.le_of_ble_eq_true rfl) (Nat.le_of_ble_eq_true rfl) (e_Mod_say X _ g ms (((((([] ++ [72, 68, 82]) ++ [(ms.2 14 0)]) ++ [(ms.2 14 1)]) ++ [(ms.2 14 2)]) ++ [(ms.2 14 3)]) ++ [(ms.2 14 4)]) (by simp <;> omega) (ms.2 14 0) (hS _ (by decide))) ?_
  refine zr_aload_n i_Mod_write0_43 rfl ?_
  refine zr_bipush i_Mod_write0_44 (v := 69) (by decide) ?_
  refine zr_bipush i_Mod_write0_46 (v := 78) (by decide) ?_
  refine zr_bipush i_Mod_write0_48 (v := 71) (by decide) ?_
  refine zr_cv30 i_Mod_write0_50 rfl (by decide) rfl (Nat.le_of_ble_eq_true rfl) (Nat.le_of_ble_eq_true rfl) (e_Mod_sayThree X _ g ms ((((((([] ++ [72, 68, 82]) ++ [(ms.2 14 0)]) ++ [(ms.2 14 1)]) ++ [(ms.2 14 2)]) ++ [(ms.2 14 3)]) ++ [(ms.2 14 4)]) ++ [(ms.2 14 0)]) (by simp <;> omega) 69 78 71 (by unfold zch; decide) (by unfold zch; decide) (by unfold zch; decide)) ?_
  refine zr_aload_n i_Mod_write0_53 rfl ?_
  refine zr_cv00 i_Mod_write0_54 rfl (by decide) rfl (Nat.le_of_ble_eq_true rfl) (Nat.le_of_ble_eq_true rfl) (e_Mod_sayIdentity X _ g ms cnt hT (((((((([] ++ [72, 68, 82]) ++ [(ms.2 14 0)]) ++ [(ms.2 14 1)]) ++ [(ms.2 14 2)]) ++ [(ms.2 14 3)]) ++ [(ms.2 14 4)]) ++ [(ms.2 14 0)]) ++ [69, 78, 71]) (by simp [tl] <;> omega) hS hC) ?_
  refine zr_aload_n i_Mod_write0_57 rfl ?_
  refine zr_bipush i_Mod_write0_58 (v := 65) (by decide) ?_
  refine zr_bipush i_Mod_write0_60 (v := 67) (by decide) ?_
  refine zr_bipush i_Mod_write0_62 (v := 75) (by decide) ?_
  refine zr_cv30 i_Mod_write0_64 rfl (by decide) rfl (Nat.le_of_ble_eq_true rfl) (Nat.le_of_ble_eq_true rfl) (e_Mod_sayThree X _ g ms ((((((((([] ++ [72, 68, 82]) ++ [(ms.2 14 0)]) ++ [(ms.2 14 1)]) ++ [(ms.2 14 2)]) ++ [(ms.2 14 3)]) ++ [(ms.2 14 4)]) ++ [(ms.2 14 0)]) ++ [69, 78, 71]) ++ [ms.2 14 0] ++ ((mV ms 1 2 1 1).getD []) ++ [ms.2 14 0]) (by simp <;> omega) 65 67 75 (by unfold zch; decide) (by unfold zch; decide) (by unfold zch; decide)) ?_
  refine zr_aload_n i_Mod_write0_67 rfl ?_
  refine zr_bipush i_Mod_write0_68 (v := 13) (by decide) ?_
  refine zr_cv10 i_Mod_write0_70 rfl (by decide) rfl (Nat.le_of_ble_eq_true rfl) (Nat.le_of_ble_eq_true rfl) (e_Mod_say X _ g ms (((((((((([] ++ [72, 68, 82]) ++ [(ms.2 14 0)]) ++ [(ms.2 14 1)]) ++ [(ms.2 14 2)]) ++ [(ms.2 14 3)]) ++ [(ms.2 14 4)]) ++ [(ms.2 14 0)]) ++ [69, 78, 71]) ++ [ms.2 14 0] ++ ((mV ms 1 2 1 1).getD []) ++ [ms.2 14 0]) ++ [65, 67, 75]) (by simp <;> omega) (13) (by unfold zch; decide)) ?_
  refine zr_aload_n i_Mod_write0_73 rfl ?_
  refine zr_bipush i_Mod_write0_74 (v := 77) (by decide) ?_
  refine zr_bipush i_Mod_write0_76 (v := 83) (by decide) ?_
  refine zr_bipush i_Mod_write0_78 (v := 65) (by decide) ?_
  refine zr_cv30 i_Mod_write0_80 rfl (by decide) rfl (Nat.le_of_ble_eq_true rfl) (Nat.le_of_ble_eq_true rfl) (e_Mod_sayThree X _ g ms ((((((((((([] ++ [72, 68, 82]) ++ [(ms.2 14 0)]) ++ [(ms.2 14 1)]) ++ [(ms.2 14 2)]) ++ [(ms.2 14 3)]) ++ [(ms.2 14 4)]) ++ [(ms.2 14 0)]) ++ [69, 78, 71]) ++ [ms.2 14 0] ++ ((mV ms 1 2 1 1).getD []) ++ [ms.2 14 0]) ++ [65, 67, 75]) ++ [(13)]) (by simp <;> omega) 77 83 65 (by unfold zch; decide) (by unfold zch; decide) (by unfold zch; decide)) ?_
  refine zr_aload_n i_Mod_write0_83 rfl ?_
  refine zr_aload_n i_Mod_write0_84 rfl ?_
  refine zr_getf i_Mod_write0_85 rfl rfl rfl ?_
  refine zn_iconst 0 i_Mod_write0_88 (by decide) ?_
  refine zn_caload i_Mod_write0_89 rfl (by omega) (by decide) ?_
  refine zr_cv10 i_Mod_write0_90 rfl (by decide) rfl (Nat.le_of_ble_eq_true rfl) (Nat.le_of_ble_eq_true rfl) (e_Mod_say X _ g ms (((((((((((([] ++ [72, 68, 82]) ++ [(ms.2 14 0)]) ++ [(ms.2 14 1)]) ++ [(ms.2 14 2)]) ++ [(ms.2 14 3)]) ++ [(ms.2 14 4)]) ++ [(ms.2 14 0)]) ++ [69, 78, 71]) ++ [ms.2 14 0] ++ ((mV ms 1 2 1 1).getD []) ++ [ms.2 14 0]) ++ [65, 67, 75]) ++ [(13)]) ++ [77, 83, 65]) (by simp <;> omega) (ms.2 14 0) (hS _ (by decide))) ?_
  refine zr_aload_n i_Mod_write0_93 rfl ?_
  refine zr_bipush i_Mod_write0_94 (v := 65) (by decide) ?_
  refine zr_cv10 i_Mod_write0_96 rfl (by decide) rfl (Nat.le_of_ble_eq_true rfl) (Nat.le_of_ble_eq_true rfl) (e_Mod_say X _ g ms ((((((((((((([] ++ [72, 68, 82]) ++ [(ms.2 14 0)]) ++ [(ms.2 14 1)]) ++ [(ms.2 14 2)]) ++ [(ms.2 14 3)]) ++ [(ms.2 14 4)]) ++ [(ms.2 14 0)]) ++ [69, 78, 71]) ++ [ms.2 14 0] ++ ((mV ms 1 2 1 1).getD []) ++ [ms.2 14 0]) ++ [65, 67, 75]) ++ [(13)]) ++ [77, 83, 65]) ++ [(ms.2 14 0)]) (by simp <;> omega) (65) (by unfold zch; decide)) ?_
  refine zr_aload_n i_Mod_write0_99 rfl ?_
  refine zr_iload_n i_Mod_write0_100 rfl ?_
  refine zN_if_ne 109 i_Mod_write0_101 (by decide) (by omega) (fun c_101 => ?_) (fun c_101 => ?_)
  · skip
    refine zr_iload_n i_Mod_write0_109 rfl ?_
    refine zn_bipush 10 i_Mod_write0_110 (by decide) ?_
    refine zn_icmp_le 120 i_Mod_write0_112 (by decide) (by omega) (by omega) (fun c_112 => ?_) (fun c_112 => ?_)
    · skip
      refine zr_bipush i_Mod_write0_120 (v := 82) (by decide) ?_
      refine zr_cv10 i_Mod_write0_122 rfl (by decide) rfl (Nat.le_of_ble_eq_true rfl) (Nat.le_of_ble_eq_true rfl) (e_Mod_say X _ g ms (((((((((((((([] ++ [72, 68, 82]) ++ [(ms.2 14 0)]) ++ [(ms.2 14 1)]) ++ [(ms.2 14 2)]) ++ [(ms.2 14 3)]) ++ [(ms.2 14 4)]) ++ [(ms.2 14 0)]) ++ [69, 78, 71]) ++ [ms.2 14 0] ++ ((mV ms 1 2 1 1).getD []) ++ [ms.2 14 0]) ++ [65, 67, 75]) ++ [(13)]) ++ [77, 83, 65]) ++ [(ms.2 14 0)]) ++ [(65)]) (by simp <;> omega) (82) (by unfold zch; decide)) ?_
      refine zr_aload_n i_Mod_write0_125 rfl ?_
      refine zr_cv00 i_Mod_write0_126 rfl (by decide) rfl (Nat.le_of_ble_eq_true rfl) (Nat.le_of_ble_eq_true rfl) (e_Mod_sayIdentity X _ g ms cnt hT ((((((((((((((([] ++ [72, 68, 82]) ++ [(ms.2 14 0)]) ++ [(ms.2 14 1)]) ++ [(ms.2 14 2)]) ++ [(ms.2 14 3)]) ++ [(ms.2 14 4)]) ++ [(ms.2 14 0)]) ++ [69, 78, 71]) ++ [ms.2 14 0] ++ ((mV ms 1 2 1 1).getD []) ++ [ms.2 14 0]) ++ [65, 67, 75]) ++ [(13)]) ++ [77, 83, 65]) ++ [(ms.2 14 0)]) ++ [(65)]) ++ [(82)]) (by simp [tl] <;> omega) hS hC) ?_
      refine zr_iload_n i_Mod_write0_129 rfl ?_
      refine zn_bipush 9 i_Mod_write0_130 (by decide) ?_
      refine zn_icmp_le 141 i_Mod_write0_132 (by decide) (by omega) (by omega) (fun c_132 => ?_) (fun c_132 => ?_)
      · skip
        refine zr_aload_n i_Mod_write0_141 rfl ?_
        refine zn_bipush 48 i_Mod_write0_142 (by decide) ?_
        refine zr_iload_n i_Mod_write0_144 rfl ?_
        refine zn_bipush 10 i_Mod_write0_145 (by decide) ?_
        refine zn_irem i_Mod_write0_147 (by omega) (by decide) (by decide) ?_
        refine zn_iadd i_Mod_write0_148 ?_
        refine zn_i2c i_Mod_write0_149 (by omega) ?_
        refine zr_cv10 i_Mod_write0_150 rfl (by decide) rfl (Nat.le_of_ble_eq_true rfl) (Nat.le_of_ble_eq_true rfl) (e_Mod_say X _ g ms (((((((((((((((([] ++ [72, 68, 82]) ++ [(ms.2 14 0)]) ++ [(ms.2 14 1)]) ++ [(ms.2 14 2)]) ++ [(ms.2 14 3)]) ++ [(ms.2 14 4)]) ++ [(ms.2 14 0)]) ++ [69, 78, 71]) ++ [ms.2 14 0] ++ ((mV ms 1 2 1 1).getD []) ++ [ms.2 14 0]) ++ [65, 67, 75]) ++ [(13)]) ++ [77, 83, 65]) ++ [(ms.2 14 0)]) ++ [(65)]) ++ [(82)]) ++ [ms.2 14 0] ++ ((mV ms 1 2 1 1).getD []) ++ [ms.2 14 0]) (by simp <;> omega) (nI (48 + r % 10)) (zch_n (by omega))) ?_
        exact zR.retE i_Mod_write0_153 rfl (by first | (exfalso; omega) | (simp [recF, *]; done) | (simp [recF, show ¬ 10 < r by omega, *]; done) | (simp [recF, show ¬ 10 < r by omega, show ¬ 9 < r by omega, *]; done) | (simp [recF, show ¬ 9 < r by omega, *]; done))
      · skip
        refine zr_aload_n i_Mod_write0_135 rfl ?_
        refine zr_bipush i_Mod_write0_136 (v := 49) (by decide) ?_
        refine zr_cv10 i_Mod_write0_138 rfl (by decide) rfl (Nat.le_of_ble_eq_true rfl) (Nat.le_of_ble_eq_true rfl) (e_Mod_say X _ g ms (((((((((((((((([] ++ [72, 68, 82]) ++ [(ms.2 14 0)]) ++ [(ms.2 14 1)]) ++ [(ms.2 14 2)]) ++ [(ms.2 14 3)]) ++ [(ms.2 14 4)]) ++ [(ms.2 14 0)]) ++ [69, 78, 71]) ++ [ms.2 14 0] ++ ((mV ms 1 2 1 1).getD []) ++ [ms.2 14 0]) ++ [65, 67, 75]) ++ [(13)]) ++ [77, 83, 65]) ++ [(ms.2 14 0)]) ++ [(65)]) ++ [(82)]) ++ [ms.2 14 0] ++ ((mV ms 1 2 1 1).getD []) ++ [ms.2 14 0]) (by simp <;> omega) (49) (by unfold zch; decide)) ?_
        refine zr_aload_n i_Mod_write0_141 rfl ?_
        refine zn_bipush 48 i_Mod_write0_142 (by decide) ?_
        refine zr_iload_n i_Mod_write0_144 rfl ?_
        refine zn_bipush 10 i_Mod_write0_145 (by decide) ?_
        refine zn_irem i_Mod_write0_147 (by omega) (by decide) (by decide) ?_
        refine zn_iadd i_Mod_write0_148 ?_
        refine zn_i2c i_Mod_write0_149 (by omega) ?_
        refine zr_cv10 i_Mod_write0_150 rfl (by decide) rfl (Nat.le_of_ble_eq_true rfl) (Nat.le_of_ble_eq_true rfl) (e_Mod_say X _ g ms ((((((((((((((((([] ++ [72, 68, 82]) ++ [(ms.2 14 0)]) ++ [(ms.2 14 1)]) ++ [(ms.2 14 2)]) ++ [(ms.2 14 3)]) ++ [(ms.2 14 4)]) ++ [(ms.2 14 0)]) ++ [69, 78, 71]) ++ [ms.2 14 0] ++ ((mV ms 1 2 1 1).getD []) ++ [ms.2 14 0]) ++ [65, 67, 75]) ++ [(13)]) ++ [77, 83, 65]) ++ [(ms.2 14 0)]) ++ [(65)]) ++ [(82)]) ++ [ms.2 14 0] ++ ((mV ms 1 2 1 1).getD []) ++ [ms.2 14 0]) ++ [(49)]) (by simp <;> omega) (nI (48 + r % 10)) (zch_n (by omega))) ?_
        exact zR.retE i_Mod_write0_153 rfl (by first | (exfalso; omega) | (simp [recF, *]; done) | (simp [recF, show ¬ 10 < r by omega, *]; done) | (simp [recF, show ¬ 10 < r by omega, show ¬ 9 < r by omega, *]; done) | (simp [recF, show ¬ 9 < r by omega, *]; done))
    · skip
      refine zr_bipush i_Mod_write0_115 (v := 69) (by decide) ?_
      refine zr_goto 122 i_Mod_write0_117 (by decide) ?_
      refine zr_cv10 i_Mod_write0_122 rfl (by decide) rfl (Nat.le_of_ble_eq_true rfl) (Nat.le_of_ble_eq_true rfl) (e_Mod_say X _ g ms (((((((((((((([] ++ [72, 68, 82]) ++ [(ms.2 14 0)]) ++ [(ms.2 14 1)]) ++ [(ms.2 14 2)]) ++ [(ms.2 14 3)]) ++ [(ms.2 14 4)]) ++ [(ms.2 14 0)]) ++ [69, 78, 71]) ++ [ms.2 14 0] ++ ((mV ms 1 2 1 1).getD []) ++ [ms.2 14 0]) ++ [65, 67, 75]) ++ [(13)]) ++ [77, 83, 65]) ++ [(ms.2 14 0)]) ++ [(65)]) (by simp <;> omega) (69) (by unfold zch; decide)) ?_
      refine zr_aload_n i_Mod_write0_125 rfl ?_
      refine zr_cv00 i_Mod_write0_126 rfl (by decide) rfl (Nat.le_of_ble_eq_true rfl) (Nat.le_of_ble_eq_true rfl) (e_Mod_sayIdentity X _ g ms cnt hT ((((((((((((((([] ++ [72, 68, 82]) ++ [(ms.2 14 0)]) ++ [(ms.2 14 1)]) ++ [(ms.2 14 2)]) ++ [(ms.2 14 3)]) ++ [(ms.2 14 4)]) ++ [(ms.2 14 0)]) ++ [69, 78, 71]) ++ [ms.2 14 0] ++ ((mV ms 1 2 1 1).getD []) ++ [ms.2 14 0]) ++ [65, 67, 75]) ++ [(13)]) ++ [77, 83, 65]) ++ [(ms.2 14 0)]) ++ [(65)]) ++ [(69)]) (by simp [tl] <;> omega) hS hC) ?_
      refine zr_iload_n i_Mod_write0_129 rfl ?_
      refine zn_bipush 9 i_Mod_write0_130 (by decide) ?_
      refine zn_icmp_le 141 i_Mod_write0_132 (by decide) (by omega) (by omega) (fun c_132 => ?_) (fun c_132 => ?_)
      · skip
        refine zr_aload_n i_Mod_write0_141 rfl ?_
        refine zn_bipush 48 i_Mod_write0_142 (by decide) ?_
        refine zr_iload_n i_Mod_write0_144 rfl ?_
        refine zn_bipush 10 i_Mod_write0_145 (by decide) ?_
        refine zn_irem i_Mod_write0_147 (by omega) (by decide) (by decide) ?_
        refine zn_iadd i_Mod_write0_148 ?_
        refine zn_i2c i_Mod_write0_149 (by omega) ?_
        refine zr_cv10 i_Mod_write0_150 rfl (by decide) rfl (Nat.le_of_ble_eq_true rfl) (Nat.le_of_ble_eq_true rfl) (e_Mod_say X _ g ms (((((((((((((((([] ++ [72, 68, 82]) ++ [(ms.2 14 0)]) ++ [(ms.2 14 1)]) ++ [(ms.2 14 2)]) ++ [(ms.2 14 3)]) ++ [(ms.2 14 4)]) ++ [(ms.2 14 0)]) ++ [69, 78, 71]) ++ [ms.2 14 0] ++ ((mV ms 1 2 1 1).getD []) ++ [ms.2 14 0]) ++ [65, 67, 75]) ++ [(13)]) ++ [77, 83, 65]) ++ [(ms.2 14 0)]) ++ [(65)]) ++ [(69)]) ++ [ms.2 14 0] ++ ((mV ms 1 2 1 1).getD []) ++ [ms.2 14 0]) (by simp <;> omega) (nI (48 + r % 10)) (zch_n (by omega))) ?_
        exact zR.retE i_Mod_write0_153 rfl (by first | (exfalso; omega) | (simp [recF, *]; done) | (simp [recF, show ¬ 10 < r by omega, *]; done) | (simp [recF, show ¬ 10 < r by omega, show ¬ 9 < r by omega, *]; done) | (simp [recF, show ¬ 9 < r by omega, *]; done))
      · skip
        refine zr_aload_n i_Mod_write0_135 rfl ?_
        refine zr_bipush i_Mod_write0_136 (v := 49) (by decide) ?_
        refine zr_cv10 i_Mod_write0_138 rfl (by decide) rfl (Nat.le_of_ble_eq_true rfl) (Nat.le_of_ble_eq_true rfl) (e_Mod_say X _ g ms (((((((((((((((([] ++ [72, 68, 82]) ++ [(ms.2 14 0)]) ++ [(ms.2 14 1)]) ++ [(ms.2 14 2)]) ++ [(ms.2 14 3)]) ++ [(ms.2 14 4)]) ++ [(ms.2 14 0)]) ++ [69, 78, 71]) ++ [ms.2 14 0] ++ ((mV ms 1 2 1 1).getD []) ++ [ms.2 14 0]) ++ [65, 67, 75]) ++ [(13)]) ++ [77, 83, 65]) ++ [(ms.2 14 0)]) ++ [(65)]) ++ [(69)]) ++ [ms.2 14 0] ++ ((mV ms 1 2 1 1).getD []) ++ [ms.2 14 0]) (by simp <;> omega) (49) (by unfold zch; decide)) ?_
        refine zr_aload_n i_Mod_write0_141 rfl ?_
        refine zn_bipush 48 i_Mod_write0_142 (by decide) ?_
        refine zr_iload_n i_Mod_write0_144 rfl ?_
        refine zn_bipush 10 i_Mod_write0_145 (by decide) ?_
        refine zn_irem i_Mod_write0_147 (by omega) (by decide) (by decide) ?_
        refine zn_iadd i_Mod_write0_148 ?_
        refine zn_i2c i_Mod_write0_149 (by omega) ?_
        refine zr_cv10 i_Mod_write0_150 rfl (by decide) rfl (Nat.le_of_ble_eq_true rfl) (Nat.le_of_ble_eq_true rfl) (e_Mod_say X _ g ms ((((((((((((((((([] ++ [72, 68, 82]) ++ [(ms.2 14 0)]) ++ [(ms.2 14 1)]) ++ [(ms.2 14 2)]) ++ [(ms.2 14 3)]) ++ [(ms.2 14 4)]) ++ [(ms.2 14 0)]) ++ [69, 78, 71]) ++ [ms.2 14 0] ++ ((mV ms 1 2 1 1).getD []) ++ [ms.2 14 0]) ++ [65, 67, 75]) ++ [(13)]) ++ [77, 83, 65]) ++ [(ms.2 14 0)]) ++ [(65)]) ++ [(69)]) ++ [ms.2 14 0] ++ ((mV ms 1 2 1 1).getD []) ++ [ms.2 14 0]) ++ [(49)]) (by simp <;> omega) (nI (48 + r % 10)) (zch_n (by omega))) ?_
        exact zR.retE i_Mod_write0_153 rfl (by first | (exfalso; omega) | (simp [recF, *]; done) | (simp [recF, show ¬ 10 < r by omega, *]; done) | (simp [recF, show ¬ 10 < r by omega, show ¬ 9 < r by omega, *]; done) | (simp [recF, show ¬ 9 < r by omega, *]; done))
  · skip
    refine zr_bipush i_Mod_write0_104 (v := 65) (by decide) ?_
    refine zr_goto 122 i_Mod_write0_106 (by decide) ?_
    refine zr_cv10 i_Mod_write0_122 rfl (by decide) rfl (Nat.le_of_ble_eq_true rfl) (Nat.le_of_ble_eq_true rfl) (e_Mod_say X _ g ms (((((((((((((([] ++ [72, 68, 82]) ++ [(ms.2 14 0)]) ++ [(ms.2 14 1)]) ++ [(ms.2 14 2)]) ++ [(ms.2 14 3)]) ++ [(ms.2 14 4)]) ++ [(ms.2 14 0)]) ++ [69, 78, 71]) ++ [ms.2 14 0] ++ ((mV ms 1 2 1 1).getD []) ++ [ms.2 14 0]) ++ [65, 67, 75]) ++ [(13)]) ++ [77, 83, 65]) ++ [(ms.2 14 0)]) ++ [(65)]) (by simp <;> omega) (65) (by unfold zch; decide)) ?_
    refine zr_aload_n i_Mod_write0_125 rfl ?_
    refine zr_cv00 i_Mod_write0_126 rfl (by decide) rfl (Nat.le_of_ble_eq_true rfl) (Nat.le_of_ble_eq_true rfl) (e_Mod_sayIdentity X _ g ms cnt hT ((((((((((((((([] ++ [72, 68, 82]) ++ [(ms.2 14 0)]) ++ [(ms.2 14 1)]) ++ [(ms.2 14 2)]) ++ [(ms.2 14 3)]) ++ [(ms.2 14 4)]) ++ [(ms.2 14 0)]) ++ [69, 78, 71]) ++ [ms.2 14 0] ++ ((mV ms 1 2 1 1).getD []) ++ [ms.2 14 0]) ++ [65, 67, 75]) ++ [(13)]) ++ [77, 83, 65]) ++ [(ms.2 14 0)]) ++ [(65)]) ++ [(65)]) (by simp [tl] <;> omega) hS hC) ?_
    refine zr_iload_n i_Mod_write0_129 rfl ?_
    refine zn_bipush 9 i_Mod_write0_130 (by decide) ?_
    refine zn_icmp_le 141 i_Mod_write0_132 (by decide) (by omega) (by omega) (fun c_132 => ?_) (fun c_132 => ?_)
    · skip
      refine zr_aload_n i_Mod_write0_141 rfl ?_
      refine zn_bipush 48 i_Mod_write0_142 (by decide) ?_
      refine zr_iload_n i_Mod_write0_144 rfl ?_
      refine zn_bipush 10 i_Mod_write0_145 (by decide) ?_
      refine zn_irem i_Mod_write0_147 (by omega) (by decide) (by decide) ?_
      refine zn_iadd i_Mod_write0_148 ?_
      refine zn_i2c i_Mod_write0_149 (by omega) ?_
      refine zr_cv10 i_Mod_write0_150 rfl (by decide) rfl (Nat.le_of_ble_eq_true rfl) (Nat.le_of_ble_eq_true rfl) (e_Mod_say X _ g ms (((((((((((((((([] ++ [72, 68, 82]) ++ [(ms.2 14 0)]) ++ [(ms.2 14 1)]) ++ [(ms.2 14 2)]) ++ [(ms.2 14 3)]) ++ [(ms.2 14 4)]) ++ [(ms.2 14 0)]) ++ [69, 78, 71]) ++ [ms.2 14 0] ++ ((mV ms 1 2 1 1).getD []) ++ [ms.2 14 0]) ++ [65, 67, 75]) ++ [(13)]) ++ [77, 83, 65]) ++ [(ms.2 14 0)]) ++ [(65)]) ++ [(65)]) ++ [ms.2 14 0] ++ ((mV ms 1 2 1 1).getD []) ++ [ms.2 14 0]) (by simp <;> omega) (nI (48 + r % 10)) (zch_n (by omega))) ?_
      exact zR.retE i_Mod_write0_153 rfl (by first | (exfalso; omega) | (simp [recF, *]; done) | (simp [recF, show ¬ 10 < r by omega, *]; done) | (simp [recF, show ¬ 10 < r by omega, show ¬ 9 < r by omega, *]; done) | (simp [recF, show ¬ 9 < r by omega, *]; done))
    · skip
      refine zr_aload_n i_Mod_write0_135 rfl ?_
      refine zr_bipush i_Mod_write0_136 (v := 49) (by decide) ?_
      refine zr_cv10 i_Mod_write0_138 rfl (by decide) rfl (Nat.le_of_ble_eq_true rfl) (Nat.le_of_ble_eq_true rfl) (e_Mod_say X _ g ms (((((((((((((((([] ++ [72, 68, 82]) ++ [(ms.2 14 0)]) ++ [(ms.2 14 1)]) ++ [(ms.2 14 2)]) ++ [(ms.2 14 3)]) ++ [(ms.2 14 4)]) ++ [(ms.2 14 0)]) ++ [69, 78, 71]) ++ [ms.2 14 0] ++ ((mV ms 1 2 1 1).getD []) ++ [ms.2 14 0]) ++ [65, 67, 75]) ++ [(13)]) ++ [77, 83, 65]) ++ [(ms.2 14 0)]) ++ [(65)]) ++ [(65)]) ++ [ms.2 14 0] ++ ((mV ms 1 2 1 1).getD []) ++ [ms.2 14 0]) (by simp <;> omega) (49) (by unfold zch; decide)) ?_
      refine zr_aload_n i_Mod_write0_141 rfl ?_
      refine zn_bipush 48 i_Mod_write0_142 (by decide) ?_
      refine zr_iload_n i_Mod_write0_144 rfl ?_
      refine zn_bipush 10 i_Mod_write0_145 (by decide) ?_
      refine zn_irem i_Mod_write0_147 (by omega) (by decide) (by decide) ?_
      refine zn_iadd i_Mod_write0_148 ?_
      refine zn_i2c i_Mod_write0_149 (by omega) ?_
      refine zr_cv10 i_Mod_write0_150 rfl (by decide) rfl (Nat.le_of_ble_eq_true rfl) (Nat.le_of_ble_eq_true rfl) (e_Mod_say X _ g ms ((((((((((((((((([] ++ [72, 68, 82]) ++ [(ms.2 14 0)]) ++ [(ms.2 14 1)]) ++ [(ms.2 14 2)]) ++ [(ms.2 14 3)]) ++ [(ms.2 14 4)]) ++ [(ms.2 14 0)]) ++ [69, 78, 71]) ++ [ms.2 14 0] ++ ((mV ms 1 2 1 1).getD []) ++ [ms.2 14 0]) ++ [65, 67, 75]) ++ [(13)]) ++ [77, 83, 65]) ++ [(ms.2 14 0)]) ++ [(65)]) ++ [(65)]) ++ [ms.2 14 0] ++ ((mV ms 1 2 1 1).getD []) ++ [ms.2 14 0]) ++ [(49)]) (by simp <;> omega) (nI (48 + r % 10)) (zch_n (by omega))) ?_
      exact zR.retE i_Mod_write0_153 rfl (by first | (exfalso; omega) | (simp [recF, *]; done) | (simp [recF, show ¬ 10 < r by omega, *]; done) | (simp [recF, show ¬ 10 < r by omega, show ¬ 9 < r by omega, *]; done) | (simp [recF, show ¬ 9 < r by omega, *]; done))
theorem i_Mod_answerOf_0 : zins 143 0 = some (.iload_n 0) := by decide +kernel
theorem i_Mod_answerOf_1 : zins 143 1 = some (.ifCond .ne 7) := by decide +kernel
theorem i_Mod_answerOf_4 : zins 143 4 = some (.iconst 0) := by decide +kernel
theorem i_Mod_answerOf_5 : zins 143 5 = some (.goto 14) := by decide +kernel
theorem i_Mod_answerOf_8 : zins 143 8 = some (.iload_n 0) := by decide +kernel
theorem i_Mod_answerOf_9 : zins 143 9 = some (.bipush 10) := by decide +kernel
theorem i_Mod_answerOf_11 : zins 143 11 = some (.if_icmp .le 7) := by decide +kernel
theorem i_Mod_answerOf_14 : zins 143 14 = some (.iconst 1) := by decide +kernel
theorem i_Mod_answerOf_15 : zins 143 15 = some (.goto 4) := by decide +kernel
theorem i_Mod_answerOf_18 : zins 143 18 = some (.iconst 2) := by decide +kernel
theorem i_Mod_answerOf_19 : zins 143 19 = some (.ireturn) := by decide +kernel
def ansF (r : Nat) : Nat := if r = 0 then 0 else if 10 < r then 1 else 2
theorem e_Mod_answerOf (X : zX) (d : Nat) (h : zH) (r : Nat) (hr : r < 20) : zR X d 143 0 (zent 1 [.int (nI r)]) [] h (some (.int (nI (ansF r))), h) := by
  refine zr_iload_n i_Mod_answerOf_0 rfl ?_
  refine zN_if_ne 8 i_Mod_answerOf_1 (by decide) (by omega) (fun c_1 => ?_) (fun c_1 => ?_)
  · skip
    refine zr_iload_n i_Mod_answerOf_8 rfl ?_
    refine zn_bipush 10 i_Mod_answerOf_9 (by decide) ?_
    refine zn_icmp_le 18 i_Mod_answerOf_11 (by decide) (by omega) (by omega) (fun c_11 => ?_) (fun c_11 => ?_)
    · skip
      refine zr_iconst i_Mod_answerOf_18 (v := 2) (by decide) ?_
      exact zR.retE i_Mod_answerOf_19 rfl (by rw [ansF]; first | (rw [if_pos (by omega)]; rfl) | (rw [if_neg (by omega), if_pos (by omega)]; rfl) | (rw [if_neg (by omega), if_neg (by omega)]; rfl))
    · skip
      refine zr_iconst i_Mod_answerOf_14 (v := 1) (by decide) ?_
      refine zr_goto 19 i_Mod_answerOf_15 (by decide) ?_
      exact zR.retE i_Mod_answerOf_19 rfl (by rw [ansF]; first | (rw [if_pos (by omega)]; rfl) | (rw [if_neg (by omega), if_pos (by omega)]; rfl) | (rw [if_neg (by omega), if_neg (by omega)]; rfl))
  · skip
    refine zr_iconst i_Mod_answerOf_4 (v := 0) (by decide) ?_
    refine zr_goto 19 i_Mod_answerOf_5 (by decide) ?_
    exact zR.retE i_Mod_answerOf_19 rfl (by rw [ansF]; first | (rw [if_pos (by omega)]; rfl) | (rw [if_neg (by omega), if_pos (by omega)]; rfl) | (rw [if_neg (by omega), if_neg (by omega)]; rfl))
theorem i_Mod_keep_0 : zins 142 0 = some (.aload_n 0) := by decide +kernel
theorem i_Mod_keep_1 : zins 142 1 = some (.getfield 13) := by decide +kernel
theorem i_Mod_keep_4 : zins 142 4 = some (.iconst 1) := by decide +kernel
theorem i_Mod_keep_5 : zins 142 5 = some (.aload_n 0) := by decide +kernel
theorem i_Mod_keep_6 : zins 142 6 = some (.getfield 13) := by decide +kernel
theorem i_Mod_keep_9 : zins 142 9 = some (.iconst 0) := by decide +kernel
theorem i_Mod_keep_10 : zins 142 10 = some (.iaload) := by decide +kernel
theorem i_Mod_keep_11 : zins 142 11 = some (.iastore) := by decide +kernel
theorem i_Mod_keep_12 : zins 142 12 = some (.aload_n 0) := by decide +kernel
theorem i_Mod_keep_13 : zins 142 13 = some (.getfield 17) := by decide +kernel
theorem i_Mod_keep_16 : zins 142 16 = some (.iconst 1) := by decide +kernel
theorem i_Mod_keep_17 : zins 142 17 = some (.aload_n 0) := by decide +kernel
theorem i_Mod_keep_18 : zins 142 18 = some (.getfield 17) := by decide +kernel
theorem i_Mod_keep_21 : zins 142 21 = some (.iconst 0) := by decide +kernel
theorem i_Mod_keep_22 : zins 142 22 = some (.iaload) := by decide +kernel
theorem i_Mod_keep_23 : zins 142 23 = some (.iastore) := by decide +kernel
theorem i_Mod_keep_24 : zins 142 24 = some (.aload_n 0) := by decide +kernel
theorem i_Mod_keep_25 : zins 142 25 = some (.getfield 20) := by decide +kernel
theorem i_Mod_keep_28 : zins 142 28 = some (.iconst 1) := by decide +kernel
theorem i_Mod_keep_29 : zins 142 29 = some (.aload_n 0) := by decide +kernel
theorem i_Mod_keep_30 : zins 142 30 = some (.getfield 20) := by decide +kernel
theorem i_Mod_keep_33 : zins 142 33 = some (.iconst 0) := by decide +kernel
theorem i_Mod_keep_34 : zins 142 34 = some (.iaload) := by decide +kernel
theorem i_Mod_keep_35 : zins 142 35 = some (.iastore) := by decide +kernel
theorem i_Mod_keep_36 : zins 142 36 = some (.iconst 0) := by decide +kernel
theorem i_Mod_keep_37 : zins 142 37 = some (.istore_n 1) := by decide +kernel
theorem i_Mod_keep_38 : zins 142 38 = some (.iload_n 1) := by decide +kernel
theorem i_Mod_keep_39 : zins 142 39 = some (.aload_n 0) := by decide +kernel
theorem i_Mod_keep_40 : zins 142 40 = some (.getfield 17) := by decide +kernel
theorem i_Mod_keep_43 : zins 142 43 = some (.iconst 0) := by decide +kernel
theorem i_Mod_keep_44 : zins 142 44 = some (.iaload) := by decide +kernel
theorem i_Mod_keep_45 : zins 142 45 = some (.if_icmp .ge 121) := by decide +kernel
theorem i_Mod_keep_48 : zins 142 48 = some (.aload_n 0) := by decide +kernel
theorem i_Mod_keep_49 : zins 142 49 = some (.getfield 23) := by decide +kernel
theorem i_Mod_keep_52 : zins 142 52 = some (.sipush 220) := by decide +kernel
theorem i_Mod_keep_55 : zins 142 55 = some (.iload_n 1) := by decide +kernel
theorem i_Mod_keep_56 : zins 142 56 = some (.iadd) := by decide +kernel
theorem i_Mod_keep_57 : zins 142 57 = some (.aload_n 0) := by decide +kernel
theorem i_Mod_keep_58 : zins 142 58 = some (.getfield 23) := by decide +kernel
theorem i_Mod_keep_61 : zins 142 61 = some (.iload_n 1) := by decide +kernel
theorem i_Mod_keep_62 : zins 142 62 = some (.iaload) := by decide +kernel
theorem i_Mod_keep_63 : zins 142 63 = some (.iastore) := by decide +kernel
theorem i_Mod_keep_64 : zins 142 64 = some (.aload_n 0) := by decide +kernel
theorem i_Mod_keep_65 : zins 142 65 = some (.getfield 26) := by decide +kernel
theorem i_Mod_keep_68 : zins 142 68 = some (.sipush 220) := by decide +kernel
theorem i_Mod_keep_71 : zins 142 71 = some (.iload_n 1) := by decide +kernel
theorem i_Mod_keep_72 : zins 142 72 = some (.iadd) := by decide +kernel
theorem i_Mod_keep_73 : zins 142 73 = some (.aload_n 0) := by decide +kernel
theorem i_Mod_keep_74 : zins 142 74 = some (.getfield 26) := by decide +kernel
theorem i_Mod_keep_77 : zins 142 77 = some (.iload_n 1) := by decide +kernel
theorem i_Mod_keep_78 : zins 142 78 = some (.iaload) := by decide +kernel
theorem i_Mod_keep_79 : zins 142 79 = some (.iastore) := by decide +kernel
theorem i_Mod_keep_80 : zins 142 80 = some (.aload_n 0) := by decide +kernel
theorem i_Mod_keep_81 : zins 142 81 = some (.getfield 29) := by decide +kernel
theorem i_Mod_keep_84 : zins 142 84 = some (.sipush 220) := by decide +kernel
theorem i_Mod_keep_87 : zins 142 87 = some (.iload_n 1) := by decide +kernel
theorem i_Mod_keep_88 : zins 142 88 = some (.iadd) := by decide +kernel
theorem i_Mod_keep_89 : zins 142 89 = some (.aload_n 0) := by decide +kernel
theorem i_Mod_keep_90 : zins 142 90 = some (.getfield 29) := by decide +kernel
theorem i_Mod_keep_93 : zins 142 93 = some (.iload_n 1) := by decide +kernel
theorem i_Mod_keep_94 : zins 142 94 = some (.iaload) := by decide +kernel
theorem i_Mod_keep_95 : zins 142 95 = some (.iastore) := by decide +kernel
theorem i_Mod_keep_96 : zins 142 96 = some (.aload_n 0) := by decide +kernel
theorem i_Mod_keep_97 : zins 142 97 = some (.getfield 32) := by decide +kernel
theorem i_Mod_keep_100 : zins 142 100 = some (.sipush 220) := by decide +kernel
theorem i_Mod_keep_103 : zins 142 103 = some (.iload_n 1) := by decide +kernel
theorem i_Mod_keep_104 : zins 142 104 = some (.iadd) := by decide +kernel
theorem i_Mod_keep_105 : zins 142 105 = some (.aload_n 0) := by decide +kernel
theorem i_Mod_keep_106 : zins 142 106 = some (.getfield 32) := by decide +kernel
theorem i_Mod_keep_109 : zins 142 109 = some (.iload_n 1) := by decide +kernel
theorem i_Mod_keep_110 : zins 142 110 = some (.iaload) := by decide +kernel
theorem i_Mod_keep_111 : zins 142 111 = some (.iastore) := by decide +kernel
theorem i_Mod_keep_112 : zins 142 112 = some (.aload_n 0) := by decide +kernel
theorem i_Mod_keep_113 : zins 142 113 = some (.getfield 35) := by decide +kernel
theorem i_Mod_keep_116 : zins 142 116 = some (.sipush 220) := by decide +kernel
theorem i_Mod_keep_119 : zins 142 119 = some (.iload_n 1) := by decide +kernel
theorem i_Mod_keep_120 : zins 142 120 = some (.iadd) := by decide +kernel
theorem i_Mod_keep_121 : zins 142 121 = some (.aload_n 0) := by decide +kernel
theorem i_Mod_keep_122 : zins 142 122 = some (.getfield 35) := by decide +kernel
theorem i_Mod_keep_125 : zins 142 125 = some (.iload_n 1) := by decide +kernel
theorem i_Mod_keep_126 : zins 142 126 = some (.iaload) := by decide +kernel
theorem i_Mod_keep_127 : zins 142 127 = some (.iastore) := by decide +kernel
theorem i_Mod_keep_128 : zins 142 128 = some (.aload_n 0) := by decide +kernel
theorem i_Mod_keep_129 : zins 142 129 = some (.getfield 38) := by decide +kernel
theorem i_Mod_keep_132 : zins 142 132 = some (.sipush 220) := by decide +kernel
theorem i_Mod_keep_135 : zins 142 135 = some (.iload_n 1) := by decide +kernel
theorem i_Mod_keep_136 : zins 142 136 = some (.iadd) := by decide +kernel
theorem i_Mod_keep_137 : zins 142 137 = some (.aload_n 0) := by decide +kernel
theorem i_Mod_keep_138 : zins 142 138 = some (.getfield 38) := by decide +kernel
theorem i_Mod_keep_141 : zins 142 141 = some (.iload_n 1) := by decide +kernel
theorem i_Mod_keep_142 : zins 142 142 = some (.iaload) := by decide +kernel
theorem i_Mod_keep_143 : zins 142 143 = some (.iastore) := by decide +kernel
theorem i_Mod_keep_144 : zins 142 144 = some (.aload_n 0) := by decide +kernel
theorem i_Mod_keep_145 : zins 142 145 = some (.getfield 41) := by decide +kernel
theorem i_Mod_keep_148 : zins 142 148 = some (.sipush 220) := by decide +kernel
theorem i_Mod_keep_151 : zins 142 151 = some (.iload_n 1) := by decide +kernel
theorem i_Mod_keep_152 : zins 142 152 = some (.iadd) := by decide +kernel
theorem i_Mod_keep_153 : zins 142 153 = some (.aload_n 0) := by decide +kernel
theorem i_Mod_keep_154 : zins 142 154 = some (.getfield 41) := by decide +kernel
theorem i_Mod_keep_157 : zins 142 157 = some (.iload_n 1) := by decide +kernel
theorem i_Mod_keep_158 : zins 142 158 = some (.iaload) := by decide +kernel
theorem i_Mod_keep_159 : zins 142 159 = some (.iastore) := by decide +kernel
theorem i_Mod_keep_160 : zins 142 160 = some (.iinc 1 1) := by decide +kernel
theorem i_Mod_keep_163 : zins 142 163 = some (.goto (-125)) := by decide +kernel
theorem i_Mod_keep_166 : zins 142 166 = some (.iconst 0) := by decide +kernel
theorem i_Mod_keep_167 : zins 142 167 = some (.istore_n 1) := by decide +kernel
theorem i_Mod_keep_168 : zins 142 168 = some (.iload_n 1) := by decide +kernel
theorem i_Mod_keep_169 : zins 142 169 = some (.aload_n 0) := by decide +kernel
theorem i_Mod_keep_170 : zins 142 170 = some (.getfield 20) := by decide +kernel
theorem i_Mod_keep_173 : zins 142 173 = some (.iconst 0) := by decide +kernel
theorem i_Mod_keep_174 : zins 142 174 = some (.iaload) := by decide +kernel
theorem i_Mod_keep_175 : zins 142 175 = some (.if_icmp .ge 25) := by decide +kernel
theorem i_Mod_keep_178 : zins 142 178 = some (.aload_n 0) := by decide +kernel
theorem i_Mod_keep_179 : zins 142 179 = some (.getfield 44) := by decide +kernel
theorem i_Mod_keep_182 : zins 142 182 = some (.sipush 200) := by decide +kernel
theorem i_Mod_keep_185 : zins 142 185 = some (.iload_n 1) := by decide +kernel
theorem i_Mod_keep_186 : zins 142 186 = some (.iadd) := by decide +kernel
theorem i_Mod_keep_187 : zins 142 187 = some (.aload_n 0) := by decide +kernel
theorem i_Mod_keep_188 : zins 142 188 = some (.getfield 44) := by decide +kernel
theorem i_Mod_keep_191 : zins 142 191 = some (.iload_n 1) := by decide +kernel
theorem i_Mod_keep_192 : zins 142 192 = some (.caload) := by decide +kernel
theorem i_Mod_keep_193 : zins 142 193 = some (.castore) := by decide +kernel
theorem i_Mod_keep_194 : zins 142 194 = some (.iinc 1 1) := by decide +kernel
theorem i_Mod_keep_197 : zins 142 197 = some (.goto (-29)) := by decide +kernel
theorem i_Mod_keep_200 : zins 142 200 = some (.iconst 0) := by decide +kernel
theorem i_Mod_keep_201 : zins 142 201 = some (.istore_n 1) := by decide +kernel
theorem i_Mod_keep_202 : zins 142 202 = some (.iload_n 1) := by decide +kernel
theorem i_Mod_keep_203 : zins 142 203 = some (.iconst 3) := by decide +kernel
theorem i_Mod_keep_204 : zins 142 204 = some (.aload_n 0) := by decide +kernel
theorem i_Mod_keep_205 : zins 142 205 = some (.getfield 13) := by decide +kernel
theorem i_Mod_keep_208 : zins 142 208 = some (.iconst 0) := by decide +kernel
theorem i_Mod_keep_209 : zins 142 209 = some (.iaload) := by decide +kernel
theorem i_Mod_keep_210 : zins 142 210 = some (.imul) := by decide +kernel
theorem i_Mod_keep_211 : zins 142 211 = some (.if_icmp .ge 25) := by decide +kernel
theorem i_Mod_keep_214 : zins 142 214 = some (.aload_n 0) := by decide +kernel
theorem i_Mod_keep_215 : zins 142 215 = some (.getfield 47) := by decide +kernel
theorem i_Mod_keep_218 : zins 142 218 = some (.sipush 600) := by decide +kernel
theorem i_Mod_keep_221 : zins 142 221 = some (.iload_n 1) := by decide +kernel
theorem i_Mod_keep_222 : zins 142 222 = some (.iadd) := by decide +kernel
theorem i_Mod_keep_223 : zins 142 223 = some (.aload_n 0) := by decide +kernel
theorem i_Mod_keep_224 : zins 142 224 = some (.getfield 47) := by decide +kernel
theorem i_Mod_keep_227 : zins 142 227 = some (.iload_n 1) := by decide +kernel
theorem i_Mod_keep_228 : zins 142 228 = some (.caload) := by decide +kernel
theorem i_Mod_keep_229 : zins 142 229 = some (.castore) := by decide +kernel
theorem i_Mod_keep_230 : zins 142 230 = some (.iinc 1 1) := by decide +kernel
theorem i_Mod_keep_233 : zins 142 233 = some (.goto (-31)) := by decide +kernel
theorem i_Mod_keep_236 : zins 142 236 = some (.return_) := by decide +kernel
def mk7 (ms : zMS) (i : Nat) : zMS := (ms.1, fun k => if 5 ≤ k ∧ k ≤ 11 then va_cpy (ms.2 k) (ms.2 k) 0 220 i else ms.2 k)
theorem mk7_0 (ms : zMS) : mk7 ms 0 = ms := by
  unfold mk7
  refine Prod.ext rfl (funext fun k => ?_)
  dsimp only
  split
  · exact zcpy_0
  · rfl
theorem zcpy_s0 {f : Nat → Int32} {b i : Nat} (h : i < b) : upd (va_cpy f f 0 b i) (b + i) (va_cpy f f 0 b i i) = va_cpy f f 0 b (i + 1) := by
  have e := zcpy_s (f := f) (a := 0) (b := b) (i := i) (Or.inl (by omega))
  rw [Nat.zero_add] at e
  exact e
theorem mk7_s (ms : zMS) (i : Nat) (hi : i < 220) : (mk7 ms (i + 1)) = ((mk7 ms i).1, va_up (va_up (va_up (va_up (va_up (va_up (va_up ((mk7 ms i).2) 5 (upd ((mk7 ms i).2 5) (220 + i) ((mk7 ms i).2 5 i))) 6 (upd ((mk7 ms i).2 6) (220 + i) ((mk7 ms i).2 6 i))) 7 (upd ((mk7 ms i).2 7) (220 + i) ((mk7 ms i).2 7 i))) 8 (upd ((mk7 ms i).2 8) (220 + i) ((mk7 ms i).2 8 i))) 9 (upd ((mk7 ms i).2 9) (220 + i) ((mk7 ms i).2 9 i))) 10 (upd ((mk7 ms i).2 10) (220 + i) ((mk7 ms i).2 10 i))) 11 (upd ((mk7 ms i).2 11) (220 + i) ((mk7 ms i).2 11 i))) := by
  unfold mk7
  refine Prod.ext rfl (funext fun k => ?_)
  dsimp only
  by_cases hk : 5 ≤ k ∧ k ≤ 11
  · rw [if_pos hk]
    rcases (show k = 5 ∨ k = 6 ∨ k = 7 ∨ k = 8 ∨ k = 9 ∨ k = 10 ∨ k = 11 by omega) with rfl | rfl | rfl | rfl | rfl | rfl | rfl
    · exact (zcpy_s0 hi).symm
    · exact (zcpy_s0 hi).symm
    · exact (zcpy_s0 hi).symm
    · exact (zcpy_s0 hi).symm
    · exact (zcpy_s0 hi).symm
    · exact (zcpy_s0 hi).symm
    · exact (zcpy_s0 hi).symm
  · rw [if_neg hk, va_up_ne _ _ (by omega), va_up_ne _ _ (by omega), va_up_ne _ _ (by omega), va_up_ne _ _ (by omega), va_up_ne _ _ (by omega), va_up_ne _ _ (by omega), va_up_ne _ _ (by omega), if_neg hk]
def mk12 (ms : zMS) (i : Nat) : zMS := (ms.1, va_up ms.2 12 (va_cpy (ms.2 12) (ms.2 12) 0 200 i))
def mk13 (ms : zMS) (i : Nat) : zMS := (ms.1, va_up ms.2 13 (va_cpy (ms.2 13) (ms.2 13) 0 600 i))
def mkeep (ms : zMS) (cnt cs sg : Nat) : zMS := mk13 (mk12 (mk7 (ms.1, va_up (va_up (va_up ms.2 2 (upd (ms.2 2) 1 (nI sg))) 3 (upd (ms.2 3) 1 (nI cnt))) 4 (upd (ms.2 4) 1 (nI cs))) cnt) cs) (3 * sg)
theorem l1_Mod_keep (X : zX) (d : Nat) (g : zH) (ms : zMS) (cnt : Nat) (h3 : ms.2 3 0 = nI cnt) (hcl : cnt ≤ 220) (u : Option Value × zH) (K : ∀ x, zR X d 142 166 [some (.ref 129), some (.int x)] [] (mset g (mk7 ms cnt)) u) : ∀ (k i : Nat), i + k = cnt → zR X d 142 38 [some (.ref 129), some (.int (nI i))] [] (mset g (mk7 ms i)) u := by
  intro k
  induction k with
  | zero =>
    intro i hik
    have hi : cnt = i := by omega
    subst hi
    refine zr_iload_n i_Mod_keep_38 rfl ?_
    refine zr_aload_n i_Mod_keep_39 rfl ?_
    refine zr_getf i_Mod_keep_40 rfl rfl rfl ?_
    refine zn_iconst 0 i_Mod_keep_43 (by decide) ?_
    refine zn_iaload i_Mod_keep_44 rfl (by omega) (by decide) ?_
    refine zr_top (y := nI cnt) h3 ?_
    refine zn_icmp_ge 166 i_Mod_keep_45 (by decide) (by omega) (by omega) (fun c_45 => ?_) (fun q => absurd q (by first | assumption | omega | simp_all))
    exact K _
  | succ k ih =>
    intro i hik
    refine zr_iload_n i_Mod_keep_38 rfl ?_
    refine zr_aload_n i_Mod_keep_39 rfl ?_
    refine zr_getf i_Mod_keep_40 rfl rfl rfl ?_
    refine zn_iconst 0 i_Mod_keep_43 (by decide) ?_
    refine zn_iaload i_Mod_keep_44 rfl (by omega) (by decide) ?_
    refine zr_top (y := nI cnt) h3 ?_
    refine zn_icmp_ge 166 i_Mod_keep_45 (by decide) (by omega) (by omega) (fun q => absurd q (by first | assumption | omega | simp_all)) (fun c_45 => ?_)
    refine zr_aload_n i_Mod_keep_48 rfl ?_
    refine zr_getf i_Mod_keep_49 rfl rfl rfl ?_
    refine zn_sipush 220 i_Mod_keep_52 (by decide) ?_
    refine zr_iload_n i_Mod_keep_55 rfl ?_
    refine zn_iadd i_Mod_keep_56 ?_
    refine zr_aload_n i_Mod_keep_57 rfl ?_
    refine zr_getf i_Mod_keep_58 rfl rfl rfl ?_
    refine zr_iload_n i_Mod_keep_61 rfl ?_
    refine zn_iaload i_Mod_keep_62 rfl (by omega) (by decide) ?_
    refine mn_iastore 5 440 i_Mod_keep_63 (fun _ => rfl) (by decide) (by omega) (by decide) ?_
    refine zr_aload_n i_Mod_keep_64 rfl ?_
    refine zr_getf i_Mod_keep_65 rfl rfl rfl ?_
    refine zn_sipush 220 i_Mod_keep_68 (by decide) ?_
    refine zr_iload_n i_Mod_keep_71 rfl ?_
    refine zn_iadd i_Mod_keep_72 ?_
    refine zr_aload_n i_Mod_keep_73 rfl ?_
    refine zr_getf i_Mod_keep_74 rfl rfl rfl ?_
    refine zr_iload_n i_Mod_keep_77 rfl ?_
    refine zn_iaload i_Mod_keep_78 rfl (by omega) (by decide) ?_
    refine mn_iastore 6 440 i_Mod_keep_79 (fun _ => rfl) (by decide) (by omega) (by decide) ?_
    refine zr_aload_n i_Mod_keep_80 rfl ?_
    refine zr_getf i_Mod_keep_81 rfl rfl rfl ?_
    refine zn_sipush 220 i_Mod_keep_84 (by decide) ?_
    refine zr_iload_n i_Mod_keep_87 rfl ?_
    refine zn_iadd i_Mod_keep_88 ?_
    refine zr_aload_n i_Mod_keep_89 rfl ?_
    refine zr_getf i_Mod_keep_90 rfl rfl rfl ?_
    refine zr_iload_n i_Mod_keep_93 rfl ?_
    refine zn_iaload i_Mod_keep_94 rfl (by omega) (by decide) ?_
    refine mn_iastore 7 440 i_Mod_keep_95 (fun _ => rfl) (by decide) (by omega) (by decide) ?_
    refine zr_aload_n i_Mod_keep_96 rfl ?_
    refine zr_getf i_Mod_keep_97 rfl rfl rfl ?_
    refine zn_sipush 220 i_Mod_keep_100 (by decide) ?_
    refine zr_iload_n i_Mod_keep_103 rfl ?_
    refine zn_iadd i_Mod_keep_104 ?_
    refine zr_aload_n i_Mod_keep_105 rfl ?_
    refine zr_getf i_Mod_keep_106 rfl rfl rfl ?_
    refine zr_iload_n i_Mod_keep_109 rfl ?_
    refine zn_iaload i_Mod_keep_110 rfl (by omega) (by decide) ?_
    refine mn_iastore 8 440 i_Mod_keep_111 (fun _ => rfl) (by decide) (by omega) (by decide) ?_
    refine zr_aload_n i_Mod_keep_112 rfl ?_
    refine zr_getf i_Mod_keep_113 rfl rfl rfl ?_
    refine zn_sipush 220 i_Mod_keep_116 (by decide) ?_
    refine zr_iload_n i_Mod_keep_119 rfl ?_
    refine zn_iadd i_Mod_keep_120 ?_
    refine zr_aload_n i_Mod_keep_121 rfl ?_
    refine zr_getf i_Mod_keep_122 rfl rfl rfl ?_
    refine zr_iload_n i_Mod_keep_125 rfl ?_
    refine zn_iaload i_Mod_keep_126 rfl (by omega) (by decide) ?_
    refine mn_iastore 9 440 i_Mod_keep_127 (fun _ => rfl) (by decide) (by omega) (by decide) ?_
    refine zr_aload_n i_Mod_keep_128 rfl ?_
    refine zr_getf i_Mod_keep_129 rfl rfl rfl ?_
    refine zn_sipush 220 i_Mod_keep_132 (by decide) ?_
    refine zr_iload_n i_Mod_keep_135 rfl ?_
    refine zn_iadd i_Mod_keep_136 ?_
    refine zr_aload_n i_Mod_keep_137 rfl ?_
    refine zr_getf i_Mod_keep_138 rfl rfl rfl ?_
    refine zr_iload_n i_Mod_keep_141 rfl ?_
    refine zn_iaload i_Mod_keep_142 rfl (by omega) (by decide) ?_
    refine mn_iastore 10 440 i_Mod_keep_143 (fun _ => rfl) (by decide) (by omega) (by decide) ?_
    refine zr_aload_n i_Mod_keep_144 rfl ?_
    refine zr_getf i_Mod_keep_145 rfl rfl rfl ?_
    refine zn_sipush 220 i_Mod_keep_148 (by decide) ?_
    refine zr_iload_n i_Mod_keep_151 rfl ?_
    refine zn_iadd i_Mod_keep_152 ?_
    refine zr_aload_n i_Mod_keep_153 rfl ?_
    refine zr_getf i_Mod_keep_154 rfl rfl rfl ?_
    refine zr_iload_n i_Mod_keep_157 rfl ?_
    refine zn_iaload i_Mod_keep_158 rfl (by omega) (by decide) ?_
    refine mn_iastore 11 440 i_Mod_keep_159 (fun _ => rfl) (by decide) (by omega) (by decide) ?_
    refine zn_iinc i_Mod_keep_160 rfl rfl ?_
    refine zr_goto 38 i_Mod_keep_163 (by decide) ?_
    (have e := ih (i + 1) (by omega)
     rw [mk7_s ms i (by omega)] at e
     exact e)
theorem l2_Mod_keep (X : zX) (d : Nat) (g : zH) (ms : zMS) (cs : Nat) (h4 : ms.2 4 0 = nI cs) (hcl : cs ≤ 200) (hC : ∀ j i, i < cs → j ≤ cs → zch ((mk12 ms j).2 12 i)) (u : Option Value × zH) (K : ∀ x, zR X d 142 200 [some (.ref 129), some (.int x)] [] (mset g (mk12 ms cs)) u) : ∀ (k i : Nat), i + k = cs → zR X d 142 168 [some (.ref 129), some (.int (nI i))] [] (mset g (mk12 ms i)) u := by
  intro k
  induction k with
  | zero =>
    intro i hik
    have hi : cs = i := by omega
    subst hi
    refine zr_iload_n i_Mod_keep_168 rfl ?_
    refine zr_aload_n i_Mod_keep_169 rfl ?_
    refine zr_getf i_Mod_keep_170 rfl rfl rfl ?_
    refine zn_iconst 0 i_Mod_keep_173 (by decide) ?_
    refine zn_iaload i_Mod_keep_174 rfl (by omega) (by decide) ?_
    refine zr_top (y := nI cs) h4 ?_
    refine zn_icmp_ge 200 i_Mod_keep_175 (by decide) (by omega) (by omega) (fun c_175 => ?_) (fun q => absurd q (by first | assumption | omega | simp_all))
    exact K _
  | succ k ih =>
    intro i hik
    refine zr_iload_n i_Mod_keep_168 rfl ?_
    refine zr_aload_n i_Mod_keep_169 rfl ?_
    refine zr_getf i_Mod_keep_170 rfl rfl rfl ?_
    refine zn_iconst 0 i_Mod_keep_173 (by decide) ?_
    refine zn_iaload i_Mod_keep_174 rfl (by omega) (by decide) ?_
    refine zr_top (y := nI cs) h4 ?_
    refine zn_icmp_ge 200 i_Mod_keep_175 (by decide) (by omega) (by omega) (fun q => absurd q (by first | assumption | omega | simp_all)) (fun c_175 => ?_)
    refine zr_aload_n i_Mod_keep_178 rfl ?_
    refine zr_getf i_Mod_keep_179 rfl rfl rfl ?_
    refine zn_sipush 200 i_Mod_keep_182 (by decide) ?_
    refine zr_iload_n i_Mod_keep_185 rfl ?_
    refine zn_iadd i_Mod_keep_186 ?_
    refine zr_aload_n i_Mod_keep_187 rfl ?_
    refine zr_getf i_Mod_keep_188 rfl rfl rfl ?_
    refine zr_iload_n i_Mod_keep_191 rfl ?_
    refine zn_caload i_Mod_keep_192 rfl (by omega) (by decide) ?_
    refine mn_castore 12 400 i_Mod_keep_193 (fun _ => rfl) (by decide) (by omega) (by decide) ?_
    refine zn_iinc i_Mod_keep_194 rfl rfl ?_
    refine zr_goto 168 i_Mod_keep_197 (by decide) ?_
    (have e := ih (i + 1) (by omega)
     rw [show mk12 ms (i + 1) = ((mk12 ms i).1, va_up (mk12 ms i).2 12 (upd ((mk12 ms i).2 12) (200 + i) (vp_nar .char ((mk12 ms i).2 12 i)))) by
      rw [show vp_nar .char ((mk12 ms i).2 12 i) = (mk12 ms i).2 12 i from hC _ i (by omega) (by omega)]
      unfold mk12
      dsimp only
      rw [up_same]
      show _ = (ms.1, va_up ms.2 12 (upd (va_cpy (ms.2 12) (ms.2 12) 0 200 i) (200 + i) (va_cpy (ms.2 12) (ms.2 12) 0 200 i i)))
      rw [zcpy_s0 (by omega)]] at e
     exact e)
theorem l3_Mod_keep (X : zX) (d : Nat) (g : zH) (ms : zMS) (sg : Nat) (h2 : ms.2 2 0 = nI sg) (hcl : sg ≤ 200) (hC : ∀ j i, i < 3 * sg → j ≤ 3 * sg → zch ((mk13 ms j).2 13 i)) (u : Option Value × zH) (K : ∀ x, zR X d 142 236 [some (.ref 129), some (.int x)] [] (mset g (mk13 ms (3 * sg))) u) : ∀ (k i : Nat), i + k = 3 * sg → zR X d 142 202 [some (.ref 129), some (.int (nI i))] [] (mset g (mk13 ms i)) u := by
  intro k
  induction k with
  | zero =>
    intro i hik
    have hi : 3 * sg = i := by omega
    subst hi
    refine zr_iload_n i_Mod_keep_202 rfl ?_
    refine zn_iconst 3 i_Mod_keep_203 (by decide) ?_
    refine zr_aload_n i_Mod_keep_204 rfl ?_
    refine zr_getf i_Mod_keep_205 rfl rfl rfl ?_
    refine zn_iconst 0 i_Mod_keep_208 (by decide) ?_
    refine zn_iaload i_Mod_keep_209 rfl (by omega) (by decide) ?_
    refine zr_top (y := nI sg) h2 ?_
    refine zn_imul i_Mod_keep_210 ?_
    refine zn_icmp_ge 236 i_Mod_keep_211 (by decide) (by omega) (by omega) (fun c_211 => ?_) (fun q => absurd q (by first | assumption | omega | simp_all))
    exact K _
  | succ k ih =>
    intro i hik
    refine zr_iload_n i_Mod_keep_202 rfl ?_
    refine zn_iconst 3 i_Mod_keep_203 (by decide) ?_
    refine zr_aload_n i_Mod_keep_204 rfl ?_
    refine zr_getf i_Mod_keep_205 rfl rfl rfl ?_
    refine zn_iconst 0 i_Mod_keep_208 (by decide) ?_
    refine zn_iaload i_Mod_keep_209 rfl (by omega) (by decide) ?_
    refine zr_top (y := nI sg) h2 ?_
    refine zn_imul i_Mod_keep_210 ?_
    refine zn_icmp_ge 236 i_Mod_keep_211 (by decide) (by omega) (by omega) (fun q => absurd q (by first | assumption | omega | simp_all)) (fun c_211 => ?_)
    refine zr_aload_n i_Mod_keep_214 rfl ?_
    refine zr_getf i_Mod_keep_215 rfl rfl rfl ?_
    refine zn_sipush 600 i_Mod_keep_218 (by decide) ?_
    refine zr_iload_n i_Mod_keep_221 rfl ?_
    refine zn_iadd i_Mod_keep_222 ?_
    refine zr_aload_n i_Mod_keep_223 rfl ?_
    refine zr_getf i_Mod_keep_224 rfl rfl rfl ?_
    refine zr_iload_n i_Mod_keep_227 rfl ?_
    refine zn_caload i_Mod_keep_228 rfl (by omega) (by decide) ?_
    refine mn_castore 13 1200 i_Mod_keep_229 (fun _ => rfl) (by decide) (by omega) (by decide) ?_
    refine zn_iinc i_Mod_keep_230 rfl rfl ?_
    refine zr_goto 202 i_Mod_keep_233 (by decide) ?_
    (have e := ih (i + 1) (by omega)
     rw [show mk13 ms (i + 1) = ((mk13 ms i).1, va_up (mk13 ms i).2 13 (upd ((mk13 ms i).2 13) (600 + i) (vp_nar .char ((mk13 ms i).2 13 i)))) by
      rw [show vp_nar .char ((mk13 ms i).2 13 i) = (mk13 ms i).2 13 i from hC _ i (by omega) (by omega)]
      unfold mk13
      dsimp only
      rw [up_same]
      show _ = (ms.1, va_up ms.2 13 (upd (va_cpy (ms.2 13) (ms.2 13) 0 600 i) (600 + i) (va_cpy (ms.2 13) (ms.2 13) 0 600 i i)))
      rw [zcpy_s0 (by omega)]] at e
     exact e)
theorem mk12_0 (ms : zMS) : mk12 ms 0 = ms := by unfold mk12; rw [zcpy_0, up_self]
theorem mk13_0 (ms : zMS) : mk13 ms 0 = ms := by unfold mk13; rw [zcpy_0, up_self]
theorem e_Mod_keep (X : zX) (d : Nat) (g : zH) (ms : zMS) (cnt cs sg : Nat) (h3 : ms.2 3 0 = nI cnt) (hcl : cnt ≤ 220) (h4 : ms.2 4 0 = nI cs) (hcs : cs ≤ 200) (h2 : ms.2 2 0 = nI sg) (hsg : sg ≤ 200) (hC12 : ∀ i, i < cs → zch (ms.2 12 i)) (hC13 : ∀ i, i < 3 * sg → zch (ms.2 13 i)) : zR X d 142 0 (zent 2 [.ref 129]) [] (mset g ms) (none, mset g (mkeep ms cnt cs sg)) := by
  have key : zR X d 142 38 [some (.ref 129), some (.int (nI 0))] [] (mset g (mk7 (ms.1, va_up (va_up (va_up ms.2 2 (upd (ms.2 2) 1 (nI sg))) 3 (upd (ms.2 3) 1 (nI cnt))) 4 (upd (ms.2 4) 1 (nI cs))) 0)) (none, mset g (mkeep ms cnt cs sg)) := by
    refine l1_Mod_keep X d g (ms.1, va_up (va_up (va_up ms.2 2 (upd (ms.2 2) 1 (nI sg))) 3 (upd (ms.2 3) 1 (nI cnt))) 4 (upd (ms.2 4) 1 (nI cs))) cnt h3 hcl _ (fun x => ?_) cnt 0 (by omega)
    refine zn_iconst 0 i_Mod_keep_166 (by decide) ?_
    refine zr_istore_n i_Mod_keep_167 rfl ?_
    skip
    have e := l2_Mod_keep X d g (mk7 (ms.1, va_up (va_up (va_up ms.2 2 (upd (ms.2 2) 1 (nI sg))) 3 (upd (ms.2 3) 1 (nI cnt))) 4 (upd (ms.2 4) 1 (nI cs))) cnt) cs h4 hcs (fun j i h5 h6 => by
      show zch (va_cpy (ms.2 12) (ms.2 12) 0 200 j i)
      rw [pk_cpy_out (by omega)]
      exact hC12 i h5) (none, mset g (mkeep ms cnt cs sg)) (fun x => ?_) cs 0 (by omega)
    · rw [mk12_0] at e
      exact e
    refine zn_iconst 0 i_Mod_keep_200 (by decide) ?_
    refine zr_istore_n i_Mod_keep_201 rfl ?_
    skip
    have e := l3_Mod_keep X d g (mk12 (mk7 (ms.1, va_up (va_up (va_up ms.2 2 (upd (ms.2 2) 1 (nI sg))) 3 (upd (ms.2 3) 1 (nI cnt))) 4 (upd (ms.2 4) 1 (nI cs))) cnt) cs) sg h2 hsg (fun j i h5 h6 => by
      show zch (va_cpy (ms.2 13) (ms.2 13) 0 600 j i)
      rw [pk_cpy_out (by omega)]
      exact hC13 i h5) (none, mset g (mkeep ms cnt cs sg)) (fun x => ?_) (3 * sg) 0 (by omega)
    · rw [mk13_0] at e
      exact e
    exact zR.retE i_Mod_keep_236 rfl rfl
  rw [mk7_0] at key
  refine zr_aload_n i_Mod_keep_0 rfl ?_
  refine zr_getf i_Mod_keep_1 rfl rfl rfl ?_
  refine zn_iconst 1 i_Mod_keep_4 (by decide) ?_
  refine zr_aload_n i_Mod_keep_5 rfl ?_
  refine zr_getf i_Mod_keep_6 rfl rfl rfl ?_
  refine zn_iconst 0 i_Mod_keep_9 (by decide) ?_
  refine zn_iaload i_Mod_keep_10 rfl (by omega) (by decide) ?_
  refine zr_top (y := nI sg) h2 ?_
  refine mn_iastore 2 2 i_Mod_keep_11 (fun _ => rfl) (by decide) (by omega) (by decide) ?_
  refine zr_aload_n i_Mod_keep_12 rfl ?_
  refine zr_getf i_Mod_keep_13 rfl rfl rfl ?_
  refine zn_iconst 1 i_Mod_keep_16 (by decide) ?_
  refine zr_aload_n i_Mod_keep_17 rfl ?_
  refine zr_getf i_Mod_keep_18 rfl rfl rfl ?_
  refine zn_iconst 0 i_Mod_keep_21 (by decide) ?_
  refine zn_iaload i_Mod_keep_22 rfl (by omega) (by decide) ?_
  refine zr_top (y := nI cnt) h3 ?_
  refine mn_iastore 3 2 i_Mod_keep_23 (fun _ => rfl) (by decide) (by omega) (by decide) ?_
  refine zr_aload_n i_Mod_keep_24 rfl ?_
  refine zr_getf i_Mod_keep_25 rfl rfl rfl ?_
  refine zn_iconst 1 i_Mod_keep_28 (by decide) ?_
  refine zr_aload_n i_Mod_keep_29 rfl ?_
  refine zr_getf i_Mod_keep_30 rfl rfl rfl ?_
  refine zn_iconst 0 i_Mod_keep_33 (by decide) ?_
  refine zn_iaload i_Mod_keep_34 rfl (by omega) (by decide) ?_
  refine zr_top (y := nI cs) h4 ?_
  refine mn_iastore 4 2 i_Mod_keep_35 (fun _ => rfl) (by decide) (by omega) (by decide) ?_
  refine zn_iconst 0 i_Mod_keep_36 (by decide) ?_
  refine zr_istore_n i_Mod_keep_37 rfl ?_
  exact key
