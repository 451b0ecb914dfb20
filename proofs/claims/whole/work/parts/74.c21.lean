/-! THE CLASS: end, piece by piece -/
theorem i_B_end_0 : zins 5 0 = some (.aload_n 0) := by decide +kernel
theorem i_B_end_1 : zins 5 1 = some (.getfield 42) := by decide +kernel
theorem i_B_end_4 : zins 5 4 = some (.invokevirtual 85) := by decide +kernel
theorem i_B_end_7 : zins 5 7 = some (.aload_n 0) := by decide +kernel
theorem i_B_end_8 : zins 5 8 = some (.iconst 0) := by decide +kernel
theorem i_B_end_9 : zins 5 9 = some (.putfield 63) := by decide +kernel
theorem i_B_end_12 : zins 5 12 = some (.aload_n 0) := by decide +kernel
theorem i_B_end_13 : zins 5 13 = some (.aload_n 0) := by decide +kernel
theorem i_B_end_14 : zins 5 14 = some (.getfield 12) := by decide +kernel
theorem i_B_end_17 : zins 5 17 = some (.aload_n 0) := by decide +kernel
theorem i_B_end_18 : zins 5 18 = some (.getfield 52) := by decide +kernel
theorem i_B_end_21 : zins 5 21 = some (.invokevirtual 88) := by decide +kernel
theorem i_B_end_24 : zins 5 24 = some (.putfield 59) := by decide +kernel
theorem i_B_end_27 : zins 5 27 = some (.aload_n 0) := by decide +kernel
theorem i_B_end_28 : zins 5 28 = some (.getfield 12) := by decide +kernel
theorem i_B_end_31 : zins 5 31 = some (.getfield 75) := by decide +kernel
theorem i_B_end_34 : zins 5 34 = some (.invokevirtual 85) := by decide +kernel
theorem i_B_end_37 : zins 5 37 = some (.aload_n 0) := by decide +kernel
theorem i_B_end_38 : zins 5 38 = some (.getfield 59) := by decide +kernel
theorem i_B_end_41 : zins 5 41 = some (.ifCond .eq 5) := by decide +kernel
theorem i_B_end_44 : zins 5 44 = some (.iconst 2) := by decide +kernel
theorem i_B_end_45 : zins 5 45 = some (.ireturn) := by decide +kernel
theorem i_B_end_46 : zins 5 46 = some (.aload_n 0) := by decide +kernel
theorem i_B_end_47 : zins 5 47 = some (.invokevirtual 92) := by decide +kernel
theorem i_B_end_50 : zins 5 50 = some (.aload_n 0) := by decide +kernel
theorem i_B_end_51 : zins 5 51 = some (.getfield 26) := by decide +kernel
theorem i_B_end_54 : zins 5 54 = some (.aload_n 0) := by decide +kernel
theorem i_B_end_55 : zins 5 55 = some (.getfield 56) := by decide +kernel
theorem i_B_end_58 : zins 5 58 = some (.invokevirtual 95) := by decide +kernel
theorem i_B_end_61 : zins 5 61 = some (.invokevirtual 99) := by decide +kernel
theorem i_B_end_64 : zins 5 64 = some (.istore_n 1) := by decide +kernel
theorem i_B_end_65 : zins 5 65 = some (.iload_n 1) := by decide +kernel
theorem i_B_end_66 : zins 5 66 = some (.iconst (-1)) := by decide +kernel
theorem i_B_end_67 : zins 5 67 = some (.if_icmp .eq 16) := by decide +kernel
theorem i_B_end_70 : zins 5 70 = some (.aload_n 0) := by decide +kernel
theorem i_B_end_71 : zins 5 71 = some (.iconst 1) := by decide +kernel
theorem i_B_end_72 : zins 5 72 = some (.putfield 63) := by decide +kernel
theorem i_B_end_75 : zins 5 75 = some (.aload_n 0) := by decide +kernel
theorem i_B_end_76 : zins 5 76 = some (.iload_n 1) := by decide +kernel
theorem i_B_end_77 : zins 5 77 = some (.putfield 59) := by decide +kernel
theorem i_B_end_80 : zins 5 80 = some (.goto 36) := by decide +kernel
theorem i_B_end_83 : zins 5 83 = some (.aload_n 0) := by decide +kernel
theorem i_B_end_84 : zins 5 84 = some (.aload_n 0) := by decide +kernel
theorem i_B_end_85 : zins 5 85 = some (.getfield 19) := by decide +kernel
theorem i_B_end_88 : zins 5 88 = some (.aload_n 0) := by decide +kernel
theorem i_B_end_89 : zins 5 89 = some (.getfield 56) := by decide +kernel
theorem i_B_end_92 : zins 5 92 = some (.invokevirtual 103) := by decide +kernel
theorem i_B_end_95 : zins 5 95 = some (.putfield 59) := by decide +kernel
theorem i_B_end_98 : zins 5 98 = some (.aload_n 0) := by decide +kernel
theorem i_B_end_99 : zins 5 99 = some (.getfield 26) := by decide +kernel
theorem i_B_end_102 : zins 5 102 = some (.aload_n 0) := by decide +kernel
theorem i_B_end_103 : zins 5 103 = some (.getfield 56) := by decide +kernel
theorem i_B_end_106 : zins 5 106 = some (.invokevirtual 95) := by decide +kernel
theorem i_B_end_109 : zins 5 109 = some (.aload_n 0) := by decide +kernel
theorem i_B_end_110 : zins 5 110 = some (.getfield 59) := by decide +kernel
theorem i_B_end_113 : zins 5 113 = some (.invokevirtual 106) := by decide +kernel
theorem i_B_end_116 : zins 5 116 = some (.aload_n 0) := by decide +kernel
theorem i_B_end_117 : zins 5 117 = some (.invokevirtual 110) := by decide +kernel
theorem i_B_end_120 : zins 5 120 = some (.aload_n 0) := by decide +kernel
theorem i_B_end_121 : zins 5 121 = some (.getfield 59) := by decide +kernel
theorem i_B_end_124 : zins 5 124 = some (.invokestatic 113) := by decide +kernel
theorem i_B_end_127 : zins 5 127 = some (.ireturn) := by decide +kernel
theorem a_B_end (X : zX) (d : Nat) (h h3 : zH) (sp la : Nat) (rs rp : Int32) (hO : h.2.2 100 = some (bmO sp la rs rp)) (n0 : Nat) (g : Nat → Int32) (hC : isCh h 115 40 n0 g) (hF : h.2.2 101 = some (.inr (2, [.ref 102]))) (r : Nat) (hri : zR X (d + 10) 39 0 (zent 3 [.ref 101, .ref sp]) [] (zwr (chS h 115 40 0 g) 100 (bmO sp la rs 0)) (some (.int (nI r)), h3)) (hO3 : h3.2.2 100 = some (bmO sp la rs 0)) (hF3 : h3.2.2 101 = some (.inr (2, [.ref 102]))) (sz : Nat) (F : Nat → Int32) (hT3 : isCh h3 102 200 sz F) (u : Option Value × zH) (K : zR X (d + 11) 5 37 [some (.ref 100), none] [] (chS (zwr h3 100 (bmO sp la (nI r) 0)) 102 200 0 F) u) : zR X (d + 11) 5 0 (zent 2 [.ref 100]) [] h u := by
  have hcl := e_Chars_clear X (d + 10) h 115 40 n0 g
  rw [chS_self hC] at hcl
  have hO1 : (chS h 115 40 0 g).2.2 100 = some (bmO sp la rs rp) := (chS_ne (by decide) (by decide)).trans hO
  have hF2 : (zwr (chS h 115 40 0 g) 100 (bmO sp la rs 0)).2.2 101 = some (.inr (2, [.ref 102])) := (zwr_ne (by decide)).trans ((chS_ne (by decide) (by decide)).trans hF)
  have hT4 : isCh (zwr h3 100 (bmO sp la (nI r) 0)) 102 200 sz F := ⟨(zwr_ne (by decide)).trans hT3.1, (zwr_ne (by decide)).trans hT3.2⟩
  have hcl2 := e_Chars_clear X (d + 10) (zwr h3 100 (bmO sp la (nI r) 0)) 102 200 sz F
  rw [chS_self hT4] at hcl2
  refine zr_aload_n i_B_end_0 rfl ?_
  refine zr_getf i_B_end_1 hO rfl rfl ?_
  refine zr_cv00 i_B_end_4 rfl (by decide) (zrcv_of hC.1) (Nat.le_of_ble_eq_true rfl) (Nat.le_of_ble_eq_true rfl) hcl ?_
  refine zr_aload_n i_B_end_7 rfl ?_
  refine zr_iconst i_B_end_8 (v := 0) (by decide) ?_
  refine zr_putf i_B_end_9 hO1 rfl (Nat.le_of_ble_eq_true rfl) rfl (Or.inl rfl) ?_
  refine zr_aload_n i_B_end_12 rfl ?_
  refine zr_aload_n i_B_end_13 rfl ?_
  refine zr_getf i_B_end_14 (fs := [.ref 101, .ref 104, .ref 110, .ref 113, .ref 115, .ref 117, .ref sp, .ref la, .int rs, .int 0]) (zwr_at _ _ _) rfl rfl ?_
  refine zr_aload_n i_B_end_17 rfl ?_
  refine zr_getf i_B_end_18 (fs := [.ref 101, .ref 104, .ref 110, .ref 113, .ref 115, .ref 117, .ref sp, .ref la, .int rs, .int 0]) (zwr_at _ _ _) rfl rfl ?_
  refine zr_cv1 i_B_end_21 rfl (by decide) (zrcv_of hF2) (Nat.le_of_ble_eq_true rfl) (Nat.le_of_ble_eq_true rfl) hri ?_
  refine zr_putf i_B_end_24 hO3 rfl (Nat.le_of_ble_eq_true rfl) rfl (Or.inl rfl) ?_
  refine zr_aload_n i_B_end_27 rfl ?_
  refine zr_getf i_B_end_28 (fs := [.ref 101, .ref 104, .ref 110, .ref 113, .ref 115, .ref 117, .ref sp, .ref la, .int (nI r), .int 0]) (zwr_at _ _ _) rfl rfl ?_
  refine zr_getf i_B_end_31 ((zwr_ne (by decide)).trans hF3) rfl rfl ?_
  refine zr_cv00 i_B_end_34 rfl (by decide) (zrcv_of hT4.1) (Nat.le_of_ble_eq_true rfl) (Nat.le_of_ble_eq_true rfl) hcl2 ?_
  exact K
theorem b_B_end (X : zX) (d : Nat) (h : zH) (sp la r : Nat) (rp : Int32) (hr : r < 20) (hr0 : r ≠ 0) (hO : h.2.2 100 = some (bmO sp la (nI r) rp)) : zR X (d + 11) 5 37 [some (.ref 100), none] [] h (some (.int 2), h) := by
  refine zr_aload_n i_B_end_37 rfl ?_
  refine zr_getf i_B_end_38 hO rfl rfl ?_
  refine zN_if_eq 46 i_B_end_41 (by decide) (by omega) (fun q => absurd q hr0) (fun _ => ?_)
  refine zr_iconst i_B_end_44 (v := 2) (by decide) ?_
  exact zR.retE i_B_end_45 rfl rfl
theorem c_B_end (X : zX) (d : Nat) (h : zH) (sp la : Nat) (rp : Int32) (hO : h.2.2 100 = some (bmO sp la (nI 0) rp)) (v : Int32) (w : Int64) (cM : isLd h (fun _ => 0) (fun _ => 0) 0 ∨ True) (hMo : ∃ fs, h.2.2 sp = some (.inr (6, fs))) (hLo : ∃ fs, h.2.2 110 = some (.inr (4, fs))) (hid : zR X (d + 10) 77 0 (zent 7 [.ref sp]) [] (zwr h 100 (bmO la sp (nI 0) rp)) (some (.long w), zwr h 100 (bmO la sp (nI 0) rp))) (hre : zR X (d + 10) 64 0 (zent 4 [.ref 110, .long w]) [] (zwr h 100 (bmO la sp (nI 0) rp)) (some (.int v), zwr h 100 (bmO la sp (nI 0) rp))) (hsp : sp ≠ 100) (u : Option Value × zH) (K : zR X (d + 11) 5 65 [some (.ref 100), some (.int v)] [] (zwr h 100 (bmO la sp (nI 0) rp)) u) : zR X (d + 11) 5 37 [some (.ref 100), none] [] h u := by
  obtain ⟨fs1, hM⟩ := hMo
  obtain ⟨fs2, hL⟩ := hLo
  refine zr_aload_n i_B_end_37 rfl ?_
  refine zr_getf i_B_end_38 hO rfl rfl ?_
  refine zN_if_eq 46 i_B_end_41 (by decide) (by decide) (fun _ => ?_) (fun q => absurd rfl q)
  refine zr_aload_n i_B_end_46 rfl ?_
  refine zr_cv00 i_B_end_47 rfl (by decide) (zrcv_of hO) (Nat.le_of_ble_eq_true rfl) (Nat.le_of_ble_eq_true rfl) (e_B_makeSpareLatest X _ h sp la (nI 0) rp hO) ?_
  refine zr_aload_n i_B_end_50 rfl ?_
  refine zr_getf i_B_end_51 (fs := [.ref 101, .ref 104, .ref 110, .ref 113, .ref 115, .ref 117, .ref la, .ref sp, .int (nI 0), .int rp]) (zwr_at _ _ _) rfl rfl ?_
  refine zr_aload_n i_B_end_54 rfl ?_
  refine zr_getf i_B_end_55 (fs := [.ref 101, .ref 104, .ref 110, .ref 113, .ref 115, .ref 117, .ref la, .ref sp, .int (nI 0), .int rp]) (zwr_at _ _ _) rfl rfl ?_
  refine zr_cv0 i_B_end_58 rfl (by decide) (zrcv_of ((zwr_ne hsp).trans hM)) (Nat.le_of_ble_eq_true rfl) (Nat.le_of_ble_eq_true rfl) hid ?_
  refine zr_cv1 i_B_end_61 rfl (by decide) (zrcv_of ((zwr_ne (by decide)).trans hL)) (Nat.le_of_ble_eq_true rfl) (Nat.le_of_ble_eq_true rfl) hre ?_
  refine zr_istore_n i_B_end_64 rfl ?_
  exact K
theorem d_B_end (X : zX) (d : Nat) (h : zH) (sp la : Nat) (rs rp v : Int32) (hv : ¬ v = -1) (hO : h.2.2 100 = some (bmO sp la rs rp)) (u : Option Value × zH) (K : zR X (d + 11) 5 116 [some (.ref 100), some (.int v)] [] (zwr h 100 (bmO sp la v 1)) u) : zR X (d + 11) 5 65 [some (.ref 100), some (.int v)] [] h u := by
  refine zr_iload_n i_B_end_65 rfl ?_
  refine zr_iconst i_B_end_66 (v := (-1)) (by decide) ?_
  refine zr_icmp_eq 83 i_B_end_67 (by decide) (fun q => absurd q hv) (fun _ => ?_)
  refine zr_aload_n i_B_end_70 rfl ?_
  refine zr_iconst i_B_end_71 (v := 1) (by decide) ?_
  refine zr_putf i_B_end_72 hO rfl (Nat.le_of_ble_eq_true rfl) rfl (Or.inl rfl) ?_
  refine zr_aload_n i_B_end_75 rfl ?_
  refine zr_iload_n i_B_end_76 rfl ?_
  refine zr_putf i_B_end_77 (zwr_at _ _ _) rfl (Nat.le_of_ble_eq_true rfl) rfl (Or.inl rfl) ?_
  refine zr_goto 116 i_B_end_80 (by decide) ?_
  rw [zwr_zwr]
  exact K
theorem e_B_end (X : zX) (d : Nat) (h h7 h9 : zH) (sp la : Nat) (rs rp : Int32) (hO : h.2.2 100 = some (bmO sp la rs rp)) (r : Nat) (w : Int64) (hHo : ∃ fs, h.2.2 104 = some (.inr (3, fs))) (htk : zR X (d + 10) 46 0 (zent 6 [.ref 104, .ref la]) [] h (some (.int (nI r)), h7)) (hO7 : h7.2.2 100 = some (bmO sp la rs rp)) (hLo : ∃ fs, h7.2.2 110 = some (.inr (4, fs))) (hMo : ∃ fs, h7.2.2 la = some (.inr (6, fs))) (hla : la ≠ 100) (hid : zR X (d + 10) 77 0 (zent 7 [.ref la]) [] (zwr h7 100 (bmO sp la (nI r) rp)) (some (.long w), zwr h7 100 (bmO sp la (nI r) rp))) (had : zR X (d + 10) 65 0 (zent 4 [.ref 110, .long w, .int (nI r)]) [] (zwr h7 100 (bmO sp la (nI r) rp)) (none, h9)) (u : Option Value × zH) (K : zR X (d + 11) 5 116 [some (.ref 100), some (.int (-1))] [] h9 u) : zR X (d + 11) 5 65 [some (.ref 100), some (.int (-1))] [] h u := by
  obtain ⟨fs0, hH⟩ := hHo
  obtain ⟨fs1, hL⟩ := hLo
  obtain ⟨fs2, hM⟩ := hMo
  refine zr_iload_n i_B_end_65 rfl ?_
  refine zr_iconst i_B_end_66 (v := (-1)) (by decide) ?_
  refine zr_icmp_eq 83 i_B_end_67 (by decide) (fun _ => ?_) (fun q => absurd rfl q)
  refine zr_aload_n i_B_end_83 rfl ?_
  refine zr_aload_n i_B_end_84 rfl ?_
  refine zr_getf i_B_end_85 hO rfl rfl ?_
  refine zr_aload_n i_B_end_88 rfl ?_
  refine zr_getf i_B_end_89 hO rfl rfl ?_
  refine zr_cv1 i_B_end_92 rfl (by decide) (zrcv_of hH) (Nat.le_of_ble_eq_true rfl) (Nat.le_of_ble_eq_true rfl) htk ?_
  refine zr_putf i_B_end_95 hO7 rfl (Nat.le_of_ble_eq_true rfl) rfl (Or.inl rfl) ?_
  refine zr_aload_n i_B_end_98 rfl ?_
  refine zr_getf i_B_end_99 (fs := [.ref 101, .ref 104, .ref 110, .ref 113, .ref 115, .ref 117, .ref sp, .ref la, .int (nI r), .int rp]) (zwr_at _ _ _) rfl rfl ?_
  refine zr_aload_n i_B_end_102 rfl ?_
  refine zr_getf i_B_end_103 (fs := [.ref 101, .ref 104, .ref 110, .ref 113, .ref 115, .ref 117, .ref sp, .ref la, .int (nI r), .int rp]) (zwr_at _ _ _) rfl rfl ?_
  refine zr_cv0 i_B_end_106 rfl (by decide) (zrcv_of ((zwr_ne hla).trans hM)) (Nat.le_of_ble_eq_true rfl) (Nat.le_of_ble_eq_true rfl) hid ?_
  refine zr_aload_n i_B_end_109 rfl ?_
  refine zr_getf i_B_end_110 (fs := [.ref 101, .ref 104, .ref 110, .ref 113, .ref 115, .ref 117, .ref sp, .ref la, .int (nI r), .int rp]) (zwr_at _ _ _) rfl rfl ?_
  refine zr_cv20 i_B_end_113 rfl (by decide) (zrcv_of ((zwr_ne (by decide)).trans hL)) (Nat.le_of_ble_eq_true rfl) (Nat.le_of_ble_eq_true rfl) had ?_
  exact K
theorem f_B_end (X : zX) (d : Nat) (h h' : zH) (sp la r : Nat) (hr : r < 20) (rp : Int32) (x : Option Value) (hO : h.2.2 100 = some (bmO sp la (nI r) rp)) (hO' : h'.2.2 100 = some (bmO sp la (nI r) rp)) (hwr : zR X (d + 10) 13 0 (zent 2 [.ref 100]) [] h (none, h')) : zR X (d + 11) 5 116 [some (.ref 100), x] [] h (some (.int (nI (ansF r))), h') := by
  refine zr_aload_n i_B_end_116 rfl ?_
  refine zr_cv00 i_B_end_117 rfl (by decide) (zrcv_of hO) (Nat.le_of_ble_eq_true rfl) (Nat.le_of_ble_eq_true rfl) hwr ?_
  refine zr_aload_n i_B_end_120 rfl ?_
  refine zr_getf i_B_end_121 hO' rfl rfl ?_
  refine zr_cs1 i_B_end_124 rfl (by decide) (Nat.le_of_ble_eq_true rfl) (Nat.le_of_ble_eq_true rfl) (e_B_receiptFor X _ h' r hr) ?_
  exact zR.retE i_B_end_127 rfl rfl
