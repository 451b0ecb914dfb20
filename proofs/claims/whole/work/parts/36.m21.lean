/-! THE REFERENCE: write -/
def gvF (f : Nat → Int32) (a b c e s : Int32) : Nat → Int32 := upd (upd (upd (upd (upd f 0 a) 1 b) 2 c) 3 e) 4 s
def mgiv (ms : zMS) (f : Nat → Int32) : zMS := (ms.1, va_up ms.2 26 f)
def segW (f nm : Nat → Int32) (E : List zEn) (s : Nat) : List Int32 := (if 1 < s then [13] else []) ++ [nm (600 + 3 * s - 3), nm (600 + 3 * s - 3 + 1), nm (600 + 3 * s - 3 + 2)] ++ (if s = 1 then [f 0, f 1, f 2, f 3, f 4] else []) ++ wrE f s none E
def outW (f nm : Nat → Int32) (E : List zEn) (s k : Nat) : List Int32 := match k with
  | 0 => []
  | k + 1 => segW f nm E s ++ outW f nm E (s + 1) k
theorem i_Mod_write_0 : zins 158 0 = some (.aload_n 0) := by decide +kernel
theorem i_Mod_write_1 : zins 158 1 = some (.getfield 87) := by decide +kernel
theorem i_Mod_write_4 : zins 158 4 = some (.iconst 0) := by decide +kernel
theorem i_Mod_write_5 : zins 158 5 = some (.iload_n 1) := by decide +kernel
theorem i_Mod_write_6 : zins 158 6 = some (.castore) := by decide +kernel
theorem i_Mod_write_7 : zins 158 7 = some (.aload_n 0) := by decide +kernel
theorem i_Mod_write_8 : zins 158 8 = some (.getfield 87) := by decide +kernel
theorem i_Mod_write_11 : zins 158 11 = some (.iconst 1) := by decide +kernel
theorem i_Mod_write_12 : zins 158 12 = some (.iload_n 2) := by decide +kernel
theorem i_Mod_write_13 : zins 158 13 = some (.castore) := by decide +kernel
theorem i_Mod_write_14 : zins 158 14 = some (.aload_n 0) := by decide +kernel
theorem i_Mod_write_15 : zins 158 15 = some (.getfield 87) := by decide +kernel
theorem i_Mod_write_18 : zins 158 18 = some (.iconst 2) := by decide +kernel
theorem i_Mod_write_19 : zins 158 19 = some (.iload_n 3) := by decide +kernel
theorem i_Mod_write_20 : zins 158 20 = some (.castore) := by decide +kernel
theorem i_Mod_write_21 : zins 158 21 = some (.aload_n 0) := by decide +kernel
theorem i_Mod_write_22 : zins 158 22 = some (.getfield 87) := by decide +kernel
theorem i_Mod_write_25 : zins 158 25 = some (.iconst 3) := by decide +kernel
theorem i_Mod_write_26 : zins 158 26 = some (.iload 4) := by decide +kernel
theorem i_Mod_write_28 : zins 158 28 = some (.castore) := by decide +kernel
theorem i_Mod_write_29 : zins 158 29 = some (.aload_n 0) := by decide +kernel
theorem i_Mod_write_30 : zins 158 30 = some (.getfield 87) := by decide +kernel
theorem i_Mod_write_33 : zins 158 33 = some (.iconst 4) := by decide +kernel
theorem i_Mod_write_34 : zins 158 34 = some (.iload 5) := by decide +kernel
theorem i_Mod_write_36 : zins 158 36 = some (.castore) := by decide +kernel
theorem i_Mod_write_37 : zins 158 37 = some (.aload_n 0) := by decide +kernel
theorem i_Mod_write_38 : zins 158 38 = some (.getfield 13) := by decide +kernel
theorem i_Mod_write_41 : zins 158 41 = some (.iconst 1) := by decide +kernel
theorem i_Mod_write_42 : zins 158 42 = some (.iaload) := by decide +kernel
theorem i_Mod_write_43 : zins 158 43 = some (.ifCond .eq 13) := by decide +kernel
theorem i_Mod_write_46 : zins 158 46 = some (.aload_n 0) := by decide +kernel
theorem i_Mod_write_47 : zins 158 47 = some (.getfield 87) := by decide +kernel
theorem i_Mod_write_50 : zins 158 50 = some (.invokestatic 119) := by decide +kernel
theorem i_Mod_write_53 : zins 158 53 = some (.ifCond .ne 5) := by decide +kernel
theorem i_Mod_write_56 : zins 158 56 = some (.iconst (-1)) := by decide +kernel
theorem i_Mod_write_57 : zins 158 57 = some (.ireturn) := by decide +kernel
theorem i_Mod_write_58 : zins 158 58 = some (.aload_n 0) := by decide +kernel
theorem i_Mod_write_59 : zins 158 59 = some (.iconst 0) := by decide +kernel
theorem i_Mod_write_60 : zins 158 60 = some (.putfield 279) := by decide +kernel
theorem i_Mod_write_63 : zins 158 63 = some (.iconst 1) := by decide +kernel
theorem i_Mod_write_64 : zins 158 64 = some (.istore 6) := by decide +kernel
theorem i_Mod_write_66 : zins 158 66 = some (.iload 6) := by decide +kernel
theorem i_Mod_write_68 : zins 158 68 = some (.aload_n 0) := by decide +kernel
theorem i_Mod_write_69 : zins 158 69 = some (.getfield 13) := by decide +kernel
theorem i_Mod_write_72 : zins 158 72 = some (.iconst 1) := by decide +kernel
theorem i_Mod_write_73 : zins 158 73 = some (.iaload) := by decide +kernel
theorem i_Mod_write_74 : zins 158 74 = some (.if_icmp .gt 96) := by decide +kernel
theorem i_Mod_write_77 : zins 158 77 = some (.iload 6) := by decide +kernel
theorem i_Mod_write_79 : zins 158 79 = some (.iconst 1) := by decide +kernel
theorem i_Mod_write_80 : zins 158 80 = some (.if_icmp .le 9) := by decide +kernel
theorem i_Mod_write_83 : zins 158 83 = some (.aload_n 0) := by decide +kernel
theorem i_Mod_write_84 : zins 158 84 = some (.bipush 13) := by decide +kernel
theorem i_Mod_write_86 : zins 158 86 = some (.invokevirtual 282) := by decide +kernel
theorem i_Mod_write_89 : zins 158 89 = some (.iconst 0) := by decide +kernel
theorem i_Mod_write_90 : zins 158 90 = some (.istore 7) := by decide +kernel
theorem i_Mod_write_92 : zins 158 92 = some (.iload 7) := by decide +kernel
theorem i_Mod_write_94 : zins 158 94 = some (.iconst 3) := by decide +kernel
theorem i_Mod_write_95 : zins 158 95 = some (.if_icmp .ge 31) := by decide +kernel
theorem i_Mod_write_98 : zins 158 98 = some (.aload_n 0) := by decide +kernel
theorem i_Mod_write_99 : zins 158 99 = some (.aload_n 0) := by decide +kernel
theorem i_Mod_write_100 : zins 158 100 = some (.getfield 47) := by decide +kernel
theorem i_Mod_write_103 : zins 158 103 = some (.sipush 600) := by decide +kernel
theorem i_Mod_write_106 : zins 158 106 = some (.iconst 3) := by decide +kernel
theorem i_Mod_write_107 : zins 158 107 = some (.iload 6) := by decide +kernel
theorem i_Mod_write_109 : zins 158 109 = some (.imul) := by decide +kernel
theorem i_Mod_write_110 : zins 158 110 = some (.iadd) := by decide +kernel
theorem i_Mod_write_111 : zins 158 111 = some (.iconst 3) := by decide +kernel
theorem i_Mod_write_112 : zins 158 112 = some (.isub) := by decide +kernel
theorem i_Mod_write_113 : zins 158 113 = some (.iload 7) := by decide +kernel
theorem i_Mod_write_115 : zins 158 115 = some (.iadd) := by decide +kernel
theorem i_Mod_write_116 : zins 158 116 = some (.caload) := by decide +kernel
theorem i_Mod_write_117 : zins 158 117 = some (.invokevirtual 282) := by decide +kernel
theorem i_Mod_write_120 : zins 158 120 = some (.iinc 7 1) := by decide +kernel
theorem i_Mod_write_123 : zins 158 123 = some (.goto (-31)) := by decide +kernel
theorem i_Mod_write_126 : zins 158 126 = some (.iconst 0) := by decide +kernel
theorem i_Mod_write_127 : zins 158 127 = some (.istore 7) := by decide +kernel
theorem i_Mod_write_129 : zins 158 129 = some (.iload 7) := by decide +kernel
theorem i_Mod_write_131 : zins 158 131 = some (.iconst 5) := by decide +kernel
theorem i_Mod_write_132 : zins 158 132 = some (.if_icmp .ge 26) := by decide +kernel
theorem i_Mod_write_135 : zins 158 135 = some (.iload 6) := by decide +kernel
theorem i_Mod_write_137 : zins 158 137 = some (.iconst 1) := by decide +kernel
theorem i_Mod_write_138 : zins 158 138 = some (.if_icmp .ne 20) := by decide +kernel
theorem i_Mod_write_141 : zins 158 141 = some (.aload_n 0) := by decide +kernel
theorem i_Mod_write_142 : zins 158 142 = some (.aload_n 0) := by decide +kernel
theorem i_Mod_write_143 : zins 158 143 = some (.getfield 87) := by decide +kernel
theorem i_Mod_write_146 : zins 158 146 = some (.iload 7) := by decide +kernel
theorem i_Mod_write_148 : zins 158 148 = some (.caload) := by decide +kernel
theorem i_Mod_write_149 : zins 158 149 = some (.invokevirtual 282) := by decide +kernel
theorem i_Mod_write_152 : zins 158 152 = some (.iinc 7 1) := by decide +kernel
theorem i_Mod_write_155 : zins 158 155 = some (.goto (-26)) := by decide +kernel
theorem i_Mod_write_158 : zins 158 158 = some (.aload_n 0) := by decide +kernel
theorem i_Mod_write_159 : zins 158 159 = some (.iload 6) := by decide +kernel
theorem i_Mod_write_161 : zins 158 161 = some (.invokevirtual 288) := by decide +kernel
theorem i_Mod_write_164 : zins 158 164 = some (.iinc 6 1) := by decide +kernel
theorem i_Mod_write_167 : zins 158 167 = some (.goto (-101)) := by decide +kernel
theorem i_Mod_write_170 : zins 158 170 = some (.aload_n 0) := by decide +kernel
theorem i_Mod_write_171 : zins 158 171 = some (.getfield 279) := by decide +kernel
theorem i_Mod_write_174 : zins 158 174 = some (.ireturn) := by decide +kernel
theorem l_Mod_write (X : zX) (d : Nat) (g : zH) (ms : zMS) (E : List zEn) (hT : mTB ms E) (hG : ∀ k, k < 5 → zch (ms.2 26 k)) (sg : Nat) (hsg : ms.2 2 1 = nI sg) (hsl : sg ≤ 190) (hNm : ∀ i, i < 1200 → zch (ms.2 13 i)) (a b c e u : Int32) : ∀ (k s : Nat) (l : List Int32) (x : Option Value), s + k = sg + 1 → 1 ≤ s → (l ++ outW (ms.2 26) (ms.2 13) E s k).length ≤ 780 → zR X (d + 4) 158 66 [some (.ref 129), some (.int a), some (.int b), some (.int c), some (.int e), some (.int u), some (.int (nI s)), x] [] (mset g (mwr ms l)) (some (.int (nI (l ++ outW (ms.2 26) (ms.2 13) E s k).length)), mset g (mwr ms (l ++ outW (ms.2 26) (ms.2 13) E s k))) := by
  intro k
  induction k with
  | zero =>
    intro s l x hik h1 hl
    refine zr_iload i_Mod_write_66 rfl ?_
    refine zr_aload_n i_Mod_write_68 rfl ?_
    refine zr_getf i_Mod_write_69 rfl rfl rfl ?_
    refine zn_iconst 1 i_Mod_write_72 (by decide) ?_
    refine zn_iaload i_Mod_write_73 rfl (by omega) (by decide) ?_
    refine zr_top (y := nI sg) hsg ?_
    refine zn_icmp_gt 170 i_Mod_write_74 (by decide) (by omega) (by omega) (fun c_74 => ?_) (fun q => absurd q (by omega))
    refine zr_aload_n i_Mod_write_170 rfl ?_
    refine zr_getf i_Mod_write_171 rfl rfl rfl ?_
    exact zR.retE i_Mod_write_174 rfl (by rw [outW, List.append_nil]; rfl)
  | succ k ih =>
    intro s l x hik h1 hl
    have hl4 : (l ++ segW (ms.2 26) (ms.2 13) E s ++ outW (ms.2 26) (ms.2 13) E (s + 1) k).length ≤ 780 := by
      rw [outW, ← List.append_assoc] at hl; exact hl
    have hl5 : l.length + (segW (ms.2 26) (ms.2 13) E s).length ≤ 780 := by
      rw [List.length_append, List.length_append] at hl4; omega
    by_cases hs1 : s = 1
    · subst hs1
      have hl6 : l.length + 8 + (wrE (ms.2 26) 1 none E).length ≤ 780 := by
        simp [segW] at hl5; omega
      refine zr_iload i_Mod_write_66 rfl ?_
      refine zr_aload_n i_Mod_write_68 rfl ?_
      refine zr_getf i_Mod_write_69 rfl rfl rfl ?_
      refine zn_iconst 1 i_Mod_write_72 (by decide) ?_
      refine zn_iaload i_Mod_write_73 rfl (by omega) (by decide) ?_
      refine zr_top (y := nI sg) hsg ?_
      refine zn_icmp_gt 170 i_Mod_write_74 (by decide) (by omega) (by omega) (fun q => absurd q (by omega)) (fun c_74 => ?_)
      refine zr_iload i_Mod_write_77 rfl ?_
      refine zn_iconst 1 i_Mod_write_79 (by decide) ?_
      refine zr_icmp_le 89 i_Mod_write_80 (by decide) (fun _ => ?_) (fun q => absurd q (by decide))
      refine zn_iconst 0 i_Mod_write_89 (by decide) ?_
      refine zr_istore i_Mod_write_90 rfl ?_
      refine zr_iload i_Mod_write_92 rfl ?_
      refine zn_iconst 3 i_Mod_write_94 (by decide) ?_
      refine zr_icmp_ge 126 i_Mod_write_95 (by decide) (fun q => absurd q (by decide)) (fun _ => ?_)
      refine zr_aload_n i_Mod_write_98 rfl ?_
      refine zr_aload_n i_Mod_write_99 rfl ?_
      refine zr_getf i_Mod_write_100 rfl rfl rfl ?_
      refine zn_sipush 600 i_Mod_write_103 (by decide) ?_
      refine zn_iconst 3 i_Mod_write_106 (by decide) ?_
      refine zr_iload i_Mod_write_107 rfl ?_
      refine zn_imul i_Mod_write_109 ?_
      refine zn_iadd i_Mod_write_110 ?_
      refine zn_iconst 3 i_Mod_write_111 (by decide) ?_
      refine zn_isub i_Mod_write_112 (by omega) ?_
      refine zr_iload i_Mod_write_113 rfl ?_
      refine zn_iadd i_Mod_write_115 ?_
      refine zn_caload i_Mod_write_116 rfl (by omega) (by decide) ?_
      refine zr_cv10 i_Mod_write_117 rfl (by decide) rfl (Nat.le_of_ble_eq_true rfl) (Nat.le_of_ble_eq_true rfl) (e_Mod_put X _ g ms l (by first | omega | (simp <;> omega)) (ms.2 13 (600 + 3 * 1 - 3 + 0)) (hNm _ (by omega))) ?_
      refine zn_iinc i_Mod_write_120 rfl rfl ?_
      refine zr_goto 92 i_Mod_write_123 (by decide) ?_
      refine zr_iload i_Mod_write_92 rfl ?_
      refine zn_iconst 3 i_Mod_write_94 (by decide) ?_
      refine zr_icmp_ge 126 i_Mod_write_95 (by decide) (fun q => absurd q (by decide)) (fun _ => ?_)
      refine zr_aload_n i_Mod_write_98 rfl ?_
      refine zr_aload_n i_Mod_write_99 rfl ?_
      refine zr_getf i_Mod_write_100 rfl rfl rfl ?_
      refine zn_sipush 600 i_Mod_write_103 (by decide) ?_
      refine zn_iconst 3 i_Mod_write_106 (by decide) ?_
      refine zr_iload i_Mod_write_107 rfl ?_
      refine zn_imul i_Mod_write_109 ?_
      refine zn_iadd i_Mod_write_110 ?_
      refine zn_iconst 3 i_Mod_write_111 (by decide) ?_
      refine zn_isub i_Mod_write_112 (by omega) ?_
      refine zr_iload i_Mod_write_113 rfl ?_
      refine zn_iadd i_Mod_write_115 ?_
      refine zn_caload i_Mod_write_116 rfl (by omega) (by decide) ?_
      refine zr_cv10 i_Mod_write_117 rfl (by decide) rfl (Nat.le_of_ble_eq_true rfl) (Nat.le_of_ble_eq_true rfl) (e_Mod_put X _ g ms (l ++ [(ms.2 13 (600 + 3 * 1 - 3 + 0))]) (by first | omega | (simp <;> omega)) (ms.2 13 (600 + 3 * 1 - 3 + 1)) (hNm _ (by omega))) ?_
      refine zn_iinc i_Mod_write_120 rfl rfl ?_
      refine zr_goto 92 i_Mod_write_123 (by decide) ?_
      refine zr_iload i_Mod_write_92 rfl ?_
      refine zn_iconst 3 i_Mod_write_94 (by decide) ?_
      refine zr_icmp_ge 126 i_Mod_write_95 (by decide) (fun q => absurd q (by decide)) (fun _ => ?_)
      refine zr_aload_n i_Mod_write_98 rfl ?_
      refine zr_aload_n i_Mod_write_99 rfl ?_
      refine zr_getf i_Mod_write_100 rfl rfl rfl ?_
      refine zn_sipush 600 i_Mod_write_103 (by decide) ?_
      refine zn_iconst 3 i_Mod_write_106 (by decide) ?_
      refine zr_iload i_Mod_write_107 rfl ?_
      refine zn_imul i_Mod_write_109 ?_
      refine zn_iadd i_Mod_write_110 ?_
      refine zn_iconst 3 i_Mod_write_111 (by decide) ?_
      refine zn_isub i_Mod_write_112 (by omega) ?_
      refine zr_iload i_Mod_write_113 rfl ?_
      refine zn_iadd i_Mod_write_115 ?_
      refine zn_caload i_Mod_write_116 rfl (by omega) (by decide) ?_
      refine zr_cv10 i_Mod_write_117 rfl (by decide) rfl (Nat.le_of_ble_eq_true rfl) (Nat.le_of_ble_eq_true rfl) (e_Mod_put X _ g ms ((l ++ [(ms.2 13 (600 + 3 * 1 - 3 + 0))]) ++ [(ms.2 13 (600 + 3 * 1 - 3 + 1))]) (by first | omega | (simp <;> omega)) (ms.2 13 (600 + 3 * 1 - 3 + 2)) (hNm _ (by omega))) ?_
      refine zn_iinc i_Mod_write_120 rfl rfl ?_
      refine zr_goto 92 i_Mod_write_123 (by decide) ?_
      refine zr_iload i_Mod_write_92 rfl ?_
      refine zn_iconst 3 i_Mod_write_94 (by decide) ?_
      refine zr_icmp_ge 126 i_Mod_write_95 (by decide) (fun _ => ?_) (fun q => absurd q (by decide))
      refine zn_iconst 0 i_Mod_write_126 (by decide) ?_
      refine zr_istore i_Mod_write_127 rfl ?_
      refine zr_iload i_Mod_write_129 rfl ?_
      refine zn_iconst 5 i_Mod_write_131 (by decide) ?_
      refine zr_icmp_ge 158 i_Mod_write_132 (by decide) (fun q => absurd q (by decide)) (fun _ => ?_)
      refine zr_iload i_Mod_write_135 rfl ?_
      refine zn_iconst 1 i_Mod_write_137 (by decide) ?_
      refine zr_icmp_ne 158 i_Mod_write_138 (by decide) (fun q => absurd q (by decide)) (fun _ => ?_)
      refine zr_aload_n i_Mod_write_141 rfl ?_
      refine zr_aload_n i_Mod_write_142 rfl ?_
      refine zr_getf i_Mod_write_143 rfl rfl rfl ?_
      refine zr_iload i_Mod_write_146 rfl ?_
      refine zn_caload i_Mod_write_148 rfl (by omega) (by decide) ?_
      refine zr_cv10 i_Mod_write_149 rfl (by decide) rfl (Nat.le_of_ble_eq_true rfl) (Nat.le_of_ble_eq_true rfl) (e_Mod_put X _ g ms (((l ++ [(ms.2 13 (600 + 3 * 1 - 3 + 0))]) ++ [(ms.2 13 (600 + 3 * 1 - 3 + 1))]) ++ [(ms.2 13 (600 + 3 * 1 - 3 + 2))]) (by first | omega | (simp <;> omega)) (ms.2 26 0) (hG _ (by decide))) ?_
      refine zn_iinc i_Mod_write_152 rfl rfl ?_
      refine zr_goto 129 i_Mod_write_155 (by decide) ?_
      refine zr_iload i_Mod_write_129 rfl ?_
      refine zn_iconst 5 i_Mod_write_131 (by decide) ?_
      refine zr_icmp_ge 158 i_Mod_write_132 (by decide) (fun q => absurd q (by decide)) (fun _ => ?_)
      refine zr_iload i_Mod_write_135 rfl ?_
      refine zn_iconst 1 i_Mod_write_137 (by decide) ?_
      refine zr_icmp_ne 158 i_Mod_write_138 (by decide) (fun q => absurd q (by decide)) (fun _ => ?_)
      refine zr_aload_n i_Mod_write_141 rfl ?_
      refine zr_aload_n i_Mod_write_142 rfl ?_
      refine zr_getf i_Mod_write_143 rfl rfl rfl ?_
      refine zr_iload i_Mod_write_146 rfl ?_
      refine zn_caload i_Mod_write_148 rfl (by omega) (by decide) ?_
      refine zr_cv10 i_Mod_write_149 rfl (by decide) rfl (Nat.le_of_ble_eq_true rfl) (Nat.le_of_ble_eq_true rfl) (e_Mod_put X _ g ms ((((l ++ [(ms.2 13 (600 + 3 * 1 - 3 + 0))]) ++ [(ms.2 13 (600 + 3 * 1 - 3 + 1))]) ++ [(ms.2 13 (600 + 3 * 1 - 3 + 2))]) ++ [(ms.2 26 0)]) (by first | omega | (simp <;> omega)) (ms.2 26 1) (hG _ (by decide))) ?_
      refine zn_iinc i_Mod_write_152 rfl rfl ?_
      refine zr_goto 129 i_Mod_write_155 (by decide) ?_
      refine zr_iload i_Mod_write_129 rfl ?_
      refine zn_iconst 5 i_Mod_write_131 (by decide) ?_
      refine zr_icmp_ge 158 i_Mod_write_132 (by decide) (fun q => absurd q (by decide)) (fun _ => ?_)
      refine zr_iload i_Mod_write_135 rfl ?_
      refine zn_iconst 1 i_Mod_write_137 (by decide) ?_
      refine zr_icmp_ne 158 i_Mod_write_138 (by decide) (fun q => absurd q (by decide)) (fun _ => ?_)
      refine zr_aload_n i_Mod_write_141 rfl ?_
      refine zr_aload_n i_Mod_write_142 rfl ?_
      refine zr_getf i_Mod_write_143 rfl rfl rfl ?_
      refine zr_iload i_Mod_write_146 rfl ?_
      refine zn_caload i_Mod_write_148 rfl (by omega) (by decide) ?_
      refine zr_cv10 i_Mod_write_149 rfl (by decide) rfl (Nat.le_of_ble_eq_true rfl) (Nat.le_of_ble_eq_true rfl) (e_Mod_put X _ g ms (((((l ++ [(ms.2 13 (600 + 3 * 1 - 3 + 0))]) ++ [(ms.2 13 (600 + 3 * 1 - 3 + 1))]) ++ [(ms.2 13 (600 + 3 * 1 - 3 + 2))]) ++ [(ms.2 26 0)]) ++ [(ms.2 26 1)]) (by first | omega | (simp <;> omega)) (ms.2 26 2) (hG _ (by decide))) ?_
      refine zn_iinc i_Mod_write_152 rfl rfl ?_
      refine zr_goto 129 i_Mod_write_155 (by decide) ?_
      refine zr_iload i_Mod_write_129 rfl ?_
      refine zn_iconst 5 i_Mod_write_131 (by decide) ?_
      refine zr_icmp_ge 158 i_Mod_write_132 (by decide) (fun q => absurd q (by decide)) (fun _ => ?_)
      refine zr_iload i_Mod_write_135 rfl ?_
      refine zn_iconst 1 i_Mod_write_137 (by decide) ?_
      refine zr_icmp_ne 158 i_Mod_write_138 (by decide) (fun q => absurd q (by decide)) (fun _ => ?_)
      refine zr_aload_n i_Mod_write_141 rfl ?_
      refine zr_aload_n i_Mod_write_142 rfl ?_
      refine zr_getf i_Mod_write_143 rfl rfl rfl ?_
      refine zr_iload i_Mod_write_146 rfl ?_
      refine zn_caload i_Mod_write_148 rfl (by omega) (by decide) ?_
      refine zr_cv10 i_Mod_write_149 rfl (by decide) rfl (Nat.le_of_ble_eq_true rfl) (Nat.le_of_ble_eq_true rfl) (e_Mod_put X _ g ms ((((((l ++ [(ms.2 13 (600 + 3 * 1 - 3 + 0))]) ++ [(ms.2 13 (600 + 3 * 1 - 3 + 1))]) ++ [(ms.2 13 (600 + 3 * 1 - 3 + 2))]) ++ [(ms.2 26 0)]) ++ [(ms.2 26 1)]) ++ [(ms.2 26 2)]) (by first | omega | (simp <;> omega)) (ms.2 26 3) (hG _ (by decide))) ?_
      refine zn_iinc i_Mod_write_152 rfl rfl ?_
      refine zr_goto 129 i_Mod_write_155 (by decide) ?_
      refine zr_iload i_Mod_write_129 rfl ?_
      refine zn_iconst 5 i_Mod_write_131 (by decide) ?_
      refine zr_icmp_ge 158 i_Mod_write_132 (by decide) (fun q => absurd q (by decide)) (fun _ => ?_)
      refine zr_iload i_Mod_write_135 rfl ?_
      refine zn_iconst 1 i_Mod_write_137 (by decide) ?_
      refine zr_icmp_ne 158 i_Mod_write_138 (by decide) (fun q => absurd q (by decide)) (fun _ => ?_)
      refine zr_aload_n i_Mod_write_141 rfl ?_
      refine zr_aload_n i_Mod_write_142 rfl ?_
      refine zr_getf i_Mod_write_143 rfl rfl rfl ?_
      refine zr_iload i_Mod_write_146 rfl ?_
      refine zn_caload i_Mod_write_148 rfl (by omega) (by decide) ?_
      refine zr_cv10 i_Mod_write_149 rfl (by decide) rfl (Nat.le_of_ble_eq_true rfl) (Nat.le_of_ble_eq_true rfl) (e_Mod_put X _ g ms (((((((l ++ [(ms.2 13 (600 + 3 * 1 - 3 + 0))]) ++ [(ms.2 13 (600 + 3 * 1 - 3 + 1))]) ++ [(ms.2 13 (600 + 3 * 1 - 3 + 2))]) ++ [(ms.2 26 0)]) ++ [(ms.2 26 1)]) ++ [(ms.2 26 2)]) ++ [(ms.2 26 3)]) (by first | omega | (simp <;> omega)) (ms.2 26 4) (hG _ (by decide))) ?_
      refine zn_iinc i_Mod_write_152 rfl rfl ?_
      refine zr_goto 129 i_Mod_write_155 (by decide) ?_
      refine zr_iload i_Mod_write_129 rfl ?_
      refine zn_iconst 5 i_Mod_write_131 (by decide) ?_
      refine zr_icmp_ge 158 i_Mod_write_132 (by decide) (fun _ => ?_) (fun q => absurd q (by decide))
      refine zr_aload_n i_Mod_write_158 rfl ?_
      refine zr_iload i_Mod_write_159 rfl ?_
      refine zr_cv10 i_Mod_write_161 rfl (by decide) rfl (Nat.le_of_ble_eq_true rfl) (Nat.le_of_ble_eq_true rfl) (e_Mod_putSegment X _ g ms hG E hT 1 ((((((((l ++ [(ms.2 13 (600 + 3 * 1 - 3 + 0))]) ++ [(ms.2 13 (600 + 3 * 1 - 3 + 1))]) ++ [(ms.2 13 (600 + 3 * 1 - 3 + 2))]) ++ [(ms.2 26 0)]) ++ [(ms.2 26 1)]) ++ [(ms.2 26 2)]) ++ [(ms.2 26 3)]) ++ [(ms.2 26 4)]) (by first | omega | (simp <;> omega))) ?_
      refine zn_iinc i_Mod_write_164 rfl rfl ?_
      refine zr_goto 66 i_Mod_write_167 (by decide) ?_
      (have hn := ih (1 + 1) (l ++ segW (ms.2 26) (ms.2 13) E 1) (some (.int (nI (0 + 1 + 1 + 1 + 1 + 1)))) (by omega) (by omega) hl4
       rw [outW, ← List.append_assoc]
       rw [show l ++ segW (ms.2 26) (ms.2 13) E 1 = (((((((((l ++ [(ms.2 13 (600 + 3 * 1 - 3 + 0))]) ++ [(ms.2 13 (600 + 3 * 1 - 3 + 1))]) ++ [(ms.2 13 (600 + 3 * 1 - 3 + 2))]) ++ [(ms.2 26 0)]) ++ [(ms.2 26 1)]) ++ [(ms.2 26 2)]) ++ [(ms.2 26 3)]) ++ [(ms.2 26 4)]) ++ wrE (ms.2 26) 1 none E) by simp [segW, *]] at hn ⊢
       exact hn)
    · have hl6 : l.length + 4 + (wrE (ms.2 26) s none E).length ≤ 780 := by
        rw [segW, if_pos (by omega), if_neg hs1] at hl5
        simp at hl5; omega
      have hs2 : 1 < s := by omega
      refine zr_iload i_Mod_write_66 rfl ?_
      refine zr_aload_n i_Mod_write_68 rfl ?_
      refine zr_getf i_Mod_write_69 rfl rfl rfl ?_
      refine zn_iconst 1 i_Mod_write_72 (by decide) ?_
      refine zn_iaload i_Mod_write_73 rfl (by omega) (by decide) ?_
      refine zr_top (y := nI sg) hsg ?_
      refine zn_icmp_gt 170 i_Mod_write_74 (by decide) (by omega) (by omega) (fun q => absurd q (by omega)) (fun c_74 => ?_)
      refine zr_iload i_Mod_write_77 rfl ?_
      refine zn_iconst 1 i_Mod_write_79 (by decide) ?_
      refine zn_icmp_le 89 i_Mod_write_80 (by decide) (by omega) (by omega) (fun q => absurd q (by omega)) (fun c_80 => ?_)
      refine zr_aload_n i_Mod_write_83 rfl ?_
      refine zr_bipush i_Mod_write_84 (v := 13) (by decide) ?_
      refine zr_cv10 i_Mod_write_86 rfl (by decide) rfl (Nat.le_of_ble_eq_true rfl) (Nat.le_of_ble_eq_true rfl) (e_Mod_put X _ g ms l (by first | omega | (simp <;> omega)) (13) (by unfold zch; decide)) ?_
      refine zn_iconst 0 i_Mod_write_89 (by decide) ?_
      refine zr_istore i_Mod_write_90 rfl ?_
      refine zr_iload i_Mod_write_92 rfl ?_
      refine zn_iconst 3 i_Mod_write_94 (by decide) ?_
      refine zr_icmp_ge 126 i_Mod_write_95 (by decide) (fun q => absurd q (by decide)) (fun _ => ?_)
      refine zr_aload_n i_Mod_write_98 rfl ?_
      refine zr_aload_n i_Mod_write_99 rfl ?_
      refine zr_getf i_Mod_write_100 rfl rfl rfl ?_
      refine zn_sipush 600 i_Mod_write_103 (by decide) ?_
      refine zn_iconst 3 i_Mod_write_106 (by decide) ?_
      refine zr_iload i_Mod_write_107 rfl ?_
      refine zn_imul i_Mod_write_109 ?_
      refine zn_iadd i_Mod_write_110 ?_
      refine zn_iconst 3 i_Mod_write_111 (by decide) ?_
      refine zn_isub i_Mod_write_112 (by omega) ?_
      refine zr_iload i_Mod_write_113 rfl ?_
      refine zn_iadd i_Mod_write_115 ?_
      refine zn_caload i_Mod_write_116 rfl (by omega) (by decide) ?_
      refine zr_cv10 i_Mod_write_117 rfl (by decide) rfl (Nat.le_of_ble_eq_true rfl) (Nat.le_of_ble_eq_true rfl) (e_Mod_put X _ g ms (l ++ [(13)]) (by first | omega | (simp <;> omega)) (ms.2 13 (600 + 3 * s - 3 + 0)) (hNm _ (by omega))) ?_
      refine zn_iinc i_Mod_write_120 rfl rfl ?_
      refine zr_goto 92 i_Mod_write_123 (by decide) ?_
      refine zr_iload i_Mod_write_92 rfl ?_
      refine zn_iconst 3 i_Mod_write_94 (by decide) ?_
      refine zr_icmp_ge 126 i_Mod_write_95 (by decide) (fun q => absurd q (by decide)) (fun _ => ?_)
      refine zr_aload_n i_Mod_write_98 rfl ?_
      refine zr_aload_n i_Mod_write_99 rfl ?_
      refine zr_getf i_Mod_write_100 rfl rfl rfl ?_
      refine zn_sipush 600 i_Mod_write_103 (by decide) ?_
      refine zn_iconst 3 i_Mod_write_106 (by decide) ?_
      refine zr_iload i_Mod_write_107 rfl ?_
      refine zn_imul i_Mod_write_109 ?_
      refine zn_iadd i_Mod_write_110 ?_
      refine zn_iconst 3 i_Mod_write_111 (by decide) ?_
      refine zn_isub i_Mod_write_112 (by omega) ?_
      refine zr_iload i_Mod_write_113 rfl ?_
      refine zn_iadd i_Mod_write_115 ?_
      refine zn_caload i_Mod_write_116 rfl (by omega) (by decide) ?_
      refine zr_cv10 i_Mod_write_117 rfl (by decide) rfl (Nat.le_of_ble_eq_true rfl) (Nat.le_of_ble_eq_true rfl) (e_Mod_put X _ g ms ((l ++ [(13)]) ++ [(ms.2 13 (600 + 3 * s - 3 + 0))]) (by first | omega | (simp <;> omega)) (ms.2 13 (600 + 3 * s - 3 + 1)) (hNm _ (by omega))) ?_
      refine zn_iinc i_Mod_write_120 rfl rfl ?_
      refine zr_goto 92 i_Mod_write_123 (by decide) ?_
      refine zr_iload i_Mod_write_92 rfl ?_
      refine zn_iconst 3 i_Mod_write_94 (by decide) ?_
      refine zr_icmp_ge 126 i_Mod_write_95 (by decide) (fun q => absurd q (by decide)) (fun _ => ?_)
      refine zr_aload_n i_Mod_write_98 rfl ?_
      refine zr_aload_n i_Mod_write_99 rfl ?_
      refine zr_getf i_Mod_write_100 rfl rfl rfl ?_
      refine zn_sipush 600 i_Mod_write_103 (by decide) ?_
      refine zn_iconst 3 i_Mod_write_106 (by decide) ?_
      refine zr_iload i_Mod_write_107 rfl ?_
      refine zn_imul i_Mod_write_109 ?_
      refine zn_iadd i_Mod_write_110 ?_
      refine zn_iconst 3 i_Mod_write_111 (by decide) ?_
      refine zn_isub i_Mod_write_112 (by omega) ?_
      refine zr_iload i_Mod_write_113 rfl ?_
      refine zn_iadd i_Mod_write_115 ?_
      refine zn_caload i_Mod_write_116 rfl (by omega) (by decide) ?_
      refine zr_cv10 i_Mod_write_117 rfl (by decide) rfl (Nat.le_of_ble_eq_true rfl) (Nat.le_of_ble_eq_true rfl) (e_Mod_put X _ g ms (((l ++ [(13)]) ++ [(ms.2 13 (600 + 3 * s - 3 + 0))]) ++ [(ms.2 13 (600 + 3 * s - 3 + 1))]) (by first | omega | (simp <;> omega)) (ms.2 13 (600 + 3 * s - 3 + 2)) (hNm _ (by omega))) ?_
      refine zn_iinc i_Mod_write_120 rfl rfl ?_
      refine zr_goto 92 i_Mod_write_123 (by decide) ?_
      refine zr_iload i_Mod_write_92 rfl ?_
      refine zn_iconst 3 i_Mod_write_94 (by decide) ?_
      refine zr_icmp_ge 126 i_Mod_write_95 (by decide) (fun _ => ?_) (fun q => absurd q (by decide))
      refine zn_iconst 0 i_Mod_write_126 (by decide) ?_
      refine zr_istore i_Mod_write_127 rfl ?_
      refine zr_iload i_Mod_write_129 rfl ?_
      refine zn_iconst 5 i_Mod_write_131 (by decide) ?_
      refine zr_icmp_ge 158 i_Mod_write_132 (by decide) (fun q => absurd q (by decide)) (fun _ => ?_)
      refine zr_iload i_Mod_write_135 rfl ?_
      refine zn_iconst 1 i_Mod_write_137 (by decide) ?_
      refine zn_icmp_ne 158 i_Mod_write_138 (by decide) (by omega) (by omega) (fun c_138 => ?_) (fun q => absurd q (by omega))
      refine zr_aload_n i_Mod_write_158 rfl ?_
      refine zr_iload i_Mod_write_159 rfl ?_
      refine zr_cv10 i_Mod_write_161 rfl (by decide) rfl (Nat.le_of_ble_eq_true rfl) (Nat.le_of_ble_eq_true rfl) (e_Mod_putSegment X _ g ms hG E hT s ((((l ++ [(13)]) ++ [(ms.2 13 (600 + 3 * s - 3 + 0))]) ++ [(ms.2 13 (600 + 3 * s - 3 + 1))]) ++ [(ms.2 13 (600 + 3 * s - 3 + 2))]) (by first | omega | (simp <;> omega))) ?_
      refine zn_iinc i_Mod_write_164 rfl rfl ?_
      refine zr_goto 66 i_Mod_write_167 (by decide) ?_
      (have hn := ih (s + 1) (l ++ segW (ms.2 26) (ms.2 13) E s) (some (.int (nI 0))) (by omega) (by omega) hl4
       rw [outW, ← List.append_assoc]
       rw [show l ++ segW (ms.2 26) (ms.2 13) E s = (((((l ++ [(13)]) ++ [(ms.2 13 (600 + 3 * s - 3 + 0))]) ++ [(ms.2 13 (600 + 3 * s - 3 + 1))]) ++ [(ms.2 13 (600 + 3 * s - 3 + 2))]) ++ wrE (ms.2 26) s none E) by simp [segW, *]] at hn ⊢
       exact hn)
theorem mgiv_26 (ms : zMS) (f f' : Nat → Int32) : ((mgiv ms f).1, va_up (mgiv ms f).2 26 f') = mgiv ms f' := by
  unfold mgiv
  dsimp only
  rw [up_same]
theorem gvF_zch {f : Nat → Int32} {a b c e u : Int32} (ha : zch a) (hb : zch b) (hc : zch c) (he : zch e) (hu : zch u) : ∀ k, k < 5 → zch (gvF f a b c e u k) := by
  intro k hk
  rcases (show k = 0 ∨ k = 1 ∨ k = 2 ∨ k = 3 ∨ k = 4 by omega) with rfl | rfl | rfl | rfl | rfl
  · exact ha
  · exact hb
  · exact hc
  · exact he
  · exact hu
theorem mwr_nil {ms : zMS} (h : ms.1 7 = nI 0) : mwr ms [] = ms := by
  unfold mwr
  rw [lrow_nil, up_self, List.length_nil, ← h, up_self]
/-- what write answers, and the state after it -/
theorem e_Mod_write (X : zX) (d : Nat) (g : zH) (ms : zMS) (E : List zEn) (hT : mTB ms E) (sg : Nat) (hsg : ms.2 2 1 = nI sg) (hsl : sg ≤ 190) (hNm : ∀ i, i < 1200 → zch (ms.2 13 i)) (a b c e u : Int32) (ha : zch a) (hb : zch b) (hc : zch c) (he : zch e) (hu : zch u) (hlen : sg ≠ 0 → fitF (gvF (ms.2 26) a b c e u) = true → (outW (gvF (ms.2 26) a b c e u) (ms.2 13) E 1 sg).length ≤ 780) : zR X (d + 4) 158 0 (zent 8 [.ref 129, .int a, .int b, .int c, .int e, .int u]) [] (mset g ms) (if sg = 0 ∨ fitF (gvF (ms.2 26) a b c e u) = false then (some (.int (-1)), mset g (mgiv ms (gvF (ms.2 26) a b c e u))) else (some (.int (nI (outW (gvF (ms.2 26) a b c e u) (ms.2 13) E 1 sg).length)), mset g (mwr (va_up ms.1 7 (nI 0), va_up ms.2 26 (gvF (ms.2 26) a b c e u)) (outW (gvF (ms.2 26) a b c e u) (ms.2 13) E 1 sg)))) := by
  have eqg : (mgiv ms (gvF (ms.2 26) a b c e u)) = (ms.1, va_up (va_up (va_up (va_up (va_up ms.2 26 (upd (ms.2 26) 0 (vp_nar .char a))) 26 (upd (upd (ms.2 26) 0 (vp_nar .char a)) 1 (vp_nar .char b))) 26 (upd (upd (upd (ms.2 26) 0 (vp_nar .char a)) 1 (vp_nar .char b)) 2 (vp_nar .char c))) 26 (upd (upd (upd (upd (ms.2 26) 0 (vp_nar .char a)) 1 (vp_nar .char b)) 2 (vp_nar .char c)) 3 (vp_nar .char e))) 26 (upd (upd (upd (upd (upd (ms.2 26) 0 (vp_nar .char a)) 1 (vp_nar .char b)) 2 (vp_nar .char c)) 3 (vp_nar .char e)) 4 (vp_nar .char u))) := by
    unfold mgiv gvF
    rw [up_same, up_same, up_same, up_same, ha, hb, hc, he, hu]
  have key : zR X (d + 4) 158 37 [some (.ref 129), some (.int a), some (.int b), some (.int c), some (.int e), some (.int u), none, none] [] (mset g (mgiv ms (gvF (ms.2 26) a b c e u))) (if sg = 0 ∨ fitF (gvF (ms.2 26) a b c e u) = false then (some (.int (-1)), mset g (mgiv ms (gvF (ms.2 26) a b c e u))) else (some (.int (nI (outW (gvF (ms.2 26) a b c e u) (ms.2 13) E 1 sg).length)), mset g (mwr (va_up ms.1 7 (nI 0), va_up ms.2 26 (gvF (ms.2 26) a b c e u)) (outW (gvF (ms.2 26) a b c e u) (ms.2 13) E 1 sg)))) := by
    by_cases h0 : sg = 0
    · rw [if_pos (Or.inl h0)]
      refine zr_aload_n i_Mod_write_37 rfl ?_
      refine zr_getf i_Mod_write_38 rfl rfl rfl ?_
      refine zn_iconst 1 i_Mod_write_41 (by decide) ?_
      refine zn_iaload i_Mod_write_42 rfl (by omega) (by decide) ?_
      refine zr_top (y := nI sg) hsg ?_
      refine zN_if_eq 56 i_Mod_write_43 (by decide) (by omega) (fun _ => ?_) (fun q => absurd h0 q)
      refine zr_iconst i_Mod_write_56 (v := (-1)) (by decide) ?_
      exact zR.retE i_Mod_write_57 rfl rfl
    · cases hf : fitF (gvF (ms.2 26) a b c e u) with
      | false =>
        rw [if_pos (Or.inr rfl)]
        refine zr_aload_n i_Mod_write_37 rfl ?_
        refine zr_getf i_Mod_write_38 rfl rfl rfl ?_
        refine zn_iconst 1 i_Mod_write_41 (by decide) ?_
        refine zn_iaload i_Mod_write_42 rfl (by omega) (by decide) ?_
        refine zr_top (y := nI sg) hsg ?_
        refine zN_if_eq 56 i_Mod_write_43 (by decide) (by omega) (fun q => absurd q h0) (fun _ => ?_)
        refine zr_aload_n i_Mod_write_46 rfl ?_
        refine zr_getf i_Mod_write_47 rfl rfl rfl ?_
        refine zr_cs1 i_Mod_write_50 rfl (by decide) (Nat.le_of_ble_eq_true rfl) (Nat.le_of_ble_eq_true rfl) (e_Mod_fitting X _ (mset g (mgiv ms (gvF (ms.2 26) a b c e u))) 155 (gvF (ms.2 26) a b c e u) rfl) ?_
        refine zB_if_ne 58 i_Mod_write_53 (by decide) (fun q => absurd q (by rw [hf]; decide)) (fun _ => ?_)
        refine zr_iconst i_Mod_write_56 (v := (-1)) (by decide) ?_
        exact zR.retE i_Mod_write_57 rfl rfl
      | true =>
        rw [if_neg (fun q => q.elim h0 (fun z => absurd z (by decide)))]
        have hl1 := l_Mod_write X d g (va_up ms.1 7 (nI 0), va_up ms.2 26 (gvF (ms.2 26) a b c e u)) E hT (gvF_zch ha hb hc he hu) sg hsg hsl hNm a b c e u sg 1 [] none (by omega) (by decide) (hlen h0 hf)
        rw [mwr_nil (ms := (va_up ms.1 7 (nI 0), va_up ms.2 26 (gvF (ms.2 26) a b c e u))) rfl, List.nil_append] at hl1
        refine zr_aload_n i_Mod_write_37 rfl ?_
        refine zr_getf i_Mod_write_38 rfl rfl rfl ?_
        refine zn_iconst 1 i_Mod_write_41 (by decide) ?_
        refine zn_iaload i_Mod_write_42 rfl (by omega) (by decide) ?_
        refine zr_top (y := nI sg) hsg ?_
        refine zN_if_eq 56 i_Mod_write_43 (by decide) (by omega) (fun q => absurd q h0) (fun _ => ?_)
        refine zr_aload_n i_Mod_write_46 rfl ?_
        refine zr_getf i_Mod_write_47 rfl rfl rfl ?_
        refine zr_cs1 i_Mod_write_50 rfl (by decide) (Nat.le_of_ble_eq_true rfl) (Nat.le_of_ble_eq_true rfl) (e_Mod_fitting X _ (mset g (mgiv ms (gvF (ms.2 26) a b c e u))) 155 (gvF (ms.2 26) a b c e u) rfl) ?_
        refine zB_if_ne 58 i_Mod_write_53 (by decide) (fun _ => ?_) (fun q => absurd q (by rw [hf]; decide))
        refine zr_aload_n i_Mod_write_58 rfl ?_
        refine zn_iconst 0 i_Mod_write_59 (by decide) ?_
        refine mr_putf (kk := 7) i_Mod_write_60 rfl rfl (Nat.le_of_ble_eq_true rfl) rfl rfl rfl ?_
        refine zn_iconst 1 i_Mod_write_63 (by decide) ?_
        refine zr_istore i_Mod_write_64 rfl ?_
        exact hl1
  generalize (if sg = 0 ∨ fitF (gvF (ms.2 26) a b c e u) = false then (some (Value.int (-1)), mset g (mgiv ms (gvF (ms.2 26) a b c e u))) else (some (Value.int (nI (outW (gvF (ms.2 26) a b c e u) (ms.2 13) E 1 sg).length)), mset g (mwr (va_up ms.1 7 (nI 0), va_up ms.2 26 (gvF (ms.2 26) a b c e u)) (outW (gvF (ms.2 26) a b c e u) (ms.2 13) E 1 sg)))) = R at key ⊢
  rw [eqg] at key
  refine zr_aload_n i_Mod_write_0 rfl ?_
  refine zr_getf i_Mod_write_1 rfl rfl rfl ?_
  refine zn_iconst 0 i_Mod_write_4 (by decide) ?_
  refine zr_iload_n i_Mod_write_5 rfl ?_
  refine mn_castore 26 5 i_Mod_write_6 (fun _ => rfl) (by decide) (by omega) (by decide) ?_
  refine zr_aload_n i_Mod_write_7 rfl ?_
  refine zr_getf i_Mod_write_8 rfl rfl rfl ?_
  refine zn_iconst 1 i_Mod_write_11 (by decide) ?_
  refine zr_iload_n i_Mod_write_12 rfl ?_
  refine mn_castore 26 5 i_Mod_write_13 (fun _ => rfl) (by decide) (by omega) (by decide) ?_
  refine zr_aload_n i_Mod_write_14 rfl ?_
  refine zr_getf i_Mod_write_15 rfl rfl rfl ?_
  refine zn_iconst 2 i_Mod_write_18 (by decide) ?_
  refine zr_iload_n i_Mod_write_19 rfl ?_
  refine mn_castore 26 5 i_Mod_write_20 (fun _ => rfl) (by decide) (by omega) (by decide) ?_
  refine zr_aload_n i_Mod_write_21 rfl ?_
  refine zr_getf i_Mod_write_22 rfl rfl rfl ?_
  refine zn_iconst 3 i_Mod_write_25 (by decide) ?_
  refine zr_iload i_Mod_write_26 rfl ?_
  refine mn_castore 26 5 i_Mod_write_28 (fun _ => rfl) (by decide) (by omega) (by decide) ?_
  refine zr_aload_n i_Mod_write_29 rfl ?_
  refine zr_getf i_Mod_write_30 rfl rfl rfl ?_
  refine zn_iconst 4 i_Mod_write_33 (by decide) ?_
  refine zr_iload i_Mod_write_34 rfl ?_
  refine mn_castore 26 5 i_Mod_write_36 (fun _ => rfl) (by decide) (by omega) (by decide) ?_
  exact key
