/-! THE REFERENCE: escapes, fields -/
def whichL (c : Int32) : Option Nat := if c = 70 then some 0 else if c = 83 then some 1 else if c = 82 then some 2 else if c = 69 then some 3 else if c = 84 then some 4 else none
def hexV (F : Nat → Int32) (n a : Nat) : Int32 := 16 * mhex (nowF F n (a + 2)) + mhex (nowF F n (a + 3))
def hexOk (F : Nat → Int32) (n : Nat) (S : Nat → Int32) (a : Nat) : Bool := decide (nowF F n (a + 1) = 88 ∧ ¬ mhex (nowF F n (a + 2)) < 0 ∧ ¬ mhex (nowF F n (a + 3)) < 0 ∧ nowF F n (a + 4) = S 3 ∧ ¬ hexV F n a < 32 ∧ ¬ 126 < hexV F n a)
/-- the escape that begins at a: its letter, how many characters it takes -/
def escF (F : Nat → Int32) (n : Nat) (S : Nat → Int32) (a : Nat) : Option (Int32 × Nat) := match whichL (nowF F n (a + 1)) with
  | some w => if a + 3 ≤ n ∧ F (a + 2) = S 3 then some (S w, 3) else none
  | none => if hexOk F n S a = true then some (hexV F n a, 5) else none
theorem zch_i2c {c : Int32} (h : zch c) : (c.toUInt32 % 65536).toInt32 = c := by
  have e : vp_nar .char c = (c.toUInt32 % 65536).toInt32 := by rw [vp_nar_char]; rfl
  rw [← e]; exact h
theorem i_Mod_escape_0 : zins 110 0 = some (.aload_n 0) := by decide +kernel
theorem i_Mod_escape_1 : zins 110 1 = some (.getfield 50) := by decide +kernel
theorem i_Mod_escape_4 : zins 110 4 = some (.iconst 3) := by decide +kernel
theorem i_Mod_escape_5 : zins 110 5 = some (.caload) := by decide +kernel
theorem i_Mod_escape_6 : zins 110 6 = some (.istore_n 1) := by decide +kernel
theorem i_Mod_escape_7 : zins 110 7 = some (.aload_n 0) := by decide +kernel
theorem i_Mod_escape_8 : zins 110 8 = some (.iconst 1) := by decide +kernel
theorem i_Mod_escape_9 : zins 110 9 = some (.invokevirtual 115) := by decide +kernel
theorem i_Mod_escape_12 : zins 110 12 = some (.istore_n 2) := by decide +kernel
theorem i_Mod_escape_13 : zins 110 13 = some (.iload_n 2) := by decide +kernel
theorem i_Mod_escape_14 : zins 110 14 = some (.bipush 70) := by decide +kernel
theorem i_Mod_escape_16 : zins 110 16 = some (.if_icmp .ne 7) := by decide +kernel
theorem i_Mod_escape_19 : zins 110 19 = some (.iconst 0) := by decide +kernel
theorem i_Mod_escape_20 : zins 110 20 = some (.goto 44) := by decide +kernel
theorem i_Mod_escape_23 : zins 110 23 = some (.iload_n 2) := by decide +kernel
theorem i_Mod_escape_24 : zins 110 24 = some (.bipush 83) := by decide +kernel
theorem i_Mod_escape_26 : zins 110 26 = some (.if_icmp .ne 7) := by decide +kernel
theorem i_Mod_escape_29 : zins 110 29 = some (.iconst 1) := by decide +kernel
theorem i_Mod_escape_30 : zins 110 30 = some (.goto 34) := by decide +kernel
theorem i_Mod_escape_33 : zins 110 33 = some (.iload_n 2) := by decide +kernel
theorem i_Mod_escape_34 : zins 110 34 = some (.bipush 82) := by decide +kernel
theorem i_Mod_escape_36 : zins 110 36 = some (.if_icmp .ne 7) := by decide +kernel
theorem i_Mod_escape_39 : zins 110 39 = some (.iconst 2) := by decide +kernel
theorem i_Mod_escape_40 : zins 110 40 = some (.goto 24) := by decide +kernel
theorem i_Mod_escape_43 : zins 110 43 = some (.iload_n 2) := by decide +kernel
theorem i_Mod_escape_44 : zins 110 44 = some (.bipush 69) := by decide +kernel
theorem i_Mod_escape_46 : zins 110 46 = some (.if_icmp .ne 7) := by decide +kernel
theorem i_Mod_escape_49 : zins 110 49 = some (.iconst 3) := by decide +kernel
theorem i_Mod_escape_50 : zins 110 50 = some (.goto 14) := by decide +kernel
theorem i_Mod_escape_53 : zins 110 53 = some (.iload_n 2) := by decide +kernel
theorem i_Mod_escape_54 : zins 110 54 = some (.bipush 84) := by decide +kernel
theorem i_Mod_escape_56 : zins 110 56 = some (.if_icmp .ne 7) := by decide +kernel
theorem i_Mod_escape_59 : zins 110 59 = some (.iconst 4) := by decide +kernel
theorem i_Mod_escape_60 : zins 110 60 = some (.goto 4) := by decide +kernel
theorem i_Mod_escape_63 : zins 110 63 = some (.iconst (-1)) := by decide +kernel
theorem i_Mod_escape_64 : zins 110 64 = some (.istore_n 3) := by decide +kernel
theorem i_Mod_escape_65 : zins 110 65 = some (.iload_n 3) := by decide +kernel
theorem i_Mod_escape_66 : zins 110 66 = some (.ifCond .lt 55) := by decide +kernel
theorem i_Mod_escape_69 : zins 110 69 = some (.aload_n 0) := by decide +kernel
theorem i_Mod_escape_70 : zins 110 70 = some (.aload_n 0) := by decide +kernel
theorem i_Mod_escape_71 : zins 110 71 = some (.getfield 50) := by decide +kernel
theorem i_Mod_escape_74 : zins 110 74 = some (.iload_n 3) := by decide +kernel
theorem i_Mod_escape_75 : zins 110 75 = some (.caload) := by decide +kernel
theorem i_Mod_escape_76 : zins 110 76 = some (.invokevirtual 123) := by decide +kernel
theorem i_Mod_escape_79 : zins 110 79 = some (.aload_n 0) := by decide +kernel
theorem i_Mod_escape_80 : zins 110 80 = some (.dup) := by decide +kernel
theorem i_Mod_escape_81 : zins 110 81 = some (.getfield 112) := by decide +kernel
theorem i_Mod_escape_84 : zins 110 84 = some (.iconst 3) := by decide +kernel
theorem i_Mod_escape_85 : zins 110 85 = some (.iadd) := by decide +kernel
theorem i_Mod_escape_86 : zins 110 86 = some (.putfield 112) := by decide +kernel
theorem i_Mod_escape_89 : zins 110 89 = some (.aload_n 0) := by decide +kernel
theorem i_Mod_escape_90 : zins 110 90 = some (.getfield 112) := by decide +kernel
theorem i_Mod_escape_93 : zins 110 93 = some (.aload_n 0) := by decide +kernel
theorem i_Mod_escape_94 : zins 110 94 = some (.getfield 98) := by decide +kernel
theorem i_Mod_escape_97 : zins 110 97 = some (.if_icmp .gt 22) := by decide +kernel
theorem i_Mod_escape_100 : zins 110 100 = some (.aload_n 0) := by decide +kernel
theorem i_Mod_escape_101 : zins 110 101 = some (.getfield 7) := by decide +kernel
theorem i_Mod_escape_104 : zins 110 104 = some (.aload_n 0) := by decide +kernel
theorem i_Mod_escape_105 : zins 110 105 = some (.getfield 112) := by decide +kernel
theorem i_Mod_escape_108 : zins 110 108 = some (.iconst 1) := by decide +kernel
theorem i_Mod_escape_109 : zins 110 109 = some (.isub) := by decide +kernel
theorem i_Mod_escape_110 : zins 110 110 = some (.caload) := by decide +kernel
theorem i_Mod_escape_111 : zins 110 111 = some (.iload_n 1) := by decide +kernel
theorem i_Mod_escape_112 : zins 110 112 = some (.if_icmp .ne 7) := by decide +kernel
theorem i_Mod_escape_115 : zins 110 115 = some (.iconst 1) := by decide +kernel
theorem i_Mod_escape_116 : zins 110 116 = some (.goto 4) := by decide +kernel
theorem i_Mod_escape_119 : zins 110 119 = some (.iconst 0) := by decide +kernel
theorem i_Mod_escape_120 : zins 110 120 = some (.ireturn) := by decide +kernel
theorem i_Mod_escape_121 : zins 110 121 = some (.aload_n 0) := by decide +kernel
theorem i_Mod_escape_122 : zins 110 122 = some (.iconst 2) := by decide +kernel
theorem i_Mod_escape_123 : zins 110 123 = some (.invokevirtual 115) := by decide +kernel
theorem i_Mod_escape_126 : zins 110 126 = some (.invokestatic 127) := by decide +kernel
theorem i_Mod_escape_129 : zins 110 129 = some (.istore 4) := by decide +kernel
theorem i_Mod_escape_131 : zins 110 131 = some (.aload_n 0) := by decide +kernel
theorem i_Mod_escape_132 : zins 110 132 = some (.iconst 3) := by decide +kernel
theorem i_Mod_escape_133 : zins 110 133 = some (.invokevirtual 115) := by decide +kernel
theorem i_Mod_escape_136 : zins 110 136 = some (.invokestatic 127) := by decide +kernel
theorem i_Mod_escape_139 : zins 110 139 = some (.istore 5) := by decide +kernel
theorem i_Mod_escape_141 : zins 110 141 = some (.bipush 16) := by decide +kernel
theorem i_Mod_escape_143 : zins 110 143 = some (.iload 4) := by decide +kernel
theorem i_Mod_escape_145 : zins 110 145 = some (.imul) := by decide +kernel
theorem i_Mod_escape_146 : zins 110 146 = some (.iload 5) := by decide +kernel
theorem i_Mod_escape_148 : zins 110 148 = some (.iadd) := by decide +kernel
theorem i_Mod_escape_149 : zins 110 149 = some (.istore 6) := by decide +kernel
theorem i_Mod_escape_151 : zins 110 151 = some (.iload_n 2) := by decide +kernel
theorem i_Mod_escape_152 : zins 110 152 = some (.bipush 88) := by decide +kernel
theorem i_Mod_escape_154 : zins 110 154 = some (.if_icmp .ne 36) := by decide +kernel
theorem i_Mod_escape_157 : zins 110 157 = some (.iload 4) := by decide +kernel
theorem i_Mod_escape_159 : zins 110 159 = some (.ifCond .lt 31) := by decide +kernel
theorem i_Mod_escape_162 : zins 110 162 = some (.iload 5) := by decide +kernel
theorem i_Mod_escape_164 : zins 110 164 = some (.ifCond .lt 26) := by decide +kernel
theorem i_Mod_escape_167 : zins 110 167 = some (.aload_n 0) := by decide +kernel
theorem i_Mod_escape_168 : zins 110 168 = some (.iconst 4) := by decide +kernel
theorem i_Mod_escape_169 : zins 110 169 = some (.invokevirtual 115) := by decide +kernel
theorem i_Mod_escape_172 : zins 110 172 = some (.iload_n 1) := by decide +kernel
theorem i_Mod_escape_173 : zins 110 173 = some (.if_icmp .ne 17) := by decide +kernel
theorem i_Mod_escape_176 : zins 110 176 = some (.iload 6) := by decide +kernel
theorem i_Mod_escape_178 : zins 110 178 = some (.bipush 32) := by decide +kernel
theorem i_Mod_escape_180 : zins 110 180 = some (.if_icmp .lt 10) := by decide +kernel
theorem i_Mod_escape_183 : zins 110 183 = some (.iload 6) := by decide +kernel
theorem i_Mod_escape_185 : zins 110 185 = some (.bipush 126) := by decide +kernel
theorem i_Mod_escape_187 : zins 110 187 = some (.if_icmp .le 5) := by decide +kernel
theorem i_Mod_escape_190 : zins 110 190 = some (.iconst 0) := by decide +kernel
theorem i_Mod_escape_191 : zins 110 191 = some (.ireturn) := by decide +kernel
theorem i_Mod_escape_192 : zins 110 192 = some (.aload_n 0) := by decide +kernel
theorem i_Mod_escape_193 : zins 110 193 = some (.iload 6) := by decide +kernel
theorem i_Mod_escape_195 : zins 110 195 = some (.i2c) := by decide +kernel
theorem i_Mod_escape_196 : zins 110 196 = some (.invokevirtual 123) := by decide +kernel
theorem i_Mod_escape_199 : zins 110 199 = some (.aload_n 0) := by decide +kernel
theorem i_Mod_escape_200 : zins 110 200 = some (.dup) := by decide +kernel
theorem i_Mod_escape_201 : zins 110 201 = some (.getfield 112) := by decide +kernel
theorem i_Mod_escape_204 : zins 110 204 = some (.iconst 5) := by decide +kernel
theorem i_Mod_escape_205 : zins 110 205 = some (.iadd) := by decide +kernel
theorem i_Mod_escape_206 : zins 110 206 = some (.putfield 112) := by decide +kernel
theorem i_Mod_escape_209 : zins 110 209 = some (.iconst 1) := by decide +kernel
theorem i_Mod_escape_210 : zins 110 210 = some (.ireturn) := by decide +kernel
theorem e_Mod_escape (X : zX) (d : Nat) (g : zH) (ms : zMS) (n a : Nat) (h0 : ms.1 0 = nI n) (h1 : ms.1 1 = nI a) (hn : n ≤ 200) (ha : a < n) (hc : ∀ i, zch (ms.2 1 i)) (hS : ∀ k, k < 5 → zch (ms.2 14 k)) (E : List zEn) (k : Nat × Nat × Nat × Nat × Nat) (cs : List Int32) (hT : mTab ms (E ++ [(k, cs)])) (hl1 : E.length + 1 ≤ a) (hl2 : (flat (E ++ [(k, cs)])).length ≤ a) : ∃ b ms', zR X (d + 2) 110 0 (zent 7 [.ref 129]) [] (mset g ms) (some (.int (zb b)), mset g ms') ∧ mpar ms ms' ∧ (ms'.2 2 = ms.2 2 ∧ ms'.2 13 = ms.2 13) ∧ (match escF (ms.2 1) n (ms.2 14) a with
    | none => b = false
    | some p => b = true ∧ ms'.1 1 = nI (a + p.2) ∧ mTab ms' (E ++ [(k, cs ++ [p.1])])) := by
  by_cases hw : (nowF (ms.2 1) n (a + 1)) = 70
  · have hwl : whichL (nowF (ms.2 1) n (a + 1)) = some 0 := by rw [hw]; rfl

    unfold escF
    rw [hwl]
    dsimp only
    by_cases hA : a + 3 ≤ n
    · by_cases hB : ms.2 1 (a + 2) = ms.2 14 3
      · rw [if_pos ⟨hA, hB⟩]
        refine ⟨true, (va_up (madd ms (flat (E ++ [(k, cs)])).length (E ++ [(k, cs)]).length (ms.2 14 0)).1 1 (nI (a + 3)), (madd ms (flat (E ++ [(k, cs)])).length (E ++ [(k, cs)]).length (ms.2 14 0)).2), ?_, (mpar_add ms (flat (E ++ [(k, cs)])).length (E ++ [(k, cs)]).length (ms.2 14 0) (by omega) (by simp; omega) (by simp)).trans (mpar_at _ _), ⟨rfl, rfl⟩, rfl, rfl, mTab_add hT (hS 0 (by decide))⟩
        refine zr_aload_n i_Mod_escape_0 rfl ?_
        refine zr_getf i_Mod_escape_1 rfl rfl rfl ?_
        refine zn_iconst 3 i_Mod_escape_4 (by decide) ?_
        refine zn_caload i_Mod_escape_5 rfl (by omega) (by decide) ?_
        refine zr_istore_n i_Mod_escape_6 rfl ?_
        refine zr_aload_n i_Mod_escape_7 rfl ?_
        refine zr_iconst i_Mod_escape_8 (v := 1) (by decide) ?_
        refine zr_cv1 i_Mod_escape_9 rfl (by decide) rfl (Nat.le_of_ble_eq_true rfl) (Nat.le_of_ble_eq_true rfl) (e_Mod_now X _ g ms n a 1 h0 h1 hn (by omega) (fun i _ => zch_nar (hc i))) ?_
        refine zr_top (y := nowF (ms.2 1) n (a + 1)) rfl ?_
        refine zr_istore_n i_Mod_escape_12 rfl ?_
        refine zr_iload_n i_Mod_escape_13 rfl ?_
        refine zr_bipush i_Mod_escape_14 (v := 70) (by decide) ?_
        refine zr_icmp_ne 23 i_Mod_escape_16 (by decide) (fun q => absurd hw q) (fun c_16 => ?_)
        refine zn_iconst 0 i_Mod_escape_19 (by decide) ?_
        refine zr_goto 64 i_Mod_escape_20 (by decide) ?_
        refine zr_istore_n i_Mod_escape_64 rfl ?_
        refine zr_iload_n i_Mod_escape_65 rfl ?_
        refine zr_if_lt 121 i_Mod_escape_66 (by decide) (fun q => absurd q (by decide)) (fun _ => ?_)
        refine zr_aload_n i_Mod_escape_69 rfl ?_
        refine zr_aload_n i_Mod_escape_70 rfl ?_
        refine zr_getf i_Mod_escape_71 rfl rfl rfl ?_
        refine zr_iload_n i_Mod_escape_74 rfl ?_
        refine zn_caload i_Mod_escape_75 rfl (by omega) (by decide) ?_
        refine zr_cv10 i_Mod_escape_76 rfl (by decide) rfl (Nat.le_of_ble_eq_true rfl) (Nat.le_of_ble_eq_true rfl) (e_Mod_add X _ g ms (flat (E ++ [(k, cs)])).length (E ++ [(k, cs)]).length (ms.2 14 0) hT.2.1 hT.1 (by omega) (by simp) (by simp; omega)) ?_
        refine zr_aload_n i_Mod_escape_79 rfl ?_
        refine zr_dup i_Mod_escape_80 rfl ?_
        refine zr_getf i_Mod_escape_81 rfl rfl rfl ?_
        refine zr_top (y := nI a) h1 ?_
        refine zn_iconst 3 i_Mod_escape_84 (by decide) ?_
        refine zn_iadd i_Mod_escape_85 ?_
        refine mr_putf (kk := 1) i_Mod_escape_86 rfl rfl (Nat.le_of_ble_eq_true rfl) rfl rfl rfl ?_
        refine zr_aload_n i_Mod_escape_89 rfl ?_
        refine zr_getf i_Mod_escape_90 rfl rfl rfl ?_
        refine zr_top (y := nI (a + 3)) rfl ?_
        refine zr_aload_n i_Mod_escape_93 rfl ?_
        refine zr_getf i_Mod_escape_94 rfl rfl rfl ?_
        refine zr_top (y := nI n) h0 ?_
        refine zn_icmp_gt 119 i_Mod_escape_97 (by decide) (by omega) (by omega) (fun q => absurd q (by omega)) (fun c_97 => ?_)
        refine zr_aload_n i_Mod_escape_100 rfl ?_
        refine zr_getf i_Mod_escape_101 rfl rfl rfl ?_
        refine zr_aload_n i_Mod_escape_104 rfl ?_
        refine zr_getf i_Mod_escape_105 rfl rfl rfl ?_
        refine zr_top (y := nI (a + 3)) rfl ?_
        refine zn_iconst 1 i_Mod_escape_108 (by decide) ?_
        refine zn_isub i_Mod_escape_109 (by omega) ?_
        refine zn_caload i_Mod_escape_110 rfl (by omega) (by decide) ?_
        refine zr_iload_n i_Mod_escape_111 rfl ?_
        refine zr_icmp_ne 119 i_Mod_escape_112 (by decide) (fun q => absurd hB q) (fun c_112 => ?_)
        refine zr_iconst i_Mod_escape_115 (v := 1) (by decide) ?_
        refine zr_goto 120 i_Mod_escape_116 (by decide) ?_
        exact zR.retE i_Mod_escape_120 rfl rfl
      · rw [if_neg (fun q => hB q.2)]
        refine ⟨false, (va_up (madd ms (flat (E ++ [(k, cs)])).length (E ++ [(k, cs)]).length (ms.2 14 0)).1 1 (nI (a + 3)), (madd ms (flat (E ++ [(k, cs)])).length (E ++ [(k, cs)]).length (ms.2 14 0)).2), ?_, (mpar_add ms (flat (E ++ [(k, cs)])).length (E ++ [(k, cs)]).length (ms.2 14 0) (by omega) (by simp; omega) (by simp)).trans (mpar_at _ _), ⟨rfl, rfl⟩, rfl⟩
        refine zr_aload_n i_Mod_escape_0 rfl ?_
        refine zr_getf i_Mod_escape_1 rfl rfl rfl ?_
        refine zn_iconst 3 i_Mod_escape_4 (by decide) ?_
        refine zn_caload i_Mod_escape_5 rfl (by omega) (by decide) ?_
        refine zr_istore_n i_Mod_escape_6 rfl ?_
        refine zr_aload_n i_Mod_escape_7 rfl ?_
        refine zr_iconst i_Mod_escape_8 (v := 1) (by decide) ?_
        refine zr_cv1 i_Mod_escape_9 rfl (by decide) rfl (Nat.le_of_ble_eq_true rfl) (Nat.le_of_ble_eq_true rfl) (e_Mod_now X _ g ms n a 1 h0 h1 hn (by omega) (fun i _ => zch_nar (hc i))) ?_
        refine zr_top (y := nowF (ms.2 1) n (a + 1)) rfl ?_
        refine zr_istore_n i_Mod_escape_12 rfl ?_
        refine zr_iload_n i_Mod_escape_13 rfl ?_
        refine zr_bipush i_Mod_escape_14 (v := 70) (by decide) ?_
        refine zr_icmp_ne 23 i_Mod_escape_16 (by decide) (fun q => absurd hw q) (fun c_16 => ?_)
        refine zn_iconst 0 i_Mod_escape_19 (by decide) ?_
        refine zr_goto 64 i_Mod_escape_20 (by decide) ?_
        refine zr_istore_n i_Mod_escape_64 rfl ?_
        refine zr_iload_n i_Mod_escape_65 rfl ?_
        refine zr_if_lt 121 i_Mod_escape_66 (by decide) (fun q => absurd q (by decide)) (fun _ => ?_)
        refine zr_aload_n i_Mod_escape_69 rfl ?_
        refine zr_aload_n i_Mod_escape_70 rfl ?_
        refine zr_getf i_Mod_escape_71 rfl rfl rfl ?_
        refine zr_iload_n i_Mod_escape_74 rfl ?_
        refine zn_caload i_Mod_escape_75 rfl (by omega) (by decide) ?_
        refine zr_cv10 i_Mod_escape_76 rfl (by decide) rfl (Nat.le_of_ble_eq_true rfl) (Nat.le_of_ble_eq_true rfl) (e_Mod_add X _ g ms (flat (E ++ [(k, cs)])).length (E ++ [(k, cs)]).length (ms.2 14 0) hT.2.1 hT.1 (by omega) (by simp) (by simp; omega)) ?_
        refine zr_aload_n i_Mod_escape_79 rfl ?_
        refine zr_dup i_Mod_escape_80 rfl ?_
        refine zr_getf i_Mod_escape_81 rfl rfl rfl ?_
        refine zr_top (y := nI a) h1 ?_
        refine zn_iconst 3 i_Mod_escape_84 (by decide) ?_
        refine zn_iadd i_Mod_escape_85 ?_
        refine mr_putf (kk := 1) i_Mod_escape_86 rfl rfl (Nat.le_of_ble_eq_true rfl) rfl rfl rfl ?_
        refine zr_aload_n i_Mod_escape_89 rfl ?_
        refine zr_getf i_Mod_escape_90 rfl rfl rfl ?_
        refine zr_top (y := nI (a + 3)) rfl ?_
        refine zr_aload_n i_Mod_escape_93 rfl ?_
        refine zr_getf i_Mod_escape_94 rfl rfl rfl ?_
        refine zr_top (y := nI n) h0 ?_
        refine zn_icmp_gt 119 i_Mod_escape_97 (by decide) (by omega) (by omega) (fun q => absurd q (by omega)) (fun c_97 => ?_)
        refine zr_aload_n i_Mod_escape_100 rfl ?_
        refine zr_getf i_Mod_escape_101 rfl rfl rfl ?_
        refine zr_aload_n i_Mod_escape_104 rfl ?_
        refine zr_getf i_Mod_escape_105 rfl rfl rfl ?_
        refine zr_top (y := nI (a + 3)) rfl ?_
        refine zn_iconst 1 i_Mod_escape_108 (by decide) ?_
        refine zn_isub i_Mod_escape_109 (by omega) ?_
        refine zn_caload i_Mod_escape_110 rfl (by omega) (by decide) ?_
        refine zr_iload_n i_Mod_escape_111 rfl ?_
        refine zr_icmp_ne 119 i_Mod_escape_112 (by decide) (fun c_112 => ?_) (fun q => absurd q hB)
        refine zr_iconst i_Mod_escape_119 (v := 0) (by decide) ?_
        exact zR.retE i_Mod_escape_120 rfl rfl
    · rw [if_neg (fun q => hA q.1)]
      refine ⟨false, (va_up (madd ms (flat (E ++ [(k, cs)])).length (E ++ [(k, cs)]).length (ms.2 14 0)).1 1 (nI (a + 3)), (madd ms (flat (E ++ [(k, cs)])).length (E ++ [(k, cs)]).length (ms.2 14 0)).2), ?_, (mpar_add ms (flat (E ++ [(k, cs)])).length (E ++ [(k, cs)]).length (ms.2 14 0) (by omega) (by simp; omega) (by simp)).trans (mpar_at _ _), ⟨rfl, rfl⟩, rfl⟩
      refine zr_aload_n i_Mod_escape_0 rfl ?_
      refine zr_getf i_Mod_escape_1 rfl rfl rfl ?_
      refine zn_iconst 3 i_Mod_escape_4 (by decide) ?_
      refine zn_caload i_Mod_escape_5 rfl (by omega) (by decide) ?_
      refine zr_istore_n i_Mod_escape_6 rfl ?_
      refine zr_aload_n i_Mod_escape_7 rfl ?_
      refine zr_iconst i_Mod_escape_8 (v := 1) (by decide) ?_
      refine zr_cv1 i_Mod_escape_9 rfl (by decide) rfl (Nat.le_of_ble_eq_true rfl) (Nat.le_of_ble_eq_true rfl) (e_Mod_now X _ g ms n a 1 h0 h1 hn (by omega) (fun i _ => zch_nar (hc i))) ?_
      refine zr_top (y := nowF (ms.2 1) n (a + 1)) rfl ?_
      refine zr_istore_n i_Mod_escape_12 rfl ?_
      refine zr_iload_n i_Mod_escape_13 rfl ?_
      refine zr_bipush i_Mod_escape_14 (v := 70) (by decide) ?_
      refine zr_icmp_ne 23 i_Mod_escape_16 (by decide) (fun q => absurd hw q) (fun c_16 => ?_)
      refine zn_iconst 0 i_Mod_escape_19 (by decide) ?_
      refine zr_goto 64 i_Mod_escape_20 (by decide) ?_
      refine zr_istore_n i_Mod_escape_64 rfl ?_
      refine zr_iload_n i_Mod_escape_65 rfl ?_
      refine zr_if_lt 121 i_Mod_escape_66 (by decide) (fun q => absurd q (by decide)) (fun _ => ?_)
      refine zr_aload_n i_Mod_escape_69 rfl ?_
      refine zr_aload_n i_Mod_escape_70 rfl ?_
      refine zr_getf i_Mod_escape_71 rfl rfl rfl ?_
      refine zr_iload_n i_Mod_escape_74 rfl ?_
      refine zn_caload i_Mod_escape_75 rfl (by omega) (by decide) ?_
      refine zr_cv10 i_Mod_escape_76 rfl (by decide) rfl (Nat.le_of_ble_eq_true rfl) (Nat.le_of_ble_eq_true rfl) (e_Mod_add X _ g ms (flat (E ++ [(k, cs)])).length (E ++ [(k, cs)]).length (ms.2 14 0) hT.2.1 hT.1 (by omega) (by simp) (by simp; omega)) ?_
      refine zr_aload_n i_Mod_escape_79 rfl ?_
      refine zr_dup i_Mod_escape_80 rfl ?_
      refine zr_getf i_Mod_escape_81 rfl rfl rfl ?_
      refine zr_top (y := nI a) h1 ?_
      refine zn_iconst 3 i_Mod_escape_84 (by decide) ?_
      refine zn_iadd i_Mod_escape_85 ?_
      refine mr_putf (kk := 1) i_Mod_escape_86 rfl rfl (Nat.le_of_ble_eq_true rfl) rfl rfl rfl ?_
      refine zr_aload_n i_Mod_escape_89 rfl ?_
      refine zr_getf i_Mod_escape_90 rfl rfl rfl ?_
      refine zr_top (y := nI (a + 3)) rfl ?_
      refine zr_aload_n i_Mod_escape_93 rfl ?_
      refine zr_getf i_Mod_escape_94 rfl rfl rfl ?_
      refine zr_top (y := nI n) h0 ?_
      refine zn_icmp_gt 119 i_Mod_escape_97 (by decide) (by omega) (by omega) (fun c_97 => ?_) (fun q => absurd q (by omega))
      refine zr_iconst i_Mod_escape_119 (v := 0) (by decide) ?_
      exact zR.retE i_Mod_escape_120 rfl rfl
  by_cases hw : (nowF (ms.2 1) n (a + 1)) = 83
  · have hwl : whichL (nowF (ms.2 1) n (a + 1)) = some 1 := by rw [hw]; rfl
    have n70 : ¬ (nowF (ms.2 1) n (a + 1)) = 70 := by rw [hw]; decide
    unfold escF
    rw [hwl]
    dsimp only
    by_cases hA : a + 3 ≤ n
    · by_cases hB : ms.2 1 (a + 2) = ms.2 14 3
      · rw [if_pos ⟨hA, hB⟩]
        refine ⟨true, (va_up (madd ms (flat (E ++ [(k, cs)])).length (E ++ [(k, cs)]).length (ms.2 14 1)).1 1 (nI (a + 3)), (madd ms (flat (E ++ [(k, cs)])).length (E ++ [(k, cs)]).length (ms.2 14 1)).2), ?_, (mpar_add ms (flat (E ++ [(k, cs)])).length (E ++ [(k, cs)]).length (ms.2 14 1) (by omega) (by simp; omega) (by simp)).trans (mpar_at _ _), ⟨rfl, rfl⟩, rfl, rfl, mTab_add hT (hS 1 (by decide))⟩
        refine zr_aload_n i_Mod_escape_0 rfl ?_
        refine zr_getf i_Mod_escape_1 rfl rfl rfl ?_
        refine zn_iconst 3 i_Mod_escape_4 (by decide) ?_
        refine zn_caload i_Mod_escape_5 rfl (by omega) (by decide) ?_
        refine zr_istore_n i_Mod_escape_6 rfl ?_
        refine zr_aload_n i_Mod_escape_7 rfl ?_
        refine zr_iconst i_Mod_escape_8 (v := 1) (by decide) ?_
        refine zr_cv1 i_Mod_escape_9 rfl (by decide) rfl (Nat.le_of_ble_eq_true rfl) (Nat.le_of_ble_eq_true rfl) (e_Mod_now X _ g ms n a 1 h0 h1 hn (by omega) (fun i _ => zch_nar (hc i))) ?_
        refine zr_top (y := nowF (ms.2 1) n (a + 1)) rfl ?_
        refine zr_istore_n i_Mod_escape_12 rfl ?_
        refine zr_iload_n i_Mod_escape_13 rfl ?_
        refine zr_bipush i_Mod_escape_14 (v := 70) (by decide) ?_
        refine zr_icmp_ne 23 i_Mod_escape_16 (by decide) (fun c_16 => ?_) (fun q => absurd q n70)
        refine zr_iload_n i_Mod_escape_23 rfl ?_
        refine zr_bipush i_Mod_escape_24 (v := 83) (by decide) ?_
        refine zr_icmp_ne 33 i_Mod_escape_26 (by decide) (fun q => absurd hw q) (fun c_26 => ?_)
        refine zn_iconst 1 i_Mod_escape_29 (by decide) ?_
        refine zr_goto 64 i_Mod_escape_30 (by decide) ?_
        refine zr_istore_n i_Mod_escape_64 rfl ?_
        refine zr_iload_n i_Mod_escape_65 rfl ?_
        refine zr_if_lt 121 i_Mod_escape_66 (by decide) (fun q => absurd q (by decide)) (fun _ => ?_)
        refine zr_aload_n i_Mod_escape_69 rfl ?_
        refine zr_aload_n i_Mod_escape_70 rfl ?_
        refine zr_getf i_Mod_escape_71 rfl rfl rfl ?_
        refine zr_iload_n i_Mod_escape_74 rfl ?_
        refine zn_caload i_Mod_escape_75 rfl (by omega) (by decide) ?_
        refine zr_cv10 i_Mod_escape_76 rfl (by decide) rfl (Nat.le_of_ble_eq_true rfl) (Nat.le_of_ble_eq_true rfl) (e_Mod_add X _ g ms (flat (E ++ [(k, cs)])).length (E ++ [(k, cs)]).length (ms.2 14 1) hT.2.1 hT.1 (by omega) (by simp) (by simp; omega)) ?_
        refine zr_aload_n i_Mod_escape_79 rfl ?_
        refine zr_dup i_Mod_escape_80 rfl ?_
        refine zr_getf i_Mod_escape_81 rfl rfl rfl ?_
        refine zr_top (y := nI a) h1 ?_
        refine zn_iconst 3 i_Mod_escape_84 (by decide) ?_
        refine zn_iadd i_Mod_escape_85 ?_
        refine mr_putf (kk := 1) i_Mod_escape_86 rfl rfl (Nat.le_of_ble_eq_true rfl) rfl rfl rfl ?_
        refine zr_aload_n i_Mod_escape_89 rfl ?_
        refine zr_getf i_Mod_escape_90 rfl rfl rfl ?_
        refine zr_top (y := nI (a + 3)) rfl ?_
        refine zr_aload_n i_Mod_escape_93 rfl ?_
        refine zr_getf i_Mod_escape_94 rfl rfl rfl ?_
        refine zr_top (y := nI n) h0 ?_
        refine zn_icmp_gt 119 i_Mod_escape_97 (by decide) (by omega) (by omega) (fun q => absurd q (by omega)) (fun c_97 => ?_)
        refine zr_aload_n i_Mod_escape_100 rfl ?_
        refine zr_getf i_Mod_escape_101 rfl rfl rfl ?_
        refine zr_aload_n i_Mod_escape_104 rfl ?_
        refine zr_getf i_Mod_escape_105 rfl rfl rfl ?_
        refine zr_top (y := nI (a + 3)) rfl ?_
        refine zn_iconst 1 i_Mod_escape_108 (by decide) ?_
        refine zn_isub i_Mod_escape_109 (by omega) ?_
        refine zn_caload i_Mod_escape_110 rfl (by omega) (by decide) ?_
        refine zr_iload_n i_Mod_escape_111 rfl ?_
        refine zr_icmp_ne 119 i_Mod_escape_112 (by decide) (fun q => absurd hB q) (fun c_112 => ?_)
        refine zr_iconst i_Mod_escape_115 (v := 1) (by decide) ?_
        refine zr_goto 120 i_Mod_escape_116 (by decide) ?_
        exact zR.retE i_Mod_escape_120 rfl rfl
      · rw [if_neg (fun q => hB q.2)]
        refine ⟨false, (va_up (madd ms (flat (E ++ [(k, cs)])).length (E ++ [(k, cs)]).length (ms.2 14 1)).1 1 (nI (a + 3)), (madd ms (flat (E ++ [(k, cs)])).length (E ++ [(k, cs)]).length (ms.2 14 1)).2), ?_, (mpar_add ms (flat (E ++ [(k, cs)])).length (E ++ [(k, cs)]).length (ms.2 14 1) (by omega) (by simp; omega) (by simp)).trans (mpar_at _ _), ⟨rfl, rfl⟩, rfl⟩
        refine zr_aload_n i_Mod_escape_0 rfl ?_
        refine zr_getf i_Mod_escape_1 rfl rfl rfl ?_
        refine zn_iconst 3 i_Mod_escape_4 (by decide) ?_
        refine zn_caload i_Mod_escape_5 rfl (by omega) (by decide) ?_
        refine zr_istore_n i_Mod_escape_6 rfl ?_
        refine zr_aload_n i_Mod_escape_7 rfl ?_
        refine zr_iconst i_Mod_escape_8 (v := 1) (by decide) ?_
        refine zr_cv1 i_Mod_escape_9 rfl (by decide) rfl (Nat.le_of_ble_eq_true rfl) (Nat.le_of_ble_eq_true rfl) (e_Mod_now X _ g ms n a 1 h0 h1 hn (by omega) (fun i _ => zch_nar (hc i))) ?_
        refine zr_top (y := nowF (ms.2 1) n (a + 1)) rfl ?_
        refine zr_istore_n i_Mod_escape_12 rfl ?_
        refine zr_iload_n i_Mod_escape_13 rfl ?_
        refine zr_bipush i_Mod_escape_14 (v := 70) (by decide) ?_
        refine zr_icmp_ne 23 i_Mod_escape_16 (by decide) (fun c_16 => ?_) (fun q => absurd q n70)
        refine zr_iload_n i_Mod_escape_23 rfl ?_
        refine zr_bipush i_Mod_escape_24 (v := 83) (by decide) ?_
        refine zr_icmp_ne 33 i_Mod_escape_26 (by decide) (fun q => absurd hw q) (fun c_26 => ?_)
        refine zn_iconst 1 i_Mod_escape_29 (by decide) ?_
        refine zr_goto 64 i_Mod_escape_30 (by decide) ?_
        refine zr_istore_n i_Mod_escape_64 rfl ?_
        refine zr_iload_n i_Mod_escape_65 rfl ?_
        refine zr_if_lt 121 i_Mod_escape_66 (by decide) (fun q => absurd q (by decide)) (fun _ => ?_)
        refine zr_aload_n i_Mod_escape_69 rfl ?_
        refine zr_aload_n i_Mod_escape_70 rfl ?_
        refine zr_getf i_Mod_escape_71 rfl rfl rfl ?_
        refine zr_iload_n i_Mod_escape_74 rfl ?_
        refine zn_caload i_Mod_escape_75 rfl (by omega) (by decide) ?_
        refine zr_cv10 i_Mod_escape_76 rfl (by decide) rfl (Nat.le_of_ble_eq_true rfl) (Nat.le_of_ble_eq_true rfl) (e_Mod_add X _ g ms (flat (E ++ [(k, cs)])).length (E ++ [(k, cs)]).length (ms.2 14 1) hT.2.1 hT.1 (by omega) (by simp) (by simp; omega)) ?_
        refine zr_aload_n i_Mod_escape_79 rfl ?_
        refine zr_dup i_Mod_escape_80 rfl ?_
        refine zr_getf i_Mod_escape_81 rfl rfl rfl ?_
        refine zr_top (y := nI a) h1 ?_
        refine zn_iconst 3 i_Mod_escape_84 (by decide) ?_
        refine zn_iadd i_Mod_escape_85 ?_
        refine mr_putf (kk := 1) i_Mod_escape_86 rfl rfl (Nat.le_of_ble_eq_true rfl) rfl rfl rfl ?_
        refine zr_aload_n i_Mod_escape_89 rfl ?_
        refine zr_getf i_Mod_escape_90 rfl rfl rfl ?_
        refine zr_top (y := nI (a + 3)) rfl ?_
        refine zr_aload_n i_Mod_escape_93 rfl ?_
        refine zr_getf i_Mod_escape_94 rfl rfl rfl ?_
        refine zr_top (y := nI n) h0 ?_
        refine zn_icmp_gt 119 i_Mod_escape_97 (by decide) (by omega) (by omega) (fun q => absurd q (by omega)) (fun c_97 => ?_)
        refine zr_aload_n i_Mod_escape_100 rfl ?_
        refine zr_getf i_Mod_escape_101 rfl rfl rfl ?_
        refine zr_aload_n i_Mod_escape_104 rfl ?_
        refine zr_getf i_Mod_escape_105 rfl rfl rfl ?_
        refine zr_top (y := nI (a + 3)) rfl ?_
        refine zn_iconst 1 i_Mod_escape_108 (by decide) ?_
        refine zn_isub i_Mod_escape_109 (by omega) ?_
        refine zn_caload i_Mod_escape_110 rfl (by omega) (by decide) ?_
        refine zr_iload_n i_Mod_escape_111 rfl ?_
        refine zr_icmp_ne 119 i_Mod_escape_112 (by decide) (fun c_112 => ?_) (fun q => absurd q hB)
        refine zr_iconst i_Mod_escape_119 (v := 0) (by decide) ?_
        exact zR.retE i_Mod_escape_120 rfl rfl
    · rw [if_neg (fun q => hA q.1)]
      refine ⟨false, (va_up (madd ms (flat (E ++ [(k, cs)])).length (E ++ [(k, cs)]).length (ms.2 14 1)).1 1 (nI (a + 3)), (madd ms (flat (E ++ [(k, cs)])).length (E ++ [(k, cs)]).length (ms.2 14 1)).2), ?_, (mpar_add ms (flat (E ++ [(k, cs)])).length (E ++ [(k, cs)]).length (ms.2 14 1) (by omega) (by simp; omega) (by simp)).trans (mpar_at _ _), ⟨rfl, rfl⟩, rfl⟩
      refine zr_aload_n i_Mod_escape_0 rfl ?_
      refine zr_getf i_Mod_escape_1 rfl rfl rfl ?_
      refine zn_iconst 3 i_Mod_escape_4 (by decide) ?_
      refine zn_caload i_Mod_escape_5 rfl (by omega) (by decide) ?_
      refine zr_istore_n i_Mod_escape_6 rfl ?_
      refine zr_aload_n i_Mod_escape_7 rfl ?_
      refine zr_iconst i_Mod_escape_8 (v := 1) (by decide) ?_
      refine zr_cv1 i_Mod_escape_9 rfl (by decide) rfl (Nat.le_of_ble_eq_true rfl) (Nat.le_of_ble_eq_true rfl) (e_Mod_now X _ g ms n a 1 h0 h1 hn (by omega) (fun i _ => zch_nar (hc i))) ?_
      refine zr_top (y := nowF (ms.2 1) n (a + 1)) rfl ?_
      refine zr_istore_n i_Mod_escape_12 rfl ?_
      refine zr_iload_n i_Mod_escape_13 rfl ?_
      refine zr_bipush i_Mod_escape_14 (v := 70) (by decide) ?_
      refine zr_icmp_ne 23 i_Mod_escape_16 (by decide) (fun c_16 => ?_) (fun q => absurd q n70)
      refine zr_iload_n i_Mod_escape_23 rfl ?_
      refine zr_bipush i_Mod_escape_24 (v := 83) (by decide) ?_
      refine zr_icmp_ne 33 i_Mod_escape_26 (by decide) (fun q => absurd hw q) (fun c_26 => ?_)
      refine zn_iconst 1 i_Mod_escape_29 (by decide) ?_
      refine zr_goto 64 i_Mod_escape_30 (by decide) ?_
      refine zr_istore_n i_Mod_escape_64 rfl ?_
      refine zr_iload_n i_Mod_escape_65 rfl ?_
      refine zr_if_lt 121 i_Mod_escape_66 (by decide) (fun q => absurd q (by decide)) (fun _ => ?_)
      refine zr_aload_n i_Mod_escape_69 rfl ?_
      refine zr_aload_n i_Mod_escape_70 rfl ?_
      refine zr_getf i_Mod_escape_71 rfl rfl rfl ?_
      refine zr_iload_n i_Mod_escape_74 rfl ?_
      refine zn_caload i_Mod_escape_75 rfl (by omega) (by decide) ?_
      refine zr_cv10 i_Mod_escape_76 rfl (by decide) rfl (Nat.le_of_ble_eq_true rfl) (Nat.le_of_ble_eq_true rfl) (e_Mod_add X _ g ms (flat (E ++ [(k, cs)])).length (E ++ [(k, cs)]).length (ms.2 14 1) hT.2.1 hT.1 (by omega) (by simp) (by simp; omega)) ?_
      refine zr_aload_n i_Mod_escape_79 rfl ?_
      refine zr_dup i_Mod_escape_80 rfl ?_
      refine zr_getf i_Mod_escape_81 rfl rfl rfl ?_
      refine zr_top (y := nI a) h1 ?_
      refine zn_iconst 3 i_Mod_escape_84 (by decide) ?_
      refine zn_iadd i_Mod_escape_85 ?_
      refine mr_putf (kk := 1) i_Mod_escape_86 rfl rfl (Nat.le_of_ble_eq_true rfl) rfl rfl rfl ?_
      refine zr_aload_n i_Mod_escape_89 rfl ?_
      refine zr_getf i_Mod_escape_90 rfl rfl rfl ?_
      refine zr_top (y := nI (a + 3)) rfl ?_
      refine zr_aload_n i_Mod_escape_93 rfl ?_
      refine zr_getf i_Mod_escape_94 rfl rfl rfl ?_
      refine zr_top (y := nI n) h0 ?_
      refine zn_icmp_gt 119 i_Mod_escape_97 (by decide) (by omega) (by omega) (fun c_97 => ?_) (fun q => absurd q (by omega))
      refine zr_iconst i_Mod_escape_119 (v := 0) (by decide) ?_
      exact zR.retE i_Mod_escape_120 rfl rfl
  by_cases hw : (nowF (ms.2 1) n (a + 1)) = 82
  · have hwl : whichL (nowF (ms.2 1) n (a + 1)) = some 2 := by rw [hw]; rfl
    have n70 : ¬ (nowF (ms.2 1) n (a + 1)) = 70 := by rw [hw]; decide
    have n83 : ¬ (nowF (ms.2 1) n (a + 1)) = 83 := by rw [hw]; decide
    unfold escF
    rw [hwl]
    dsimp only
    by_cases hA : a + 3 ≤ n
    · by_cases hB : ms.2 1 (a + 2) = ms.2 14 3
      · rw [if_pos ⟨hA, hB⟩]
        refine ⟨true, (va_up (madd ms (flat (E ++ [(k, cs)])).length (E ++ [(k, cs)]).length (ms.2 14 2)).1 1 (nI (a + 3)), (madd ms (flat (E ++ [(k, cs)])).length (E ++ [(k, cs)]).length (ms.2 14 2)).2), ?_, (mpar_add ms (flat (E ++ [(k, cs)])).length (E ++ [(k, cs)]).length (ms.2 14 2) (by omega) (by simp; omega) (by simp)).trans (mpar_at _ _), ⟨rfl, rfl⟩, rfl, rfl, mTab_add hT (hS 2 (by decide))⟩
        refine zr_aload_n i_Mod_escape_0 rfl ?_
        refine zr_getf i_Mod_escape_1 rfl rfl rfl ?_
        refine zn_iconst 3 i_Mod_escape_4 (by decide) ?_
        refine zn_caload i_Mod_escape_5 rfl (by omega) (by decide) ?_
        refine zr_istore_n i_Mod_escape_6 rfl ?_
        refine zr_aload_n i_Mod_escape_7 rfl ?_
        refine zr_iconst i_Mod_escape_8 (v := 1) (by decide) ?_
        refine zr_cv1 i_Mod_escape_9 rfl (by decide) rfl (Nat.le_of_ble_eq_true rfl) (Nat.le_of_ble_eq_true rfl) (e_Mod_now X _ g ms n a 1 h0 h1 hn (by omega) (fun i _ => zch_nar (hc i))) ?_
        refine zr_top (y := nowF (ms.2 1) n (a + 1)) rfl ?_
        refine zr_istore_n i_Mod_escape_12 rfl ?_
        refine zr_iload_n i_Mod_escape_13 rfl ?_
        refine zr_bipush i_Mod_escape_14 (v := 70) (by decide) ?_
        refine zr_icmp_ne 23 i_Mod_escape_16 (by decide) (fun c_16 => ?_) (fun q => absurd q n70)
        refine zr_iload_n i_Mod_escape_23 rfl ?_
        refine zr_bipush i_Mod_escape_24 (v := 83) (by decide) ?_
        refine zr_icmp_ne 33 i_Mod_escape_26 (by decide) (fun c_26 => ?_) (fun q => absurd q n83)
        refine zr_iload_n i_Mod_escape_33 rfl ?_
        refine zr_bipush i_Mod_escape_34 (v := 82) (by decide) ?_
        refine zr_icmp_ne 43 i_Mod_escape_36 (by decide) (fun q => absurd hw q) (fun c_36 => ?_)
        refine zn_iconst 2 i_Mod_escape_39 (by decide) ?_
        refine zr_goto 64 i_Mod_escape_40 (by decide) ?_
        refine zr_istore_n i_Mod_escape_64 rfl ?_
        refine zr_iload_n i_Mod_escape_65 rfl ?_
        refine zr_if_lt 121 i_Mod_escape_66 (by decide) (fun q => absurd q (by decide)) (fun _ => ?_)
        refine zr_aload_n i_Mod_escape_69 rfl ?_
        refine zr_aload_n i_Mod_escape_70 rfl ?_
        refine zr_getf i_Mod_escape_71 rfl rfl rfl ?_
        refine zr_iload_n i_Mod_escape_74 rfl ?_
        refine zn_caload i_Mod_escape_75 rfl (by omega) (by decide) ?_
        refine zr_cv10 i_Mod_escape_76 rfl (by decide) rfl (Nat.le_of_ble_eq_true rfl) (Nat.le_of_ble_eq_true rfl) (e_Mod_add X _ g ms (flat (E ++ [(k, cs)])).length (E ++ [(k, cs)]).length (ms.2 14 2) hT.2.1 hT.1 (by omega) (by simp) (by simp; omega)) ?_
        refine zr_aload_n i_Mod_escape_79 rfl ?_
        refine zr_dup i_Mod_escape_80 rfl ?_
        refine zr_getf i_Mod_escape_81 rfl rfl rfl ?_
        refine zr_top (y := nI a) h1 ?_
        refine zn_iconst 3 i_Mod_escape_84 (by decide) ?_
        refine zn_iadd i_Mod_escape_85 ?_
        refine mr_putf (kk := 1) i_Mod_escape_86 rfl rfl (Nat.le_of_ble_eq_true rfl) rfl rfl rfl ?_
        refine zr_aload_n i_Mod_escape_89 rfl ?_
        refine zr_getf i_Mod_escape_90 rfl rfl rfl ?_
        refine zr_top (y := nI (a + 3)) rfl ?_
        refine zr_aload_n i_Mod_escape_93 rfl ?_
        refine zr_getf i_Mod_escape_94 rfl rfl rfl ?_
        refine zr_top (y := nI n) h0 ?_
        refine zn_icmp_gt 119 i_Mod_escape_97 (by decide) (by omega) (by omega) (fun q => absurd q (by omega)) (fun c_97 => ?_)
        refine zr_aload_n i_Mod_escape_100 rfl ?_
        refine zr_getf i_Mod_escape_101 rfl rfl rfl ?_
        refine zr_aload_n i_Mod_escape_104 rfl ?_
        refine zr_getf i_Mod_escape_105 rfl rfl rfl ?_
        refine zr_top (y := nI (a + 3)) rfl ?_
        refine zn_iconst 1 i_Mod_escape_108 (by decide) ?_
        refine zn_isub i_Mod_escape_109 (by omega) ?_
        refine zn_caload i_Mod_escape_110 rfl (by omega) (by decide) ?_
        refine zr_iload_n i_Mod_escape_111 rfl ?_
        refine zr_icmp_ne 119 i_Mod_escape_112 (by decide) (fun q => absurd hB q) (fun c_112 => ?_)
        refine zr_iconst i_Mod_escape_115 (v := 1) (by decide) ?_
        refine zr_goto 120 i_Mod_escape_116 (by decide) ?_
        exact zR.retE i_Mod_escape_120 rfl rfl
      · rw [if_neg (fun q => hB q.2)]
        refine ⟨false, (va_up (madd ms (flat (E ++ [(k, cs)])).length (E ++ [(k, cs)]).length (ms.2 14 2)).1 1 (nI (a + 3)), (madd ms (flat (E ++ [(k, cs)])).length (E ++ [(k, cs)]).length (ms.2 14 2)).2), ?_, (mpar_add ms (flat (E ++ [(k, cs)])).length (E ++ [(k, cs)]).length (ms.2 14 2) (by omega) (by simp; omega) (by simp)).trans (mpar_at _ _), ⟨rfl, rfl⟩, rfl⟩
        refine zr_aload_n i_Mod_escape_0 rfl ?_
        refine zr_getf i_Mod_escape_1 rfl rfl rfl ?_
        refine zn_iconst 3 i_Mod_escape_4 (by decide) ?_
        refine zn_caload i_Mod_escape_5 rfl (by omega) (by decide) ?_
        refine zr_istore_n i_Mod_escape_6 rfl ?_
        refine zr_aload_n i_Mod_escape_7 rfl ?_
        refine zr_iconst i_Mod_escape_8 (v := 1) (by decide) ?_
        refine zr_cv1 i_Mod_escape_9 rfl (by decide) rfl (Nat.le_of_ble_eq_true rfl) (Nat.le_of_ble_eq_true rfl) (e_Mod_now X _ g ms n a 1 h0 h1 hn (by omega) (fun i _ => zch_nar (hc i))) ?_
        refine zr_top (y := nowF (ms.2 1) n (a + 1)) rfl ?_
        refine zr_istore_n i_Mod_escape_12 rfl ?_
        refine zr_iload_n i_Mod_escape_13 rfl ?_
        refine zr_bipush i_Mod_escape_14 (v := 70) (by decide) ?_
        refine zr_icmp_ne 23 i_Mod_escape_16 (by decide) (fun c_16 => ?_) (fun q => absurd q n70)
        refine zr_iload_n i_Mod_escape_23 rfl ?_
        refine zr_bipush i_Mod_escape_24 (v := 83) (by decide) ?_
        refine zr_icmp_ne 33 i_Mod_escape_26 (by decide) (fun c_26 => ?_) (fun q => absurd q n83)
        refine zr_iload_n i_Mod_escape_33 rfl ?_
        refine zr_bipush i_Mod_escape_34 (v := 82) (by decide) ?_
        refine zr_icmp_ne 43 i_Mod_escape_36 (by decide) (fun q => absurd hw q) (fun c_36 => ?_)
        refine zn_iconst 2 i_Mod_escape_39 (by decide) ?_
        refine zr_goto 64 i_Mod_escape_40 (by decide) ?_
        refine zr_istore_n i_Mod_escape_64 rfl ?_
        refine zr_iload_n i_Mod_escape_65 rfl ?_
        refine zr_if_lt 121 i_Mod_escape_66 (by decide) (fun q => absurd q (by decide)) (fun _ => ?_)
        refine zr_aload_n i_Mod_escape_69 rfl ?_
        refine zr_aload_n i_Mod_escape_70 rfl ?_
        refine zr_getf i_Mod_escape_71 rfl rfl rfl ?_
        refine zr_iload_n i_Mod_escape_74 rfl ?_
        refine zn_caload i_Mod_escape_75 rfl (by omega) (by decide) ?_
        refine zr_cv10 i_Mod_escape_76 rfl (by decide) rfl (Nat.le_of_ble_eq_true rfl) (Nat.le_of_ble_eq_true rfl) (e_Mod_add X _ g ms (flat (E ++ [(k, cs)])).length (E ++ [(k, cs)]).length (ms.2 14 2) hT.2.1 hT.1 (by omega) (by simp) (by simp; omega)) ?_
        refine zr_aload_n i_Mod_escape_79 rfl ?_
        refine zr_dup i_Mod_escape_80 rfl ?_
        refine zr_getf i_Mod_escape_81 rfl rfl rfl ?_
        refine zr_top (y := nI a) h1 ?_
        refine zn_iconst 3 i_Mod_escape_84 (by decide) ?_
        refine zn_iadd i_Mod_escape_85 ?_
        refine mr_putf (kk := 1) i_Mod_escape_86 rfl rfl (Nat.le_of_ble_eq_true rfl) rfl rfl rfl ?_
        refine zr_aload_n i_Mod_escape_89 rfl ?_
        refine zr_getf i_Mod_escape_90 rfl rfl rfl ?_
        refine zr_top (y := nI (a + 3)) rfl ?_
        refine zr_aload_n i_Mod_escape_93 rfl ?_
        refine zr_getf i_Mod_escape_94 rfl rfl rfl ?_
        refine zr_top (y := nI n) h0 ?_
        refine zn_icmp_gt 119 i_Mod_escape_97 (by decide) (by omega) (by omega) (fun q => absurd q (by omega)) (fun c_97 => ?_)
        refine zr_aload_n i_Mod_escape_100 rfl ?_
        refine zr_getf i_Mod_escape_101 rfl rfl rfl ?_
        refine zr_aload_n i_Mod_escape_104 rfl ?_
        refine zr_getf i_Mod_escape_105 rfl rfl rfl ?_
        refine zr_top (y := nI (a + 3)) rfl ?_
        refine zn_iconst 1 i_Mod_escape_108 (by decide) ?_
        refine zn_isub i_Mod_escape_109 (by omega) ?_
        refine zn_caload i_Mod_escape_110 rfl (by omega) (by decide) ?_
        refine zr_iload_n i_Mod_escape_111 rfl ?_
        refine zr_icmp_ne 119 i_Mod_escape_112 (by decide) (fun c_112 => ?_) (fun q => absurd q hB)
        refine zr_iconst i_Mod_escape_119 (v := 0) (by decide) ?_
        exact zR.retE i_Mod_escape_120 rfl rfl
    · rw [if_neg (fun q => hA q.1)]
      refine ⟨false, (va_up (madd ms (flat (E ++ [(k, cs)])).length (E ++ [(k, cs)]).length (ms.2 14 2)).1 1 (nI (a + 3)), (madd ms (flat (E ++ [(k, cs)])).length (E ++ [(k, cs)]).length (ms.2 14 2)).2), ?_, (mpar_add ms (flat (E ++ [(k, cs)])).length (E ++ [(k, cs)]).length (ms.2 14 2) (by omega) (by simp; omega) (by simp)).trans (mpar_at _ _), ⟨rfl, rfl⟩, rfl⟩
      refine zr_aload_n i_Mod_escape_0 rfl ?_
      refine zr_getf i_Mod_escape_1 rfl rfl rfl ?_
      refine zn_iconst 3 i_Mod_escape_4 (by decide) ?_
      refine zn_caload i_Mod_escape_5 rfl (by omega) (by decide) ?_
      refine zr_istore_n i_Mod_escape_6 rfl ?_
      refine zr_aload_n i_Mod_escape_7 rfl ?_
      refine zr_iconst i_Mod_escape_8 (v := 1) (by decide) ?_
      refine zr_cv1 i_Mod_escape_9 rfl (by decide) rfl (Nat.le_of_ble_eq_true rfl) (Nat.le_of_ble_eq_true rfl) (e_Mod_now X _ g ms n a 1 h0 h1 hn (by omega) (fun i _ => zch_nar (hc i))) ?_
      refine zr_top (y := nowF (ms.2 1) n (a + 1)) rfl ?_
      refine zr_istore_n i_Mod_escape_12 rfl ?_
      refine zr_iload_n i_Mod_escape_13 rfl ?_
      refine zr_bipush i_Mod_escape_14 (v := 70) (by decide) ?_
      refine zr_icmp_ne 23 i_Mod_escape_16 (by decide) (fun c_16 => ?_) (fun q => absurd q n70)
      refine zr_iload_n i_Mod_escape_23 rfl ?_
      refine zr_bipush i_Mod_escape_24 (v := 83) (by decide) ?_
      refine zr_icmp_ne 33 i_Mod_escape_26 (by decide) (fun c_26 => ?_) (fun q => absurd q n83)
      refine zr_iload_n i_Mod_escape_33 rfl ?_
      refine zr_bipush i_Mod_escape_34 (v := 82) (by decide) ?_
      refine zr_icmp_ne 43 i_Mod_escape_36 (by decide) (fun q => absurd hw q) (fun c_36 => ?_)
      refine zn_iconst 2 i_Mod_escape_39 (by decide) ?_
      refine zr_goto 64 i_Mod_escape_40 (by decide) ?_
      refine zr_istore_n i_Mod_escape_64 rfl ?_
      refine zr_iload_n i_Mod_escape_65 rfl ?_
      refine zr_if_lt 121 i_Mod_escape_66 (by decide) (fun q => absurd q (by decide)) (fun _ => ?_)
      refine zr_aload_n i_Mod_escape_69 rfl ?_
      refine zr_aload_n i_Mod_escape_70 rfl ?_
      refine zr_getf i_Mod_escape_71 rfl rfl rfl ?_
      refine zr_iload_n i_Mod_escape_74 rfl ?_
      refine zn_caload i_Mod_escape_75 rfl (by omega) (by decide) ?_
      refine zr_cv10 i_Mod_escape_76 rfl (by decide) rfl (Nat.le_of_ble_eq_true rfl) (Nat.le_of_ble_eq_true rfl) (e_Mod_add X _ g ms (flat (E ++ [(k, cs)])).length (E ++ [(k, cs)]).length (ms.2 14 2) hT.2.1 hT.1 (by omega) (by simp) (by simp; omega)) ?_
      refine zr_aload_n i_Mod_escape_79 rfl ?_
      refine zr_dup i_Mod_escape_80 rfl ?_
      refine zr_getf i_Mod_escape_81 rfl rfl rfl ?_
      refine zr_top (y := nI a) h1 ?_
      refine zn_iconst 3 i_Mod_escape_84 (by decide) ?_
      refine zn_iadd i_Mod_escape_85 ?_
      refine mr_putf (kk := 1) i_Mod_escape_86 rfl rfl (Nat.le_of_ble_eq_true rfl) rfl rfl rfl ?_
      refine zr_aload_n i_Mod_escape_89 rfl ?_
      refine zr_getf i_Mod_escape_90 rfl rfl rfl ?_
      refine zr_top (y := nI (a + 3)) rfl ?_
      refine zr_aload_n i_Mod_escape_93 rfl ?_
      refine zr_getf i_Mod_escape_94 rfl rfl rfl ?_
      refine zr_top (y := nI n) h0 ?_
      refine zn_icmp_gt 119 i_Mod_escape_97 (by decide) (by omega) (by omega) (fun c_97 => ?_) (fun q => absurd q (by omega))
      refine zr_iconst i_Mod_escape_119 (v := 0) (by decide) ?_
      exact zR.retE i_Mod_escape_120 rfl rfl
  by_cases hw : (nowF (ms.2 1) n (a + 1)) = 69
  · have hwl : whichL (nowF (ms.2 1) n (a + 1)) = some 3 := by rw [hw]; rfl
    have n70 : ¬ (nowF (ms.2 1) n (a + 1)) = 70 := by rw [hw]; decide
    have n83 : ¬ (nowF (ms.2 1) n (a + 1)) = 83 := by rw [hw]; decide
    have n82 : ¬ (nowF (ms.2 1) n (a + 1)) = 82 := by rw [hw]; decide
    unfold escF
    rw [hwl]
    dsimp only
    by_cases hA : a + 3 ≤ n
    · by_cases hB : ms.2 1 (a + 2) = ms.2 14 3
      · rw [if_pos ⟨hA, hB⟩]
        refine ⟨true, (va_up (madd ms (flat (E ++ [(k, cs)])).length (E ++ [(k, cs)]).length (ms.2 14 3)).1 1 (nI (a + 3)), (madd ms (flat (E ++ [(k, cs)])).length (E ++ [(k, cs)]).length (ms.2 14 3)).2), ?_, (mpar_add ms (flat (E ++ [(k, cs)])).length (E ++ [(k, cs)]).length (ms.2 14 3) (by omega) (by simp; omega) (by simp)).trans (mpar_at _ _), ⟨rfl, rfl⟩, rfl, rfl, mTab_add hT (hS 3 (by decide))⟩
        refine zr_aload_n i_Mod_escape_0 rfl ?_
        refine zr_getf i_Mod_escape_1 rfl rfl rfl ?_
        refine zn_iconst 3 i_Mod_escape_4 (by decide) ?_
        refine zn_caload i_Mod_escape_5 rfl (by omega) (by decide) ?_
        refine zr_istore_n i_Mod_escape_6 rfl ?_
        refine zr_aload_n i_Mod_escape_7 rfl ?_
        refine zr_iconst i_Mod_escape_8 (v := 1) (by decide) ?_
        refine zr_cv1 i_Mod_escape_9 rfl (by decide) rfl (Nat.le_of_ble_eq_true rfl) (Nat.le_of_ble_eq_true rfl) (e_Mod_now X _ g ms n a 1 h0 h1 hn (by omega) (fun i _ => zch_nar (hc i))) ?_
        refine zr_top (y := nowF (ms.2 1) n (a + 1)) rfl ?_
        refine zr_istore_n i_Mod_escape_12 rfl ?_
        refine zr_iload_n i_Mod_escape_13 rfl ?_
        refine zr_bipush i_Mod_escape_14 (v := 70) (by decide) ?_
        refine zr_icmp_ne 23 i_Mod_escape_16 (by decide) (fun c_16 => ?_) (fun q => absurd q n70)
        refine zr_iload_n i_Mod_escape_23 rfl ?_
        refine zr_bipush i_Mod_escape_24 (v := 83) (by decide) ?_
        refine zr_icmp_ne 33 i_Mod_escape_26 (by decide) (fun c_26 => ?_) (fun q => absurd q n83)
        refine zr_iload_n i_Mod_escape_33 rfl ?_
        refine zr_bipush i_Mod_escape_34 (v := 82) (by decide) ?_
        refine zr_icmp_ne 43 i_Mod_escape_36 (by decide) (fun c_36 => ?_) (fun q => absurd q n82)
        refine zr_iload_n i_Mod_escape_43 rfl ?_
        refine zr_bipush i_Mod_escape_44 (v := 69) (by decide) ?_
        refine zr_icmp_ne 53 i_Mod_escape_46 (by decide) (fun q => absurd hw q) (fun c_46 => ?_)
        refine zn_iconst 3 i_Mod_escape_49 (by decide) ?_
        refine zr_goto 64 i_Mod_escape_50 (by decide) ?_
        refine zr_istore_n i_Mod_escape_64 rfl ?_
        refine zr_iload_n i_Mod_escape_65 rfl ?_
        refine zr_if_lt 121 i_Mod_escape_66 (by decide) (fun q => absurd q (by decide)) (fun _ => ?_)
        refine zr_aload_n i_Mod_escape_69 rfl ?_
        refine zr_aload_n i_Mod_escape_70 rfl ?_
        refine zr_getf i_Mod_escape_71 rfl rfl rfl ?_
        refine zr_iload_n i_Mod_escape_74 rfl ?_
        refine zn_caload i_Mod_escape_75 rfl (by omega) (by decide) ?_
        refine zr_cv10 i_Mod_escape_76 rfl (by decide) rfl (Nat.le_of_ble_eq_true rfl) (Nat.le_of_ble_eq_true rfl) (e_Mod_add X _ g ms (flat (E ++ [(k, cs)])).length (E ++ [(k, cs)]).length (ms.2 14 3) hT.2.1 hT.1 (by omega) (by simp) (by simp; omega)) ?_
        refine zr_aload_n i_Mod_escape_79 rfl ?_
        refine zr_dup i_Mod_escape_80 rfl ?_
        refine zr_getf i_Mod_escape_81 rfl rfl rfl ?_
        refine zr_top (y := nI a) h1 ?_
        refine zn_iconst 3 i_Mod_escape_84 (by decide) ?_
        refine zn_iadd i_Mod_escape_85 ?_
        refine mr_putf (kk := 1) i_Mod_escape_86 rfl rfl (Nat.le_of_ble_eq_true rfl) rfl rfl rfl ?_
        refine zr_aload_n i_Mod_escape_89 rfl ?_
        refine zr_getf i_Mod_escape_90 rfl rfl rfl ?_
        refine zr_top (y := nI (a + 3)) rfl ?_
        refine zr_aload_n i_Mod_escape_93 rfl ?_
        refine zr_getf i_Mod_escape_94 rfl rfl rfl ?_
        refine zr_top (y := nI n) h0 ?_
        refine zn_icmp_gt 119 i_Mod_escape_97 (by decide) (by omega) (by omega) (fun q => absurd q (by omega)) (fun c_97 => ?_)
        refine zr_aload_n i_Mod_escape_100 rfl ?_
        refine zr_getf i_Mod_escape_101 rfl rfl rfl ?_
        refine zr_aload_n i_Mod_escape_104 rfl ?_
        refine zr_getf i_Mod_escape_105 rfl rfl rfl ?_
        refine zr_top (y := nI (a + 3)) rfl ?_
        refine zn_iconst 1 i_Mod_escape_108 (by decide) ?_
        refine zn_isub i_Mod_escape_109 (by omega) ?_
        refine zn_caload i_Mod_escape_110 rfl (by omega) (by decide) ?_
        refine zr_iload_n i_Mod_escape_111 rfl ?_
        refine zr_icmp_ne 119 i_Mod_escape_112 (by decide) (fun q => absurd hB q) (fun c_112 => ?_)
        refine zr_iconst i_Mod_escape_115 (v := 1) (by decide) ?_
        refine zr_goto 120 i_Mod_escape_116 (by decide) ?_
        exact zR.retE i_Mod_escape_120 rfl rfl
      · rw [if_neg (fun q => hB q.2)]
        refine ⟨false, (va_up (madd ms (flat (E ++ [(k, cs)])).length (E ++ [(k, cs)]).length (ms.2 14 3)).1 1 (nI (a + 3)), (madd ms (flat (E ++ [(k, cs)])).length (E ++ [(k, cs)]).length (ms.2 14 3)).2), ?_, (mpar_add ms (flat (E ++ [(k, cs)])).length (E ++ [(k, cs)]).length (ms.2 14 3) (by omega) (by simp; omega) (by simp)).trans (mpar_at _ _), ⟨rfl, rfl⟩, rfl⟩
        refine zr_aload_n i_Mod_escape_0 rfl ?_
        refine zr_getf i_Mod_escape_1 rfl rfl rfl ?_
        refine zn_iconst 3 i_Mod_escape_4 (by decide) ?_
        refine zn_caload i_Mod_escape_5 rfl (by omega) (by decide) ?_
        refine zr_istore_n i_Mod_escape_6 rfl ?_
        refine zr_aload_n i_Mod_escape_7 rfl ?_
        refine zr_iconst i_Mod_escape_8 (v := 1) (by decide) ?_
        refine zr_cv1 i_Mod_escape_9 rfl (by decide) rfl (Nat.le_of_ble_eq_true rfl) (Nat.le_of_ble_eq_true rfl) (e_Mod_now X _ g ms n a 1 h0 h1 hn (by omega) (fun i _ => zch_nar (hc i))) ?_
        refine zr_top (y := nowF (ms.2 1) n (a + 1)) rfl ?_
        refine zr_istore_n i_Mod_escape_12 rfl ?_
        refine zr_iload_n i_Mod_escape_13 rfl ?_
        refine zr_bipush i_Mod_escape_14 (v := 70) (by decide) ?_
        refine zr_icmp_ne 23 i_Mod_escape_16 (by decide) (fun c_16 => ?_) (fun q => absurd q n70)
        refine zr_iload_n i_Mod_escape_23 rfl ?_
        refine zr_bipush i_Mod_escape_24 (v := 83) (by decide) ?_
        refine zr_icmp_ne 33 i_Mod_escape_26 (by decide) (fun c_26 => ?_) (fun q => absurd q n83)
        refine zr_iload_n i_Mod_escape_33 rfl ?_
        refine zr_bipush i_Mod_escape_34 (v := 82) (by decide) ?_
        refine zr_icmp_ne 43 i_Mod_escape_36 (by decide) (fun c_36 => ?_) (fun q => absurd q n82)
        refine zr_iload_n i_Mod_escape_43 rfl ?_
        refine zr_bipush i_Mod_escape_44 (v := 69) (by decide) ?_
        refine zr_icmp_ne 53 i_Mod_escape_46 (by decide) (fun q => absurd hw q) (fun c_46 => ?_)
        refine zn_iconst 3 i_Mod_escape_49 (by decide) ?_
        refine zr_goto 64 i_Mod_escape_50 (by decide) ?_
        refine zr_istore_n i_Mod_escape_64 rfl ?_
        refine zr_iload_n i_Mod_escape_65 rfl ?_
        refine zr_if_lt 121 i_Mod_escape_66 (by decide) (fun q => absurd q (by decide)) (fun _ => ?_)
        refine zr_aload_n i_Mod_escape_69 rfl ?_
        refine zr_aload_n i_Mod_escape_70 rfl ?_
        refine zr_getf i_Mod_escape_71 rfl rfl rfl ?_
        refine zr_iload_n i_Mod_escape_74 rfl ?_
        refine zn_caload i_Mod_escape_75 rfl (by omega) (by decide) ?_
        refine zr_cv10 i_Mod_escape_76 rfl (by decide) rfl (Nat.le_of_ble_eq_true rfl) (Nat.le_of_ble_eq_true rfl) (e_Mod_add X _ g ms (flat (E ++ [(k, cs)])).length (E ++ [(k, cs)]).length (ms.2 14 3) hT.2.1 hT.1 (by omega) (by simp) (by simp; omega)) ?_
        refine zr_aload_n i_Mod_escape_79 rfl ?_
        refine zr_dup i_Mod_escape_80 rfl ?_
        refine zr_getf i_Mod_escape_81 rfl rfl rfl ?_
        refine zr_top (y := nI a) h1 ?_
        refine zn_iconst 3 i_Mod_escape_84 (by decide) ?_
        refine zn_iadd i_Mod_escape_85 ?_
        refine mr_putf (kk := 1) i_Mod_escape_86 rfl rfl (Nat.le_of_ble_eq_true rfl) rfl rfl rfl ?_
        refine zr_aload_n i_Mod_escape_89 rfl ?_
        refine zr_getf i_Mod_escape_90 rfl rfl rfl ?_
        refine zr_top (y := nI (a + 3)) rfl ?_
        refine zr_aload_n i_Mod_escape_93 rfl ?_
        refine zr_getf i_Mod_escape_94 rfl rfl rfl ?_
        refine zr_top (y := nI n) h0 ?_
        refine zn_icmp_gt 119 i_Mod_escape_97 (by decide) (by omega) (by omega) (fun q => absurd q (by omega)) (fun c_97 => ?_)
        refine zr_aload_n i_Mod_escape_100 rfl ?_
        refine zr_getf i_Mod_escape_101 rfl rfl rfl ?_
        refine zr_aload_n i_Mod_escape_104 rfl ?_
        refine zr_getf i_Mod_escape_105 rfl rfl rfl ?_
        refine zr_top (y := nI (a + 3)) rfl ?_
        refine zn_iconst 1 i_Mod_escape_108 (by decide) ?_
        refine zn_isub i_Mod_escape_109 (by omega) ?_
        refine zn_caload i_Mod_escape_110 rfl (by omega) (by decide) ?_
        refine zr_iload_n i_Mod_escape_111 rfl ?_
        refine zr_icmp_ne 119 i_Mod_escape_112 (by decide) (fun c_112 => ?_) (fun q => absurd q hB)
        refine zr_iconst i_Mod_escape_119 (v := 0) (by decide) ?_
        exact zR.retE i_Mod_escape_120 rfl rfl
    · rw [if_neg (fun q => hA q.1)]
      refine ⟨false, (va_up (madd ms (flat (E ++ [(k, cs)])).length (E ++ [(k, cs)]).length (ms.2 14 3)).1 1 (nI (a + 3)), (madd ms (flat (E ++ [(k, cs)])).length (E ++ [(k, cs)]).length (ms.2 14 3)).2), ?_, (mpar_add ms (flat (E ++ [(k, cs)])).length (E ++ [(k, cs)]).length (ms.2 14 3) (by omega) (by simp; omega) (by simp)).trans (mpar_at _ _), ⟨rfl, rfl⟩, rfl⟩
      refine zr_aload_n i_Mod_escape_0 rfl ?_
      refine zr_getf i_Mod_escape_1 rfl rfl rfl ?_
      refine zn_iconst 3 i_Mod_escape_4 (by decide) ?_
      refine zn_caload i_Mod_escape_5 rfl (by omega) (by decide) ?_
      refine zr_istore_n i_Mod_escape_6 rfl ?_
      refine zr_aload_n i_Mod_escape_7 rfl ?_
      refine zr_iconst i_Mod_escape_8 (v := 1) (by decide) ?_
      refine zr_cv1 i_Mod_escape_9 rfl (by decide) rfl (Nat.le_of_ble_eq_true rfl) (Nat.le_of_ble_eq_true rfl) (e_Mod_now X _ g ms n a 1 h0 h1 hn (by omega) (fun i _ => zch_nar (hc i))) ?_
      refine zr_top (y := nowF (ms.2 1) n (a + 1)) rfl ?_
      refine zr_istore_n i_Mod_escape_12 rfl ?_
      refine zr_iload_n i_Mod_escape_13 rfl ?_
      refine zr_bipush i_Mod_escape_14 (v := 70) (by decide) ?_
      refine zr_icmp_ne 23 i_Mod_escape_16 (by decide) (fun c_16 => ?_) (fun q => absurd q n70)
      refine zr_iload_n i_Mod_escape_23 rfl ?_
      refine zr_bipush i_Mod_escape_24 (v := 83) (by decide) ?_
      refine zr_icmp_ne 33 i_Mod_escape_26 (by decide) (fun c_26 => ?_) (fun q => absurd q n83)
      refine zr_iload_n i_Mod_escape_33 rfl ?_
      refine zr_bipush i_Mod_escape_34 (v := 82) (by decide) ?_
      refine zr_icmp_ne 43 i_Mod_escape_36 (by decide) (fun c_36 => ?_) (fun q => absurd q n82)
      refine zr_iload_n i_Mod_escape_43 rfl ?_
      refine zr_bipush i_Mod_escape_44 (v := 69) (by decide) ?_
      refine zr_icmp_ne 53 i_Mod_escape_46 (by decide) (fun q => absurd hw q) (fun c_46 => ?_)
      refine zn_iconst 3 i_Mod_escape_49 (by decide) ?_
      refine zr_goto 64 i_Mod_escape_50 (by decide) ?_
      refine zr_istore_n i_Mod_escape_64 rfl ?_
      refine zr_iload_n i_Mod_escape_65 rfl ?_
      refine zr_if_lt 121 i_Mod_escape_66 (by decide) (fun q => absurd q (by decide)) (fun _ => ?_)
      refine zr_aload_n i_Mod_escape_69 rfl ?_
      refine zr_aload_n i_Mod_escape_70 rfl ?_
      refine zr_getf i_Mod_escape_71 rfl rfl rfl ?_
      refine zr_iload_n i_Mod_escape_74 rfl ?_
      refine zn_caload i_Mod_escape_75 rfl (by omega) (by decide) ?_
      refine zr_cv10 i_Mod_escape_76 rfl (by decide) rfl (Nat.le_of_ble_eq_true rfl) (Nat.le_of_ble_eq_true rfl) (e_Mod_add X _ g ms (flat (E ++ [(k, cs)])).length (E ++ [(k, cs)]).length (ms.2 14 3) hT.2.1 hT.1 (by omega) (by simp) (by simp; omega)) ?_
      refine zr_aload_n i_Mod_escape_79 rfl ?_
      refine zr_dup i_Mod_escape_80 rfl ?_
      refine zr_getf i_Mod_escape_81 rfl rfl rfl ?_
      refine zr_top (y := nI a) h1 ?_
      refine zn_iconst 3 i_Mod_escape_84 (by decide) ?_
      refine zn_iadd i_Mod_escape_85 ?_
      refine mr_putf (kk := 1) i_Mod_escape_86 rfl rfl (Nat.le_of_ble_eq_true rfl) rfl rfl rfl ?_
      refine zr_aload_n i_Mod_escape_89 rfl ?_
      refine zr_getf i_Mod_escape_90 rfl rfl rfl ?_
      refine zr_top (y := nI (a + 3)) rfl ?_
      refine zr_aload_n i_Mod_escape_93 rfl ?_
      refine zr_getf i_Mod_escape_94 rfl rfl rfl ?_
      refine zr_top (y := nI n) h0 ?_
      refine zn_icmp_gt 119 i_Mod_escape_97 (by decide) (by omega) (by omega) (fun c_97 => ?_) (fun q => absurd q (by omega))
      refine zr_iconst i_Mod_escape_119 (v := 0) (by decide) ?_
      exact zR.retE i_Mod_escape_120 rfl rfl
  by_cases hw : (nowF (ms.2 1) n (a + 1)) = 84
  · have hwl : whichL (nowF (ms.2 1) n (a + 1)) = some 4 := by rw [hw]; rfl
    have n70 : ¬ (nowF (ms.2 1) n (a + 1)) = 70 := by rw [hw]; decide
    have n83 : ¬ (nowF (ms.2 1) n (a + 1)) = 83 := by rw [hw]; decide
    have n82 : ¬ (nowF (ms.2 1) n (a + 1)) = 82 := by rw [hw]; decide
    have n69 : ¬ (nowF (ms.2 1) n (a + 1)) = 69 := by rw [hw]; decide
    unfold escF
    rw [hwl]
    dsimp only
    by_cases hA : a + 3 ≤ n
    · by_cases hB : ms.2 1 (a + 2) = ms.2 14 3
      · rw [if_pos ⟨hA, hB⟩]
        refine ⟨true, (va_up (madd ms (flat (E ++ [(k, cs)])).length (E ++ [(k, cs)]).length (ms.2 14 4)).1 1 (nI (a + 3)), (madd ms (flat (E ++ [(k, cs)])).length (E ++ [(k, cs)]).length (ms.2 14 4)).2), ?_, (mpar_add ms (flat (E ++ [(k, cs)])).length (E ++ [(k, cs)]).length (ms.2 14 4) (by omega) (by simp; omega) (by simp)).trans (mpar_at _ _), ⟨rfl, rfl⟩, rfl, rfl, mTab_add hT (hS 4 (by decide))⟩
        refine zr_aload_n i_Mod_escape_0 rfl ?_
        refine zr_getf i_Mod_escape_1 rfl rfl rfl ?_
        refine zn_iconst 3 i_Mod_escape_4 (by decide) ?_
        refine zn_caload i_Mod_escape_5 rfl (by omega) (by decide) ?_
        refine zr_istore_n i_Mod_escape_6 rfl ?_
        refine zr_aload_n i_Mod_escape_7 rfl ?_
        refine zr_iconst i_Mod_escape_8 (v := 1) (by decide) ?_
        refine zr_cv1 i_Mod_escape_9 rfl (by decide) rfl (Nat.le_of_ble_eq_true rfl) (Nat.le_of_ble_eq_true rfl) (e_Mod_now X _ g ms n a 1 h0 h1 hn (by omega) (fun i _ => zch_nar (hc i))) ?_
        refine zr_top (y := nowF (ms.2 1) n (a + 1)) rfl ?_
        refine zr_istore_n i_Mod_escape_12 rfl ?_
        refine zr_iload_n i_Mod_escape_13 rfl ?_
        refine zr_bipush i_Mod_escape_14 (v := 70) (by decide) ?_
        refine zr_icmp_ne 23 i_Mod_escape_16 (by decide) (fun c_16 => ?_) (fun q => absurd q n70)
        refine zr_iload_n i_Mod_escape_23 rfl ?_
        refine zr_bipush i_Mod_escape_24 (v := 83) (by decide) ?_
        refine zr_icmp_ne 33 i_Mod_escape_26 (by decide) (fun c_26 => ?_) (fun q => absurd q n83)
        refine zr_iload_n i_Mod_escape_33 rfl ?_
        refine zr_bipush i_Mod_escape_34 (v := 82) (by decide) ?_
        refine zr_icmp_ne 43 i_Mod_escape_36 (by decide) (fun c_36 => ?_) (fun q => absurd q n82)
        refine zr_iload_n i_Mod_escape_43 rfl ?_
        refine zr_bipush i_Mod_escape_44 (v := 69) (by decide) ?_
        refine zr_icmp_ne 53 i_Mod_escape_46 (by decide) (fun c_46 => ?_) (fun q => absurd q n69)
        refine zr_iload_n i_Mod_escape_53 rfl ?_
        refine zr_bipush i_Mod_escape_54 (v := 84) (by decide) ?_
        refine zr_icmp_ne 63 i_Mod_escape_56 (by decide) (fun q => absurd hw q) (fun c_56 => ?_)
        refine zn_iconst 4 i_Mod_escape_59 (by decide) ?_
        refine zr_goto 64 i_Mod_escape_60 (by decide) ?_
        refine zr_istore_n i_Mod_escape_64 rfl ?_
        refine zr_iload_n i_Mod_escape_65 rfl ?_
        refine zr_if_lt 121 i_Mod_escape_66 (by decide) (fun q => absurd q (by decide)) (fun _ => ?_)
        refine zr_aload_n i_Mod_escape_69 rfl ?_
        refine zr_aload_n i_Mod_escape_70 rfl ?_
        refine zr_getf i_Mod_escape_71 rfl rfl rfl ?_
        refine zr_iload_n i_Mod_escape_74 rfl ?_
        refine zn_caload i_Mod_escape_75 rfl (by omega) (by decide) ?_
        refine zr_cv10 i_Mod_escape_76 rfl (by decide) rfl (Nat.le_of_ble_eq_true rfl) (Nat.le_of_ble_eq_true rfl) (e_Mod_add X _ g ms (flat (E ++ [(k, cs)])).length (E ++ [(k, cs)]).length (ms.2 14 4) hT.2.1 hT.1 (by omega) (by simp) (by simp; omega)) ?_
        refine zr_aload_n i_Mod_escape_79 rfl ?_
        refine zr_dup i_Mod_escape_80 rfl ?_
        refine zr_getf i_Mod_escape_81 rfl rfl rfl ?_
        refine zr_top (y := nI a) h1 ?_
        refine zn_iconst 3 i_Mod_escape_84 (by decide) ?_
        refine zn_iadd i_Mod_escape_85 ?_
        refine mr_putf (kk := 1) i_Mod_escape_86 rfl rfl (Nat.le_of_ble_eq_true rfl) rfl rfl rfl ?_
        refine zr_aload_n i_Mod_escape_89 rfl ?_
        refine zr_getf i_Mod_escape_90 rfl rfl rfl ?_
        refine zr_top (y := nI (a + 3)) rfl ?_
        refine zr_aload_n i_Mod_escape_93 rfl ?_
        refine zr_getf i_Mod_escape_94 rfl rfl rfl ?_
        refine zr_top (y := nI n) h0 ?_
        refine zn_icmp_gt 119 i_Mod_escape_97 (by decide) (by omega) (by omega) (fun q => absurd q (by omega)) (fun c_97 => ?_)
        refine zr_aload_n i_Mod_escape_100 rfl ?_
        refine zr_getf i_Mod_escape_101 rfl rfl rfl ?_
        refine zr_aload_n i_Mod_escape_104 rfl ?_
        refine zr_getf i_Mod_escape_105 rfl rfl rfl ?_
        refine zr_top (y := nI (a + 3)) rfl ?_
        refine zn_iconst 1 i_Mod_escape_108 (by decide) ?_
        refine zn_isub i_Mod_escape_109 (by omega) ?_
        refine zn_caload i_Mod_escape_110 rfl (by omega) (by decide) ?_
        refine zr_iload_n i_Mod_escape_111 rfl ?_
        refine zr_icmp_ne 119 i_Mod_escape_112 (by decide) (fun q => absurd hB q) (fun c_112 => ?_)
        refine zr_iconst i_Mod_escape_115 (v := 1) (by decide) ?_
        refine zr_goto 120 i_Mod_escape_116 (by decide) ?_
        exact zR.retE i_Mod_escape_120 rfl rfl
      · rw [if_neg (fun q => hB q.2)]
        refine ⟨false, (va_up (madd ms (flat (E ++ [(k, cs)])).length (E ++ [(k, cs)]).length (ms.2 14 4)).1 1 (nI (a + 3)), (madd ms (flat (E ++ [(k, cs)])).length (E ++ [(k, cs)]).length (ms.2 14 4)).2), ?_, (mpar_add ms (flat (E ++ [(k, cs)])).length (E ++ [(k, cs)]).length (ms.2 14 4) (by omega) (by simp; omega) (by simp)).trans (mpar_at _ _), ⟨rfl, rfl⟩, rfl⟩
        refine zr_aload_n i_Mod_escape_0 rfl ?_
        refine zr_getf i_Mod_escape_1 rfl rfl rfl ?_
        refine zn_iconst 3 i_Mod_escape_4 (by decide) ?_
        refine zn_caload i_Mod_escape_5 rfl (by omega) (by decide) ?_
        refine zr_istore_n i_Mod_escape_6 rfl ?_
        refine zr_aload_n i_Mod_escape_7 rfl ?_
        refine zr_iconst i_Mod_escape_8 (v := 1) (by decide) ?_
        refine zr_cv1 i_Mod_escape_9 rfl (by decide) rfl (Nat.le_of_ble_eq_true rfl) (Nat.le_of_ble_eq_true rfl) (e_Mod_now X _ g ms n a 1 h0 h1 hn (by omega) (fun i _ => zch_nar (hc i))) ?_
        refine zr_top (y := nowF (ms.2 1) n (a + 1)) rfl ?_
        refine zr_istore_n i_Mod_escape_12 rfl ?_
        refine zr_iload_n i_Mod_escape_13 rfl ?_
        refine zr_bipush i_Mod_escape_14 (v := 70) (by decide) ?_
        refine zr_icmp_ne 23 i_Mod_escape_16 (by decide) (fun c_16 => ?_) (fun q => absurd q n70)
        refine zr_iload_n i_Mod_escape_23 rfl ?_
        refine zr_bipush i_Mod_escape_24 (v := 83) (by decide) ?_
        refine zr_icmp_ne 33 i_Mod_escape_26 (by decide) (fun c_26 => ?_) (fun q => absurd q n83)
        refine zr_iload_n i_Mod_escape_33 rfl ?_
        refine zr_bipush i_Mod_escape_34 (v := 82) (by decide) ?_
        refine zr_icmp_ne 43 i_Mod_escape_36 (by decide) (fun c_36 => ?_) (fun q => absurd q n82)
        refine zr_iload_n i_Mod_escape_43 rfl ?_
        refine zr_bipush i_Mod_escape_44 (v := 69) (by decide) ?_
        refine zr_icmp_ne 53 i_Mod_escape_46 (by decide) (fun c_46 => ?_) (fun q => absurd q n69)
        refine zr_iload_n i_Mod_escape_53 rfl ?_
        refine zr_bipush i_Mod_escape_54 (v := 84) (by decide) ?_
        refine zr_icmp_ne 63 i_Mod_escape_56 (by decide) (fun q => absurd hw q) (fun c_56 => ?_)
        refine zn_iconst 4 i_Mod_escape_59 (by decide) ?_
        refine zr_goto 64 i_Mod_escape_60 (by decide) ?_
        refine zr_istore_n i_Mod_escape_64 rfl ?_
        refine zr_iload_n i_Mod_escape_65 rfl ?_
        refine zr_if_lt 121 i_Mod_escape_66 (by decide) (fun q => absurd q (by decide)) (fun _ => ?_)
        refine zr_aload_n i_Mod_escape_69 rfl ?_
        refine zr_aload_n i_Mod_escape_70 rfl ?_
        refine zr_getf i_Mod_escape_71 rfl rfl rfl ?_
        refine zr_iload_n i_Mod_escape_74 rfl ?_
        refine zn_caload i_Mod_escape_75 rfl (by omega) (by decide) ?_
        refine zr_cv10 i_Mod_escape_76 rfl (by decide) rfl (Nat.le_of_ble_eq_true rfl) (Nat.le_of_ble_eq_true rfl) (e_Mod_add X _ g ms (flat (E ++ [(k, cs)])).length (E ++ [(k, cs)]).length (ms.2 14 4) hT.2.1 hT.1 (by omega) (by simp) (by simp; omega)) ?_
        refine zr_aload_n i_Mod_escape_79 rfl ?_
        refine zr_dup i_Mod_escape_80 rfl ?_
        refine zr_getf i_Mod_escape_81 rfl rfl rfl ?_
        refine zr_top (y := nI a) h1 ?_
        refine zn_iconst 3 i_Mod_escape_84 (by decide) ?_
        refine zn_iadd i_Mod_escape_85 ?_
        refine mr_putf (kk := 1) i_Mod_escape_86 rfl rfl (Nat.le_of_ble_eq_true rfl) rfl rfl rfl ?_
        refine zr_aload_n i_Mod_escape_89 rfl ?_
        refine zr_getf i_Mod_escape_90 rfl rfl rfl ?_
        refine zr_top (y := nI (a + 3)) rfl ?_
        refine zr_aload_n i_Mod_escape_93 rfl ?_
        refine zr_getf i_Mod_escape_94 rfl rfl rfl ?_
        refine zr_top (y := nI n) h0 ?_
        refine zn_icmp_gt 119 i_Mod_escape_97 (by decide) (by omega) (by omega) (fun q => absurd q (by omega)) (fun c_97 => ?_)
        refine zr_aload_n i_Mod_escape_100 rfl ?_
        refine zr_getf i_Mod_escape_101 rfl rfl rfl ?_
        refine zr_aload_n i_Mod_escape_104 rfl ?_
        refine zr_getf i_Mod_escape_105 rfl rfl rfl ?_
        refine zr_top (y := nI (a + 3)) rfl ?_
        refine zn_iconst 1 i_Mod_escape_108 (by decide) ?_
        refine zn_isub i_Mod_escape_109 (by omega) ?_
        refine zn_caload i_Mod_escape_110 rfl (by omega) (by decide) ?_
        refine zr_iload_n i_Mod_escape_111 rfl ?_
        refine zr_icmp_ne 119 i_Mod_escape_112 (by decide) (fun c_112 => ?_) (fun q => absurd q hB)
        refine zr_iconst i_Mod_escape_119 (v := 0) (by decide) ?_
        exact zR.retE i_Mod_escape_120 rfl rfl
    · rw [if_neg (fun q => hA q.1)]
      refine ⟨false, (va_up (madd ms (flat (E ++ [(k, cs)])).length (E ++ [(k, cs)]).length (ms.2 14 4)).1 1 (nI (a + 3)), (madd ms (flat (E ++ [(k, cs)])).length (E ++ [(k, cs)]).length (ms.2 14 4)).2), ?_, (mpar_add ms (flat (E ++ [(k, cs)])).length (E ++ [(k, cs)]).length (ms.2 14 4) (by omega) (by simp; omega) (by simp)).trans (mpar_at _ _), ⟨rfl, rfl⟩, rfl⟩
      refine zr_aload_n i_Mod_escape_0 rfl ?_
      refine zr_getf i_Mod_escape_1 rfl rfl rfl ?_
      refine zn_iconst 3 i_Mod_escape_4 (by decide) ?_
      refine zn_caload i_Mod_escape_5 rfl (by omega) (by decide) ?_
      refine zr_istore_n i_Mod_escape_6 rfl ?_
      refine zr_aload_n i_Mod_escape_7 rfl ?_
      refine zr_iconst i_Mod_escape_8 (v := 1) (by decide) ?_
      refine zr_cv1 i_Mod_escape_9 rfl (by decide) rfl (Nat.le_of_ble_eq_true rfl) (Nat.le_of_ble_eq_true rfl) (e_Mod_now X _ g ms n a 1 h0 h1 hn (by omega) (fun i _ => zch_nar (hc i))) ?_
      refine zr_top (y := nowF (ms.2 1) n (a + 1)) rfl ?_
      refine zr_istore_n i_Mod_escape_12 rfl ?_
      refine zr_iload_n i_Mod_escape_13 rfl ?_
      refine zr_bipush i_Mod_escape_14 (v := 70) (by decide) ?_
      refine zr_icmp_ne 23 i_Mod_escape_16 (by decide) (fun c_16 => ?_) (fun q => absurd q n70)
      refine zr_iload_n i_Mod_escape_23 rfl ?_
      refine zr_bipush i_Mod_escape_24 (v := 83) (by decide) ?_
      refine zr_icmp_ne 33 i_Mod_escape_26 (by decide) (fun c_26 => ?_) (fun q => absurd q n83)
      refine zr_iload_n i_Mod_escape_33 rfl ?_
      refine zr_bipush i_Mod_escape_34 (v := 82) (by decide) ?_
      refine zr_icmp_ne 43 i_Mod_escape_36 (by decide) (fun c_36 => ?_) (fun q => absurd q n82)
      refine zr_iload_n i_Mod_escape_43 rfl ?_
      refine zr_bipush i_Mod_escape_44 (v := 69) (by decide) ?_
      refine zr_icmp_ne 53 i_Mod_escape_46 (by decide) (fun c_46 => ?_) (fun q => absurd q n69)
      refine zr_iload_n i_Mod_escape_53 rfl ?_
      refine zr_bipush i_Mod_escape_54 (v := 84) (by decide) ?_
      refine zr_icmp_ne 63 i_Mod_escape_56 (by decide) (fun q => absurd hw q) (fun c_56 => ?_)
      refine zn_iconst 4 i_Mod_escape_59 (by decide) ?_
      refine zr_goto 64 i_Mod_escape_60 (by decide) ?_
      refine zr_istore_n i_Mod_escape_64 rfl ?_
      refine zr_iload_n i_Mod_escape_65 rfl ?_
      refine zr_if_lt 121 i_Mod_escape_66 (by decide) (fun q => absurd q (by decide)) (fun _ => ?_)
      refine zr_aload_n i_Mod_escape_69 rfl ?_
      refine zr_aload_n i_Mod_escape_70 rfl ?_
      refine zr_getf i_Mod_escape_71 rfl rfl rfl ?_
      refine zr_iload_n i_Mod_escape_74 rfl ?_
      refine zn_caload i_Mod_escape_75 rfl (by omega) (by decide) ?_
      refine zr_cv10 i_Mod_escape_76 rfl (by decide) rfl (Nat.le_of_ble_eq_true rfl) (Nat.le_of_ble_eq_true rfl) (e_Mod_add X _ g ms (flat (E ++ [(k, cs)])).length (E ++ [(k, cs)]).length (ms.2 14 4) hT.2.1 hT.1 (by omega) (by simp) (by simp; omega)) ?_
      refine zr_aload_n i_Mod_escape_79 rfl ?_
      refine zr_dup i_Mod_escape_80 rfl ?_
      refine zr_getf i_Mod_escape_81 rfl rfl rfl ?_
      refine zr_top (y := nI a) h1 ?_
      refine zn_iconst 3 i_Mod_escape_84 (by decide) ?_
      refine zn_iadd i_Mod_escape_85 ?_
      refine mr_putf (kk := 1) i_Mod_escape_86 rfl rfl (Nat.le_of_ble_eq_true rfl) rfl rfl rfl ?_
      refine zr_aload_n i_Mod_escape_89 rfl ?_
      refine zr_getf i_Mod_escape_90 rfl rfl rfl ?_
      refine zr_top (y := nI (a + 3)) rfl ?_
      refine zr_aload_n i_Mod_escape_93 rfl ?_
      refine zr_getf i_Mod_escape_94 rfl rfl rfl ?_
      refine zr_top (y := nI n) h0 ?_
      refine zn_icmp_gt 119 i_Mod_escape_97 (by decide) (by omega) (by omega) (fun c_97 => ?_) (fun q => absurd q (by omega))
      refine zr_iconst i_Mod_escape_119 (v := 0) (by decide) ?_
      exact zR.retE i_Mod_escape_120 rfl rfl
  rename_i w0 w1 w2 w3
  have w4 := hw
  have hwl : whichL (nowF (ms.2 1) n (a + 1)) = none := by unfold whichL; simp [*]
  unfold escF
  rw [hwl]
  dsimp only
  by_cases hH : hexOk (ms.2 1) n (ms.2 14) a = true
  · rw [if_pos hH]
    replace hH := of_decide_eq_true hH
    obtain ⟨x, hx1, hx2, hx⟩ := i32_rng (a := 32) (b := 126) (m := 32) (n := 126) rfl rfl (by decide) (by decide) hH.2.2.2.2.1 hH.2.2.2.2.2
    have hz : zch (hexV (ms.2 1) n a) := by rw [hx]; exact zch_n (by omega)
    obtain ⟨q1, q2, q3, q4, q5, q6⟩ := id hH
    refine ⟨true, (va_up (madd ms (flat (E ++ [(k, cs)])).length (E ++ [(k, cs)]).length (hexV (ms.2 1) n a)).1 1 (nI (a + 5)), (madd ms (flat (E ++ [(k, cs)])).length (E ++ [(k, cs)]).length (hexV (ms.2 1) n a)).2), ?_, (mpar_add ms (flat (E ++ [(k, cs)])).length (E ++ [(k, cs)]).length (hexV (ms.2 1) n a) (by omega) (by simp; omega) (by simp)).trans (mpar_at _ _), ⟨rfl, rfl⟩, rfl, rfl, mTab_add hT hz⟩
    refine zr_aload_n i_Mod_escape_0 rfl ?_
    refine zr_getf i_Mod_escape_1 rfl rfl rfl ?_
    refine zn_iconst 3 i_Mod_escape_4 (by decide) ?_
    refine zn_caload i_Mod_escape_5 rfl (by omega) (by decide) ?_
    refine zr_istore_n i_Mod_escape_6 rfl ?_
    refine zr_aload_n i_Mod_escape_7 rfl ?_
    refine zr_iconst i_Mod_escape_8 (v := 1) (by decide) ?_
    refine zr_cv1 i_Mod_escape_9 rfl (by decide) rfl (Nat.le_of_ble_eq_true rfl) (Nat.le_of_ble_eq_true rfl) (e_Mod_now X _ g ms n a 1 h0 h1 hn (by omega) (fun i _ => zch_nar (hc i))) ?_
    refine zr_top (y := nowF (ms.2 1) n (a + 1)) rfl ?_
    refine zr_istore_n i_Mod_escape_12 rfl ?_
    refine zr_iload_n i_Mod_escape_13 rfl ?_
    refine zr_bipush i_Mod_escape_14 (v := 70) (by decide) ?_
    refine zr_icmp_ne 23 i_Mod_escape_16 (by decide) (fun c_16 => ?_) (fun q => absurd q w0)
    refine zr_iload_n i_Mod_escape_23 rfl ?_
    refine zr_bipush i_Mod_escape_24 (v := 83) (by decide) ?_
    refine zr_icmp_ne 33 i_Mod_escape_26 (by decide) (fun c_26 => ?_) (fun q => absurd q w1)
    refine zr_iload_n i_Mod_escape_33 rfl ?_
    refine zr_bipush i_Mod_escape_34 (v := 82) (by decide) ?_
    refine zr_icmp_ne 43 i_Mod_escape_36 (by decide) (fun c_36 => ?_) (fun q => absurd q w2)
    refine zr_iload_n i_Mod_escape_43 rfl ?_
    refine zr_bipush i_Mod_escape_44 (v := 69) (by decide) ?_
    refine zr_icmp_ne 53 i_Mod_escape_46 (by decide) (fun c_46 => ?_) (fun q => absurd q w3)
    refine zr_iload_n i_Mod_escape_53 rfl ?_
    refine zr_bipush i_Mod_escape_54 (v := 84) (by decide) ?_
    refine zr_icmp_ne 63 i_Mod_escape_56 (by decide) (fun c_56 => ?_) (fun q => absurd q w4)
    refine zr_iconst i_Mod_escape_63 (v := (-1)) (by decide) ?_
    refine zr_istore_n i_Mod_escape_64 rfl ?_
    refine zr_iload_n i_Mod_escape_65 rfl ?_
    refine zr_if_lt 121 i_Mod_escape_66 (by decide) (fun _ => ?_) (fun q => absurd q (by decide))
    refine zr_aload_n i_Mod_escape_121 rfl ?_
    refine zr_iconst i_Mod_escape_122 (v := 2) (by decide) ?_
    refine zr_cv1 i_Mod_escape_123 rfl (by decide) rfl (Nat.le_of_ble_eq_true rfl) (Nat.le_of_ble_eq_true rfl) (e_Mod_now X _ g ms n a 2 h0 h1 hn (by omega) (fun i _ => zch_nar (hc i))) ?_
    refine zr_top (y := nowF (ms.2 1) n (a + 2)) rfl ?_
    refine zr_cs1 i_Mod_escape_126 rfl (by decide) (Nat.le_of_ble_eq_true rfl) (Nat.le_of_ble_eq_true rfl) (e_Mod_hex X _ _ _) ?_
    refine zr_istore i_Mod_escape_129 rfl ?_
    refine zr_aload_n i_Mod_escape_131 rfl ?_
    refine zr_iconst i_Mod_escape_132 (v := 3) (by decide) ?_
    refine zr_cv1 i_Mod_escape_133 rfl (by decide) rfl (Nat.le_of_ble_eq_true rfl) (Nat.le_of_ble_eq_true rfl) (e_Mod_now X _ g ms n a 3 h0 h1 hn (by omega) (fun i _ => zch_nar (hc i))) ?_
    refine zr_top (y := nowF (ms.2 1) n (a + 3)) rfl ?_
    refine zr_cs1 i_Mod_escape_136 rfl (by decide) (Nat.le_of_ble_eq_true rfl) (Nat.le_of_ble_eq_true rfl) (e_Mod_hex X _ _ _) ?_
    refine zr_istore i_Mod_escape_139 rfl ?_
    refine zr_bipush i_Mod_escape_141 (v := 16) (by decide) ?_
    refine zr_iload i_Mod_escape_143 rfl ?_
    refine zr_imul i_Mod_escape_145 ?_
    refine zr_iload i_Mod_escape_146 rfl ?_
    refine zr_iadd i_Mod_escape_148 ?_
    refine zr_top (y := (hexV (ms.2 1) n a)) rfl ?_
    refine zr_istore i_Mod_escape_149 rfl ?_
    refine zr_iload_n i_Mod_escape_151 rfl ?_
    refine zr_bipush i_Mod_escape_152 (v := 88) (by decide) ?_
    refine zr_icmp_ne 190 i_Mod_escape_154 (by decide) (fun q => absurd q1 q) (fun c_154 => ?_)
    refine zr_iload i_Mod_escape_157 rfl ?_
    refine zr_if_lt 190 i_Mod_escape_159 (by decide) (fun q => absurd q q2) (fun _ => ?_)
    refine zr_iload i_Mod_escape_162 rfl ?_
    refine zr_if_lt 190 i_Mod_escape_164 (by decide) (fun q => absurd q q3) (fun _ => ?_)
    refine zr_aload_n i_Mod_escape_167 rfl ?_
    refine zr_iconst i_Mod_escape_168 (v := 4) (by decide) ?_
    refine zr_cv1 i_Mod_escape_169 rfl (by decide) rfl (Nat.le_of_ble_eq_true rfl) (Nat.le_of_ble_eq_true rfl) (e_Mod_now X _ g ms n a 4 h0 h1 hn (by omega) (fun i _ => zch_nar (hc i))) ?_
    refine zr_top (y := nowF (ms.2 1) n (a + 4)) rfl ?_
    refine zr_iload_n i_Mod_escape_172 rfl ?_
    refine zr_icmp_ne 190 i_Mod_escape_173 (by decide) (fun q => absurd q4 q) (fun c_173 => ?_)
    refine zr_iload i_Mod_escape_176 rfl ?_
    refine zr_bipush i_Mod_escape_178 (v := 32) (by decide) ?_
    refine zr_icmp_lt 190 i_Mod_escape_180 (by decide) (fun q => absurd q q5) (fun c_180 => ?_)
    refine zr_iload i_Mod_escape_183 rfl ?_
    refine zr_bipush i_Mod_escape_185 (v := 126) (by decide) ?_
    refine zr_icmp_le 192 i_Mod_escape_187 (by decide) (fun _ => ?_) (fun q => absurd (Int32.not_lt.mp hH.2.2.2.2.2) q)
    refine zr_aload_n i_Mod_escape_192 rfl ?_
    refine zr_iload i_Mod_escape_193 rfl ?_
    refine zr_i2c i_Mod_escape_195 ?_
    refine zr_top (y := (hexV (ms.2 1) n a)) (zch_i2c hz) ?_
    refine zr_cv10 i_Mod_escape_196 rfl (by decide) rfl (Nat.le_of_ble_eq_true rfl) (Nat.le_of_ble_eq_true rfl) (e_Mod_add X _ g ms (flat (E ++ [(k, cs)])).length (E ++ [(k, cs)]).length (hexV (ms.2 1) n a) hT.2.1 hT.1 (by omega) (by simp) (by simp; omega)) ?_
    refine zr_aload_n i_Mod_escape_199 rfl ?_
    refine zr_dup i_Mod_escape_200 rfl ?_
    refine zr_getf i_Mod_escape_201 rfl rfl rfl ?_
    refine zr_top (y := nI a) h1 ?_
    refine zn_iconst 5 i_Mod_escape_204 (by decide) ?_
    refine zn_iadd i_Mod_escape_205 ?_
    refine mr_putf (kk := 1) i_Mod_escape_206 rfl rfl (Nat.le_of_ble_eq_true rfl) rfl rfl rfl ?_
    refine zr_iconst i_Mod_escape_209 (v := 1) (by decide) ?_
    exact zR.retE i_Mod_escape_210 rfl rfl
  · rw [if_neg hH]
    refine ⟨false, ms, ?_, mpar.refl ms, ⟨rfl, rfl⟩, rfl⟩
    refine zr_aload_n i_Mod_escape_0 rfl ?_
    refine zr_getf i_Mod_escape_1 rfl rfl rfl ?_
    refine zn_iconst 3 i_Mod_escape_4 (by decide) ?_
    refine zn_caload i_Mod_escape_5 rfl (by omega) (by decide) ?_
    refine zr_istore_n i_Mod_escape_6 rfl ?_
    refine zr_aload_n i_Mod_escape_7 rfl ?_
    refine zr_iconst i_Mod_escape_8 (v := 1) (by decide) ?_
    refine zr_cv1 i_Mod_escape_9 rfl (by decide) rfl (Nat.le_of_ble_eq_true rfl) (Nat.le_of_ble_eq_true rfl) (e_Mod_now X _ g ms n a 1 h0 h1 hn (by omega) (fun i _ => zch_nar (hc i))) ?_
    refine zr_top (y := nowF (ms.2 1) n (a + 1)) rfl ?_
    refine zr_istore_n i_Mod_escape_12 rfl ?_
    refine zr_iload_n i_Mod_escape_13 rfl ?_
    refine zr_bipush i_Mod_escape_14 (v := 70) (by decide) ?_
    refine zr_icmp_ne 23 i_Mod_escape_16 (by decide) (fun c_16 => ?_) (fun q => absurd q w0)
    refine zr_iload_n i_Mod_escape_23 rfl ?_
    refine zr_bipush i_Mod_escape_24 (v := 83) (by decide) ?_
    refine zr_icmp_ne 33 i_Mod_escape_26 (by decide) (fun c_26 => ?_) (fun q => absurd q w1)
    refine zr_iload_n i_Mod_escape_33 rfl ?_
    refine zr_bipush i_Mod_escape_34 (v := 82) (by decide) ?_
    refine zr_icmp_ne 43 i_Mod_escape_36 (by decide) (fun c_36 => ?_) (fun q => absurd q w2)
    refine zr_iload_n i_Mod_escape_43 rfl ?_
    refine zr_bipush i_Mod_escape_44 (v := 69) (by decide) ?_
    refine zr_icmp_ne 53 i_Mod_escape_46 (by decide) (fun c_46 => ?_) (fun q => absurd q w3)
    refine zr_iload_n i_Mod_escape_53 rfl ?_
    refine zr_bipush i_Mod_escape_54 (v := 84) (by decide) ?_
    refine zr_icmp_ne 63 i_Mod_escape_56 (by decide) (fun c_56 => ?_) (fun q => absurd q w4)
    refine zr_iconst i_Mod_escape_63 (v := (-1)) (by decide) ?_
    refine zr_istore_n i_Mod_escape_64 rfl ?_
    refine zr_iload_n i_Mod_escape_65 rfl ?_
    refine zr_if_lt 121 i_Mod_escape_66 (by decide) (fun _ => ?_) (fun q => absurd q (by decide))
    refine zr_aload_n i_Mod_escape_121 rfl ?_
    refine zr_iconst i_Mod_escape_122 (v := 2) (by decide) ?_
    refine zr_cv1 i_Mod_escape_123 rfl (by decide) rfl (Nat.le_of_ble_eq_true rfl) (Nat.le_of_ble_eq_true rfl) (e_Mod_now X _ g ms n a 2 h0 h1 hn (by omega) (fun i _ => zch_nar (hc i))) ?_
    refine zr_top (y := nowF (ms.2 1) n (a + 2)) rfl ?_
    refine zr_cs1 i_Mod_escape_126 rfl (by decide) (Nat.le_of_ble_eq_true rfl) (Nat.le_of_ble_eq_true rfl) (e_Mod_hex X _ _ _) ?_
    refine zr_istore i_Mod_escape_129 rfl ?_
    refine zr_aload_n i_Mod_escape_131 rfl ?_
    refine zr_iconst i_Mod_escape_132 (v := 3) (by decide) ?_
    refine zr_cv1 i_Mod_escape_133 rfl (by decide) rfl (Nat.le_of_ble_eq_true rfl) (Nat.le_of_ble_eq_true rfl) (e_Mod_now X _ g ms n a 3 h0 h1 hn (by omega) (fun i _ => zch_nar (hc i))) ?_
    refine zr_top (y := nowF (ms.2 1) n (a + 3)) rfl ?_
    refine zr_cs1 i_Mod_escape_136 rfl (by decide) (Nat.le_of_ble_eq_true rfl) (Nat.le_of_ble_eq_true rfl) (e_Mod_hex X _ _ _) ?_
    refine zr_istore i_Mod_escape_139 rfl ?_
    refine zr_bipush i_Mod_escape_141 (v := 16) (by decide) ?_
    refine zr_iload i_Mod_escape_143 rfl ?_
    refine zr_imul i_Mod_escape_145 ?_
    refine zr_iload i_Mod_escape_146 rfl ?_
    refine zr_iadd i_Mod_escape_148 ?_
    refine zr_top (y := (hexV (ms.2 1) n a)) rfl ?_
    refine zr_istore i_Mod_escape_149 rfl ?_
    refine zr_iload_n i_Mod_escape_151 rfl ?_
    refine zr_bipush i_Mod_escape_152 (v := 88) (by decide) ?_
    refine zr_icmp_ne 190 i_Mod_escape_154 (by decide) (fun c_154 => ?_) (fun c_154 => ?_)
    · skip
      refine zr_iconst i_Mod_escape_190 (v := 0) (by decide) ?_
      exact zR.retE i_Mod_escape_191 rfl rfl
    · skip
      refine zr_iload i_Mod_escape_157 rfl ?_
      refine zr_if_lt 190 i_Mod_escape_159 (by decide) (fun c_159 => ?_) (fun c_159 => ?_)
      · skip
        refine zr_iconst i_Mod_escape_190 (v := 0) (by decide) ?_
        exact zR.retE i_Mod_escape_191 rfl rfl
      · skip
        refine zr_iload i_Mod_escape_162 rfl ?_
        refine zr_if_lt 190 i_Mod_escape_164 (by decide) (fun c_164 => ?_) (fun c_164 => ?_)
        · skip
          refine zr_iconst i_Mod_escape_190 (v := 0) (by decide) ?_
          exact zR.retE i_Mod_escape_191 rfl rfl
        · skip
          refine zr_aload_n i_Mod_escape_167 rfl ?_
          refine zr_iconst i_Mod_escape_168 (v := 4) (by decide) ?_
          refine zr_cv1 i_Mod_escape_169 rfl (by decide) rfl (Nat.le_of_ble_eq_true rfl) (Nat.le_of_ble_eq_true rfl) (e_Mod_now X _ g ms n a 4 h0 h1 hn (by omega) (fun i _ => zch_nar (hc i))) ?_
          refine zr_top (y := nowF (ms.2 1) n (a + 4)) rfl ?_
          refine zr_iload_n i_Mod_escape_172 rfl ?_
          refine zr_icmp_ne 190 i_Mod_escape_173 (by decide) (fun c_173 => ?_) (fun c_173 => ?_)
          · skip
            refine zr_iconst i_Mod_escape_190 (v := 0) (by decide) ?_
            exact zR.retE i_Mod_escape_191 rfl rfl
          · skip
            refine zr_iload i_Mod_escape_176 rfl ?_
            refine zr_bipush i_Mod_escape_178 (v := 32) (by decide) ?_
            refine zr_icmp_lt 190 i_Mod_escape_180 (by decide) (fun c_180 => ?_) (fun c_180 => ?_)
            · skip
              refine zr_iconst i_Mod_escape_190 (v := 0) (by decide) ?_
              exact zR.retE i_Mod_escape_191 rfl rfl
            · skip
              refine zr_iload i_Mod_escape_183 rfl ?_
              refine zr_bipush i_Mod_escape_185 (v := 126) (by decide) ?_
              refine zr_icmp_le 192 i_Mod_escape_187 (by decide) (fun c_187 => ?_) (fun c_187 => ?_)
              · skip
                exact absurd (decide_eq_true ⟨c_154, c_159, c_164, c_173, c_180, Int32.not_lt.mpr c_187⟩) hH
              · skip
                refine zr_iconst i_Mod_escape_190 (v := 0) (by decide) ?_
                exact zR.retE i_Mod_escape_191 rfl rfl
