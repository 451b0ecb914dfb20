/-! THE REFERENCE: fields -/
/-- a sign of a segment: a letter, or a mark (0 field, 1 component, 2 repetition, 4 sub) -/
abbrev zG : Type := Int32 ⊕ Nat
def whichS (S : Nat → Int32) (x : Int32) : Option Nat := if x = S 0 then some 0 else if x = S 1 then some 1 else if x = S 2 then some 2 else if x = S 4 then some 4 else none
abbrev zK4 : Type := Nat × Nat × Nat × Nat
def bump (k : zK4) (w : Nat) : zK4 := if w = 0 then (k.1 + 1, 1, 1, 1) else if w = 1 then (k.1, k.2.1, k.2.2.1 + 1, 1) else if w = 2 then (k.1, k.2.1 + 1, 1, 1) else (k.1, k.2.1, k.2.2.1, k.2.2.2 + 1)
/-- the signs of a segment from a on, and where it ends; none where an escape is wrong -/
def bodyF (F : Nat → Int32) (n : Nat) (S : Nat → Int32) (q a : Nat) : Option (List zG × Nat) := match q with
  | 0 => some ([], a)
  | q + 1 => if a < n ∧ ¬ F a = 13 then (if F a = S 3 then (match escF F n S a with
      | none => none
      | some p => (bodyF F n S q (a + p.2)).map (fun z => (.inl p.1 :: z.1, z.2)))
    else (match whichS S (F a) with
      | none => (bodyF F n S q (a + 1)).map (fun z => (.inl (F a) :: z.1, z.2))
      | some w => (bodyF F n S q (a + 1)).map (fun z => (.inr w :: z.1, z.2)))) else some ([], a)
/-- the texts of a segment's signs: letters for the text before, then further texts -/
def entF (sg : Nat) (k : zK4) (l : List zG) : List Int32 × List zEn := match l with
  | [] => ([], [])
  | .inl c :: l => (c :: (entF sg k l).1, (entF sg k l).2)
  | .inr w :: l => ([], ((sg, bump k w), (entF sg (bump k w) l).1) :: (entF sg (bump k w) l).2)
theorem mTab_1 {ms : zMS} {E : List zEn} (h : mTab ms E) (f : Nat → Int32) : mTab (f, ms.2) E := h
theorem i_Mod_fields_0 : zins 109 0 = some (.iconst 0) := by decide +kernel
theorem i_Mod_fields_1 : zins 109 1 = some (.istore_n 1) := by decide +kernel
theorem i_Mod_fields_2 : zins 109 2 = some (.iconst 1) := by decide +kernel
theorem i_Mod_fields_3 : zins 109 3 = some (.istore_n 2) := by decide +kernel
theorem i_Mod_fields_4 : zins 109 4 = some (.iconst 1) := by decide +kernel
theorem i_Mod_fields_5 : zins 109 5 = some (.istore_n 3) := by decide +kernel
theorem i_Mod_fields_6 : zins 109 6 = some (.iconst 1) := by decide +kernel
theorem i_Mod_fields_7 : zins 109 7 = some (.istore 4) := by decide +kernel
theorem i_Mod_fields_9 : zins 109 9 = some (.aload_n 0) := by decide +kernel
theorem i_Mod_fields_10 : zins 109 10 = some (.getfield 112) := by decide +kernel
theorem i_Mod_fields_13 : zins 109 13 = some (.aload_n 0) := by decide +kernel
theorem i_Mod_fields_14 : zins 109 14 = some (.getfield 98) := by decide +kernel
theorem i_Mod_fields_17 : zins 109 17 = some (.if_icmp .ge 230) := by decide +kernel
theorem i_Mod_fields_20 : zins 109 20 = some (.aload_n 0) := by decide +kernel
theorem i_Mod_fields_21 : zins 109 21 = some (.getfield 7) := by decide +kernel
theorem i_Mod_fields_24 : zins 109 24 = some (.aload_n 0) := by decide +kernel
theorem i_Mod_fields_25 : zins 109 25 = some (.getfield 112) := by decide +kernel
theorem i_Mod_fields_28 : zins 109 28 = some (.caload) := by decide +kernel
theorem i_Mod_fields_29 : zins 109 29 = some (.bipush 13) := by decide +kernel
theorem i_Mod_fields_31 : zins 109 31 = some (.if_icmp .eq 216) := by decide +kernel
theorem i_Mod_fields_34 : zins 109 34 = some (.aload_n 0) := by decide +kernel
theorem i_Mod_fields_35 : zins 109 35 = some (.getfield 7) := by decide +kernel
theorem i_Mod_fields_38 : zins 109 38 = some (.aload_n 0) := by decide +kernel
theorem i_Mod_fields_39 : zins 109 39 = some (.getfield 112) := by decide +kernel
theorem i_Mod_fields_42 : zins 109 42 = some (.caload) := by decide +kernel
theorem i_Mod_fields_43 : zins 109 43 = some (.istore 5) := by decide +kernel
theorem i_Mod_fields_45 : zins 109 45 = some (.iload 5) := by decide +kernel
theorem i_Mod_fields_47 : zins 109 47 = some (.aload_n 0) := by decide +kernel
theorem i_Mod_fields_48 : zins 109 48 = some (.getfield 50) := by decide +kernel
theorem i_Mod_fields_51 : zins 109 51 = some (.iconst 3) := by decide +kernel
theorem i_Mod_fields_52 : zins 109 52 = some (.caload) := by decide +kernel
theorem i_Mod_fields_53 : zins 109 53 = some (.if_icmp .ne 12) := by decide +kernel
theorem i_Mod_fields_56 : zins 109 56 = some (.aload_n 0) := by decide +kernel
theorem i_Mod_fields_57 : zins 109 57 = some (.invokevirtual 131) := by decide +kernel
theorem i_Mod_fields_60 : zins 109 60 = some (.ifCond .ne 184) := by decide +kernel
theorem i_Mod_fields_63 : zins 109 63 = some (.iconst 0) := by decide +kernel
theorem i_Mod_fields_64 : zins 109 64 = some (.ireturn) := by decide +kernel
theorem i_Mod_fields_65 : zins 109 65 = some (.iload 5) := by decide +kernel
theorem i_Mod_fields_67 : zins 109 67 = some (.aload_n 0) := by decide +kernel
theorem i_Mod_fields_68 : zins 109 68 = some (.getfield 50) := by decide +kernel
theorem i_Mod_fields_71 : zins 109 71 = some (.iconst 0) := by decide +kernel
theorem i_Mod_fields_72 : zins 109 72 = some (.caload) := by decide +kernel
theorem i_Mod_fields_73 : zins 109 73 = some (.if_icmp .ne 7) := by decide +kernel
theorem i_Mod_fields_76 : zins 109 76 = some (.iconst 0) := by decide +kernel
theorem i_Mod_fields_77 : zins 109 77 = some (.goto 49) := by decide +kernel
theorem i_Mod_fields_80 : zins 109 80 = some (.iload 5) := by decide +kernel
theorem i_Mod_fields_82 : zins 109 82 = some (.aload_n 0) := by decide +kernel
theorem i_Mod_fields_83 : zins 109 83 = some (.getfield 50) := by decide +kernel
theorem i_Mod_fields_86 : zins 109 86 = some (.iconst 1) := by decide +kernel
theorem i_Mod_fields_87 : zins 109 87 = some (.caload) := by decide +kernel
theorem i_Mod_fields_88 : zins 109 88 = some (.if_icmp .ne 7) := by decide +kernel
theorem i_Mod_fields_91 : zins 109 91 = some (.iconst 1) := by decide +kernel
theorem i_Mod_fields_92 : zins 109 92 = some (.goto 34) := by decide +kernel
theorem i_Mod_fields_95 : zins 109 95 = some (.iload 5) := by decide +kernel
theorem i_Mod_fields_97 : zins 109 97 = some (.aload_n 0) := by decide +kernel
theorem i_Mod_fields_98 : zins 109 98 = some (.getfield 50) := by decide +kernel
theorem i_Mod_fields_101 : zins 109 101 = some (.iconst 2) := by decide +kernel
theorem i_Mod_fields_102 : zins 109 102 = some (.caload) := by decide +kernel
theorem i_Mod_fields_103 : zins 109 103 = some (.if_icmp .ne 7) := by decide +kernel
theorem i_Mod_fields_106 : zins 109 106 = some (.iconst 2) := by decide +kernel
theorem i_Mod_fields_107 : zins 109 107 = some (.goto 19) := by decide +kernel
theorem i_Mod_fields_110 : zins 109 110 = some (.iload 5) := by decide +kernel
theorem i_Mod_fields_112 : zins 109 112 = some (.aload_n 0) := by decide +kernel
theorem i_Mod_fields_113 : zins 109 113 = some (.getfield 50) := by decide +kernel
theorem i_Mod_fields_116 : zins 109 116 = some (.iconst 4) := by decide +kernel
theorem i_Mod_fields_117 : zins 109 117 = some (.caload) := by decide +kernel
theorem i_Mod_fields_118 : zins 109 118 = some (.if_icmp .ne 7) := by decide +kernel
theorem i_Mod_fields_121 : zins 109 121 = some (.iconst 4) := by decide +kernel
theorem i_Mod_fields_122 : zins 109 122 = some (.goto 4) := by decide +kernel
theorem i_Mod_fields_125 : zins 109 125 = some (.iconst (-1)) := by decide +kernel
theorem i_Mod_fields_126 : zins 109 126 = some (.istore 6) := by decide +kernel
theorem i_Mod_fields_128 : zins 109 128 = some (.iload 6) := by decide +kernel
theorem i_Mod_fields_130 : zins 109 130 = some (.ifCond .ge 12) := by decide +kernel
theorem i_Mod_fields_133 : zins 109 133 = some (.aload_n 0) := by decide +kernel
theorem i_Mod_fields_134 : zins 109 134 = some (.iload 5) := by decide +kernel
theorem i_Mod_fields_136 : zins 109 136 = some (.invokevirtual 123) := by decide +kernel
theorem i_Mod_fields_139 : zins 109 139 = some (.goto 95) := by decide +kernel
theorem i_Mod_fields_142 : zins 109 142 = some (.iload 6) := by decide +kernel
theorem i_Mod_fields_144 : zins 109 144 = some (.iconst 4) := by decide +kernel
theorem i_Mod_fields_145 : zins 109 145 = some (.if_icmp .ne 10) := by decide +kernel
theorem i_Mod_fields_148 : zins 109 148 = some (.iload 4) := by decide +kernel
theorem i_Mod_fields_150 : zins 109 150 = some (.iconst 1) := by decide +kernel
theorem i_Mod_fields_151 : zins 109 151 = some (.iadd) := by decide +kernel
theorem i_Mod_fields_152 : zins 109 152 = some (.goto 4) := by decide +kernel
theorem i_Mod_fields_155 : zins 109 155 = some (.iconst 1) := by decide +kernel
theorem i_Mod_fields_156 : zins 109 156 = some (.istore 4) := by decide +kernel
theorem i_Mod_fields_158 : zins 109 158 = some (.iload 6) := by decide +kernel
theorem i_Mod_fields_160 : zins 109 160 = some (.iconst 4) := by decide +kernel
theorem i_Mod_fields_161 : zins 109 161 = some (.if_icmp .ne 7) := by decide +kernel
theorem i_Mod_fields_164 : zins 109 164 = some (.iload_n 3) := by decide +kernel
theorem i_Mod_fields_165 : zins 109 165 = some (.goto 16) := by decide +kernel
theorem i_Mod_fields_168 : zins 109 168 = some (.iload 6) := by decide +kernel
theorem i_Mod_fields_170 : zins 109 170 = some (.iconst 1) := by decide +kernel
theorem i_Mod_fields_171 : zins 109 171 = some (.if_icmp .ne 9) := by decide +kernel
theorem i_Mod_fields_174 : zins 109 174 = some (.iload_n 3) := by decide +kernel
theorem i_Mod_fields_175 : zins 109 175 = some (.iconst 1) := by decide +kernel
theorem i_Mod_fields_176 : zins 109 176 = some (.iadd) := by decide +kernel
theorem i_Mod_fields_177 : zins 109 177 = some (.goto 4) := by decide +kernel
theorem i_Mod_fields_180 : zins 109 180 = some (.iconst 1) := by decide +kernel
theorem i_Mod_fields_181 : zins 109 181 = some (.istore_n 3) := by decide +kernel
theorem i_Mod_fields_182 : zins 109 182 = some (.iload 6) := by decide +kernel
theorem i_Mod_fields_184 : zins 109 184 = some (.iconst 4) := by decide +kernel
theorem i_Mod_fields_185 : zins 109 185 = some (.if_icmp .eq 9) := by decide +kernel
theorem i_Mod_fields_188 : zins 109 188 = some (.iload 6) := by decide +kernel
theorem i_Mod_fields_190 : zins 109 190 = some (.iconst 1) := by decide +kernel
theorem i_Mod_fields_191 : zins 109 191 = some (.if_icmp .ne 7) := by decide +kernel
theorem i_Mod_fields_194 : zins 109 194 = some (.iload_n 2) := by decide +kernel
theorem i_Mod_fields_195 : zins 109 195 = some (.goto 16) := by decide +kernel
theorem i_Mod_fields_198 : zins 109 198 = some (.iload 6) := by decide +kernel
theorem i_Mod_fields_200 : zins 109 200 = some (.iconst 2) := by decide +kernel
theorem i_Mod_fields_201 : zins 109 201 = some (.if_icmp .ne 9) := by decide +kernel
theorem i_Mod_fields_204 : zins 109 204 = some (.iload_n 2) := by decide +kernel
theorem i_Mod_fields_205 : zins 109 205 = some (.iconst 1) := by decide +kernel
theorem i_Mod_fields_206 : zins 109 206 = some (.iadd) := by decide +kernel
theorem i_Mod_fields_207 : zins 109 207 = some (.goto 4) := by decide +kernel
theorem i_Mod_fields_210 : zins 109 210 = some (.iconst 1) := by decide +kernel
theorem i_Mod_fields_211 : zins 109 211 = some (.istore_n 2) := by decide +kernel
theorem i_Mod_fields_212 : zins 109 212 = some (.iload 6) := by decide +kernel
theorem i_Mod_fields_214 : zins 109 214 = some (.ifCond .ne 9) := by decide +kernel
theorem i_Mod_fields_217 : zins 109 217 = some (.iload_n 1) := by decide +kernel
theorem i_Mod_fields_218 : zins 109 218 = some (.iconst 1) := by decide +kernel
theorem i_Mod_fields_219 : zins 109 219 = some (.iadd) := by decide +kernel
theorem i_Mod_fields_220 : zins 109 220 = some (.goto 4) := by decide +kernel
theorem i_Mod_fields_223 : zins 109 223 = some (.iload_n 1) := by decide +kernel
theorem i_Mod_fields_224 : zins 109 224 = some (.istore_n 1) := by decide +kernel
theorem i_Mod_fields_225 : zins 109 225 = some (.aload_n 0) := by decide +kernel
theorem i_Mod_fields_226 : zins 109 226 = some (.iload_n 1) := by decide +kernel
theorem i_Mod_fields_227 : zins 109 227 = some (.iload_n 2) := by decide +kernel
theorem i_Mod_fields_228 : zins 109 228 = some (.iload_n 3) := by decide +kernel
theorem i_Mod_fields_229 : zins 109 229 = some (.iload 4) := by decide +kernel
theorem i_Mod_fields_231 : zins 109 231 = some (.invokevirtual 135) := by decide +kernel
theorem i_Mod_fields_234 : zins 109 234 = some (.aload_n 0) := by decide +kernel
theorem i_Mod_fields_235 : zins 109 235 = some (.dup) := by decide +kernel
theorem i_Mod_fields_236 : zins 109 236 = some (.getfield 112) := by decide +kernel
theorem i_Mod_fields_239 : zins 109 239 = some (.iconst 1) := by decide +kernel
theorem i_Mod_fields_240 : zins 109 240 = some (.iadd) := by decide +kernel
theorem i_Mod_fields_241 : zins 109 241 = some (.putfield 112) := by decide +kernel
theorem i_Mod_fields_244 : zins 109 244 = some (.goto (-235)) := by decide +kernel
theorem i_Mod_fields_247 : zins 109 247 = some (.iconst 1) := by decide +kernel
theorem i_Mod_fields_248 : zins 109 248 = some (.ireturn) := by decide +kernel
theorem l_Mod_fields (X : zX) (d : Nat) (g : zH) (F S : Nat → Int32) (n sg : Nat) (hn : n ≤ 200) (hc : ∀ i, zch (F i)) (hS : ∀ k, k < 5 → zch (S k)) : ∀ (q : Nat) (ms : zMS) (a : Nat) (E : List zEn) (k : Nat × zK4) (cs : List Int32) (f r c u : Nat) (_ : True) (x5 x6 : Option Value), n ≤ a + q → ms.2 1 = F → ms.2 14 = S → ms.1 0 = nI n → ms.1 1 = nI a → ms.2 2 0 = nI sg → a ≤ n + 5 → mTab ms (E ++ [(k, cs)]) → E.length + 1 ≤ a → (flat (E ++ [(k, cs)])).length ≤ a → ∃ b ms', zR X (d + 3) 109 9 [some (.ref 129), some (.int (nI f)), some (.int (nI r)), some (.int (nI c)), some (.int (nI u)), x5, x6] [] (mset g ms) (some (.int (zb b)), mset g ms') ∧ mpar ms ms' ∧ (ms'.2 2 = ms.2 2 ∧ ms'.2 13 = ms.2 13) ∧ (match bodyF F n S q a with
    | none => b = false
    | some p => b = true ∧ ms'.1 1 = nI p.2 ∧ mTab ms' (E ++ [(k, cs ++ (entF sg (f, r, c, u) p.1).1)] ++ (entF sg (f, r, c, u) p.1).2)) := by
  intro q
  induction q with
  | zero =>
    intro ms a E k cs f r c u _ x5 x6 hq hF hSe h0 h1 hs ha hT hl1 hl2
    refine ⟨true, ms, ?_, mpar.refl ms, ⟨rfl, rfl⟩, rfl, h1, by simpa [entF] using hT⟩
    refine zr_aload_n i_Mod_fields_9 rfl ?_
    refine zr_getf i_Mod_fields_10 rfl rfl rfl ?_
    refine zr_top (y := nI a) h1 ?_
    refine zr_aload_n i_Mod_fields_13 rfl ?_
    refine zr_getf i_Mod_fields_14 rfl rfl rfl ?_
    refine zr_top (y := nI n) h0 ?_
    refine zn_icmp_ge 247 i_Mod_fields_17 (by decide) (by omega) (by omega) (fun c_17 => ?_) (fun q => absurd q (by omega))
    refine zr_iconst i_Mod_fields_247 (v := 1) (by decide) ?_
    exact zR.retE i_Mod_fields_248 rfl rfl
  | succ q ih =>
    intro ms a E k cs f r c u _ x5 x6 hq hF hSe h0 h1 hs ha hT hl1 hl2
    rw [bodyF]
    by_cases hA : a < n
    · by_cases h13 : F a = 13
      · rw [if_neg (fun z => z.2 h13)]
        refine ⟨true, ms, ?_, mpar.refl ms, ⟨rfl, rfl⟩, rfl, h1, by simpa [entF] using hT⟩
        refine zr_aload_n i_Mod_fields_9 rfl ?_
        refine zr_getf i_Mod_fields_10 rfl rfl rfl ?_
        refine zr_top (y := nI a) h1 ?_
        refine zr_aload_n i_Mod_fields_13 rfl ?_
        refine zr_getf i_Mod_fields_14 rfl rfl rfl ?_
        refine zr_top (y := nI n) h0 ?_
        refine zn_icmp_ge 247 i_Mod_fields_17 (by decide) (by omega) (by omega) (fun q => absurd q (by omega)) (fun c_17 => ?_)
        refine zr_aload_n i_Mod_fields_20 rfl ?_
        refine zr_getf i_Mod_fields_21 rfl rfl rfl ?_
        refine zr_aload_n i_Mod_fields_24 rfl ?_
        refine zr_getf i_Mod_fields_25 rfl rfl rfl ?_
        refine zr_top (y := nI a) h1 ?_
        refine zn_caload i_Mod_fields_28 rfl (by omega) (by decide) ?_
        refine zr_top (y := F a) (congrFun hF a) ?_
        refine zr_bipush i_Mod_fields_29 (v := 13) (by decide) ?_
        refine zr_icmp_eq 247 i_Mod_fields_31 (by decide) (fun c_31 => ?_) (fun q => absurd h13 q)
        refine zr_iconst i_Mod_fields_247 (v := 1) (by decide) ?_
        exact zR.retE i_Mod_fields_248 rfl rfl
      · rw [if_pos ⟨hA, h13⟩]
        by_cases h3 : F a = S 3
        · rw [if_pos h3]
          obtain ⟨b1, ms1, hR, hp1, hq1, hm1⟩ := e_Mod_escape X d g ms n a h0 h1 hn hA (by rw [hF]; exact hc) (by rw [hSe]; exact hS) E k cs hT hl1 hl2
          rw [hF, hSe] at hm1
          cases he : escF F n S a with
          | none =>
            rw [he] at hm1
            have hb1 : b1 = false := hm1
            subst hb1
            refine ⟨false, ms1, ?_, hp1, hq1, rfl⟩
            refine zr_aload_n i_Mod_fields_9 rfl ?_
            refine zr_getf i_Mod_fields_10 rfl rfl rfl ?_
            refine zr_top (y := nI a) h1 ?_
            refine zr_aload_n i_Mod_fields_13 rfl ?_
            refine zr_getf i_Mod_fields_14 rfl rfl rfl ?_
            refine zr_top (y := nI n) h0 ?_
            refine zn_icmp_ge 247 i_Mod_fields_17 (by decide) (by omega) (by omega) (fun q => absurd q (by omega)) (fun c_17 => ?_)
            refine zr_aload_n i_Mod_fields_20 rfl ?_
            refine zr_getf i_Mod_fields_21 rfl rfl rfl ?_
            refine zr_aload_n i_Mod_fields_24 rfl ?_
            refine zr_getf i_Mod_fields_25 rfl rfl rfl ?_
            refine zr_top (y := nI a) h1 ?_
            refine zn_caload i_Mod_fields_28 rfl (by omega) (by decide) ?_
            refine zr_top (y := F a) (congrFun hF a) ?_
            refine zr_bipush i_Mod_fields_29 (v := 13) (by decide) ?_
            refine zr_icmp_eq 247 i_Mod_fields_31 (by decide) (fun q => absurd q h13) (fun c_31 => ?_)
            refine zr_aload_n i_Mod_fields_34 rfl ?_
            refine zr_getf i_Mod_fields_35 rfl rfl rfl ?_
            refine zr_aload_n i_Mod_fields_38 rfl ?_
            refine zr_getf i_Mod_fields_39 rfl rfl rfl ?_
            refine zr_top (y := nI a) h1 ?_
            refine zn_caload i_Mod_fields_42 rfl (by omega) (by decide) ?_
            refine zr_top (y := F a) (congrFun hF a) ?_
            refine zr_istore i_Mod_fields_43 rfl ?_
            refine zr_iload i_Mod_fields_45 rfl ?_
            refine zr_aload_n i_Mod_fields_47 rfl ?_
            refine zr_getf i_Mod_fields_48 rfl rfl rfl ?_
            refine zn_iconst 3 i_Mod_fields_51 (by decide) ?_
            refine zn_caload i_Mod_fields_52 rfl (by omega) (by decide) ?_
            refine zr_top (y := S 3) (congrFun hSe 3) ?_
            refine zr_icmp_ne 65 i_Mod_fields_53 (by decide) (fun q => absurd h3 q) (fun c_53 => ?_)
            refine zr_aload_n i_Mod_fields_56 rfl ?_
            refine zr_cv0 i_Mod_fields_57 rfl (by decide) rfl (Nat.le_of_ble_eq_true rfl) (Nat.le_of_ble_eq_true rfl) (hR) ?_
            refine zB_if_ne 244 i_Mod_fields_60 (by decide) (fun q => absurd q (by decide)) (fun _ => ?_)
            refine zr_iconst i_Mod_fields_63 (v := 0) (by decide) ?_
            exact zR.retE i_Mod_fields_64 rfl rfl
          | some p =>
            rw [he] at hm1
            obtain ⟨hb1, hat, htb⟩ := hm1
            subst hb1
            have hw5 : p.2 = 3 ∨ p.2 = 5 := by
              unfold escF at he
              split at he
              · split at he
                · cases he; exact Or.inl rfl
                · cases he
              · split at he
                · cases he; exact Or.inr rfl
                · cases he
            have e1 : ms1.2 1 = F := (hp1.r 1 (by omega)).trans hF
            have e2 : ms1.2 14 = S := (hp1.r 14 (by omega)).trans hSe
            have e3 : ms1.1 0 = nI n := (hp1.n 0 (by omega)).trans h0
            obtain ⟨b, ms2, hR2, hp, h2, hm⟩ := ih ms1 (a + p.2) E k (cs ++ [p.1]) f r c u trivial (some (.int (F a))) x6 (by omega) e1 e2 e3 hat (by rw [hq1.1]; exact hs) (by omega) htb (by omega) (by rw [flat_app, flat_one] at hl2 ⊢; simp only [List.length_append, List.length_singleton] at hl2 ⊢; omega)
            refine ⟨b, ms2, ?_, hp1.trans hp, ⟨h2.1.trans hq1.1, h2.2.trans hq1.2⟩, ?_⟩
            · skip
              refine zr_aload_n i_Mod_fields_9 rfl ?_
              refine zr_getf i_Mod_fields_10 rfl rfl rfl ?_
              refine zr_top (y := nI a) h1 ?_
              refine zr_aload_n i_Mod_fields_13 rfl ?_
              refine zr_getf i_Mod_fields_14 rfl rfl rfl ?_
              refine zr_top (y := nI n) h0 ?_
              refine zn_icmp_ge 247 i_Mod_fields_17 (by decide) (by omega) (by omega) (fun q => absurd q (by omega)) (fun c_17 => ?_)
              refine zr_aload_n i_Mod_fields_20 rfl ?_
              refine zr_getf i_Mod_fields_21 rfl rfl rfl ?_
              refine zr_aload_n i_Mod_fields_24 rfl ?_
              refine zr_getf i_Mod_fields_25 rfl rfl rfl ?_
              refine zr_top (y := nI a) h1 ?_
              refine zn_caload i_Mod_fields_28 rfl (by omega) (by decide) ?_
              refine zr_top (y := F a) (congrFun hF a) ?_
              refine zr_bipush i_Mod_fields_29 (v := 13) (by decide) ?_
              refine zr_icmp_eq 247 i_Mod_fields_31 (by decide) (fun q => absurd q h13) (fun c_31 => ?_)
              refine zr_aload_n i_Mod_fields_34 rfl ?_
              refine zr_getf i_Mod_fields_35 rfl rfl rfl ?_
              refine zr_aload_n i_Mod_fields_38 rfl ?_
              refine zr_getf i_Mod_fields_39 rfl rfl rfl ?_
              refine zr_top (y := nI a) h1 ?_
              refine zn_caload i_Mod_fields_42 rfl (by omega) (by decide) ?_
              refine zr_top (y := F a) (congrFun hF a) ?_
              refine zr_istore i_Mod_fields_43 rfl ?_
              refine zr_iload i_Mod_fields_45 rfl ?_
              refine zr_aload_n i_Mod_fields_47 rfl ?_
              refine zr_getf i_Mod_fields_48 rfl rfl rfl ?_
              refine zn_iconst 3 i_Mod_fields_51 (by decide) ?_
              refine zn_caload i_Mod_fields_52 rfl (by omega) (by decide) ?_
              refine zr_top (y := S 3) (congrFun hSe 3) ?_
              refine zr_icmp_ne 65 i_Mod_fields_53 (by decide) (fun q => absurd h3 q) (fun c_53 => ?_)
              refine zr_aload_n i_Mod_fields_56 rfl ?_
              refine zr_cv0 i_Mod_fields_57 rfl (by decide) rfl (Nat.le_of_ble_eq_true rfl) (Nat.le_of_ble_eq_true rfl) (hR) ?_
              refine zB_if_ne 244 i_Mod_fields_60 (by decide) (fun _ => ?_) (fun q => absurd q (by decide))
              refine zr_goto 9 i_Mod_fields_244 (by decide) ?_
              exact hR2
            · dsimp only
              cases hb : bodyF F n S q (a + p.2) with
              | none => rw [hb] at hm; exact hm
              | some z =>
                rw [hb] at hm
                obtain ⟨m1, m2, m3⟩ := hm
                refine ⟨m1, m2, ?_⟩
                simpa [entF, List.append_assoc] using m3
        · rw [if_neg h3]
          by_cases hw : F a = S 0
          · skip
            have hws : whichS S (F a) = some 0 := by unfold whichS; rw [if_pos hw]
            rw [hws]
            dsimp only
            obtain ⟨b, ms2, hR, hp, h2, hm⟩ := ih (va_up (mopen ms (E ++ [(k, cs)]).length (nI (f + 1)) (nI 1) (nI 1) (nI 1)).1 1 (nI (a + 1)), (mopen ms (E ++ [(k, cs)]).length (nI (f + 1)) (nI 1) (nI 1) (nI 1)).2) (a + 1) (E ++ [(k, cs)]) (sg, (f + 1), 1, 1, 1) [] (f + 1) 1 1 1 trivial (some (.int (F a))) (some (.int 0)) (by omega) hF hSe h0 rfl hs (by omega) (mTab_open hT hs _ _ _ _) (by simp; omega) (by rw [flat_app, flat_one]; simp only [List.append_nil]; omega)
            refine ⟨b, ms2, ?_, ((mpar_open ms _ _ _ _ _ (by simp; omega)).trans (mpar_at _ _)).trans hp, h2, ?_⟩
            · skip
              refine zr_aload_n i_Mod_fields_9 rfl ?_
              refine zr_getf i_Mod_fields_10 rfl rfl rfl ?_
              refine zr_top (y := nI a) h1 ?_
              refine zr_aload_n i_Mod_fields_13 rfl ?_
              refine zr_getf i_Mod_fields_14 rfl rfl rfl ?_
              refine zr_top (y := nI n) h0 ?_
              refine zn_icmp_ge 247 i_Mod_fields_17 (by decide) (by omega) (by omega) (fun q => absurd q (by omega)) (fun c_17 => ?_)
              refine zr_aload_n i_Mod_fields_20 rfl ?_
              refine zr_getf i_Mod_fields_21 rfl rfl rfl ?_
              refine zr_aload_n i_Mod_fields_24 rfl ?_
              refine zr_getf i_Mod_fields_25 rfl rfl rfl ?_
              refine zr_top (y := nI a) h1 ?_
              refine zn_caload i_Mod_fields_28 rfl (by omega) (by decide) ?_
              refine zr_top (y := F a) (congrFun hF a) ?_
              refine zr_bipush i_Mod_fields_29 (v := 13) (by decide) ?_
              refine zr_icmp_eq 247 i_Mod_fields_31 (by decide) (fun q => absurd q h13) (fun c_31 => ?_)
              refine zr_aload_n i_Mod_fields_34 rfl ?_
              refine zr_getf i_Mod_fields_35 rfl rfl rfl ?_
              refine zr_aload_n i_Mod_fields_38 rfl ?_
              refine zr_getf i_Mod_fields_39 rfl rfl rfl ?_
              refine zr_top (y := nI a) h1 ?_
              refine zn_caload i_Mod_fields_42 rfl (by omega) (by decide) ?_
              refine zr_top (y := F a) (congrFun hF a) ?_
              refine zr_istore i_Mod_fields_43 rfl ?_
              refine zr_iload i_Mod_fields_45 rfl ?_
              refine zr_aload_n i_Mod_fields_47 rfl ?_
              refine zr_getf i_Mod_fields_48 rfl rfl rfl ?_
              refine zn_iconst 3 i_Mod_fields_51 (by decide) ?_
              refine zn_caload i_Mod_fields_52 rfl (by omega) (by decide) ?_
              refine zr_top (y := S 3) (congrFun hSe 3) ?_
              refine zr_icmp_ne 65 i_Mod_fields_53 (by decide) (fun c_53 => ?_) (fun q => absurd q h3)
              refine zr_iload i_Mod_fields_65 rfl ?_
              refine zr_aload_n i_Mod_fields_67 rfl ?_
              refine zr_getf i_Mod_fields_68 rfl rfl rfl ?_
              refine zn_iconst 0 i_Mod_fields_71 (by decide) ?_
              refine zn_caload i_Mod_fields_72 rfl (by omega) (by decide) ?_
              refine zr_top (y := S 0) (congrFun hSe 0) ?_
              refine zr_icmp_ne 80 i_Mod_fields_73 (by decide) (fun q => absurd hw q) (fun c_73 => ?_)
              refine zr_iconst i_Mod_fields_76 (v := 0) (by decide) ?_
              refine zr_goto 126 i_Mod_fields_77 (by decide) ?_
              refine zr_istore i_Mod_fields_126 rfl ?_
              refine zr_iload i_Mod_fields_128 rfl ?_
              refine zr_if_ge 142 i_Mod_fields_130 (by decide) (fun _ => ?_) (fun q => absurd q (by decide))
              refine zr_iload i_Mod_fields_142 rfl ?_
              refine zr_iconst i_Mod_fields_144 (v := 4) (by decide) ?_
              refine zr_icmp_ne 155 i_Mod_fields_145 (by decide) (fun _ => ?_) (fun q => absurd q (by decide))
              refine zn_iconst 1 i_Mod_fields_155 (by decide) ?_
              refine zr_istore i_Mod_fields_156 rfl ?_
              refine zr_iload i_Mod_fields_158 rfl ?_
              refine zr_iconst i_Mod_fields_160 (v := 4) (by decide) ?_
              refine zr_icmp_ne 168 i_Mod_fields_161 (by decide) (fun _ => ?_) (fun q => absurd q (by decide))
              refine zr_iload i_Mod_fields_168 rfl ?_
              refine zr_iconst i_Mod_fields_170 (v := 1) (by decide) ?_
              refine zr_icmp_ne 180 i_Mod_fields_171 (by decide) (fun _ => ?_) (fun q => absurd q (by decide))
              refine zn_iconst 1 i_Mod_fields_180 (by decide) ?_
              refine zr_istore_n i_Mod_fields_181 rfl ?_
              refine zr_iload i_Mod_fields_182 rfl ?_
              refine zr_iconst i_Mod_fields_184 (v := 4) (by decide) ?_
              refine zr_icmp_eq 194 i_Mod_fields_185 (by decide) (fun q => absurd q (by decide)) (fun _ => ?_)
              refine zr_iload i_Mod_fields_188 rfl ?_
              refine zr_iconst i_Mod_fields_190 (v := 1) (by decide) ?_
              refine zr_icmp_ne 198 i_Mod_fields_191 (by decide) (fun _ => ?_) (fun q => absurd q (by decide))
              refine zr_iload i_Mod_fields_198 rfl ?_
              refine zr_iconst i_Mod_fields_200 (v := 2) (by decide) ?_
              refine zr_icmp_ne 210 i_Mod_fields_201 (by decide) (fun _ => ?_) (fun q => absurd q (by decide))
              refine zn_iconst 1 i_Mod_fields_210 (by decide) ?_
              refine zr_istore_n i_Mod_fields_211 rfl ?_
              refine zr_iload i_Mod_fields_212 rfl ?_
              refine zr_if_ne 223 i_Mod_fields_214 (by decide) (fun q => absurd q (by decide)) (fun _ => ?_)
              refine zr_iload_n i_Mod_fields_217 rfl ?_
              refine zn_iconst 1 i_Mod_fields_218 (by decide) ?_
              refine zn_iadd i_Mod_fields_219 ?_
              refine zr_goto 224 i_Mod_fields_220 (by decide) ?_
              refine zr_istore_n i_Mod_fields_224 rfl ?_
              refine zr_aload_n i_Mod_fields_225 rfl ?_
              refine zr_iload_n i_Mod_fields_226 rfl ?_
              refine zr_iload_n i_Mod_fields_227 rfl ?_
              refine zr_iload_n i_Mod_fields_228 rfl ?_
              refine zr_iload i_Mod_fields_229 rfl ?_
              refine zr_cv40 i_Mod_fields_231 rfl (by decide) rfl (Nat.le_of_ble_eq_true rfl) (Nat.le_of_ble_eq_true rfl) (e_Mod_open X _ g ms (E ++ [(k, cs)]).length _ _ _ _ hT.1 (by simp; omega)) ?_
              refine zr_aload_n i_Mod_fields_234 rfl ?_
              refine zr_dup i_Mod_fields_235 rfl ?_
              refine zr_getf i_Mod_fields_236 rfl rfl rfl ?_
              refine zr_top (y := nI a) h1 ?_
              refine zn_iconst 1 i_Mod_fields_239 (by decide) ?_
              refine zn_iadd i_Mod_fields_240 ?_
              refine mr_putf (kk := 1) i_Mod_fields_241 rfl rfl (Nat.le_of_ble_eq_true rfl) rfl rfl rfl ?_
              refine zr_goto 9 i_Mod_fields_244 (by decide) ?_
              exact hR
            · cases hb : bodyF F n S q (a + 1) with
              | none => rw [hb] at hm; exact hm
              | some p =>
                rw [hb] at hm
                obtain ⟨m1, m2, m3⟩ := hm
                refine ⟨m1, m2, ?_⟩
                have e : bump (f, r, c, u) 0 = ((f + 1), 1, 1, 1) := rfl
                simpa [entF, e, List.append_assoc] using m3
          have nw0 := hw
          by_cases hw : F a = S 1
          · skip
            have hws : whichS S (F a) = some 1 := by unfold whichS; rw [if_neg nw0, if_pos hw]
            rw [hws]
            dsimp only
            obtain ⟨b, ms2, hR, hp, h2, hm⟩ := ih (va_up (mopen ms (E ++ [(k, cs)]).length (nI f) (nI r) (nI (c + 1)) (nI 1)).1 1 (nI (a + 1)), (mopen ms (E ++ [(k, cs)]).length (nI f) (nI r) (nI (c + 1)) (nI 1)).2) (a + 1) (E ++ [(k, cs)]) (sg, f, r, (c + 1), 1) [] f r (c + 1) 1 trivial (some (.int (F a))) (some (.int 1)) (by omega) hF hSe h0 rfl hs (by omega) (mTab_open hT hs _ _ _ _) (by simp; omega) (by rw [flat_app, flat_one]; simp only [List.append_nil]; omega)
            refine ⟨b, ms2, ?_, ((mpar_open ms _ _ _ _ _ (by simp; omega)).trans (mpar_at _ _)).trans hp, h2, ?_⟩
            · skip
              refine zr_aload_n i_Mod_fields_9 rfl ?_
              refine zr_getf i_Mod_fields_10 rfl rfl rfl ?_
              refine zr_top (y := nI a) h1 ?_
              refine zr_aload_n i_Mod_fields_13 rfl ?_
              refine zr_getf i_Mod_fields_14 rfl rfl rfl ?_
              refine zr_top (y := nI n) h0 ?_
              refine zn_icmp_ge 247 i_Mod_fields_17 (by decide) (by omega) (by omega) (fun q => absurd q (by omega)) (fun c_17 => ?_)
              refine zr_aload_n i_Mod_fields_20 rfl ?_
              refine zr_getf i_Mod_fields_21 rfl rfl rfl ?_
              refine zr_aload_n i_Mod_fields_24 rfl ?_
              refine zr_getf i_Mod_fields_25 rfl rfl rfl ?_
              refine zr_top (y := nI a) h1 ?_
              refine zn_caload i_Mod_fields_28 rfl (by omega) (by decide) ?_
              refine zr_top (y := F a) (congrFun hF a) ?_
              refine zr_bipush i_Mod_fields_29 (v := 13) (by decide) ?_
              refine zr_icmp_eq 247 i_Mod_fields_31 (by decide) (fun q => absurd q h13) (fun c_31 => ?_)
              refine zr_aload_n i_Mod_fields_34 rfl ?_
              refine zr_getf i_Mod_fields_35 rfl rfl rfl ?_
              refine zr_aload_n i_Mod_fields_38 rfl ?_
              refine zr_getf i_Mod_fields_39 rfl rfl rfl ?_
              refine zr_top (y := nI a) h1 ?_
              refine zn_caload i_Mod_fields_42 rfl (by omega) (by decide) ?_
              refine zr_top (y := F a) (congrFun hF a) ?_
              refine zr_istore i_Mod_fields_43 rfl ?_
              refine zr_iload i_Mod_fields_45 rfl ?_
              refine zr_aload_n i_Mod_fields_47 rfl ?_
              refine zr_getf i_Mod_fields_48 rfl rfl rfl ?_
              refine zn_iconst 3 i_Mod_fields_51 (by decide) ?_
              refine zn_caload i_Mod_fields_52 rfl (by omega) (by decide) ?_
              refine zr_top (y := S 3) (congrFun hSe 3) ?_
              refine zr_icmp_ne 65 i_Mod_fields_53 (by decide) (fun c_53 => ?_) (fun q => absurd q h3)
              refine zr_iload i_Mod_fields_65 rfl ?_
              refine zr_aload_n i_Mod_fields_67 rfl ?_
              refine zr_getf i_Mod_fields_68 rfl rfl rfl ?_
              refine zn_iconst 0 i_Mod_fields_71 (by decide) ?_
              refine zn_caload i_Mod_fields_72 rfl (by omega) (by decide) ?_
              refine zr_top (y := S 0) (congrFun hSe 0) ?_
              refine zr_icmp_ne 80 i_Mod_fields_73 (by decide) (fun c_73 => ?_) (fun q => absurd q nw0)
              refine zr_iload i_Mod_fields_80 rfl ?_
              refine zr_aload_n i_Mod_fields_82 rfl ?_
              refine zr_getf i_Mod_fields_83 rfl rfl rfl ?_
              refine zn_iconst 1 i_Mod_fields_86 (by decide) ?_
              refine zn_caload i_Mod_fields_87 rfl (by omega) (by decide) ?_
              refine zr_top (y := S 1) (congrFun hSe 1) ?_
              refine zr_icmp_ne 95 i_Mod_fields_88 (by decide) (fun q => absurd hw q) (fun c_88 => ?_)
              refine zr_iconst i_Mod_fields_91 (v := 1) (by decide) ?_
              refine zr_goto 126 i_Mod_fields_92 (by decide) ?_
              refine zr_istore i_Mod_fields_126 rfl ?_
              refine zr_iload i_Mod_fields_128 rfl ?_
              refine zr_if_ge 142 i_Mod_fields_130 (by decide) (fun _ => ?_) (fun q => absurd q (by decide))
              refine zr_iload i_Mod_fields_142 rfl ?_
              refine zr_iconst i_Mod_fields_144 (v := 4) (by decide) ?_
              refine zr_icmp_ne 155 i_Mod_fields_145 (by decide) (fun _ => ?_) (fun q => absurd q (by decide))
              refine zn_iconst 1 i_Mod_fields_155 (by decide) ?_
              refine zr_istore i_Mod_fields_156 rfl ?_
              refine zr_iload i_Mod_fields_158 rfl ?_
              refine zr_iconst i_Mod_fields_160 (v := 4) (by decide) ?_
              refine zr_icmp_ne 168 i_Mod_fields_161 (by decide) (fun _ => ?_) (fun q => absurd q (by decide))
              refine zr_iload i_Mod_fields_168 rfl ?_
              refine zr_iconst i_Mod_fields_170 (v := 1) (by decide) ?_
              refine zr_icmp_ne 180 i_Mod_fields_171 (by decide) (fun q => absurd q (by decide)) (fun _ => ?_)
              refine zr_iload_n i_Mod_fields_174 rfl ?_
              refine zn_iconst 1 i_Mod_fields_175 (by decide) ?_
              refine zn_iadd i_Mod_fields_176 ?_
              refine zr_goto 181 i_Mod_fields_177 (by decide) ?_
              refine zr_istore_n i_Mod_fields_181 rfl ?_
              refine zr_iload i_Mod_fields_182 rfl ?_
              refine zr_iconst i_Mod_fields_184 (v := 4) (by decide) ?_
              refine zr_icmp_eq 194 i_Mod_fields_185 (by decide) (fun q => absurd q (by decide)) (fun _ => ?_)
              refine zr_iload i_Mod_fields_188 rfl ?_
              refine zr_iconst i_Mod_fields_190 (v := 1) (by decide) ?_
              refine zr_icmp_ne 198 i_Mod_fields_191 (by decide) (fun q => absurd q (by decide)) (fun _ => ?_)
              refine zr_iload_n i_Mod_fields_194 rfl ?_
              refine zr_goto 211 i_Mod_fields_195 (by decide) ?_
              refine zr_istore_n i_Mod_fields_211 rfl ?_
              refine zr_iload i_Mod_fields_212 rfl ?_
              refine zr_if_ne 223 i_Mod_fields_214 (by decide) (fun _ => ?_) (fun q => absurd q (by decide))
              refine zr_iload_n i_Mod_fields_223 rfl ?_
              refine zr_istore_n i_Mod_fields_224 rfl ?_
              refine zr_aload_n i_Mod_fields_225 rfl ?_
              refine zr_iload_n i_Mod_fields_226 rfl ?_
              refine zr_iload_n i_Mod_fields_227 rfl ?_
              refine zr_iload_n i_Mod_fields_228 rfl ?_
              refine zr_iload i_Mod_fields_229 rfl ?_
              refine zr_cv40 i_Mod_fields_231 rfl (by decide) rfl (Nat.le_of_ble_eq_true rfl) (Nat.le_of_ble_eq_true rfl) (e_Mod_open X _ g ms (E ++ [(k, cs)]).length _ _ _ _ hT.1 (by simp; omega)) ?_
              refine zr_aload_n i_Mod_fields_234 rfl ?_
              refine zr_dup i_Mod_fields_235 rfl ?_
              refine zr_getf i_Mod_fields_236 rfl rfl rfl ?_
              refine zr_top (y := nI a) h1 ?_
              refine zn_iconst 1 i_Mod_fields_239 (by decide) ?_
              refine zn_iadd i_Mod_fields_240 ?_
              refine mr_putf (kk := 1) i_Mod_fields_241 rfl rfl (Nat.le_of_ble_eq_true rfl) rfl rfl rfl ?_
              refine zr_goto 9 i_Mod_fields_244 (by decide) ?_
              exact hR
            · cases hb : bodyF F n S q (a + 1) with
              | none => rw [hb] at hm; exact hm
              | some p =>
                rw [hb] at hm
                obtain ⟨m1, m2, m3⟩ := hm
                refine ⟨m1, m2, ?_⟩
                have e : bump (f, r, c, u) 1 = (f, r, (c + 1), 1) := rfl
                simpa [entF, e, List.append_assoc] using m3
          have nw1 := hw
          by_cases hw : F a = S 2
          · skip
            have hws : whichS S (F a) = some 2 := by unfold whichS; rw [if_neg nw0, if_neg nw1, if_pos hw]
            rw [hws]
            dsimp only
            obtain ⟨b, ms2, hR, hp, h2, hm⟩ := ih (va_up (mopen ms (E ++ [(k, cs)]).length (nI f) (nI (r + 1)) (nI 1) (nI 1)).1 1 (nI (a + 1)), (mopen ms (E ++ [(k, cs)]).length (nI f) (nI (r + 1)) (nI 1) (nI 1)).2) (a + 1) (E ++ [(k, cs)]) (sg, f, (r + 1), 1, 1) [] f (r + 1) 1 1 trivial (some (.int (F a))) (some (.int 2)) (by omega) hF hSe h0 rfl hs (by omega) (mTab_open hT hs _ _ _ _) (by simp; omega) (by rw [flat_app, flat_one]; simp only [List.append_nil]; omega)
            refine ⟨b, ms2, ?_, ((mpar_open ms _ _ _ _ _ (by simp; omega)).trans (mpar_at _ _)).trans hp, h2, ?_⟩
            · skip
              refine zr_aload_n i_Mod_fields_9 rfl ?_
              refine zr_getf i_Mod_fields_10 rfl rfl rfl ?_
              refine zr_top (y := nI a) h1 ?_
              refine zr_aload_n i_Mod_fields_13 rfl ?_
              refine zr_getf i_Mod_fields_14 rfl rfl rfl ?_
              refine zr_top (y := nI n) h0 ?_
              refine zn_icmp_ge 247 i_Mod_fields_17 (by decide) (by omega) (by omega) (fun q => absurd q (by omega)) (fun c_17 => ?_)
              refine zr_aload_n i_Mod_fields_20 rfl ?_
              refine zr_getf i_Mod_fields_21 rfl rfl rfl ?_
              refine zr_aload_n i_Mod_fields_24 rfl ?_
              refine zr_getf i_Mod_fields_25 rfl rfl rfl ?_
              refine zr_top (y := nI a) h1 ?_
              refine zn_caload i_Mod_fields_28 rfl (by omega) (by decide) ?_
              refine zr_top (y := F a) (congrFun hF a) ?_
              refine zr_bipush i_Mod_fields_29 (v := 13) (by decide) ?_
              refine zr_icmp_eq 247 i_Mod_fields_31 (by decide) (fun q => absurd q h13) (fun c_31 => ?_)
              refine zr_aload_n i_Mod_fields_34 rfl ?_
              refine zr_getf i_Mod_fields_35 rfl rfl rfl ?_
              refine zr_aload_n i_Mod_fields_38 rfl ?_
              refine zr_getf i_Mod_fields_39 rfl rfl rfl ?_
              refine zr_top (y := nI a) h1 ?_
              refine zn_caload i_Mod_fields_42 rfl (by omega) (by decide) ?_
              refine zr_top (y := F a) (congrFun hF a) ?_
              refine zr_istore i_Mod_fields_43 rfl ?_
              refine zr_iload i_Mod_fields_45 rfl ?_
              refine zr_aload_n i_Mod_fields_47 rfl ?_
              refine zr_getf i_Mod_fields_48 rfl rfl rfl ?_
              refine zn_iconst 3 i_Mod_fields_51 (by decide) ?_
              refine zn_caload i_Mod_fields_52 rfl (by omega) (by decide) ?_
              refine zr_top (y := S 3) (congrFun hSe 3) ?_
              refine zr_icmp_ne 65 i_Mod_fields_53 (by decide) (fun c_53 => ?_) (fun q => absurd q h3)
              refine zr_iload i_Mod_fields_65 rfl ?_
              refine zr_aload_n i_Mod_fields_67 rfl ?_
              refine zr_getf i_Mod_fields_68 rfl rfl rfl ?_
              refine zn_iconst 0 i_Mod_fields_71 (by decide) ?_
              refine zn_caload i_Mod_fields_72 rfl (by omega) (by decide) ?_
              refine zr_top (y := S 0) (congrFun hSe 0) ?_
              refine zr_icmp_ne 80 i_Mod_fields_73 (by decide) (fun c_73 => ?_) (fun q => absurd q nw0)
              refine zr_iload i_Mod_fields_80 rfl ?_
              refine zr_aload_n i_Mod_fields_82 rfl ?_
              refine zr_getf i_Mod_fields_83 rfl rfl rfl ?_
              refine zn_iconst 1 i_Mod_fields_86 (by decide) ?_
              refine zn_caload i_Mod_fields_87 rfl (by omega) (by decide) ?_
              refine zr_top (y := S 1) (congrFun hSe 1) ?_
              refine zr_icmp_ne 95 i_Mod_fields_88 (by decide) (fun c_88 => ?_) (fun q => absurd q nw1)
              refine zr_iload i_Mod_fields_95 rfl ?_
              refine zr_aload_n i_Mod_fields_97 rfl ?_
              refine zr_getf i_Mod_fields_98 rfl rfl rfl ?_
              refine zn_iconst 2 i_Mod_fields_101 (by decide) ?_
              refine zn_caload i_Mod_fields_102 rfl (by omega) (by decide) ?_
              refine zr_top (y := S 2) (congrFun hSe 2) ?_
              refine zr_icmp_ne 110 i_Mod_fields_103 (by decide) (fun q => absurd hw q) (fun c_103 => ?_)
              refine zr_iconst i_Mod_fields_106 (v := 2) (by decide) ?_
              refine zr_goto 126 i_Mod_fields_107 (by decide) ?_
              refine zr_istore i_Mod_fields_126 rfl ?_
              refine zr_iload i_Mod_fields_128 rfl ?_
              refine zr_if_ge 142 i_Mod_fields_130 (by decide) (fun _ => ?_) (fun q => absurd q (by decide))
              refine zr_iload i_Mod_fields_142 rfl ?_
              refine zr_iconst i_Mod_fields_144 (v := 4) (by decide) ?_
              refine zr_icmp_ne 155 i_Mod_fields_145 (by decide) (fun _ => ?_) (fun q => absurd q (by decide))
              refine zn_iconst 1 i_Mod_fields_155 (by decide) ?_
              refine zr_istore i_Mod_fields_156 rfl ?_
              refine zr_iload i_Mod_fields_158 rfl ?_
              refine zr_iconst i_Mod_fields_160 (v := 4) (by decide) ?_
              refine zr_icmp_ne 168 i_Mod_fields_161 (by decide) (fun _ => ?_) (fun q => absurd q (by decide))
              refine zr_iload i_Mod_fields_168 rfl ?_
              refine zr_iconst i_Mod_fields_170 (v := 1) (by decide) ?_
              refine zr_icmp_ne 180 i_Mod_fields_171 (by decide) (fun _ => ?_) (fun q => absurd q (by decide))
              refine zn_iconst 1 i_Mod_fields_180 (by decide) ?_
              refine zr_istore_n i_Mod_fields_181 rfl ?_
              refine zr_iload i_Mod_fields_182 rfl ?_
              refine zr_iconst i_Mod_fields_184 (v := 4) (by decide) ?_
              refine zr_icmp_eq 194 i_Mod_fields_185 (by decide) (fun q => absurd q (by decide)) (fun _ => ?_)
              refine zr_iload i_Mod_fields_188 rfl ?_
              refine zr_iconst i_Mod_fields_190 (v := 1) (by decide) ?_
              refine zr_icmp_ne 198 i_Mod_fields_191 (by decide) (fun _ => ?_) (fun q => absurd q (by decide))
              refine zr_iload i_Mod_fields_198 rfl ?_
              refine zr_iconst i_Mod_fields_200 (v := 2) (by decide) ?_
              refine zr_icmp_ne 210 i_Mod_fields_201 (by decide) (fun q => absurd q (by decide)) (fun _ => ?_)
              refine zr_iload_n i_Mod_fields_204 rfl ?_
              refine zn_iconst 1 i_Mod_fields_205 (by decide) ?_
              refine zn_iadd i_Mod_fields_206 ?_
              refine zr_goto 211 i_Mod_fields_207 (by decide) ?_
              refine zr_istore_n i_Mod_fields_211 rfl ?_
              refine zr_iload i_Mod_fields_212 rfl ?_
              refine zr_if_ne 223 i_Mod_fields_214 (by decide) (fun _ => ?_) (fun q => absurd q (by decide))
              refine zr_iload_n i_Mod_fields_223 rfl ?_
              refine zr_istore_n i_Mod_fields_224 rfl ?_
              refine zr_aload_n i_Mod_fields_225 rfl ?_
              refine zr_iload_n i_Mod_fields_226 rfl ?_
              refine zr_iload_n i_Mod_fields_227 rfl ?_
              refine zr_iload_n i_Mod_fields_228 rfl ?_
              refine zr_iload i_Mod_fields_229 rfl ?_
              refine zr_cv40 i_Mod_fields_231 rfl (by decide) rfl (Nat.le_of_ble_eq_true rfl) (Nat.le_of_ble_eq_true rfl) (e_Mod_open X _ g ms (E ++ [(k, cs)]).length _ _ _ _ hT.1 (by simp; omega)) ?_
              refine zr_aload_n i_Mod_fields_234 rfl ?_
              refine zr_dup i_Mod_fields_235 rfl ?_
              refine zr_getf i_Mod_fields_236 rfl rfl rfl ?_
              refine zr_top (y := nI a) h1 ?_
              refine zn_iconst 1 i_Mod_fields_239 (by decide) ?_
              refine zn_iadd i_Mod_fields_240 ?_
              refine mr_putf (kk := 1) i_Mod_fields_241 rfl rfl (Nat.le_of_ble_eq_true rfl) rfl rfl rfl ?_
              refine zr_goto 9 i_Mod_fields_244 (by decide) ?_
              exact hR
            · cases hb : bodyF F n S q (a + 1) with
              | none => rw [hb] at hm; exact hm
              | some p =>
                rw [hb] at hm
                obtain ⟨m1, m2, m3⟩ := hm
                refine ⟨m1, m2, ?_⟩
                have e : bump (f, r, c, u) 2 = (f, (r + 1), 1, 1) := rfl
                simpa [entF, e, List.append_assoc] using m3
          have nw2 := hw
          by_cases hw : F a = S 4
          · skip
            have hws : whichS S (F a) = some 4 := by unfold whichS; rw [if_neg nw0, if_neg nw1, if_neg nw2, if_pos hw]
            rw [hws]
            dsimp only
            obtain ⟨b, ms2, hR, hp, h2, hm⟩ := ih (va_up (mopen ms (E ++ [(k, cs)]).length (nI f) (nI r) (nI c) (nI (u + 1))).1 1 (nI (a + 1)), (mopen ms (E ++ [(k, cs)]).length (nI f) (nI r) (nI c) (nI (u + 1))).2) (a + 1) (E ++ [(k, cs)]) (sg, f, r, c, (u + 1)) [] f r c (u + 1) trivial (some (.int (F a))) (some (.int 4)) (by omega) hF hSe h0 rfl hs (by omega) (mTab_open hT hs _ _ _ _) (by simp; omega) (by rw [flat_app, flat_one]; simp only [List.append_nil]; omega)
            refine ⟨b, ms2, ?_, ((mpar_open ms _ _ _ _ _ (by simp; omega)).trans (mpar_at _ _)).trans hp, h2, ?_⟩
            · skip
              refine zr_aload_n i_Mod_fields_9 rfl ?_
              refine zr_getf i_Mod_fields_10 rfl rfl rfl ?_
              refine zr_top (y := nI a) h1 ?_
              refine zr_aload_n i_Mod_fields_13 rfl ?_
              refine zr_getf i_Mod_fields_14 rfl rfl rfl ?_
              refine zr_top (y := nI n) h0 ?_
              refine zn_icmp_ge 247 i_Mod_fields_17 (by decide) (by omega) (by omega) (fun q => absurd q (by omega)) (fun c_17 => ?_)
              refine zr_aload_n i_Mod_fields_20 rfl ?_
              refine zr_getf i_Mod_fields_21 rfl rfl rfl ?_
              refine zr_aload_n i_Mod_fields_24 rfl ?_
              refine zr_getf i_Mod_fields_25 rfl rfl rfl ?_
              refine zr_top (y := nI a) h1 ?_
              refine zn_caload i_Mod_fields_28 rfl (by omega) (by decide) ?_
              refine zr_top (y := F a) (congrFun hF a) ?_
              refine zr_bipush i_Mod_fields_29 (v := 13) (by decide) ?_
              refine zr_icmp_eq 247 i_Mod_fields_31 (by decide) (fun q => absurd q h13) (fun c_31 => ?_)
              refine zr_aload_n i_Mod_fields_34 rfl ?_
              refine zr_getf i_Mod_fields_35 rfl rfl rfl ?_
              refine zr_aload_n i_Mod_fields_38 rfl ?_
              refine zr_getf i_Mod_fields_39 rfl rfl rfl ?_
              refine zr_top (y := nI a) h1 ?_
              refine zn_caload i_Mod_fields_42 rfl (by omega) (by decide) ?_
              refine zr_top (y := F a) (congrFun hF a) ?_
              refine zr_istore i_Mod_fields_43 rfl ?_
              refine zr_iload i_Mod_fields_45 rfl ?_
              refine zr_aload_n i_Mod_fields_47 rfl ?_
              refine zr_getf i_Mod_fields_48 rfl rfl rfl ?_
              refine zn_iconst 3 i_Mod_fields_51 (by decide) ?_
              refine zn_caload i_Mod_fields_52 rfl (by omega) (by decide) ?_
              refine zr_top (y := S 3) (congrFun hSe 3) ?_
              refine zr_icmp_ne 65 i_Mod_fields_53 (by decide) (fun c_53 => ?_) (fun q => absurd q h3)
              refine zr_iload i_Mod_fields_65 rfl ?_
              refine zr_aload_n i_Mod_fields_67 rfl ?_
              refine zr_getf i_Mod_fields_68 rfl rfl rfl ?_
              refine zn_iconst 0 i_Mod_fields_71 (by decide) ?_
              refine zn_caload i_Mod_fields_72 rfl (by omega) (by decide) ?_
              refine zr_top (y := S 0) (congrFun hSe 0) ?_
              refine zr_icmp_ne 80 i_Mod_fields_73 (by decide) (fun c_73 => ?_) (fun q => absurd q nw0)
              refine zr_iload i_Mod_fields_80 rfl ?_
              refine zr_aload_n i_Mod_fields_82 rfl ?_
              refine zr_getf i_Mod_fields_83 rfl rfl rfl ?_
              refine zn_iconst 1 i_Mod_fields_86 (by decide) ?_
              refine zn_caload i_Mod_fields_87 rfl (by omega) (by decide) ?_
              refine zr_top (y := S 1) (congrFun hSe 1) ?_
              refine zr_icmp_ne 95 i_Mod_fields_88 (by decide) (fun c_88 => ?_) (fun q => absurd q nw1)
              refine zr_iload i_Mod_fields_95 rfl ?_
              refine zr_aload_n i_Mod_fields_97 rfl ?_
              refine zr_getf i_Mod_fields_98 rfl rfl rfl ?_
              refine zn_iconst 2 i_Mod_fields_101 (by decide) ?_
              refine zn_caload i_Mod_fields_102 rfl (by omega) (by decide) ?_
              refine zr_top (y := S 2) (congrFun hSe 2) ?_
              refine zr_icmp_ne 110 i_Mod_fields_103 (by decide) (fun c_103 => ?_) (fun q => absurd q nw2)
              refine zr_iload i_Mod_fields_110 rfl ?_
              refine zr_aload_n i_Mod_fields_112 rfl ?_
              refine zr_getf i_Mod_fields_113 rfl rfl rfl ?_
              refine zn_iconst 4 i_Mod_fields_116 (by decide) ?_
              refine zn_caload i_Mod_fields_117 rfl (by omega) (by decide) ?_
              refine zr_top (y := S 4) (congrFun hSe 4) ?_
              refine zr_icmp_ne 125 i_Mod_fields_118 (by decide) (fun q => absurd hw q) (fun c_118 => ?_)
              refine zr_iconst i_Mod_fields_121 (v := 4) (by decide) ?_
              refine zr_goto 126 i_Mod_fields_122 (by decide) ?_
              refine zr_istore i_Mod_fields_126 rfl ?_
              refine zr_iload i_Mod_fields_128 rfl ?_
              refine zr_if_ge 142 i_Mod_fields_130 (by decide) (fun _ => ?_) (fun q => absurd q (by decide))
              refine zr_iload i_Mod_fields_142 rfl ?_
              refine zr_iconst i_Mod_fields_144 (v := 4) (by decide) ?_
              refine zr_icmp_ne 155 i_Mod_fields_145 (by decide) (fun q => absurd q (by decide)) (fun _ => ?_)
              refine zr_iload i_Mod_fields_148 rfl ?_
              refine zn_iconst 1 i_Mod_fields_150 (by decide) ?_
              refine zn_iadd i_Mod_fields_151 ?_
              refine zr_goto 156 i_Mod_fields_152 (by decide) ?_
              refine zr_istore i_Mod_fields_156 rfl ?_
              refine zr_iload i_Mod_fields_158 rfl ?_
              refine zr_iconst i_Mod_fields_160 (v := 4) (by decide) ?_
              refine zr_icmp_ne 168 i_Mod_fields_161 (by decide) (fun q => absurd q (by decide)) (fun _ => ?_)
              refine zr_iload_n i_Mod_fields_164 rfl ?_
              refine zr_goto 181 i_Mod_fields_165 (by decide) ?_
              refine zr_istore_n i_Mod_fields_181 rfl ?_
              refine zr_iload i_Mod_fields_182 rfl ?_
              refine zr_iconst i_Mod_fields_184 (v := 4) (by decide) ?_
              refine zr_icmp_eq 194 i_Mod_fields_185 (by decide) (fun _ => ?_) (fun q => absurd q (by decide))
              refine zr_iload_n i_Mod_fields_194 rfl ?_
              refine zr_goto 211 i_Mod_fields_195 (by decide) ?_
              refine zr_istore_n i_Mod_fields_211 rfl ?_
              refine zr_iload i_Mod_fields_212 rfl ?_
              refine zr_if_ne 223 i_Mod_fields_214 (by decide) (fun _ => ?_) (fun q => absurd q (by decide))
              refine zr_iload_n i_Mod_fields_223 rfl ?_
              refine zr_istore_n i_Mod_fields_224 rfl ?_
              refine zr_aload_n i_Mod_fields_225 rfl ?_
              refine zr_iload_n i_Mod_fields_226 rfl ?_
              refine zr_iload_n i_Mod_fields_227 rfl ?_
              refine zr_iload_n i_Mod_fields_228 rfl ?_
              refine zr_iload i_Mod_fields_229 rfl ?_
              refine zr_cv40 i_Mod_fields_231 rfl (by decide) rfl (Nat.le_of_ble_eq_true rfl) (Nat.le_of_ble_eq_true rfl) (e_Mod_open X _ g ms (E ++ [(k, cs)]).length _ _ _ _ hT.1 (by simp; omega)) ?_
              refine zr_aload_n i_Mod_fields_234 rfl ?_
              refine zr_dup i_Mod_fields_235 rfl ?_
              refine zr_getf i_Mod_fields_236 rfl rfl rfl ?_
              refine zr_top (y := nI a) h1 ?_
              refine zn_iconst 1 i_Mod_fields_239 (by decide) ?_
              refine zn_iadd i_Mod_fields_240 ?_
              refine mr_putf (kk := 1) i_Mod_fields_241 rfl rfl (Nat.le_of_ble_eq_true rfl) rfl rfl rfl ?_
              refine zr_goto 9 i_Mod_fields_244 (by decide) ?_
              exact hR
            · cases hb : bodyF F n S q (a + 1) with
              | none => rw [hb] at hm; exact hm
              | some p =>
                rw [hb] at hm
                obtain ⟨m1, m2, m3⟩ := hm
                refine ⟨m1, m2, ?_⟩
                have e : bump (f, r, c, u) 4 = (f, r, c, (u + 1)) := rfl
                simpa [entF, e, List.append_assoc] using m3
          have nw3 := hw
          have hws : whichS S (F a) = none := by unfold whichS; rw [if_neg nw0, if_neg nw1, if_neg nw2, if_neg nw3]
          rw [hws]
          dsimp only
          obtain ⟨b, ms2, hR, hp, h2, hm⟩ := ih (va_up (madd ms (flat (E ++ [(k, cs)])).length (E ++ [(k, cs)]).length (F a)).1 1 (nI (a + 1)), (madd ms (flat (E ++ [(k, cs)])).length (E ++ [(k, cs)]).length (F a)).2) (a + 1) E k (cs ++ [F a]) f r c u trivial (some (.int (F a))) (some (.int (-1))) (by omega) hF hSe h0 rfl hs (by omega) (mTab_add hT (hc a)) (by omega) (by rw [flat_app, flat_one] at hl2 ⊢; simp only [List.length_append, List.length_singleton] at hl2 ⊢; omega)
          refine ⟨b, ms2, ?_, ((mpar_add ms _ _ _ (by omega) (by simp; omega) (by simp)).trans (mpar_at _ _)).trans hp, h2, ?_⟩
          · skip
            refine zr_aload_n i_Mod_fields_9 rfl ?_
            refine zr_getf i_Mod_fields_10 rfl rfl rfl ?_
            refine zr_top (y := nI a) h1 ?_
            refine zr_aload_n i_Mod_fields_13 rfl ?_
            refine zr_getf i_Mod_fields_14 rfl rfl rfl ?_
            refine zr_top (y := nI n) h0 ?_
            refine zn_icmp_ge 247 i_Mod_fields_17 (by decide) (by omega) (by omega) (fun q => absurd q (by omega)) (fun c_17 => ?_)
            refine zr_aload_n i_Mod_fields_20 rfl ?_
            refine zr_getf i_Mod_fields_21 rfl rfl rfl ?_
            refine zr_aload_n i_Mod_fields_24 rfl ?_
            refine zr_getf i_Mod_fields_25 rfl rfl rfl ?_
            refine zr_top (y := nI a) h1 ?_
            refine zn_caload i_Mod_fields_28 rfl (by omega) (by decide) ?_
            refine zr_top (y := F a) (congrFun hF a) ?_
            refine zr_bipush i_Mod_fields_29 (v := 13) (by decide) ?_
            refine zr_icmp_eq 247 i_Mod_fields_31 (by decide) (fun q => absurd q h13) (fun c_31 => ?_)
            refine zr_aload_n i_Mod_fields_34 rfl ?_
            refine zr_getf i_Mod_fields_35 rfl rfl rfl ?_
            refine zr_aload_n i_Mod_fields_38 rfl ?_
            refine zr_getf i_Mod_fields_39 rfl rfl rfl ?_
            refine zr_top (y := nI a) h1 ?_
            refine zn_caload i_Mod_fields_42 rfl (by omega) (by decide) ?_
            refine zr_top (y := F a) (congrFun hF a) ?_
            refine zr_istore i_Mod_fields_43 rfl ?_
            refine zr_iload i_Mod_fields_45 rfl ?_
            refine zr_aload_n i_Mod_fields_47 rfl ?_
            refine zr_getf i_Mod_fields_48 rfl rfl rfl ?_
            refine zn_iconst 3 i_Mod_fields_51 (by decide) ?_
            refine zn_caload i_Mod_fields_52 rfl (by omega) (by decide) ?_
            refine zr_top (y := S 3) (congrFun hSe 3) ?_
            refine zr_icmp_ne 65 i_Mod_fields_53 (by decide) (fun c_53 => ?_) (fun q => absurd q h3)
            refine zr_iload i_Mod_fields_65 rfl ?_
            refine zr_aload_n i_Mod_fields_67 rfl ?_
            refine zr_getf i_Mod_fields_68 rfl rfl rfl ?_
            refine zn_iconst 0 i_Mod_fields_71 (by decide) ?_
            refine zn_caload i_Mod_fields_72 rfl (by omega) (by decide) ?_
            refine zr_top (y := S 0) (congrFun hSe 0) ?_
            refine zr_icmp_ne 80 i_Mod_fields_73 (by decide) (fun c_73 => ?_) (fun q => absurd q nw0)
            refine zr_iload i_Mod_fields_80 rfl ?_
            refine zr_aload_n i_Mod_fields_82 rfl ?_
            refine zr_getf i_Mod_fields_83 rfl rfl rfl ?_
            refine zn_iconst 1 i_Mod_fields_86 (by decide) ?_
            refine zn_caload i_Mod_fields_87 rfl (by omega) (by decide) ?_
            refine zr_top (y := S 1) (congrFun hSe 1) ?_
            refine zr_icmp_ne 95 i_Mod_fields_88 (by decide) (fun c_88 => ?_) (fun q => absurd q nw1)
            refine zr_iload i_Mod_fields_95 rfl ?_
            refine zr_aload_n i_Mod_fields_97 rfl ?_
            refine zr_getf i_Mod_fields_98 rfl rfl rfl ?_
            refine zn_iconst 2 i_Mod_fields_101 (by decide) ?_
            refine zn_caload i_Mod_fields_102 rfl (by omega) (by decide) ?_
            refine zr_top (y := S 2) (congrFun hSe 2) ?_
            refine zr_icmp_ne 110 i_Mod_fields_103 (by decide) (fun c_103 => ?_) (fun q => absurd q nw2)
            refine zr_iload i_Mod_fields_110 rfl ?_
            refine zr_aload_n i_Mod_fields_112 rfl ?_
            refine zr_getf i_Mod_fields_113 rfl rfl rfl ?_
            refine zn_iconst 4 i_Mod_fields_116 (by decide) ?_
            refine zn_caload i_Mod_fields_117 rfl (by omega) (by decide) ?_
            refine zr_top (y := S 4) (congrFun hSe 4) ?_
            refine zr_icmp_ne 125 i_Mod_fields_118 (by decide) (fun c_118 => ?_) (fun q => absurd q nw3)
            refine zr_iconst i_Mod_fields_125 (v := (-1)) (by decide) ?_
            refine zr_istore i_Mod_fields_126 rfl ?_
            refine zr_iload i_Mod_fields_128 rfl ?_
            refine zr_if_ge 142 i_Mod_fields_130 (by decide) (fun q => absurd q (by decide)) (fun _ => ?_)
            refine zr_aload_n i_Mod_fields_133 rfl ?_
            refine zr_iload i_Mod_fields_134 rfl ?_
            refine zr_cv10 i_Mod_fields_136 rfl (by decide) rfl (Nat.le_of_ble_eq_true rfl) (Nat.le_of_ble_eq_true rfl) (e_Mod_add X _ g ms (flat (E ++ [(k, cs)])).length (E ++ [(k, cs)]).length (F a) hT.2.1 hT.1 (by omega) (by simp) (by simp; omega)) ?_
            refine zr_goto 234 i_Mod_fields_139 (by decide) ?_
            refine zr_aload_n i_Mod_fields_234 rfl ?_
            refine zr_dup i_Mod_fields_235 rfl ?_
            refine zr_getf i_Mod_fields_236 rfl rfl rfl ?_
            refine zr_top (y := nI a) h1 ?_
            refine zn_iconst 1 i_Mod_fields_239 (by decide) ?_
            refine zn_iadd i_Mod_fields_240 ?_
            refine mr_putf (kk := 1) i_Mod_fields_241 rfl rfl (Nat.le_of_ble_eq_true rfl) rfl rfl rfl ?_
            refine zr_goto 9 i_Mod_fields_244 (by decide) ?_
            exact hR
          · cases hb : bodyF F n S q (a + 1) with
            | none => rw [hb] at hm; exact hm
            | some p =>
              rw [hb] at hm
              obtain ⟨m1, m2, m3⟩ := hm
              refine ⟨m1, m2, ?_⟩
              simpa [entF, List.append_assoc] using m3
    · rw [if_neg (fun z => hA z.1)]
      refine ⟨true, ms, ?_, mpar.refl ms, ⟨rfl, rfl⟩, rfl, h1, by simpa [entF] using hT⟩
      refine zr_aload_n i_Mod_fields_9 rfl ?_
      refine zr_getf i_Mod_fields_10 rfl rfl rfl ?_
      refine zr_top (y := nI a) h1 ?_
      refine zr_aload_n i_Mod_fields_13 rfl ?_
      refine zr_getf i_Mod_fields_14 rfl rfl rfl ?_
      refine zr_top (y := nI n) h0 ?_
      refine zn_icmp_ge 247 i_Mod_fields_17 (by decide) (by omega) (by omega) (fun c_17 => ?_) (fun q => absurd q (by omega))
      refine zr_iconst i_Mod_fields_247 (v := 1) (by decide) ?_
      exact zR.retE i_Mod_fields_248 rfl rfl
theorem e_Mod_fields (X : zX) (d : Nat) (g : zH) (ms : zMS) (F S : Nat → Int32) (n sg : Nat) (hn : n ≤ 200) (hc : ∀ i, zch (F i)) (hS : ∀ k, k < 5 → zch (S k)) (q a : Nat) (E : List zEn) (hq : n ≤ a + 1 + q) (hF : ms.2 1 = F) (hSe : ms.2 14 = S) (h0 : ms.1 0 = nI n) (h1 : ms.1 1 = nI a) (hs : ms.2 2 0 = nI sg) (ha : a ≤ n + 5) (hT : mTab ms E) (hA : a < n) (h13 : ¬ F a = 13) (h3 : ¬ F a = S 3) (hw : F a = S 0) (hl1 : E.length ≤ a) (hl2 : (flat E).length ≤ a) : ∃ b ms', zR X (d + 3) 109 0 (zent 7 [.ref 129]) [] (mset g ms) (some (.int (zb b)), mset g ms') ∧ mpar ms ms' ∧ (ms'.2 2 = ms.2 2 ∧ ms'.2 13 = ms.2 13) ∧ (match bodyF F n S (q + 1) a with
    | none => b = false
    | some p => b = true ∧ ms'.1 1 = nI p.2 ∧ mTab ms' (E ++ (entF sg (0, 1, 1, 1) p.1).2)) := by
  rw [bodyF, if_pos ⟨hA, h13⟩, if_neg h3, show whichS S (F a) = some 0 from if_pos hw]
  dsimp only
  obtain ⟨b, ms2, hR, hp, h2, hm⟩ := l_Mod_fields X d g F S n sg hn hc hS q (va_up (mopen ms E.length (nI (0 + 1)) (nI 1) (nI 1) (nI 1)).1 1 (nI (a + 1)), (mopen ms E.length (nI (0 + 1)) (nI 1) (nI 1) (nI 1)).2) (a + 1) E (sg, 0 + 1, 1, 1, 1) [] (0 + 1) 1 1 1 trivial (some (.int (F a))) (some (.int 0)) (by omega) hF hSe h0 rfl hs (by omega) (mTab_open hT hs _ _ _ _) (by omega) (by rw [flat_app, flat_one]; simp only [List.append_nil]; omega)
  refine ⟨b, ms2, ?_, ((mpar_open ms _ _ _ _ _ (by omega)).trans (mpar_at _ _)).trans hp, h2, ?_⟩
  · skip
    refine zn_iconst 0 i_Mod_fields_0 (by decide) ?_
    refine zr_istore_n i_Mod_fields_1 rfl ?_
    refine zn_iconst 1 i_Mod_fields_2 (by decide) ?_
    refine zr_istore_n i_Mod_fields_3 rfl ?_
    refine zn_iconst 1 i_Mod_fields_4 (by decide) ?_
    refine zr_istore_n i_Mod_fields_5 rfl ?_
    refine zn_iconst 1 i_Mod_fields_6 (by decide) ?_
    refine zr_istore i_Mod_fields_7 rfl ?_
    refine zr_aload_n i_Mod_fields_9 rfl ?_
    refine zr_getf i_Mod_fields_10 rfl rfl rfl ?_
    refine zr_top (y := nI a) h1 ?_
    refine zr_aload_n i_Mod_fields_13 rfl ?_
    refine zr_getf i_Mod_fields_14 rfl rfl rfl ?_
    refine zr_top (y := nI n) h0 ?_
    refine zn_icmp_ge 247 i_Mod_fields_17 (by decide) (by omega) (by omega) (fun q => absurd q (by omega)) (fun c_17 => ?_)
    refine zr_aload_n i_Mod_fields_20 rfl ?_
    refine zr_getf i_Mod_fields_21 rfl rfl rfl ?_
    refine zr_aload_n i_Mod_fields_24 rfl ?_
    refine zr_getf i_Mod_fields_25 rfl rfl rfl ?_
    refine zr_top (y := nI a) h1 ?_
    refine zn_caload i_Mod_fields_28 rfl (by omega) (by decide) ?_
    refine zr_top (y := F a) (congrFun hF a) ?_
    refine zr_bipush i_Mod_fields_29 (v := 13) (by decide) ?_
    refine zr_icmp_eq 247 i_Mod_fields_31 (by decide) (fun q => absurd q h13) (fun c_31 => ?_)
    refine zr_aload_n i_Mod_fields_34 rfl ?_
    refine zr_getf i_Mod_fields_35 rfl rfl rfl ?_
    refine zr_aload_n i_Mod_fields_38 rfl ?_
    refine zr_getf i_Mod_fields_39 rfl rfl rfl ?_
    refine zr_top (y := nI a) h1 ?_
    refine zn_caload i_Mod_fields_42 rfl (by omega) (by decide) ?_
    refine zr_top (y := F a) (congrFun hF a) ?_
    refine zr_istore i_Mod_fields_43 rfl ?_
    refine zr_iload i_Mod_fields_45 rfl ?_
    refine zr_aload_n i_Mod_fields_47 rfl ?_
    refine zr_getf i_Mod_fields_48 rfl rfl rfl ?_
    refine zn_iconst 3 i_Mod_fields_51 (by decide) ?_
    refine zn_caload i_Mod_fields_52 rfl (by omega) (by decide) ?_
    refine zr_top (y := S 3) (congrFun hSe 3) ?_
    refine zr_icmp_ne 65 i_Mod_fields_53 (by decide) (fun c_53 => ?_) (fun q => absurd q h3)
    refine zr_iload i_Mod_fields_65 rfl ?_
    refine zr_aload_n i_Mod_fields_67 rfl ?_
    refine zr_getf i_Mod_fields_68 rfl rfl rfl ?_
    refine zn_iconst 0 i_Mod_fields_71 (by decide) ?_
    refine zn_caload i_Mod_fields_72 rfl (by omega) (by decide) ?_
    refine zr_top (y := S 0) (congrFun hSe 0) ?_
    refine zr_icmp_ne 80 i_Mod_fields_73 (by decide) (fun q => absurd hw q) (fun c_73 => ?_)
    refine zr_iconst i_Mod_fields_76 (v := 0) (by decide) ?_
    refine zr_goto 126 i_Mod_fields_77 (by decide) ?_
    refine zr_istore i_Mod_fields_126 rfl ?_
    refine zr_iload i_Mod_fields_128 rfl ?_
    refine zr_if_ge 142 i_Mod_fields_130 (by decide) (fun _ => ?_) (fun q => absurd q (by decide))
    refine zr_iload i_Mod_fields_142 rfl ?_
    refine zr_iconst i_Mod_fields_144 (v := 4) (by decide) ?_
    refine zr_icmp_ne 155 i_Mod_fields_145 (by decide) (fun _ => ?_) (fun q => absurd q (by decide))
    refine zn_iconst 1 i_Mod_fields_155 (by decide) ?_
    refine zr_istore i_Mod_fields_156 rfl ?_
    refine zr_iload i_Mod_fields_158 rfl ?_
    refine zr_iconst i_Mod_fields_160 (v := 4) (by decide) ?_
    refine zr_icmp_ne 168 i_Mod_fields_161 (by decide) (fun _ => ?_) (fun q => absurd q (by decide))
    refine zr_iload i_Mod_fields_168 rfl ?_
    refine zr_iconst i_Mod_fields_170 (v := 1) (by decide) ?_
    refine zr_icmp_ne 180 i_Mod_fields_171 (by decide) (fun _ => ?_) (fun q => absurd q (by decide))
    refine zn_iconst 1 i_Mod_fields_180 (by decide) ?_
    refine zr_istore_n i_Mod_fields_181 rfl ?_
    refine zr_iload i_Mod_fields_182 rfl ?_
    refine zr_iconst i_Mod_fields_184 (v := 4) (by decide) ?_
    refine zr_icmp_eq 194 i_Mod_fields_185 (by decide) (fun q => absurd q (by decide)) (fun _ => ?_)
    refine zr_iload i_Mod_fields_188 rfl ?_
    refine zr_iconst i_Mod_fields_190 (v := 1) (by decide) ?_
    refine zr_icmp_ne 198 i_Mod_fields_191 (by decide) (fun _ => ?_) (fun q => absurd q (by decide))
    refine zr_iload i_Mod_fields_198 rfl ?_
    refine zr_iconst i_Mod_fields_200 (v := 2) (by decide) ?_
    refine zr_icmp_ne 210 i_Mod_fields_201 (by decide) (fun _ => ?_) (fun q => absurd q (by decide))
    refine zn_iconst 1 i_Mod_fields_210 (by decide) ?_
    refine zr_istore_n i_Mod_fields_211 rfl ?_
    refine zr_iload i_Mod_fields_212 rfl ?_
    refine zr_if_ne 223 i_Mod_fields_214 (by decide) (fun q => absurd q (by decide)) (fun _ => ?_)
    refine zr_iload_n i_Mod_fields_217 rfl ?_
    refine zn_iconst 1 i_Mod_fields_218 (by decide) ?_
    refine zn_iadd i_Mod_fields_219 ?_
    refine zr_goto 224 i_Mod_fields_220 (by decide) ?_
    refine zr_istore_n i_Mod_fields_224 rfl ?_
    refine zr_aload_n i_Mod_fields_225 rfl ?_
    refine zr_iload_n i_Mod_fields_226 rfl ?_
    refine zr_iload_n i_Mod_fields_227 rfl ?_
    refine zr_iload_n i_Mod_fields_228 rfl ?_
    refine zr_iload i_Mod_fields_229 rfl ?_
    refine zr_cv40 i_Mod_fields_231 rfl (by decide) rfl (Nat.le_of_ble_eq_true rfl) (Nat.le_of_ble_eq_true rfl) (e_Mod_open X _ g ms E.length _ _ _ _ hT.1 (by omega)) ?_
    refine zr_aload_n i_Mod_fields_234 rfl ?_
    refine zr_dup i_Mod_fields_235 rfl ?_
    refine zr_getf i_Mod_fields_236 rfl rfl rfl ?_
    refine zr_top (y := nI a) h1 ?_
    refine zn_iconst 1 i_Mod_fields_239 (by decide) ?_
    refine zn_iadd i_Mod_fields_240 ?_
    refine mr_putf (kk := 1) i_Mod_fields_241 rfl rfl (Nat.le_of_ble_eq_true rfl) rfl rfl rfl ?_
    refine zr_goto 9 i_Mod_fields_244 (by decide) ?_
    exact hR
  · cases hb : bodyF F n S q (a + 1) with
    | none => rw [hb] at hm; exact hm
    | some p =>
      rw [hb] at hm
      obtain ⟨m1, m2, m3⟩ := hm
      refine ⟨m1, m2, ?_⟩
      have e : bump (0, 1, 1, 1) 0 = (0 + 1, 1, 1, 1) := rfl
      simpa [entF, e, List.append_assoc] using m3
