/-! THE CLASS: the frame -/
def isF (h : zH) (n : Nat) (F : Nat → Int32) : Prop := h.2.2 101 = some (.inr (2, [.ref 102])) ∧ isCh h 102 200 n F
theorem isF_ms {h : zH} {n : Nat} {F : Nat → Int32} {m : Nat} {f st : Nat → Int32} {n' k : Nat} (hm : 110 ≤ m) (hF : isF h n F) : isF (msS h m f n' st k) n F := ⟨(msS_ne (by omega) (by omega) (by omega)).trans hF.1, (msS_ne (by omega) (by omega) (by omega)).trans hF.2.1, (msS_ne (by omega) (by omega) (by omega)).trans hF.2.2⟩
theorem isSp_ms {h : zH} {S : Nat → Int32} {m : Nat} {f st : Nat → Int32} {n' k : Nat} (hS : isSp h (m + 1) S) : isSp (msS h m f n' st k) (m + 1) S := ⟨(msS_ne (by omega) (by omega) (by omega)).trans hS.1, (msS_ne (by omega) (by omega) (by omega)).trans hS.2⟩
/-- the character at a place of the frame, -1 behind its end -/
def clF (F : Nat → Int32) (n i : Nat) : Int32 := if i < n then F i else -1
theorem clF_get {F : Nat → Int32} {n i : Nat} (hn : n ≤ 200) (hi : i < 2 ^ 30) : getF F n (nI i) = clF F n i := by
  unfold clF
  split
  · rename_i h; exact getF_in h (by omega)
  · rename_i h; exact getF_ge (nI_le (by omega) (by omega))
theorem e2_Chars_at (X : zX) (d : Nat) (h : zH) (n : Nat) (F : Nat → Int32) (hF : isF h n F) (hn : n ≤ 200) (i : Nat) (hi : i < 2 ^ 30) : zR X d 36 0 (zent 2 [.ref 102, .int (nI i)]) [] h (some (.int (clF F n i)), h) := by
  rw [← clF_get hn hi]
  exact e_Chars_at X d h 102 200 n F hF.2 hn (by decide) (nI i)
def i2cF (x : Int32) : Int32 := (x.toUInt32 % 65536).toInt32
def hxF (F : Nat → Int32) (n i : Nat) : Int32 := ixF (sT 3) (i2cF (clF F n i))
/-- what an escape stands for, -1 where it is wrong -/
def escC (F : Nat → Int32) (n : Nat) (S : Nat → Int32) (a : Nat) : Int32 :=
  if clF F n (a + 2) = S 3 then getF S 5 (ixF (sT 2) (i2cF (clF F n (a + 1))))
  else if clF F n (a + 1) = 88 ∧ clF F n (a + 4) = S 3 then (if ¬ hxF F n (a + 2) < 0 ∧ ¬ hxF F n (a + 3) < 0 ∧ zbtw (16 * hxF F n (a + 2) + hxF F n (a + 3)) 32 126 = true then 16 * hxF F n (a + 2) + hxF F n (a + 3) else -1) else -1
/-- one sign, and how many characters it takes -/
def rdT (F : Nat → Int32) (n : Nat) (S : Nat → Int32) (a : Nat) : Int32 × Nat := match plF S (F a) with
  | some w => if w = 3 then (escC F n S a, if clF F n (a + 1) = 88 then 5 else 3) else (nI (256 + w), 1)
  | none => (F a, 1)
def rdL (F : Nat → Int32) (n : Nat) (S : Nat → Int32) (e q a : Nat) : List Int32 × Bool := match q with
  | 0 => ([], true)
  | q + 1 => if a < e then (if (rdT F n S a).1 = -1 then ([], false) else ((rdT F n S a).1 :: (rdL F n S e q (a + (rdT F n S a).2)).1, (rdL F n S e q (a + (rdT F n S a).2)).2)) else ([], true)
def rdB (F : Nat → Int32) (n : Nat) (S : Nat → Int32) (b e : Nat) : List Int32 × Bool := if b < e ∧ ¬ clF F n b = S 0 then ([], false) else rdL F n S e e b
def nameC (F : Nat → Int32) (n b : Nat) : Bool := zcap (clF F n b) && ((zcap (clF F n (b + 1)) || zdig (clF F n (b + 1))) && (zcap (clF F n (b + 2)) || zdig (clF F n (b + 2))))
abbrev zSt : Type := List Int32 × (Nat → Int32) × Nat
/-- a segment is read from b to e -/
def rdS (F : Nat → Int32) (n : Nat) (S : Nat → Int32) (z : zSt) (b e : Nat) : zSt × Bool := if b = 0 ∨ nameC F n b = true then (((if 0 < z.2.2 then z.1 ++ [261] else z.1) ++ [clF F n b, clF F n (b + 1), clF F n (b + 2)] ++ (rdB F n S (b + if b = 0 then 8 else 3) e).1, stS z.2.1 z.2.2 ((if 0 < z.2.2 then z.1 ++ [261] else z.1).take 200).length, z.2.2 + 1), (rdB F n S (b + if b = 0 then 8 else 3) e).2) else (z, false)
def rdA (F : Nat → Int32) (n : Nat) (S : Nat → Int32) (q a b : Nat) (z : zSt) : zSt × Bool := match q with
  | 0 => if b = n then (z, true) else rdS F n S z b n
  | q + 1 => if F a = 13 then (if (rdS F n S z b a).2 = true then rdA F n S q (a + 1) (a + 1) (rdS F n S z b a).1 else ((rdS F n S z b a).1, false)) else rdA F n S q (a + 1) b z
def msZ (h : zH) (m : Nat) (f : Nat → Int32) (z : zSt) : zH := msL h m z.1 f z.2.1 z.2.2
theorem i_Frame_isName_0 : zins 42 0 = some (.aload_n 0) := by decide +kernel
theorem i_Frame_isName_1 : zins 42 1 = some (.getfield 14) := by decide +kernel
theorem i_Frame_isName_4 : zins 42 4 = some (.iload_n 1) := by decide +kernel
theorem i_Frame_isName_5 : zins 42 5 = some (.iconst 1) := by decide +kernel
theorem i_Frame_isName_6 : zins 42 6 = some (.iadd) := by decide +kernel
theorem i_Frame_isName_7 : zins 42 7 = some (.invokevirtual 35) := by decide +kernel
theorem i_Frame_isName_10 : zins 42 10 = some (.istore_n 2) := by decide +kernel
theorem i_Frame_isName_11 : zins 42 11 = some (.aload_n 0) := by decide +kernel
theorem i_Frame_isName_12 : zins 42 12 = some (.getfield 14) := by decide +kernel
theorem i_Frame_isName_15 : zins 42 15 = some (.iload_n 1) := by decide +kernel
theorem i_Frame_isName_16 : zins 42 16 = some (.iconst 2) := by decide +kernel
theorem i_Frame_isName_17 : zins 42 17 = some (.iadd) := by decide +kernel
theorem i_Frame_isName_18 : zins 42 18 = some (.invokevirtual 35) := by decide +kernel
theorem i_Frame_isName_21 : zins 42 21 = some (.istore_n 3) := by decide +kernel
theorem i_Frame_isName_22 : zins 42 22 = some (.aload_n 0) := by decide +kernel
theorem i_Frame_isName_23 : zins 42 23 = some (.getfield 14) := by decide +kernel
theorem i_Frame_isName_26 : zins 42 26 = some (.iload_n 1) := by decide +kernel
theorem i_Frame_isName_27 : zins 42 27 = some (.invokevirtual 35) := by decide +kernel
theorem i_Frame_isName_30 : zins 42 30 = some (.invokestatic 81) := by decide +kernel
theorem i_Frame_isName_33 : zins 42 33 = some (.ifCond .eq 35) := by decide +kernel
theorem i_Frame_isName_36 : zins 42 36 = some (.iload_n 2) := by decide +kernel
theorem i_Frame_isName_37 : zins 42 37 = some (.invokestatic 81) := by decide +kernel
theorem i_Frame_isName_40 : zins 42 40 = some (.ifCond .ne 10) := by decide +kernel
theorem i_Frame_isName_43 : zins 42 43 = some (.iload_n 2) := by decide +kernel
theorem i_Frame_isName_44 : zins 42 44 = some (.invokestatic 84) := by decide +kernel
theorem i_Frame_isName_47 : zins 42 47 = some (.ifCond .eq 21) := by decide +kernel
theorem i_Frame_isName_50 : zins 42 50 = some (.iload_n 3) := by decide +kernel
theorem i_Frame_isName_51 : zins 42 51 = some (.invokestatic 81) := by decide +kernel
theorem i_Frame_isName_54 : zins 42 54 = some (.ifCond .ne 10) := by decide +kernel
theorem i_Frame_isName_57 : zins 42 57 = some (.iload_n 3) := by decide +kernel
theorem i_Frame_isName_58 : zins 42 58 = some (.invokestatic 84) := by decide +kernel
theorem i_Frame_isName_61 : zins 42 61 = some (.ifCond .eq 7) := by decide +kernel
theorem i_Frame_isName_64 : zins 42 64 = some (.iconst 1) := by decide +kernel
theorem i_Frame_isName_65 : zins 42 65 = some (.goto 4) := by decide +kernel
theorem i_Frame_isName_68 : zins 42 68 = some (.iconst 0) := by decide +kernel
theorem i_Frame_isName_69 : zins 42 69 = some (.ireturn) := by decide +kernel
theorem e_Frame_isName (X : zX) (d : Nat) (h : zH) (n : Nat) (F : Nat → Int32) (hF : isF h n F) (hn : n ≤ 200) (b : Nat) (hb : b ≤ 300) : zR X (d + 1) 42 0 (zent 4 [.ref 101, .int (nI b)]) [] h (some (.int (zb (nameC F n b))), h) := by
  refine zr_aload_n i_Frame_isName_0 rfl ?_
  refine zr_getf i_Frame_isName_1 hF.1 rfl rfl ?_
  refine zr_iload_n i_Frame_isName_4 rfl ?_
  refine zn_iconst 1 i_Frame_isName_5 (by decide) ?_
  refine zn_iadd i_Frame_isName_6 ?_
  refine zr_cv1 i_Frame_isName_7 rfl (by decide) (zrcv_of hF.2.1) (Nat.le_of_ble_eq_true rfl) (Nat.le_of_ble_eq_true rfl) (e2_Chars_at X _ h n F hF hn (b + 1) (by omega)) ?_
  refine zr_istore_n i_Frame_isName_10 rfl ?_
  refine zr_aload_n i_Frame_isName_11 rfl ?_
  refine zr_getf i_Frame_isName_12 hF.1 rfl rfl ?_
  refine zr_iload_n i_Frame_isName_15 rfl ?_
  refine zn_iconst 2 i_Frame_isName_16 (by decide) ?_
  refine zn_iadd i_Frame_isName_17 ?_
  refine zr_cv1 i_Frame_isName_18 rfl (by decide) (zrcv_of hF.2.1) (Nat.le_of_ble_eq_true rfl) (Nat.le_of_ble_eq_true rfl) (e2_Chars_at X _ h n F hF hn (b + 2) (by omega)) ?_
  refine zr_istore_n i_Frame_isName_21 rfl ?_
  refine zr_aload_n i_Frame_isName_22 rfl ?_
  refine zr_getf i_Frame_isName_23 hF.1 rfl rfl ?_
  refine zr_iload_n i_Frame_isName_26 rfl ?_
  refine zr_cv1 i_Frame_isName_27 rfl (by decide) (zrcv_of hF.2.1) (Nat.le_of_ble_eq_true rfl) (Nat.le_of_ble_eq_true rfl) (e2_Chars_at X _ h n F hF hn b (by omega)) ?_
  refine zr_cs1 i_Frame_isName_30 rfl (by decide) (Nat.le_of_ble_eq_true rfl) (Nat.le_of_ble_eq_true rfl) (e1_B_isCapital X _ _ _) ?_
  refine zB_if_eq 68 i_Frame_isName_33 (by decide) (fun c_33 => ?_) (fun c_33 => ?_)
  · skip
    refine zr_iconst i_Frame_isName_68 (v := 0) (by decide) ?_
    exact zR.retE i_Frame_isName_69 rfl (by simp [zb, nameC, *])
  · skip
    refine zr_iload_n i_Frame_isName_36 rfl ?_
    refine zr_cs1 i_Frame_isName_37 rfl (by decide) (Nat.le_of_ble_eq_true rfl) (Nat.le_of_ble_eq_true rfl) (e1_B_isCapital X _ _ _) ?_
    refine zB_if_ne 50 i_Frame_isName_40 (by decide) (fun c_40 => ?_) (fun c_40 => ?_)
    · skip
      refine zr_iload_n i_Frame_isName_50 rfl ?_
      refine zr_cs1 i_Frame_isName_51 rfl (by decide) (Nat.le_of_ble_eq_true rfl) (Nat.le_of_ble_eq_true rfl) (e1_B_isCapital X _ _ _) ?_
      refine zB_if_ne 64 i_Frame_isName_54 (by decide) (fun c_54 => ?_) (fun c_54 => ?_)
      · skip
        refine zr_iconst i_Frame_isName_64 (v := 1) (by decide) ?_
        refine zr_goto 69 i_Frame_isName_65 (by decide) ?_
        exact zR.retE i_Frame_isName_69 rfl (by simp [zb, nameC, *])
      · skip
        refine zr_iload_n i_Frame_isName_57 rfl ?_
        refine zr_cs1 i_Frame_isName_58 rfl (by decide) (Nat.le_of_ble_eq_true rfl) (Nat.le_of_ble_eq_true rfl) (e1_B_isDigit X _ _ _) ?_
        refine zB_if_eq 68 i_Frame_isName_61 (by decide) (fun c_61 => ?_) (fun c_61 => ?_)
        · skip
          refine zr_iconst i_Frame_isName_68 (v := 0) (by decide) ?_
          exact zR.retE i_Frame_isName_69 rfl (by simp [zb, nameC, *])
        · skip
          refine zr_iconst i_Frame_isName_64 (v := 1) (by decide) ?_
          refine zr_goto 69 i_Frame_isName_65 (by decide) ?_
          exact zR.retE i_Frame_isName_69 rfl (by simp [zb, nameC, *])
    · skip
      refine zr_iload_n i_Frame_isName_43 rfl ?_
      refine zr_cs1 i_Frame_isName_44 rfl (by decide) (Nat.le_of_ble_eq_true rfl) (Nat.le_of_ble_eq_true rfl) (e1_B_isDigit X _ _ _) ?_
      refine zB_if_eq 68 i_Frame_isName_47 (by decide) (fun c_47 => ?_) (fun c_47 => ?_)
      · skip
        refine zr_iconst i_Frame_isName_68 (v := 0) (by decide) ?_
        exact zR.retE i_Frame_isName_69 rfl (by simp [zb, nameC, *])
      · skip
        refine zr_iload_n i_Frame_isName_50 rfl ?_
        refine zr_cs1 i_Frame_isName_51 rfl (by decide) (Nat.le_of_ble_eq_true rfl) (Nat.le_of_ble_eq_true rfl) (e1_B_isCapital X _ _ _) ?_
        refine zB_if_ne 64 i_Frame_isName_54 (by decide) (fun c_54 => ?_) (fun c_54 => ?_)
        · skip
          refine zr_iconst i_Frame_isName_64 (v := 1) (by decide) ?_
          refine zr_goto 69 i_Frame_isName_65 (by decide) ?_
          exact zR.retE i_Frame_isName_69 rfl (by simp [zb, nameC, *])
        · skip
          refine zr_iload_n i_Frame_isName_57 rfl ?_
          refine zr_cs1 i_Frame_isName_58 rfl (by decide) (Nat.le_of_ble_eq_true rfl) (Nat.le_of_ble_eq_true rfl) (e1_B_isDigit X _ _ _) ?_
          refine zB_if_eq 68 i_Frame_isName_61 (by decide) (fun c_61 => ?_) (fun c_61 => ?_)
          · skip
            refine zr_iconst i_Frame_isName_68 (v := 0) (by decide) ?_
            exact zR.retE i_Frame_isName_69 rfl (by simp [zb, nameC, *])
          · skip
            refine zr_iconst i_Frame_isName_64 (v := 1) (by decide) ?_
            refine zr_goto 69 i_Frame_isName_65 (by decide) ?_
            exact zR.retE i_Frame_isName_69 rfl (by simp [zb, nameC, *])
theorem i_Frame_escaped_0 : zins 44 0 = some (.aload_n 1) := by decide +kernel
theorem i_Frame_escaped_1 : zins 44 1 = some (.iconst 3) := by decide +kernel
theorem i_Frame_escaped_2 : zins 44 2 = some (.invokevirtual 87) := by decide +kernel
theorem i_Frame_escaped_5 : zins 44 5 = some (.istore_n 3) := by decide +kernel
theorem i_Frame_escaped_6 : zins 44 6 = some (.aload_n 0) := by decide +kernel
theorem i_Frame_escaped_7 : zins 44 7 = some (.getfield 14) := by decide +kernel
theorem i_Frame_escaped_10 : zins 44 10 = some (.iload_n 2) := by decide +kernel
theorem i_Frame_escaped_11 : zins 44 11 = some (.iconst 1) := by decide +kernel
theorem i_Frame_escaped_12 : zins 44 12 = some (.iadd) := by decide +kernel
theorem i_Frame_escaped_13 : zins 44 13 = some (.invokevirtual 35) := by decide +kernel
theorem i_Frame_escaped_16 : zins 44 16 = some (.istore 4) := by decide +kernel
theorem i_Frame_escaped_18 : zins 44 18 = some (.aload_n 0) := by decide +kernel
theorem i_Frame_escaped_19 : zins 44 19 = some (.getfield 14) := by decide +kernel
theorem i_Frame_escaped_22 : zins 44 22 = some (.iload_n 2) := by decide +kernel
theorem i_Frame_escaped_23 : zins 44 23 = some (.iconst 2) := by decide +kernel
theorem i_Frame_escaped_24 : zins 44 24 = some (.iadd) := by decide +kernel
theorem i_Frame_escaped_25 : zins 44 25 = some (.invokevirtual 35) := by decide +kernel
theorem i_Frame_escaped_28 : zins 44 28 = some (.iload_n 3) := by decide +kernel
theorem i_Frame_escaped_29 : zins 44 29 = some (.if_icmp .ne 16) := by decide +kernel
theorem i_Frame_escaped_32 : zins 44 32 = some (.aload_n 1) := by decide +kernel
theorem i_Frame_escaped_33 : zins 44 33 = some (.ldc 95) := by decide +kernel
theorem i_Frame_escaped_35 : zins 44 35 = some (.iload 4) := by decide +kernel
theorem i_Frame_escaped_37 : zins 44 37 = some (.i2c) := by decide +kernel
theorem i_Frame_escaped_38 : zins 44 38 = some (.invokevirtual 97) := by decide +kernel
theorem i_Frame_escaped_41 : zins 44 41 = some (.invokevirtual 87) := by decide +kernel
theorem i_Frame_escaped_44 : zins 44 44 = some (.ireturn) := by decide +kernel
theorem i_Frame_escaped_45 : zins 44 45 = some (.iload 4) := by decide +kernel
theorem i_Frame_escaped_47 : zins 44 47 = some (.bipush 88) := by decide +kernel
theorem i_Frame_escaped_49 : zins 44 49 = some (.if_icmp .ne 17) := by decide +kernel
theorem i_Frame_escaped_52 : zins 44 52 = some (.aload_n 0) := by decide +kernel
theorem i_Frame_escaped_53 : zins 44 53 = some (.getfield 14) := by decide +kernel
theorem i_Frame_escaped_56 : zins 44 56 = some (.iload_n 2) := by decide +kernel
theorem i_Frame_escaped_57 : zins 44 57 = some (.iconst 4) := by decide +kernel
theorem i_Frame_escaped_58 : zins 44 58 = some (.iadd) := by decide +kernel
theorem i_Frame_escaped_59 : zins 44 59 = some (.invokevirtual 35) := by decide +kernel
theorem i_Frame_escaped_62 : zins 44 62 = some (.iload_n 3) := by decide +kernel
theorem i_Frame_escaped_63 : zins 44 63 = some (.if_icmp .eq 5) := by decide +kernel
theorem i_Frame_escaped_66 : zins 44 66 = some (.iconst (-1)) := by decide +kernel
theorem i_Frame_escaped_67 : zins 44 67 = some (.ireturn) := by decide +kernel
theorem i_Frame_escaped_68 : zins 44 68 = some (.ldc 102) := by decide +kernel
theorem i_Frame_escaped_70 : zins 44 70 = some (.aload_n 0) := by decide +kernel
theorem i_Frame_escaped_71 : zins 44 71 = some (.getfield 14) := by decide +kernel
theorem i_Frame_escaped_74 : zins 44 74 = some (.iload_n 2) := by decide +kernel
theorem i_Frame_escaped_75 : zins 44 75 = some (.iconst 2) := by decide +kernel
theorem i_Frame_escaped_76 : zins 44 76 = some (.iadd) := by decide +kernel
theorem i_Frame_escaped_77 : zins 44 77 = some (.invokevirtual 35) := by decide +kernel
theorem i_Frame_escaped_80 : zins 44 80 = some (.i2c) := by decide +kernel
theorem i_Frame_escaped_81 : zins 44 81 = some (.invokevirtual 97) := by decide +kernel
theorem i_Frame_escaped_84 : zins 44 84 = some (.istore 5) := by decide +kernel
theorem i_Frame_escaped_86 : zins 44 86 = some (.ldc 102) := by decide +kernel
theorem i_Frame_escaped_88 : zins 44 88 = some (.aload_n 0) := by decide +kernel
theorem i_Frame_escaped_89 : zins 44 89 = some (.getfield 14) := by decide +kernel
theorem i_Frame_escaped_92 : zins 44 92 = some (.iload_n 2) := by decide +kernel
theorem i_Frame_escaped_93 : zins 44 93 = some (.iconst 3) := by decide +kernel
theorem i_Frame_escaped_94 : zins 44 94 = some (.iadd) := by decide +kernel
theorem i_Frame_escaped_95 : zins 44 95 = some (.invokevirtual 35) := by decide +kernel
theorem i_Frame_escaped_98 : zins 44 98 = some (.i2c) := by decide +kernel
theorem i_Frame_escaped_99 : zins 44 99 = some (.invokevirtual 97) := by decide +kernel
theorem i_Frame_escaped_102 : zins 44 102 = some (.istore 6) := by decide +kernel
theorem i_Frame_escaped_104 : zins 44 104 = some (.bipush 16) := by decide +kernel
theorem i_Frame_escaped_106 : zins 44 106 = some (.iload 5) := by decide +kernel
theorem i_Frame_escaped_108 : zins 44 108 = some (.imul) := by decide +kernel
theorem i_Frame_escaped_109 : zins 44 109 = some (.iload 6) := by decide +kernel
theorem i_Frame_escaped_111 : zins 44 111 = some (.iadd) := by decide +kernel
theorem i_Frame_escaped_112 : zins 44 112 = some (.istore 7) := by decide +kernel
theorem i_Frame_escaped_114 : zins 44 114 = some (.iload 5) := by decide +kernel
theorem i_Frame_escaped_116 : zins 44 116 = some (.ifCond .lt 25) := by decide +kernel
theorem i_Frame_escaped_119 : zins 44 119 = some (.iload 6) := by decide +kernel
theorem i_Frame_escaped_121 : zins 44 121 = some (.ifCond .lt 20) := by decide +kernel
theorem i_Frame_escaped_124 : zins 44 124 = some (.iload 7) := by decide +kernel
theorem i_Frame_escaped_126 : zins 44 126 = some (.bipush 32) := by decide +kernel
theorem i_Frame_escaped_128 : zins 44 128 = some (.bipush 126) := by decide +kernel
theorem i_Frame_escaped_130 : zins 44 130 = some (.invokestatic 104) := by decide +kernel
theorem i_Frame_escaped_133 : zins 44 133 = some (.ifCond .eq 8) := by decide +kernel
theorem i_Frame_escaped_136 : zins 44 136 = some (.iload 7) := by decide +kernel
theorem i_Frame_escaped_138 : zins 44 138 = some (.goto 4) := by decide +kernel
theorem i_Frame_escaped_141 : zins 44 141 = some (.iconst (-1)) := by decide +kernel
theorem i_Frame_escaped_142 : zins 44 142 = some (.ireturn) := by decide +kernel
theorem e_Frame_escaped (X : zX) (d : Nat) (h : zH) (n : Nat) (F : Nat → Int32) (hF : isF h n F) (hn : n ≤ 200) (hz : zlow h) (b : Nat) (S : Nat → Int32) (hS : isSp h b S) (a : Nat) (ha : a ≤ 300) : zR X (d + 6) 44 0 (zent 8 [.ref 101, .ref b, .int (nI a)]) [] h (some (.int (escC F n S a)), h) := by
  have hs3 : zR X (d + 5) 70 0 (zent 2 [.ref b, .int 3]) [] h (some (.int (S 3)), h) := by
    rw [show S 3 = getF S 5 3 from (getF_in (j := 3) (by decide) (by decide)).symm]
    exact e_Seps_at X _ h b S hS 3
  unfold escC
  by_cases h1 : clF F n (a + 2) = S 3
  · rw [if_pos h1]
    refine zr_aload_n i_Frame_escaped_0 rfl ?_
    refine zr_iconst i_Frame_escaped_1 (v := 3) (by decide) ?_
    refine zr_cv1 i_Frame_escaped_2 rfl (by decide) (zrcv_of hS.1) (Nat.le_of_ble_eq_true rfl) (Nat.le_of_ble_eq_true rfl) (hs3) ?_
    refine zr_istore_n i_Frame_escaped_5 rfl ?_
    refine zr_aload_n i_Frame_escaped_6 rfl ?_
    refine zr_getf i_Frame_escaped_7 hF.1 rfl rfl ?_
    refine zr_iload_n i_Frame_escaped_10 rfl ?_
    refine zn_iconst 1 i_Frame_escaped_11 (by decide) ?_
    refine zn_iadd i_Frame_escaped_12 ?_
    refine zr_cv1 i_Frame_escaped_13 rfl (by decide) (zrcv_of hF.2.1) (Nat.le_of_ble_eq_true rfl) (Nat.le_of_ble_eq_true rfl) (e2_Chars_at X _ h n F hF hn (a + 1) (by omega)) ?_
    refine zr_istore i_Frame_escaped_16 rfl ?_
    refine zr_aload_n i_Frame_escaped_18 rfl ?_
    refine zr_getf i_Frame_escaped_19 hF.1 rfl rfl ?_
    refine zr_iload_n i_Frame_escaped_22 rfl ?_
    refine zn_iconst 2 i_Frame_escaped_23 (by decide) ?_
    refine zn_iadd i_Frame_escaped_24 ?_
    refine zr_cv1 i_Frame_escaped_25 rfl (by decide) (zrcv_of hF.2.1) (Nat.le_of_ble_eq_true rfl) (Nat.le_of_ble_eq_true rfl) (e2_Chars_at X _ h n F hF hn (a + 2) (by omega)) ?_
    refine zr_iload_n i_Frame_escaped_28 rfl ?_
    refine zr_icmp_ne 45 i_Frame_escaped_29 (by decide) (fun q => absurd h1 q) (fun c_29 => ?_)
    refine zr_aload_n i_Frame_escaped_32 rfl ?_
    refine zr_ldc i_Frame_escaped_33 rfl ?_
    refine zr_iload i_Frame_escaped_35 rfl ?_
    refine zr_i2c i_Frame_escaped_37 ?_
    refine zr_cv1 i_Frame_escaped_38 rfl (by decide) (zrcv_s hz ⟨by decide, by decide⟩) (Nat.le_of_ble_eq_true rfl) (Nat.le_of_ble_eq_true rfl) (e_Str_indexOf X _ h hz 2 ⟨by decide, by decide⟩ (i2cF (clF F n (a + 1))) (i2c_rng _)) ?_
    refine zr_cv1 i_Frame_escaped_41 rfl (by decide) (zrcv_of hS.1) (Nat.le_of_ble_eq_true rfl) (Nat.le_of_ble_eq_true rfl) (e_Seps_at X _ h b S hS _) ?_
    exact zR.retE i_Frame_escaped_44 rfl rfl
  · rw [if_neg h1]
    by_cases h2 : clF F n (a + 1) = 88
    · by_cases h3 : clF F n (a + 4) = S 3
      · rw [if_pos ⟨h2, h3⟩]
        by_cases hA : hxF F n (a + 2) < 0
        · rw [if_neg (fun z => z.1 hA)]
          refine zr_aload_n i_Frame_escaped_0 rfl ?_
          refine zr_iconst i_Frame_escaped_1 (v := 3) (by decide) ?_
          refine zr_cv1 i_Frame_escaped_2 rfl (by decide) (zrcv_of hS.1) (Nat.le_of_ble_eq_true rfl) (Nat.le_of_ble_eq_true rfl) (hs3) ?_
          refine zr_istore_n i_Frame_escaped_5 rfl ?_
          refine zr_aload_n i_Frame_escaped_6 rfl ?_
          refine zr_getf i_Frame_escaped_7 hF.1 rfl rfl ?_
          refine zr_iload_n i_Frame_escaped_10 rfl ?_
          refine zn_iconst 1 i_Frame_escaped_11 (by decide) ?_
          refine zn_iadd i_Frame_escaped_12 ?_
          refine zr_cv1 i_Frame_escaped_13 rfl (by decide) (zrcv_of hF.2.1) (Nat.le_of_ble_eq_true rfl) (Nat.le_of_ble_eq_true rfl) (e2_Chars_at X _ h n F hF hn (a + 1) (by omega)) ?_
          refine zr_istore i_Frame_escaped_16 rfl ?_
          refine zr_aload_n i_Frame_escaped_18 rfl ?_
          refine zr_getf i_Frame_escaped_19 hF.1 rfl rfl ?_
          refine zr_iload_n i_Frame_escaped_22 rfl ?_
          refine zn_iconst 2 i_Frame_escaped_23 (by decide) ?_
          refine zn_iadd i_Frame_escaped_24 ?_
          refine zr_cv1 i_Frame_escaped_25 rfl (by decide) (zrcv_of hF.2.1) (Nat.le_of_ble_eq_true rfl) (Nat.le_of_ble_eq_true rfl) (e2_Chars_at X _ h n F hF hn (a + 2) (by omega)) ?_
          refine zr_iload_n i_Frame_escaped_28 rfl ?_
          refine zr_icmp_ne 45 i_Frame_escaped_29 (by decide) (fun c_29 => ?_) (fun q => absurd q h1)
          refine zr_iload i_Frame_escaped_45 rfl ?_
          refine zr_bipush i_Frame_escaped_47 (v := 88) (by decide) ?_
          refine zr_icmp_ne 66 i_Frame_escaped_49 (by decide) (fun q => absurd h2 q) (fun c_49 => ?_)
          refine zr_aload_n i_Frame_escaped_52 rfl ?_
          refine zr_getf i_Frame_escaped_53 hF.1 rfl rfl ?_
          refine zr_iload_n i_Frame_escaped_56 rfl ?_
          refine zn_iconst 4 i_Frame_escaped_57 (by decide) ?_
          refine zn_iadd i_Frame_escaped_58 ?_
          refine zr_cv1 i_Frame_escaped_59 rfl (by decide) (zrcv_of hF.2.1) (Nat.le_of_ble_eq_true rfl) (Nat.le_of_ble_eq_true rfl) (e2_Chars_at X _ h n F hF hn (a + 4) (by omega)) ?_
          refine zr_iload_n i_Frame_escaped_62 rfl ?_
          refine zr_icmp_eq 68 i_Frame_escaped_63 (by decide) (fun c_63 => ?_) (fun q => absurd h3 q)
          refine zr_ldc i_Frame_escaped_68 rfl ?_
          refine zr_aload_n i_Frame_escaped_70 rfl ?_
          refine zr_getf i_Frame_escaped_71 hF.1 rfl rfl ?_
          refine zr_iload_n i_Frame_escaped_74 rfl ?_
          refine zn_iconst 2 i_Frame_escaped_75 (by decide) ?_
          refine zn_iadd i_Frame_escaped_76 ?_
          refine zr_cv1 i_Frame_escaped_77 rfl (by decide) (zrcv_of hF.2.1) (Nat.le_of_ble_eq_true rfl) (Nat.le_of_ble_eq_true rfl) (e2_Chars_at X _ h n F hF hn (a + 2) (by omega)) ?_
          refine zr_i2c i_Frame_escaped_80 ?_
          refine zr_cv1 i_Frame_escaped_81 rfl (by decide) (zrcv_s hz ⟨by decide, by decide⟩) (Nat.le_of_ble_eq_true rfl) (Nat.le_of_ble_eq_true rfl) (e_Str_indexOf X _ h hz 3 ⟨by decide, by decide⟩ (i2cF (clF F n (a + 2))) (i2c_rng _)) ?_
          refine zr_istore i_Frame_escaped_84 rfl ?_
          refine zr_ldc i_Frame_escaped_86 rfl ?_
          refine zr_aload_n i_Frame_escaped_88 rfl ?_
          refine zr_getf i_Frame_escaped_89 hF.1 rfl rfl ?_
          refine zr_iload_n i_Frame_escaped_92 rfl ?_
          refine zn_iconst 3 i_Frame_escaped_93 (by decide) ?_
          refine zn_iadd i_Frame_escaped_94 ?_
          refine zr_cv1 i_Frame_escaped_95 rfl (by decide) (zrcv_of hF.2.1) (Nat.le_of_ble_eq_true rfl) (Nat.le_of_ble_eq_true rfl) (e2_Chars_at X _ h n F hF hn (a + 3) (by omega)) ?_
          refine zr_i2c i_Frame_escaped_98 ?_
          refine zr_cv1 i_Frame_escaped_99 rfl (by decide) (zrcv_s hz ⟨by decide, by decide⟩) (Nat.le_of_ble_eq_true rfl) (Nat.le_of_ble_eq_true rfl) (e_Str_indexOf X _ h hz 3 ⟨by decide, by decide⟩ (i2cF (clF F n (a + 3))) (i2c_rng _)) ?_
          refine zr_istore i_Frame_escaped_102 rfl ?_
          refine zr_bipush i_Frame_escaped_104 (v := 16) (by decide) ?_
          refine zr_iload i_Frame_escaped_106 rfl ?_
          refine zr_imul i_Frame_escaped_108 ?_
          refine zr_iload i_Frame_escaped_109 rfl ?_
          refine zr_iadd i_Frame_escaped_111 ?_
          refine zr_istore i_Frame_escaped_112 rfl ?_
          refine zr_iload i_Frame_escaped_114 rfl ?_
          refine zr_if_lt 141 i_Frame_escaped_116 (by decide) (fun _ => ?_) (fun q => absurd hA q)
          refine zr_iconst i_Frame_escaped_141 (v := (-1)) (by decide) ?_
          exact zR.retE i_Frame_escaped_142 rfl rfl
        · by_cases hB : hxF F n (a + 3) < 0
          · rw [if_neg (fun z => z.2.1 hB)]
            refine zr_aload_n i_Frame_escaped_0 rfl ?_
            refine zr_iconst i_Frame_escaped_1 (v := 3) (by decide) ?_
            refine zr_cv1 i_Frame_escaped_2 rfl (by decide) (zrcv_of hS.1) (Nat.le_of_ble_eq_true rfl) (Nat.le_of_ble_eq_true rfl) (hs3) ?_
            refine zr_istore_n i_Frame_escaped_5 rfl ?_
            refine zr_aload_n i_Frame_escaped_6 rfl ?_
            refine zr_getf i_Frame_escaped_7 hF.1 rfl rfl ?_
            refine zr_iload_n i_Frame_escaped_10 rfl ?_
            refine zn_iconst 1 i_Frame_escaped_11 (by decide) ?_
            refine zn_iadd i_Frame_escaped_12 ?_
            refine zr_cv1 i_Frame_escaped_13 rfl (by decide) (zrcv_of hF.2.1) (Nat.le_of_ble_eq_true rfl) (Nat.le_of_ble_eq_true rfl) (e2_Chars_at X _ h n F hF hn (a + 1) (by omega)) ?_
            refine zr_istore i_Frame_escaped_16 rfl ?_
            refine zr_aload_n i_Frame_escaped_18 rfl ?_
            refine zr_getf i_Frame_escaped_19 hF.1 rfl rfl ?_
            refine zr_iload_n i_Frame_escaped_22 rfl ?_
            refine zn_iconst 2 i_Frame_escaped_23 (by decide) ?_
            refine zn_iadd i_Frame_escaped_24 ?_
            refine zr_cv1 i_Frame_escaped_25 rfl (by decide) (zrcv_of hF.2.1) (Nat.le_of_ble_eq_true rfl) (Nat.le_of_ble_eq_true rfl) (e2_Chars_at X _ h n F hF hn (a + 2) (by omega)) ?_
            refine zr_iload_n i_Frame_escaped_28 rfl ?_
            refine zr_icmp_ne 45 i_Frame_escaped_29 (by decide) (fun c_29 => ?_) (fun q => absurd q h1)
            refine zr_iload i_Frame_escaped_45 rfl ?_
            refine zr_bipush i_Frame_escaped_47 (v := 88) (by decide) ?_
            refine zr_icmp_ne 66 i_Frame_escaped_49 (by decide) (fun q => absurd h2 q) (fun c_49 => ?_)
            refine zr_aload_n i_Frame_escaped_52 rfl ?_
            refine zr_getf i_Frame_escaped_53 hF.1 rfl rfl ?_
            refine zr_iload_n i_Frame_escaped_56 rfl ?_
            refine zn_iconst 4 i_Frame_escaped_57 (by decide) ?_
            refine zn_iadd i_Frame_escaped_58 ?_
            refine zr_cv1 i_Frame_escaped_59 rfl (by decide) (zrcv_of hF.2.1) (Nat.le_of_ble_eq_true rfl) (Nat.le_of_ble_eq_true rfl) (e2_Chars_at X _ h n F hF hn (a + 4) (by omega)) ?_
            refine zr_iload_n i_Frame_escaped_62 rfl ?_
            refine zr_icmp_eq 68 i_Frame_escaped_63 (by decide) (fun c_63 => ?_) (fun q => absurd h3 q)
            refine zr_ldc i_Frame_escaped_68 rfl ?_
            refine zr_aload_n i_Frame_escaped_70 rfl ?_
            refine zr_getf i_Frame_escaped_71 hF.1 rfl rfl ?_
            refine zr_iload_n i_Frame_escaped_74 rfl ?_
            refine zn_iconst 2 i_Frame_escaped_75 (by decide) ?_
            refine zn_iadd i_Frame_escaped_76 ?_
            refine zr_cv1 i_Frame_escaped_77 rfl (by decide) (zrcv_of hF.2.1) (Nat.le_of_ble_eq_true rfl) (Nat.le_of_ble_eq_true rfl) (e2_Chars_at X _ h n F hF hn (a + 2) (by omega)) ?_
            refine zr_i2c i_Frame_escaped_80 ?_
            refine zr_cv1 i_Frame_escaped_81 rfl (by decide) (zrcv_s hz ⟨by decide, by decide⟩) (Nat.le_of_ble_eq_true rfl) (Nat.le_of_ble_eq_true rfl) (e_Str_indexOf X _ h hz 3 ⟨by decide, by decide⟩ (i2cF (clF F n (a + 2))) (i2c_rng _)) ?_
            refine zr_istore i_Frame_escaped_84 rfl ?_
            refine zr_ldc i_Frame_escaped_86 rfl ?_
            refine zr_aload_n i_Frame_escaped_88 rfl ?_
            refine zr_getf i_Frame_escaped_89 hF.1 rfl rfl ?_
            refine zr_iload_n i_Frame_escaped_92 rfl ?_
            refine zn_iconst 3 i_Frame_escaped_93 (by decide) ?_
            refine zn_iadd i_Frame_escaped_94 ?_
            refine zr_cv1 i_Frame_escaped_95 rfl (by decide) (zrcv_of hF.2.1) (Nat.le_of_ble_eq_true rfl) (Nat.le_of_ble_eq_true rfl) (e2_Chars_at X _ h n F hF hn (a + 3) (by omega)) ?_
            refine zr_i2c i_Frame_escaped_98 ?_
            refine zr_cv1 i_Frame_escaped_99 rfl (by decide) (zrcv_s hz ⟨by decide, by decide⟩) (Nat.le_of_ble_eq_true rfl) (Nat.le_of_ble_eq_true rfl) (e_Str_indexOf X _ h hz 3 ⟨by decide, by decide⟩ (i2cF (clF F n (a + 3))) (i2c_rng _)) ?_
            refine zr_istore i_Frame_escaped_102 rfl ?_
            refine zr_bipush i_Frame_escaped_104 (v := 16) (by decide) ?_
            refine zr_iload i_Frame_escaped_106 rfl ?_
            refine zr_imul i_Frame_escaped_108 ?_
            refine zr_iload i_Frame_escaped_109 rfl ?_
            refine zr_iadd i_Frame_escaped_111 ?_
            refine zr_istore i_Frame_escaped_112 rfl ?_
            refine zr_iload i_Frame_escaped_114 rfl ?_
            refine zr_if_lt 141 i_Frame_escaped_116 (by decide) (fun q => absurd q hA) (fun _ => ?_)
            refine zr_iload i_Frame_escaped_119 rfl ?_
            refine zr_if_lt 141 i_Frame_escaped_121 (by decide) (fun _ => ?_) (fun q => absurd hB q)
            refine zr_iconst i_Frame_escaped_141 (v := (-1)) (by decide) ?_
            exact zR.retE i_Frame_escaped_142 rfl rfl
          · cases hC : zbtw (16 * hxF F n (a + 2) + hxF F n (a + 3)) 32 126 with
            | false =>
              rw [if_neg (fun z => absurd z.2.2 (by decide))]
              refine zr_aload_n i_Frame_escaped_0 rfl ?_
              refine zr_iconst i_Frame_escaped_1 (v := 3) (by decide) ?_
              refine zr_cv1 i_Frame_escaped_2 rfl (by decide) (zrcv_of hS.1) (Nat.le_of_ble_eq_true rfl) (Nat.le_of_ble_eq_true rfl) (hs3) ?_
              refine zr_istore_n i_Frame_escaped_5 rfl ?_
              refine zr_aload_n i_Frame_escaped_6 rfl ?_
              refine zr_getf i_Frame_escaped_7 hF.1 rfl rfl ?_
              refine zr_iload_n i_Frame_escaped_10 rfl ?_
              refine zn_iconst 1 i_Frame_escaped_11 (by decide) ?_
              refine zn_iadd i_Frame_escaped_12 ?_
              refine zr_cv1 i_Frame_escaped_13 rfl (by decide) (zrcv_of hF.2.1) (Nat.le_of_ble_eq_true rfl) (Nat.le_of_ble_eq_true rfl) (e2_Chars_at X _ h n F hF hn (a + 1) (by omega)) ?_
              refine zr_istore i_Frame_escaped_16 rfl ?_
              refine zr_aload_n i_Frame_escaped_18 rfl ?_
              refine zr_getf i_Frame_escaped_19 hF.1 rfl rfl ?_
              refine zr_iload_n i_Frame_escaped_22 rfl ?_
              refine zn_iconst 2 i_Frame_escaped_23 (by decide) ?_
              refine zn_iadd i_Frame_escaped_24 ?_
              refine zr_cv1 i_Frame_escaped_25 rfl (by decide) (zrcv_of hF.2.1) (Nat.le_of_ble_eq_true rfl) (Nat.le_of_ble_eq_true rfl) (e2_Chars_at X _ h n F hF hn (a + 2) (by omega)) ?_
              refine zr_iload_n i_Frame_escaped_28 rfl ?_
              refine zr_icmp_ne 45 i_Frame_escaped_29 (by decide) (fun c_29 => ?_) (fun q => absurd q h1)
              refine zr_iload i_Frame_escaped_45 rfl ?_
              refine zr_bipush i_Frame_escaped_47 (v := 88) (by decide) ?_
              refine zr_icmp_ne 66 i_Frame_escaped_49 (by decide) (fun q => absurd h2 q) (fun c_49 => ?_)
              refine zr_aload_n i_Frame_escaped_52 rfl ?_
              refine zr_getf i_Frame_escaped_53 hF.1 rfl rfl ?_
              refine zr_iload_n i_Frame_escaped_56 rfl ?_
              refine zn_iconst 4 i_Frame_escaped_57 (by decide) ?_
              refine zn_iadd i_Frame_escaped_58 ?_
              refine zr_cv1 i_Frame_escaped_59 rfl (by decide) (zrcv_of hF.2.1) (Nat.le_of_ble_eq_true rfl) (Nat.le_of_ble_eq_true rfl) (e2_Chars_at X _ h n F hF hn (a + 4) (by omega)) ?_
              refine zr_iload_n i_Frame_escaped_62 rfl ?_
              refine zr_icmp_eq 68 i_Frame_escaped_63 (by decide) (fun c_63 => ?_) (fun q => absurd h3 q)
              refine zr_ldc i_Frame_escaped_68 rfl ?_
              refine zr_aload_n i_Frame_escaped_70 rfl ?_
              refine zr_getf i_Frame_escaped_71 hF.1 rfl rfl ?_
              refine zr_iload_n i_Frame_escaped_74 rfl ?_
              refine zn_iconst 2 i_Frame_escaped_75 (by decide) ?_
              refine zn_iadd i_Frame_escaped_76 ?_
              refine zr_cv1 i_Frame_escaped_77 rfl (by decide) (zrcv_of hF.2.1) (Nat.le_of_ble_eq_true rfl) (Nat.le_of_ble_eq_true rfl) (e2_Chars_at X _ h n F hF hn (a + 2) (by omega)) ?_
              refine zr_i2c i_Frame_escaped_80 ?_
              refine zr_cv1 i_Frame_escaped_81 rfl (by decide) (zrcv_s hz ⟨by decide, by decide⟩) (Nat.le_of_ble_eq_true rfl) (Nat.le_of_ble_eq_true rfl) (e_Str_indexOf X _ h hz 3 ⟨by decide, by decide⟩ (i2cF (clF F n (a + 2))) (i2c_rng _)) ?_
              refine zr_istore i_Frame_escaped_84 rfl ?_
              refine zr_ldc i_Frame_escaped_86 rfl ?_
              refine zr_aload_n i_Frame_escaped_88 rfl ?_
              refine zr_getf i_Frame_escaped_89 hF.1 rfl rfl ?_
              refine zr_iload_n i_Frame_escaped_92 rfl ?_
              refine zn_iconst 3 i_Frame_escaped_93 (by decide) ?_
              refine zn_iadd i_Frame_escaped_94 ?_
              refine zr_cv1 i_Frame_escaped_95 rfl (by decide) (zrcv_of hF.2.1) (Nat.le_of_ble_eq_true rfl) (Nat.le_of_ble_eq_true rfl) (e2_Chars_at X _ h n F hF hn (a + 3) (by omega)) ?_
              refine zr_i2c i_Frame_escaped_98 ?_
              refine zr_cv1 i_Frame_escaped_99 rfl (by decide) (zrcv_s hz ⟨by decide, by decide⟩) (Nat.le_of_ble_eq_true rfl) (Nat.le_of_ble_eq_true rfl) (e_Str_indexOf X _ h hz 3 ⟨by decide, by decide⟩ (i2cF (clF F n (a + 3))) (i2c_rng _)) ?_
              refine zr_istore i_Frame_escaped_102 rfl ?_
              refine zr_bipush i_Frame_escaped_104 (v := 16) (by decide) ?_
              refine zr_iload i_Frame_escaped_106 rfl ?_
              refine zr_imul i_Frame_escaped_108 ?_
              refine zr_iload i_Frame_escaped_109 rfl ?_
              refine zr_iadd i_Frame_escaped_111 ?_
              refine zr_istore i_Frame_escaped_112 rfl ?_
              refine zr_iload i_Frame_escaped_114 rfl ?_
              refine zr_if_lt 141 i_Frame_escaped_116 (by decide) (fun q => absurd q hA) (fun _ => ?_)
              refine zr_iload i_Frame_escaped_119 rfl ?_
              refine zr_if_lt 141 i_Frame_escaped_121 (by decide) (fun q => absurd q hB) (fun _ => ?_)
              refine zr_iload i_Frame_escaped_124 rfl ?_
              refine zr_bipush i_Frame_escaped_126 (v := 32) (by decide) ?_
              refine zr_bipush i_Frame_escaped_128 (v := 126) (by decide) ?_
              refine zr_cs3 i_Frame_escaped_130 rfl (by decide) (Nat.le_of_ble_eq_true rfl) (Nat.le_of_ble_eq_true rfl) (e_B_isBetween X _ _ _ _ _) ?_
              refine zB_if_eq 141 i_Frame_escaped_133 (by decide) (fun _ => ?_) (fun q => absurd q (fun z => absurd (hC.symm.trans z) (by decide)))
              refine zr_iconst i_Frame_escaped_141 (v := (-1)) (by decide) ?_
              exact zR.retE i_Frame_escaped_142 rfl rfl
            | true =>
              rw [if_pos ⟨hA, hB, rfl⟩]
              refine zr_aload_n i_Frame_escaped_0 rfl ?_
              refine zr_iconst i_Frame_escaped_1 (v := 3) (by decide) ?_
              refine zr_cv1 i_Frame_escaped_2 rfl (by decide) (zrcv_of hS.1) (Nat.le_of_ble_eq_true rfl) (Nat.le_of_ble_eq_true rfl) (hs3) ?_
              refine zr_istore_n i_Frame_escaped_5 rfl ?_
              refine zr_aload_n i_Frame_escaped_6 rfl ?_
              refine zr_getf i_Frame_escaped_7 hF.1 rfl rfl ?_
              refine zr_iload_n i_Frame_escaped_10 rfl ?_
              refine zn_iconst 1 i_Frame_escaped_11 (by decide) ?_
              refine zn_iadd i_Frame_escaped_12 ?_
              refine zr_cv1 i_Frame_escaped_13 rfl (by decide) (zrcv_of hF.2.1) (Nat.le_of_ble_eq_true rfl) (Nat.le_of_ble_eq_true rfl) (e2_Chars_at X _ h n F hF hn (a + 1) (by omega)) ?_
              refine zr_istore i_Frame_escaped_16 rfl ?_
              refine zr_aload_n i_Frame_escaped_18 rfl ?_
              refine zr_getf i_Frame_escaped_19 hF.1 rfl rfl ?_
              refine zr_iload_n i_Frame_escaped_22 rfl ?_
              refine zn_iconst 2 i_Frame_escaped_23 (by decide) ?_
              refine zn_iadd i_Frame_escaped_24 ?_
              refine zr_cv1 i_Frame_escaped_25 rfl (by decide) (zrcv_of hF.2.1) (Nat.le_of_ble_eq_true rfl) (Nat.le_of_ble_eq_true rfl) (e2_Chars_at X _ h n F hF hn (a + 2) (by omega)) ?_
              refine zr_iload_n i_Frame_escaped_28 rfl ?_
              refine zr_icmp_ne 45 i_Frame_escaped_29 (by decide) (fun c_29 => ?_) (fun q => absurd q h1)
              refine zr_iload i_Frame_escaped_45 rfl ?_
              refine zr_bipush i_Frame_escaped_47 (v := 88) (by decide) ?_
              refine zr_icmp_ne 66 i_Frame_escaped_49 (by decide) (fun q => absurd h2 q) (fun c_49 => ?_)
              refine zr_aload_n i_Frame_escaped_52 rfl ?_
              refine zr_getf i_Frame_escaped_53 hF.1 rfl rfl ?_
              refine zr_iload_n i_Frame_escaped_56 rfl ?_
              refine zn_iconst 4 i_Frame_escaped_57 (by decide) ?_
              refine zn_iadd i_Frame_escaped_58 ?_
              refine zr_cv1 i_Frame_escaped_59 rfl (by decide) (zrcv_of hF.2.1) (Nat.le_of_ble_eq_true rfl) (Nat.le_of_ble_eq_true rfl) (e2_Chars_at X _ h n F hF hn (a + 4) (by omega)) ?_
              refine zr_iload_n i_Frame_escaped_62 rfl ?_
              refine zr_icmp_eq 68 i_Frame_escaped_63 (by decide) (fun c_63 => ?_) (fun q => absurd h3 q)
              refine zr_ldc i_Frame_escaped_68 rfl ?_
              refine zr_aload_n i_Frame_escaped_70 rfl ?_
              refine zr_getf i_Frame_escaped_71 hF.1 rfl rfl ?_
              refine zr_iload_n i_Frame_escaped_74 rfl ?_
              refine zn_iconst 2 i_Frame_escaped_75 (by decide) ?_
              refine zn_iadd i_Frame_escaped_76 ?_
              refine zr_cv1 i_Frame_escaped_77 rfl (by decide) (zrcv_of hF.2.1) (Nat.le_of_ble_eq_true rfl) (Nat.le_of_ble_eq_true rfl) (e2_Chars_at X _ h n F hF hn (a + 2) (by omega)) ?_
              refine zr_i2c i_Frame_escaped_80 ?_
              refine zr_cv1 i_Frame_escaped_81 rfl (by decide) (zrcv_s hz ⟨by decide, by decide⟩) (Nat.le_of_ble_eq_true rfl) (Nat.le_of_ble_eq_true rfl) (e_Str_indexOf X _ h hz 3 ⟨by decide, by decide⟩ (i2cF (clF F n (a + 2))) (i2c_rng _)) ?_
              refine zr_istore i_Frame_escaped_84 rfl ?_
              refine zr_ldc i_Frame_escaped_86 rfl ?_
              refine zr_aload_n i_Frame_escaped_88 rfl ?_
              refine zr_getf i_Frame_escaped_89 hF.1 rfl rfl ?_
              refine zr_iload_n i_Frame_escaped_92 rfl ?_
              refine zn_iconst 3 i_Frame_escaped_93 (by decide) ?_
              refine zn_iadd i_Frame_escaped_94 ?_
              refine zr_cv1 i_Frame_escaped_95 rfl (by decide) (zrcv_of hF.2.1) (Nat.le_of_ble_eq_true rfl) (Nat.le_of_ble_eq_true rfl) (e2_Chars_at X _ h n F hF hn (a + 3) (by omega)) ?_
              refine zr_i2c i_Frame_escaped_98 ?_
              refine zr_cv1 i_Frame_escaped_99 rfl (by decide) (zrcv_s hz ⟨by decide, by decide⟩) (Nat.le_of_ble_eq_true rfl) (Nat.le_of_ble_eq_true rfl) (e_Str_indexOf X _ h hz 3 ⟨by decide, by decide⟩ (i2cF (clF F n (a + 3))) (i2c_rng _)) ?_
              refine zr_istore i_Frame_escaped_102 rfl ?_
              refine zr_bipush i_Frame_escaped_104 (v := 16) (by decide) ?_
              refine zr_iload i_Frame_escaped_106 rfl ?_
              refine zr_imul i_Frame_escaped_108 ?_
              refine zr_iload i_Frame_escaped_109 rfl ?_
              refine zr_iadd i_Frame_escaped_111 ?_
              refine zr_istore i_Frame_escaped_112 rfl ?_
              refine zr_iload i_Frame_escaped_114 rfl ?_
              refine zr_if_lt 141 i_Frame_escaped_116 (by decide) (fun q => absurd q hA) (fun _ => ?_)
              refine zr_iload i_Frame_escaped_119 rfl ?_
              refine zr_if_lt 141 i_Frame_escaped_121 (by decide) (fun q => absurd q hB) (fun _ => ?_)
              refine zr_iload i_Frame_escaped_124 rfl ?_
              refine zr_bipush i_Frame_escaped_126 (v := 32) (by decide) ?_
              refine zr_bipush i_Frame_escaped_128 (v := 126) (by decide) ?_
              refine zr_cs3 i_Frame_escaped_130 rfl (by decide) (Nat.le_of_ble_eq_true rfl) (Nat.le_of_ble_eq_true rfl) (e_B_isBetween X _ _ _ _ _) ?_
              refine zB_if_eq 141 i_Frame_escaped_133 (by decide) (fun q => absurd q (fun z => absurd (hC.symm.trans z) (by decide))) (fun _ => ?_)
              refine zr_iload i_Frame_escaped_136 rfl ?_
              refine zr_goto 142 i_Frame_escaped_138 (by decide) ?_
              exact zR.retE i_Frame_escaped_142 rfl rfl
      · rw [if_neg (fun z => h3 z.2)]
        refine zr_aload_n i_Frame_escaped_0 rfl ?_
        refine zr_iconst i_Frame_escaped_1 (v := 3) (by decide) ?_
        refine zr_cv1 i_Frame_escaped_2 rfl (by decide) (zrcv_of hS.1) (Nat.le_of_ble_eq_true rfl) (Nat.le_of_ble_eq_true rfl) (hs3) ?_
        refine zr_istore_n i_Frame_escaped_5 rfl ?_
        refine zr_aload_n i_Frame_escaped_6 rfl ?_
        refine zr_getf i_Frame_escaped_7 hF.1 rfl rfl ?_
        refine zr_iload_n i_Frame_escaped_10 rfl ?_
        refine zn_iconst 1 i_Frame_escaped_11 (by decide) ?_
        refine zn_iadd i_Frame_escaped_12 ?_
        refine zr_cv1 i_Frame_escaped_13 rfl (by decide) (zrcv_of hF.2.1) (Nat.le_of_ble_eq_true rfl) (Nat.le_of_ble_eq_true rfl) (e2_Chars_at X _ h n F hF hn (a + 1) (by omega)) ?_
        refine zr_istore i_Frame_escaped_16 rfl ?_
        refine zr_aload_n i_Frame_escaped_18 rfl ?_
        refine zr_getf i_Frame_escaped_19 hF.1 rfl rfl ?_
        refine zr_iload_n i_Frame_escaped_22 rfl ?_
        refine zn_iconst 2 i_Frame_escaped_23 (by decide) ?_
        refine zn_iadd i_Frame_escaped_24 ?_
        refine zr_cv1 i_Frame_escaped_25 rfl (by decide) (zrcv_of hF.2.1) (Nat.le_of_ble_eq_true rfl) (Nat.le_of_ble_eq_true rfl) (e2_Chars_at X _ h n F hF hn (a + 2) (by omega)) ?_
        refine zr_iload_n i_Frame_escaped_28 rfl ?_
        refine zr_icmp_ne 45 i_Frame_escaped_29 (by decide) (fun c_29 => ?_) (fun q => absurd q h1)
        refine zr_iload i_Frame_escaped_45 rfl ?_
        refine zr_bipush i_Frame_escaped_47 (v := 88) (by decide) ?_
        refine zr_icmp_ne 66 i_Frame_escaped_49 (by decide) (fun q => absurd h2 q) (fun c_49 => ?_)
        refine zr_aload_n i_Frame_escaped_52 rfl ?_
        refine zr_getf i_Frame_escaped_53 hF.1 rfl rfl ?_
        refine zr_iload_n i_Frame_escaped_56 rfl ?_
        refine zn_iconst 4 i_Frame_escaped_57 (by decide) ?_
        refine zn_iadd i_Frame_escaped_58 ?_
        refine zr_cv1 i_Frame_escaped_59 rfl (by decide) (zrcv_of hF.2.1) (Nat.le_of_ble_eq_true rfl) (Nat.le_of_ble_eq_true rfl) (e2_Chars_at X _ h n F hF hn (a + 4) (by omega)) ?_
        refine zr_iload_n i_Frame_escaped_62 rfl ?_
        refine zr_icmp_eq 68 i_Frame_escaped_63 (by decide) (fun q => absurd q h3) (fun c_63 => ?_)
        refine zr_iconst i_Frame_escaped_66 (v := (-1)) (by decide) ?_
        exact zR.retE i_Frame_escaped_67 rfl rfl
    · rw [if_neg (fun z => h2 z.1)]
      refine zr_aload_n i_Frame_escaped_0 rfl ?_
      refine zr_iconst i_Frame_escaped_1 (v := 3) (by decide) ?_
      refine zr_cv1 i_Frame_escaped_2 rfl (by decide) (zrcv_of hS.1) (Nat.le_of_ble_eq_true rfl) (Nat.le_of_ble_eq_true rfl) (hs3) ?_
      refine zr_istore_n i_Frame_escaped_5 rfl ?_
      refine zr_aload_n i_Frame_escaped_6 rfl ?_
      refine zr_getf i_Frame_escaped_7 hF.1 rfl rfl ?_
      refine zr_iload_n i_Frame_escaped_10 rfl ?_
      refine zn_iconst 1 i_Frame_escaped_11 (by decide) ?_
      refine zn_iadd i_Frame_escaped_12 ?_
      refine zr_cv1 i_Frame_escaped_13 rfl (by decide) (zrcv_of hF.2.1) (Nat.le_of_ble_eq_true rfl) (Nat.le_of_ble_eq_true rfl) (e2_Chars_at X _ h n F hF hn (a + 1) (by omega)) ?_
      refine zr_istore i_Frame_escaped_16 rfl ?_
      refine zr_aload_n i_Frame_escaped_18 rfl ?_
      refine zr_getf i_Frame_escaped_19 hF.1 rfl rfl ?_
      refine zr_iload_n i_Frame_escaped_22 rfl ?_
      refine zn_iconst 2 i_Frame_escaped_23 (by decide) ?_
      refine zn_iadd i_Frame_escaped_24 ?_
      refine zr_cv1 i_Frame_escaped_25 rfl (by decide) (zrcv_of hF.2.1) (Nat.le_of_ble_eq_true rfl) (Nat.le_of_ble_eq_true rfl) (e2_Chars_at X _ h n F hF hn (a + 2) (by omega)) ?_
      refine zr_iload_n i_Frame_escaped_28 rfl ?_
      refine zr_icmp_ne 45 i_Frame_escaped_29 (by decide) (fun c_29 => ?_) (fun q => absurd q h1)
      refine zr_iload i_Frame_escaped_45 rfl ?_
      refine zr_bipush i_Frame_escaped_47 (v := 88) (by decide) ?_
      refine zr_icmp_ne 66 i_Frame_escaped_49 (by decide) (fun c_49 => ?_) (fun q => absurd q h2)
      refine zr_iconst i_Frame_escaped_66 (v := (-1)) (by decide) ?_
      exact zR.retE i_Frame_escaped_67 rfl rfl
theorem i_Frame_readFields_0 : zins 43 0 = some (.aload_n 1) := by decide +kernel
theorem i_Frame_readFields_1 : zins 43 1 = some (.getfield 31) := by decide +kernel
theorem i_Frame_readFields_4 : zins 43 4 = some (.astore 4) := by decide +kernel
theorem i_Frame_readFields_6 : zins 43 6 = some (.iload_n 2) := by decide +kernel
theorem i_Frame_readFields_7 : zins 43 7 = some (.iload_n 3) := by decide +kernel
theorem i_Frame_readFields_8 : zins 43 8 = some (.if_icmp .ge 22) := by decide +kernel
theorem i_Frame_readFields_11 : zins 43 11 = some (.aload_n 0) := by decide +kernel
theorem i_Frame_readFields_12 : zins 43 12 = some (.getfield 14) := by decide +kernel
theorem i_Frame_readFields_15 : zins 43 15 = some (.iload_n 2) := by decide +kernel
theorem i_Frame_readFields_16 : zins 43 16 = some (.invokevirtual 35) := by decide +kernel
theorem i_Frame_readFields_19 : zins 43 19 = some (.aload 4) := by decide +kernel
theorem i_Frame_readFields_21 : zins 43 21 = some (.iconst 0) := by decide +kernel
theorem i_Frame_readFields_22 : zins 43 22 = some (.invokevirtual 87) := by decide +kernel
theorem i_Frame_readFields_25 : zins 43 25 = some (.if_icmp .eq 5) := by decide +kernel
theorem i_Frame_readFields_28 : zins 43 28 = some (.iconst 0) := by decide +kernel
theorem i_Frame_readFields_29 : zins 43 29 = some (.ireturn) := by decide +kernel
theorem i_Frame_readFields_30 : zins 43 30 = some (.iconst 1) := by decide +kernel
theorem i_Frame_readFields_31 : zins 43 31 = some (.istore 5) := by decide +kernel
theorem i_Frame_readFields_33 : zins 43 33 = some (.iload_n 2) := by decide +kernel
theorem i_Frame_readFields_34 : zins 43 34 = some (.istore 6) := by decide +kernel
theorem i_Frame_readFields_36 : zins 43 36 = some (.iload 6) := by decide +kernel
theorem i_Frame_readFields_38 : zins 43 38 = some (.iload_n 3) := by decide +kernel
theorem i_Frame_readFields_39 : zins 43 39 = some (.if_icmp .ge 106) := by decide +kernel
theorem i_Frame_readFields_42 : zins 43 42 = some (.aload_n 0) := by decide +kernel
theorem i_Frame_readFields_43 : zins 43 43 = some (.getfield 14) := by decide +kernel
theorem i_Frame_readFields_46 : zins 43 46 = some (.iload 6) := by decide +kernel
theorem i_Frame_readFields_48 : zins 43 48 = some (.invokevirtual 35) := by decide +kernel
theorem i_Frame_readFields_51 : zins 43 51 = some (.istore 7) := by decide +kernel
theorem i_Frame_readFields_53 : zins 43 53 = some (.aload 4) := by decide +kernel
theorem i_Frame_readFields_55 : zins 43 55 = some (.iload 7) := by decide +kernel
theorem i_Frame_readFields_57 : zins 43 57 = some (.invokevirtual 88) := by decide +kernel
theorem i_Frame_readFields_60 : zins 43 60 = some (.istore 8) := by decide +kernel
theorem i_Frame_readFields_62 : zins 43 62 = some (.iconst 1) := by decide +kernel
theorem i_Frame_readFields_63 : zins 43 63 = some (.istore 5) := by decide +kernel
theorem i_Frame_readFields_65 : zins 43 65 = some (.iload 8) := by decide +kernel
theorem i_Frame_readFields_67 : zins 43 67 = some (.iconst 3) := by decide +kernel
theorem i_Frame_readFields_68 : zins 43 68 = some (.if_icmp .ne 39) := by decide +kernel
theorem i_Frame_readFields_71 : zins 43 71 = some (.aload_n 0) := by decide +kernel
theorem i_Frame_readFields_72 : zins 43 72 = some (.getfield 14) := by decide +kernel
theorem i_Frame_readFields_75 : zins 43 75 = some (.iload 6) := by decide +kernel
theorem i_Frame_readFields_77 : zins 43 77 = some (.iconst 1) := by decide +kernel
theorem i_Frame_readFields_78 : zins 43 78 = some (.iadd) := by decide +kernel
theorem i_Frame_readFields_79 : zins 43 79 = some (.invokevirtual 35) := by decide +kernel
theorem i_Frame_readFields_82 : zins 43 82 = some (.bipush 88) := by decide +kernel
theorem i_Frame_readFields_84 : zins 43 84 = some (.if_icmp .ne 7) := by decide +kernel
theorem i_Frame_readFields_87 : zins 43 87 = some (.iconst 5) := by decide +kernel
theorem i_Frame_readFields_88 : zins 43 88 = some (.goto 4) := by decide +kernel
theorem i_Frame_readFields_91 : zins 43 91 = some (.iconst 3) := by decide +kernel
theorem i_Frame_readFields_92 : zins 43 92 = some (.istore 5) := by decide +kernel
theorem i_Frame_readFields_94 : zins 43 94 = some (.aload_n 0) := by decide +kernel
theorem i_Frame_readFields_95 : zins 43 95 = some (.aload 4) := by decide +kernel
theorem i_Frame_readFields_97 : zins 43 97 = some (.iload 6) := by decide +kernel
theorem i_Frame_readFields_99 : zins 43 99 = some (.invokevirtual 91) := by decide +kernel
theorem i_Frame_readFields_102 : zins 43 102 = some (.istore 7) := by decide +kernel
theorem i_Frame_readFields_104 : zins 43 104 = some (.goto 17) := by decide +kernel
theorem i_Frame_readFields_107 : zins 43 107 = some (.iload 8) := by decide +kernel
theorem i_Frame_readFields_109 : zins 43 109 = some (.iconst (-1)) := by decide +kernel
theorem i_Frame_readFields_110 : zins 43 110 = some (.if_icmp .eq 11) := by decide +kernel
theorem i_Frame_readFields_113 : zins 43 113 = some (.sipush 256) := by decide +kernel
theorem i_Frame_readFields_116 : zins 43 116 = some (.iload 8) := by decide +kernel
theorem i_Frame_readFields_118 : zins 43 118 = some (.iadd) := by decide +kernel
theorem i_Frame_readFields_119 : zins 43 119 = some (.istore 7) := by decide +kernel
theorem i_Frame_readFields_121 : zins 43 121 = some (.iload 7) := by decide +kernel
theorem i_Frame_readFields_123 : zins 43 123 = some (.iconst (-1)) := by decide +kernel
theorem i_Frame_readFields_124 : zins 43 124 = some (.if_icmp .ne 5) := by decide +kernel
theorem i_Frame_readFields_127 : zins 43 127 = some (.iconst 0) := by decide +kernel
theorem i_Frame_readFields_128 : zins 43 128 = some (.ireturn) := by decide +kernel
theorem i_Frame_readFields_129 : zins 43 129 = some (.aload_n 1) := by decide +kernel
theorem i_Frame_readFields_130 : zins 43 130 = some (.iload 7) := by decide +kernel
theorem i_Frame_readFields_132 : zins 43 132 = some (.invokevirtual 75) := by decide +kernel
theorem i_Frame_readFields_135 : zins 43 135 = some (.iload 6) := by decide +kernel
theorem i_Frame_readFields_137 : zins 43 137 = some (.iload 5) := by decide +kernel
theorem i_Frame_readFields_139 : zins 43 139 = some (.iadd) := by decide +kernel
theorem i_Frame_readFields_140 : zins 43 140 = some (.istore 6) := by decide +kernel
theorem i_Frame_readFields_142 : zins 43 142 = some (.goto (-106)) := by decide +kernel
theorem i_Frame_readFields_145 : zins 43 145 = some (.iconst 1) := by decide +kernel
theorem i_Frame_readFields_146 : zins 43 146 = some (.ireturn) := by decide +kernel
theorem l_Frame_readFields (X : zX) (d : Nat) (h : zH) (n : Nat) (F : Nat → Int32) (hF0 : isF h n F) (hn : n ≤ 200) (hz0 : zlow h) (hFz : ∀ i, i < n → ¬ F i = -1) (m : Nat) (hm : 110 ≤ m) (S : Nat → Int32) (hS0 : isSp h (m + 1) S) (f : Nat → Int32) (st : Nat → Int32) (k b e : Nat) (hen : e ≤ n) : ∀ (q a : Nat) (l : List Int32) (x5 x7 x8 : Option Value), e ≤ a + q → a ≤ 210 → zR X (d + 7) 43 36 [some (.ref 101), some (.ref m), some (.int (nI b)), some (.int (nI e)), some (.ref (m + 1)), x5, some (.int (nI a)), x7, x8] [] (msL h m l f st k) (some (.int (zb (rdL F n S e q a).2)), msL h m (l ++ (rdL F n S e q a).1) f st k) := by
  intro q
  induction q with
  | zero =>
    intro a l x5 x7 x8 hq ha
    rw [rdL, List.append_nil]
    refine zr_iload i_Frame_readFields_36 rfl ?_
    refine zr_iload_n i_Frame_readFields_38 rfl ?_
    refine zn_icmp_ge 145 i_Frame_readFields_39 (by decide) (by omega) (by omega) (fun c_39 => ?_) (fun q => absurd q (by omega))
    refine zr_iconst i_Frame_readFields_145 (v := 1) (by decide) ?_
    exact zR.retE i_Frame_readFields_146 rfl rfl
  | succ q ih =>
    intro a l x5 x7 x8 hq ha
    rw [rdL]
    by_cases hae : a < e
    · rw [if_pos hae]
      have hF : isF (msL h m l f st k) n F := isF_ms hm hF0
      have hS : isSp (msL h m l f st k) (m + 1) S := isSp_ms hS0
      have hz : zlow (msL h m l f st k) := msS_low hz0 (by omega)
      have hcl : clF F n a = F a := if_pos (by omega)
      have hpl := e_Seps_placeOf X (d + 6) (msL h m l f st k) (m + 1) S hS (F a)
      cases hp : plF S (F a) with
      | none =>
        rw [hp] at hpl
        have hT : rdT F n S a = (F a, 1) := by
          unfold rdT
          rw [hp]
        rw [hT, if_neg (hFz a (by omega))]
        refine zr_iload i_Frame_readFields_36 rfl ?_
        refine zr_iload_n i_Frame_readFields_38 rfl ?_
        refine zn_icmp_ge 145 i_Frame_readFields_39 (by decide) (by omega) (by omega) (fun q => absurd q (by omega)) (fun c_39 => ?_)
        refine zr_aload_n i_Frame_readFields_42 rfl ?_
        refine zr_getf i_Frame_readFields_43 hF.1 rfl rfl ?_
        refine zr_iload i_Frame_readFields_46 rfl ?_
        refine zr_cv1 i_Frame_readFields_48 rfl (by decide) (zrcv_of hF.2.1) (Nat.le_of_ble_eq_true rfl) (Nat.le_of_ble_eq_true rfl) (e2_Chars_at X _ (msL h m l f st k) n F hF hn a (by omega)) ?_
        refine zr_top (y := F a) hcl ?_
        refine zr_istore i_Frame_readFields_51 rfl ?_
        refine zr_aload i_Frame_readFields_53 rfl ?_
        refine zr_iload i_Frame_readFields_55 rfl ?_
        refine zr_cv1 i_Frame_readFields_57 rfl (by decide) (zrcv_of hS.1) (Nat.le_of_ble_eq_true rfl) (Nat.le_of_ble_eq_true rfl) (hpl) ?_
        refine zr_top (y := -1) rfl ?_
        refine zr_istore i_Frame_readFields_60 rfl ?_
        refine zn_iconst 1 i_Frame_readFields_62 (by decide) ?_
        refine zr_istore i_Frame_readFields_63 rfl ?_
        refine zr_iload i_Frame_readFields_65 rfl ?_
        refine zr_iconst i_Frame_readFields_67 (v := 3) (by decide) ?_
        refine zr_icmp_ne 107 i_Frame_readFields_68 (by decide) (fun c_68 => ?_) (fun q => absurd q (by decide))
        refine zr_iload i_Frame_readFields_107 rfl ?_
        refine zr_iconst i_Frame_readFields_109 (v := (-1)) (by decide) ?_
        refine zr_icmp_eq 121 i_Frame_readFields_110 (by decide) (fun c_110 => ?_) (fun q => absurd rfl q)
        refine zr_iload i_Frame_readFields_121 rfl ?_
        refine zr_iconst i_Frame_readFields_123 (v := (-1)) (by decide) ?_
        refine zr_icmp_ne 129 i_Frame_readFields_124 (by decide) (fun c_124 => ?_) (fun q => absurd q (hFz a (by omega)))
        refine zr_aload_n i_Frame_readFields_129 rfl ?_
        refine zr_iload i_Frame_readFields_130 rfl ?_
        refine zr_cv10 i_Frame_readFields_132 rfl (by decide) (zrcv_of msS_o) (Nat.le_of_ble_eq_true rfl) (Nat.le_of_ble_eq_true rfl) (e_Mess_add X _ h m l f st k (F a)) ?_
        refine zr_iload i_Frame_readFields_135 rfl ?_
        refine zr_iload i_Frame_readFields_137 rfl ?_
        refine zn_iadd i_Frame_readFields_139 ?_
        refine zr_istore i_Frame_readFields_140 rfl ?_
        refine zr_goto 36 i_Frame_readFields_142 (by decide) ?_
        (have hn2 := fun x7 x8 => ih (a + 1) (l ++ [F a]) (some (.int (nI 1))) x7 x8 (by omega) (by omega)
         simp only [List.append_assoc] at hn2
         exact hn2 _ _)
      | some w =>
        rw [hp] at hpl
        have hw5 := (plF_lt hp).1
        by_cases hw3 : w = 3
        · subst hw3
          have hT : rdT F n S a = (escC F n S a, if clF F n (a + 1) = 88 then 5 else 3) := by
            unfold rdT
            rw [hp]
            rfl
          rw [hT]
          by_cases hm1 : escC F n S a = -1
          · rw [if_pos hm1, List.append_nil]
            by_cases h88 : clF F n (a + 1) = 88
            · skip
              refine zr_iload i_Frame_readFields_36 rfl ?_
              refine zr_iload_n i_Frame_readFields_38 rfl ?_
              refine zn_icmp_ge 145 i_Frame_readFields_39 (by decide) (by omega) (by omega) (fun q => absurd q (by omega)) (fun c_39 => ?_)
              refine zr_aload_n i_Frame_readFields_42 rfl ?_
              refine zr_getf i_Frame_readFields_43 hF.1 rfl rfl ?_
              refine zr_iload i_Frame_readFields_46 rfl ?_
              refine zr_cv1 i_Frame_readFields_48 rfl (by decide) (zrcv_of hF.2.1) (Nat.le_of_ble_eq_true rfl) (Nat.le_of_ble_eq_true rfl) (e2_Chars_at X _ (msL h m l f st k) n F hF hn a (by omega)) ?_
              refine zr_top (y := F a) hcl ?_
              refine zr_istore i_Frame_readFields_51 rfl ?_
              refine zr_aload i_Frame_readFields_53 rfl ?_
              refine zr_iload i_Frame_readFields_55 rfl ?_
              refine zr_cv1 i_Frame_readFields_57 rfl (by decide) (zrcv_of hS.1) (Nat.le_of_ble_eq_true rfl) (Nat.le_of_ble_eq_true rfl) (hpl) ?_
              refine zr_istore i_Frame_readFields_60 rfl ?_
              refine zn_iconst 1 i_Frame_readFields_62 (by decide) ?_
              refine zr_istore i_Frame_readFields_63 rfl ?_
              refine zr_iload i_Frame_readFields_65 rfl ?_
              refine zr_iconst i_Frame_readFields_67 (v := 3) (by decide) ?_
              refine zr_icmp_ne 107 i_Frame_readFields_68 (by decide) (fun q => absurd rfl q) (fun c_68 => ?_)
              refine zr_aload_n i_Frame_readFields_71 rfl ?_
              refine zr_getf i_Frame_readFields_72 hF.1 rfl rfl ?_
              refine zr_iload i_Frame_readFields_75 rfl ?_
              refine zn_iconst 1 i_Frame_readFields_77 (by decide) ?_
              refine zn_iadd i_Frame_readFields_78 ?_
              refine zr_cv1 i_Frame_readFields_79 rfl (by decide) (zrcv_of hF.2.1) (Nat.le_of_ble_eq_true rfl) (Nat.le_of_ble_eq_true rfl) (e2_Chars_at X _ (msL h m l f st k) n F hF hn (a + 1) (by omega)) ?_
              refine zr_bipush i_Frame_readFields_82 (v := 88) (by decide) ?_
              refine zr_icmp_ne 91 i_Frame_readFields_84 (by decide) (fun q => absurd h88 q) (fun c_84 => ?_)
              refine zn_iconst 5 i_Frame_readFields_87 (by decide) ?_
              refine zr_goto 92 i_Frame_readFields_88 (by decide) ?_
              refine zr_istore i_Frame_readFields_92 rfl ?_
              refine zr_aload_n i_Frame_readFields_94 rfl ?_
              refine zr_aload i_Frame_readFields_95 rfl ?_
              refine zr_iload i_Frame_readFields_97 rfl ?_
              refine zr_cv2 i_Frame_readFields_99 rfl (by decide) (zrcv_of hF.1) (Nat.le_of_ble_eq_true rfl) (Nat.le_of_ble_eq_true rfl) (e_Frame_escaped X _ (msL h m l f st k) n F hF hn hz (m + 1) S hS a (by omega)) ?_
              refine zr_istore i_Frame_readFields_102 rfl ?_
              refine zr_goto 121 i_Frame_readFields_104 (by decide) ?_
              refine zr_iload i_Frame_readFields_121 rfl ?_
              refine zr_iconst i_Frame_readFields_123 (v := (-1)) (by decide) ?_
              refine zr_icmp_ne 129 i_Frame_readFields_124 (by decide) (fun q => absurd hm1 q) (fun c_124 => ?_)
              refine zr_iconst i_Frame_readFields_127 (v := 0) (by decide) ?_
              exact zR.retE i_Frame_readFields_128 rfl rfl
            · skip
              refine zr_iload i_Frame_readFields_36 rfl ?_
              refine zr_iload_n i_Frame_readFields_38 rfl ?_
              refine zn_icmp_ge 145 i_Frame_readFields_39 (by decide) (by omega) (by omega) (fun q => absurd q (by omega)) (fun c_39 => ?_)
              refine zr_aload_n i_Frame_readFields_42 rfl ?_
              refine zr_getf i_Frame_readFields_43 hF.1 rfl rfl ?_
              refine zr_iload i_Frame_readFields_46 rfl ?_
              refine zr_cv1 i_Frame_readFields_48 rfl (by decide) (zrcv_of hF.2.1) (Nat.le_of_ble_eq_true rfl) (Nat.le_of_ble_eq_true rfl) (e2_Chars_at X _ (msL h m l f st k) n F hF hn a (by omega)) ?_
              refine zr_top (y := F a) hcl ?_
              refine zr_istore i_Frame_readFields_51 rfl ?_
              refine zr_aload i_Frame_readFields_53 rfl ?_
              refine zr_iload i_Frame_readFields_55 rfl ?_
              refine zr_cv1 i_Frame_readFields_57 rfl (by decide) (zrcv_of hS.1) (Nat.le_of_ble_eq_true rfl) (Nat.le_of_ble_eq_true rfl) (hpl) ?_
              refine zr_istore i_Frame_readFields_60 rfl ?_
              refine zn_iconst 1 i_Frame_readFields_62 (by decide) ?_
              refine zr_istore i_Frame_readFields_63 rfl ?_
              refine zr_iload i_Frame_readFields_65 rfl ?_
              refine zr_iconst i_Frame_readFields_67 (v := 3) (by decide) ?_
              refine zr_icmp_ne 107 i_Frame_readFields_68 (by decide) (fun q => absurd rfl q) (fun c_68 => ?_)
              refine zr_aload_n i_Frame_readFields_71 rfl ?_
              refine zr_getf i_Frame_readFields_72 hF.1 rfl rfl ?_
              refine zr_iload i_Frame_readFields_75 rfl ?_
              refine zn_iconst 1 i_Frame_readFields_77 (by decide) ?_
              refine zn_iadd i_Frame_readFields_78 ?_
              refine zr_cv1 i_Frame_readFields_79 rfl (by decide) (zrcv_of hF.2.1) (Nat.le_of_ble_eq_true rfl) (Nat.le_of_ble_eq_true rfl) (e2_Chars_at X _ (msL h m l f st k) n F hF hn (a + 1) (by omega)) ?_
              refine zr_bipush i_Frame_readFields_82 (v := 88) (by decide) ?_
              refine zr_icmp_ne 91 i_Frame_readFields_84 (by decide) (fun c_84 => ?_) (fun q => absurd q h88)
              refine zn_iconst 3 i_Frame_readFields_91 (by decide) ?_
              refine zr_istore i_Frame_readFields_92 rfl ?_
              refine zr_aload_n i_Frame_readFields_94 rfl ?_
              refine zr_aload i_Frame_readFields_95 rfl ?_
              refine zr_iload i_Frame_readFields_97 rfl ?_
              refine zr_cv2 i_Frame_readFields_99 rfl (by decide) (zrcv_of hF.1) (Nat.le_of_ble_eq_true rfl) (Nat.le_of_ble_eq_true rfl) (e_Frame_escaped X _ (msL h m l f st k) n F hF hn hz (m + 1) S hS a (by omega)) ?_
              refine zr_istore i_Frame_readFields_102 rfl ?_
              refine zr_goto 121 i_Frame_readFields_104 (by decide) ?_
              refine zr_iload i_Frame_readFields_121 rfl ?_
              refine zr_iconst i_Frame_readFields_123 (v := (-1)) (by decide) ?_
              refine zr_icmp_ne 129 i_Frame_readFields_124 (by decide) (fun q => absurd hm1 q) (fun c_124 => ?_)
              refine zr_iconst i_Frame_readFields_127 (v := 0) (by decide) ?_
              exact zR.retE i_Frame_readFields_128 rfl rfl
          · rw [if_neg hm1]
            by_cases h88 : clF F n (a + 1) = 88
            · rw [if_pos h88]
              refine zr_iload i_Frame_readFields_36 rfl ?_
              refine zr_iload_n i_Frame_readFields_38 rfl ?_
              refine zn_icmp_ge 145 i_Frame_readFields_39 (by decide) (by omega) (by omega) (fun q => absurd q (by omega)) (fun c_39 => ?_)
              refine zr_aload_n i_Frame_readFields_42 rfl ?_
              refine zr_getf i_Frame_readFields_43 hF.1 rfl rfl ?_
              refine zr_iload i_Frame_readFields_46 rfl ?_
              refine zr_cv1 i_Frame_readFields_48 rfl (by decide) (zrcv_of hF.2.1) (Nat.le_of_ble_eq_true rfl) (Nat.le_of_ble_eq_true rfl) (e2_Chars_at X _ (msL h m l f st k) n F hF hn a (by omega)) ?_
              refine zr_top (y := F a) hcl ?_
              refine zr_istore i_Frame_readFields_51 rfl ?_
              refine zr_aload i_Frame_readFields_53 rfl ?_
              refine zr_iload i_Frame_readFields_55 rfl ?_
              refine zr_cv1 i_Frame_readFields_57 rfl (by decide) (zrcv_of hS.1) (Nat.le_of_ble_eq_true rfl) (Nat.le_of_ble_eq_true rfl) (hpl) ?_
              refine zr_istore i_Frame_readFields_60 rfl ?_
              refine zn_iconst 1 i_Frame_readFields_62 (by decide) ?_
              refine zr_istore i_Frame_readFields_63 rfl ?_
              refine zr_iload i_Frame_readFields_65 rfl ?_
              refine zr_iconst i_Frame_readFields_67 (v := 3) (by decide) ?_
              refine zr_icmp_ne 107 i_Frame_readFields_68 (by decide) (fun q => absurd rfl q) (fun c_68 => ?_)
              refine zr_aload_n i_Frame_readFields_71 rfl ?_
              refine zr_getf i_Frame_readFields_72 hF.1 rfl rfl ?_
              refine zr_iload i_Frame_readFields_75 rfl ?_
              refine zn_iconst 1 i_Frame_readFields_77 (by decide) ?_
              refine zn_iadd i_Frame_readFields_78 ?_
              refine zr_cv1 i_Frame_readFields_79 rfl (by decide) (zrcv_of hF.2.1) (Nat.le_of_ble_eq_true rfl) (Nat.le_of_ble_eq_true rfl) (e2_Chars_at X _ (msL h m l f st k) n F hF hn (a + 1) (by omega)) ?_
              refine zr_bipush i_Frame_readFields_82 (v := 88) (by decide) ?_
              refine zr_icmp_ne 91 i_Frame_readFields_84 (by decide) (fun q => absurd h88 q) (fun c_84 => ?_)
              refine zn_iconst 5 i_Frame_readFields_87 (by decide) ?_
              refine zr_goto 92 i_Frame_readFields_88 (by decide) ?_
              refine zr_istore i_Frame_readFields_92 rfl ?_
              refine zr_aload_n i_Frame_readFields_94 rfl ?_
              refine zr_aload i_Frame_readFields_95 rfl ?_
              refine zr_iload i_Frame_readFields_97 rfl ?_
              refine zr_cv2 i_Frame_readFields_99 rfl (by decide) (zrcv_of hF.1) (Nat.le_of_ble_eq_true rfl) (Nat.le_of_ble_eq_true rfl) (e_Frame_escaped X _ (msL h m l f st k) n F hF hn hz (m + 1) S hS a (by omega)) ?_
              refine zr_istore i_Frame_readFields_102 rfl ?_
              refine zr_goto 121 i_Frame_readFields_104 (by decide) ?_
              refine zr_iload i_Frame_readFields_121 rfl ?_
              refine zr_iconst i_Frame_readFields_123 (v := (-1)) (by decide) ?_
              refine zr_icmp_ne 129 i_Frame_readFields_124 (by decide) (fun c_124 => ?_) (fun q => absurd q hm1)
              refine zr_aload_n i_Frame_readFields_129 rfl ?_
              refine zr_iload i_Frame_readFields_130 rfl ?_
              refine zr_cv10 i_Frame_readFields_132 rfl (by decide) (zrcv_of msS_o) (Nat.le_of_ble_eq_true rfl) (Nat.le_of_ble_eq_true rfl) (e_Mess_add X _ h m l f st k (escC F n S a)) ?_
              refine zr_iload i_Frame_readFields_135 rfl ?_
              refine zr_iload i_Frame_readFields_137 rfl ?_
              refine zn_iadd i_Frame_readFields_139 ?_
              refine zr_istore i_Frame_readFields_140 rfl ?_
              refine zr_goto 36 i_Frame_readFields_142 (by decide) ?_
              (have hn2 := fun x7 x8 => ih (a + 5) (l ++ [escC F n S a]) (some (.int (nI 5))) x7 x8 (by omega) (by omega)
               simp only [List.append_assoc] at hn2
               exact hn2 _ _)
            · rw [if_neg h88]
              refine zr_iload i_Frame_readFields_36 rfl ?_
              refine zr_iload_n i_Frame_readFields_38 rfl ?_
              refine zn_icmp_ge 145 i_Frame_readFields_39 (by decide) (by omega) (by omega) (fun q => absurd q (by omega)) (fun c_39 => ?_)
              refine zr_aload_n i_Frame_readFields_42 rfl ?_
              refine zr_getf i_Frame_readFields_43 hF.1 rfl rfl ?_
              refine zr_iload i_Frame_readFields_46 rfl ?_
              refine zr_cv1 i_Frame_readFields_48 rfl (by decide) (zrcv_of hF.2.1) (Nat.le_of_ble_eq_true rfl) (Nat.le_of_ble_eq_true rfl) (e2_Chars_at X _ (msL h m l f st k) n F hF hn a (by omega)) ?_
              refine zr_top (y := F a) hcl ?_
              refine zr_istore i_Frame_readFields_51 rfl ?_
              refine zr_aload i_Frame_readFields_53 rfl ?_
              refine zr_iload i_Frame_readFields_55 rfl ?_
              refine zr_cv1 i_Frame_readFields_57 rfl (by decide) (zrcv_of hS.1) (Nat.le_of_ble_eq_true rfl) (Nat.le_of_ble_eq_true rfl) (hpl) ?_
              refine zr_istore i_Frame_readFields_60 rfl ?_
              refine zn_iconst 1 i_Frame_readFields_62 (by decide) ?_
              refine zr_istore i_Frame_readFields_63 rfl ?_
              refine zr_iload i_Frame_readFields_65 rfl ?_
              refine zr_iconst i_Frame_readFields_67 (v := 3) (by decide) ?_
              refine zr_icmp_ne 107 i_Frame_readFields_68 (by decide) (fun q => absurd rfl q) (fun c_68 => ?_)
              refine zr_aload_n i_Frame_readFields_71 rfl ?_
              refine zr_getf i_Frame_readFields_72 hF.1 rfl rfl ?_
              refine zr_iload i_Frame_readFields_75 rfl ?_
              refine zn_iconst 1 i_Frame_readFields_77 (by decide) ?_
              refine zn_iadd i_Frame_readFields_78 ?_
              refine zr_cv1 i_Frame_readFields_79 rfl (by decide) (zrcv_of hF.2.1) (Nat.le_of_ble_eq_true rfl) (Nat.le_of_ble_eq_true rfl) (e2_Chars_at X _ (msL h m l f st k) n F hF hn (a + 1) (by omega)) ?_
              refine zr_bipush i_Frame_readFields_82 (v := 88) (by decide) ?_
              refine zr_icmp_ne 91 i_Frame_readFields_84 (by decide) (fun c_84 => ?_) (fun q => absurd q h88)
              refine zn_iconst 3 i_Frame_readFields_91 (by decide) ?_
              refine zr_istore i_Frame_readFields_92 rfl ?_
              refine zr_aload_n i_Frame_readFields_94 rfl ?_
              refine zr_aload i_Frame_readFields_95 rfl ?_
              refine zr_iload i_Frame_readFields_97 rfl ?_
              refine zr_cv2 i_Frame_readFields_99 rfl (by decide) (zrcv_of hF.1) (Nat.le_of_ble_eq_true rfl) (Nat.le_of_ble_eq_true rfl) (e_Frame_escaped X _ (msL h m l f st k) n F hF hn hz (m + 1) S hS a (by omega)) ?_
              refine zr_istore i_Frame_readFields_102 rfl ?_
              refine zr_goto 121 i_Frame_readFields_104 (by decide) ?_
              refine zr_iload i_Frame_readFields_121 rfl ?_
              refine zr_iconst i_Frame_readFields_123 (v := (-1)) (by decide) ?_
              refine zr_icmp_ne 129 i_Frame_readFields_124 (by decide) (fun c_124 => ?_) (fun q => absurd q hm1)
              refine zr_aload_n i_Frame_readFields_129 rfl ?_
              refine zr_iload i_Frame_readFields_130 rfl ?_
              refine zr_cv10 i_Frame_readFields_132 rfl (by decide) (zrcv_of msS_o) (Nat.le_of_ble_eq_true rfl) (Nat.le_of_ble_eq_true rfl) (e_Mess_add X _ h m l f st k (escC F n S a)) ?_
              refine zr_iload i_Frame_readFields_135 rfl ?_
              refine zr_iload i_Frame_readFields_137 rfl ?_
              refine zn_iadd i_Frame_readFields_139 ?_
              refine zr_istore i_Frame_readFields_140 rfl ?_
              refine zr_goto 36 i_Frame_readFields_142 (by decide) ?_
              (have hn2 := fun x7 x8 => ih (a + 3) (l ++ [escC F n S a]) (some (.int (nI 3))) x7 x8 (by omega) (by omega)
               simp only [List.append_assoc] at hn2
               exact hn2 _ _)
        · have hT : rdT F n S a = (nI (256 + w), 1) := by
            unfold rdT
            rw [hp]
            exact if_neg hw3
          rw [hT, if_neg (nI_neg1 (by omega))]
          refine zr_iload i_Frame_readFields_36 rfl ?_
          refine zr_iload_n i_Frame_readFields_38 rfl ?_
          refine zn_icmp_ge 145 i_Frame_readFields_39 (by decide) (by omega) (by omega) (fun q => absurd q (by omega)) (fun c_39 => ?_)
          refine zr_aload_n i_Frame_readFields_42 rfl ?_
          refine zr_getf i_Frame_readFields_43 hF.1 rfl rfl ?_
          refine zr_iload i_Frame_readFields_46 rfl ?_
          refine zr_cv1 i_Frame_readFields_48 rfl (by decide) (zrcv_of hF.2.1) (Nat.le_of_ble_eq_true rfl) (Nat.le_of_ble_eq_true rfl) (e2_Chars_at X _ (msL h m l f st k) n F hF hn a (by omega)) ?_
          refine zr_top (y := F a) hcl ?_
          refine zr_istore i_Frame_readFields_51 rfl ?_
          refine zr_aload i_Frame_readFields_53 rfl ?_
          refine zr_iload i_Frame_readFields_55 rfl ?_
          refine zr_cv1 i_Frame_readFields_57 rfl (by decide) (zrcv_of hS.1) (Nat.le_of_ble_eq_true rfl) (Nat.le_of_ble_eq_true rfl) (hpl) ?_
          refine zr_top (y := nI w) rfl ?_
          refine zr_istore i_Frame_readFields_60 rfl ?_
          refine zn_iconst 1 i_Frame_readFields_62 (by decide) ?_
          refine zr_istore i_Frame_readFields_63 rfl ?_
          refine zr_iload i_Frame_readFields_65 rfl ?_
          refine zr_iconst i_Frame_readFields_67 (v := 3) (by decide) ?_
          refine zr_icmp_ne 107 i_Frame_readFields_68 (by decide) (fun c_68 => ?_) (fun q => absurd q (fun z => hw3 ((nI_eq (a := w) (b := 3) (by omega) (by decide)).mp z)))
          refine zr_iload i_Frame_readFields_107 rfl ?_
          refine zr_iconst i_Frame_readFields_109 (v := (-1)) (by decide) ?_
          refine zr_icmp_eq 121 i_Frame_readFields_110 (by decide) (fun q => absurd q (nI_neg1 (by omega))) (fun c_110 => ?_)
          refine zn_sipush 256 i_Frame_readFields_113 (by decide) ?_
          refine zr_iload i_Frame_readFields_116 rfl ?_
          refine zn_iadd i_Frame_readFields_118 ?_
          refine zr_istore i_Frame_readFields_119 rfl ?_
          refine zr_iload i_Frame_readFields_121 rfl ?_
          refine zr_iconst i_Frame_readFields_123 (v := (-1)) (by decide) ?_
          refine zr_icmp_ne 129 i_Frame_readFields_124 (by decide) (fun c_124 => ?_) (fun q => absurd q (nI_neg1 (by omega)))
          refine zr_aload_n i_Frame_readFields_129 rfl ?_
          refine zr_iload i_Frame_readFields_130 rfl ?_
          refine zr_cv10 i_Frame_readFields_132 rfl (by decide) (zrcv_of msS_o) (Nat.le_of_ble_eq_true rfl) (Nat.le_of_ble_eq_true rfl) (e_Mess_add X _ h m l f st k (nI (256 + w))) ?_
          refine zr_iload i_Frame_readFields_135 rfl ?_
          refine zr_iload i_Frame_readFields_137 rfl ?_
          refine zn_iadd i_Frame_readFields_139 ?_
          refine zr_istore i_Frame_readFields_140 rfl ?_
          refine zr_goto 36 i_Frame_readFields_142 (by decide) ?_
          (have hn2 := fun x7 x8 => ih (a + 1) (l ++ [nI (256 + w)]) (some (.int (nI 1))) x7 x8 (by omega) (by omega)
           simp only [List.append_assoc] at hn2
           exact hn2 _ _)
    · rw [if_neg hae, List.append_nil]
      refine zr_iload i_Frame_readFields_36 rfl ?_
      refine zr_iload_n i_Frame_readFields_38 rfl ?_
      refine zn_icmp_ge 145 i_Frame_readFields_39 (by decide) (by omega) (by omega) (fun c_39 => ?_) (fun q => absurd q (by omega))
      refine zr_iconst i_Frame_readFields_145 (v := 1) (by decide) ?_
      exact zR.retE i_Frame_readFields_146 rfl rfl
theorem e_Frame_readFields (X : zX) (d : Nat) (h : zH) (n : Nat) (F : Nat → Int32) (hF0 : isF h n F) (hn : n ≤ 200) (hz0 : zlow h) (hFz : ∀ i, i < n → ¬ F i = -1) (m : Nat) (hm : 110 ≤ m) (S : Nat → Int32) (hS0 : isSp h (m + 1) S) (f : Nat → Int32) (st : Nat → Int32) (k b e : Nat) (hen : e ≤ n) (hb : b ≤ 208) (l : List Int32) : zR X (d + 7) 43 0 (zent 9 [.ref 101, .ref m, .int (nI b), .int (nI e)]) [] (msL h m l f st k) (some (.int (zb (rdB F n S b e).2)), msL h m (l ++ (rdB F n S b e).1) f st k) := by
  have hF : isF (msL h m l f st k) n F := isF_ms hm hF0
  have hS : isSp (msL h m l f st k) (m + 1) S := isSp_ms hS0
  have hs0 : zR X (d + 6) 70 0 (zent 2 [.ref (m + 1), .int 0]) [] (msL h m l f st k) (some (.int (S 0)), (msL h m l f st k)) := by
    rw [show S 0 = getF S 5 0 from (getF_in (j := 0) (by decide) (by decide)).symm]
    exact e_Seps_at X _ (msL h m l f st k) (m + 1) S hS 0
  have hl := l_Frame_readFields X d h n F hF0 hn hz0 hFz m hm S hS0 f st k b e hen e b l (some (.int (nI 1))) none none (by omega) (by omega)
  unfold rdB
  by_cases hbe : b < e
  · by_cases h0 : clF F n b = S 0
    · rw [if_neg (fun z => z.2 h0)]
      refine zr_aload_n i_Frame_readFields_0 rfl ?_
      refine zr_getf i_Frame_readFields_1 msS_o rfl rfl ?_
      refine zr_astore i_Frame_readFields_4 rfl ?_
      refine zr_iload_n i_Frame_readFields_6 rfl ?_
      refine zr_iload_n i_Frame_readFields_7 rfl ?_
      refine zn_icmp_ge 30 i_Frame_readFields_8 (by decide) (by omega) (by omega) (fun q => absurd q (by omega)) (fun c_8 => ?_)
      refine zr_aload_n i_Frame_readFields_11 rfl ?_
      refine zr_getf i_Frame_readFields_12 hF.1 rfl rfl ?_
      refine zr_iload_n i_Frame_readFields_15 rfl ?_
      refine zr_cv1 i_Frame_readFields_16 rfl (by decide) (zrcv_of hF.2.1) (Nat.le_of_ble_eq_true rfl) (Nat.le_of_ble_eq_true rfl) (e2_Chars_at X _ (msL h m l f st k) n F hF hn b (by omega)) ?_
      refine zr_aload i_Frame_readFields_19 rfl ?_
      refine zr_iconst i_Frame_readFields_21 (v := 0) (by decide) ?_
      refine zr_cv1 i_Frame_readFields_22 rfl (by decide) (zrcv_of hS.1) (Nat.le_of_ble_eq_true rfl) (Nat.le_of_ble_eq_true rfl) (hs0) ?_
      refine zr_icmp_eq 30 i_Frame_readFields_25 (by decide) (fun c_25 => ?_) (fun q => absurd h0 q)
      refine zn_iconst 1 i_Frame_readFields_30 (by decide) ?_
      refine zr_istore i_Frame_readFields_31 rfl ?_
      refine zr_iload_n i_Frame_readFields_33 rfl ?_
      refine zr_istore i_Frame_readFields_34 rfl ?_
      exact hl
    · rw [if_pos ⟨hbe, h0⟩, List.append_nil]
      refine zr_aload_n i_Frame_readFields_0 rfl ?_
      refine zr_getf i_Frame_readFields_1 msS_o rfl rfl ?_
      refine zr_astore i_Frame_readFields_4 rfl ?_
      refine zr_iload_n i_Frame_readFields_6 rfl ?_
      refine zr_iload_n i_Frame_readFields_7 rfl ?_
      refine zn_icmp_ge 30 i_Frame_readFields_8 (by decide) (by omega) (by omega) (fun q => absurd q (by omega)) (fun c_8 => ?_)
      refine zr_aload_n i_Frame_readFields_11 rfl ?_
      refine zr_getf i_Frame_readFields_12 hF.1 rfl rfl ?_
      refine zr_iload_n i_Frame_readFields_15 rfl ?_
      refine zr_cv1 i_Frame_readFields_16 rfl (by decide) (zrcv_of hF.2.1) (Nat.le_of_ble_eq_true rfl) (Nat.le_of_ble_eq_true rfl) (e2_Chars_at X _ (msL h m l f st k) n F hF hn b (by omega)) ?_
      refine zr_aload i_Frame_readFields_19 rfl ?_
      refine zr_iconst i_Frame_readFields_21 (v := 0) (by decide) ?_
      refine zr_cv1 i_Frame_readFields_22 rfl (by decide) (zrcv_of hS.1) (Nat.le_of_ble_eq_true rfl) (Nat.le_of_ble_eq_true rfl) (hs0) ?_
      refine zr_icmp_eq 30 i_Frame_readFields_25 (by decide) (fun q => absurd q h0) (fun c_25 => ?_)
      refine zr_iconst i_Frame_readFields_28 (v := 0) (by decide) ?_
      exact zR.retE i_Frame_readFields_29 rfl rfl
  · rw [if_neg (fun z => hbe z.1)]
    refine zr_aload_n i_Frame_readFields_0 rfl ?_
    refine zr_getf i_Frame_readFields_1 msS_o rfl rfl ?_
    refine zr_astore i_Frame_readFields_4 rfl ?_
    refine zr_iload_n i_Frame_readFields_6 rfl ?_
    refine zr_iload_n i_Frame_readFields_7 rfl ?_
    refine zn_icmp_ge 30 i_Frame_readFields_8 (by decide) (by omega) (by omega) (fun c_8 => ?_) (fun q => absurd q (by omega))
    refine zn_iconst 1 i_Frame_readFields_30 (by decide) ?_
    refine zr_istore i_Frame_readFields_31 rfl ?_
    refine zr_iload_n i_Frame_readFields_33 rfl ?_
    refine zr_istore i_Frame_readFields_34 rfl ?_
    exact hl
theorem i_Frame_readSegment_0 : zins 41 0 = some (.iload_n 2) := by decide +kernel
theorem i_Frame_readSegment_1 : zins 41 1 = some (.ifCond .ne 7) := by decide +kernel
theorem i_Frame_readSegment_4 : zins 41 4 = some (.iconst 1) := by decide +kernel
theorem i_Frame_readSegment_5 : zins 41 5 = some (.goto 4) := by decide +kernel
theorem i_Frame_readSegment_8 : zins 41 8 = some (.iconst 0) := by decide +kernel
theorem i_Frame_readSegment_9 : zins 41 9 = some (.istore 4) := by decide +kernel
theorem i_Frame_readSegment_11 : zins 41 11 = some (.iload 4) := by decide +kernel
theorem i_Frame_readSegment_13 : zins 41 13 = some (.ifCond .ne 13) := by decide +kernel
theorem i_Frame_readSegment_16 : zins 41 16 = some (.aload_n 0) := by decide +kernel
theorem i_Frame_readSegment_17 : zins 41 17 = some (.iload_n 2) := by decide +kernel
theorem i_Frame_readSegment_18 : zins 41 18 = some (.invokevirtual 68) := by decide +kernel
theorem i_Frame_readSegment_21 : zins 41 21 = some (.ifCond .ne 5) := by decide +kernel
theorem i_Frame_readSegment_24 : zins 41 24 = some (.iconst 0) := by decide +kernel
theorem i_Frame_readSegment_25 : zins 41 25 = some (.ireturn) := by decide +kernel
theorem i_Frame_readSegment_26 : zins 41 26 = some (.aload_n 1) := by decide +kernel
theorem i_Frame_readSegment_27 : zins 41 27 = some (.invokevirtual 72) := by decide +kernel
theorem i_Frame_readSegment_30 : zins 41 30 = some (.iconst 0) := by decide +kernel
theorem i_Frame_readSegment_31 : zins 41 31 = some (.istore 5) := by decide +kernel
theorem i_Frame_readSegment_33 : zins 41 33 = some (.iload 5) := by decide +kernel
theorem i_Frame_readSegment_35 : zins 41 35 = some (.iconst 3) := by decide +kernel
theorem i_Frame_readSegment_36 : zins 41 36 = some (.if_icmp .ge 24) := by decide +kernel
theorem i_Frame_readSegment_39 : zins 41 39 = some (.aload_n 1) := by decide +kernel
theorem i_Frame_readSegment_40 : zins 41 40 = some (.aload_n 0) := by decide +kernel
theorem i_Frame_readSegment_41 : zins 41 41 = some (.getfield 14) := by decide +kernel
theorem i_Frame_readSegment_44 : zins 41 44 = some (.iload_n 2) := by decide +kernel
theorem i_Frame_readSegment_45 : zins 41 45 = some (.iload 5) := by decide +kernel
theorem i_Frame_readSegment_47 : zins 41 47 = some (.iadd) := by decide +kernel
theorem i_Frame_readSegment_48 : zins 41 48 = some (.invokevirtual 35) := by decide +kernel
theorem i_Frame_readSegment_51 : zins 41 51 = some (.invokevirtual 75) := by decide +kernel
theorem i_Frame_readSegment_54 : zins 41 54 = some (.iinc 5 1) := by decide +kernel
theorem i_Frame_readSegment_57 : zins 41 57 = some (.goto (-24)) := by decide +kernel
theorem i_Frame_readSegment_60 : zins 41 60 = some (.aload_n 0) := by decide +kernel
theorem i_Frame_readSegment_61 : zins 41 61 = some (.aload_n 1) := by decide +kernel
theorem i_Frame_readSegment_62 : zins 41 62 = some (.iload_n 2) := by decide +kernel
theorem i_Frame_readSegment_63 : zins 41 63 = some (.iload 4) := by decide +kernel
theorem i_Frame_readSegment_65 : zins 41 65 = some (.ifCond .eq 8) := by decide +kernel
theorem i_Frame_readSegment_68 : zins 41 68 = some (.bipush 8) := by decide +kernel
theorem i_Frame_readSegment_70 : zins 41 70 = some (.goto 4) := by decide +kernel
theorem i_Frame_readSegment_73 : zins 41 73 = some (.iconst 3) := by decide +kernel
theorem i_Frame_readSegment_74 : zins 41 74 = some (.iadd) := by decide +kernel
theorem i_Frame_readSegment_75 : zins 41 75 = some (.iload_n 3) := by decide +kernel
theorem i_Frame_readSegment_76 : zins 41 76 = some (.invokevirtual 78) := by decide +kernel
theorem i_Frame_readSegment_79 : zins 41 79 = some (.ireturn) := by decide +kernel
theorem e_Frame_readSegment (X : zX) (d : Nat) (h : zH) (n : Nat) (F : Nat → Int32) (hF0 : isF h n F) (hn : n ≤ 200) (hz0 : zlow h) (hFz : ∀ i, i < n → ¬ F i = -1) (m : Nat) (hm : 110 ≤ m) (S : Nat → Int32) (hS0 : isSp h (m + 1) S) (f : Nat → Int32) (z : zSt) (hk : z.2.2 < 1000) (b e : Nat) (hen : e ≤ n) (hb : b ≤ 200) : zR X (d + 8) 41 0 (zent 6 [.ref 101, .ref m, .int (nI b), .int (nI e)]) [] (msZ h m f z) (some (.int (zb (rdS F n S z b e).2)), msZ h m f (rdS F n S z b e).1) := by
  have hF : isF (msZ h m f z) n F := isF_ms hm hF0
  have hnC := e_Frame_isName X (d + 6) (msZ h m f z) n F hF hn b (by omega)
  unfold rdS
  by_cases hb0 : b = 0
  · rw [if_pos (Or.inl hb0), if_pos hb0]
    subst hb0
    have hrf := e_Frame_readFields X d h n F hF0 hn hz0 hFz m hm S hS0 f (stS z.2.1 z.2.2 ((if 0 < z.2.2 then z.1 ++ [261] else z.1).take 200).length) (z.2.2 + 1) (0 + 8) e hen (by omega) (((((if 0 < z.2.2 then z.1 ++ [261] else z.1)) ++ [clF F n 0]) ++ [clF F n (0 + 1)]) ++ [clF F n (0 + 2)])
    show zR X (d + 8) 41 0 _ [] (msL h m z.1 f z.2.1 z.2.2) _
    refine zr_iload_n i_Frame_readSegment_0 rfl ?_
    refine zN_if_ne 8 i_Frame_readSegment_1 (by decide) (by omega) (fun q => absurd rfl q) (fun _ => ?_)
    refine zn_iconst 1 i_Frame_readSegment_4 (by decide) ?_
    refine zr_goto 9 i_Frame_readSegment_5 (by decide) ?_
    refine zr_istore i_Frame_readSegment_9 rfl ?_
    refine zr_iload i_Frame_readSegment_11 rfl ?_
    refine zr_if_ne 26 i_Frame_readSegment_13 (by decide) (fun _ => ?_) (fun q => absurd q (by decide))
    refine zr_aload_n i_Frame_readSegment_26 rfl ?_
    refine zr_cv00 i_Frame_readSegment_27 rfl (by decide) (zrcv_of msS_o) (Nat.le_of_ble_eq_true rfl) (Nat.le_of_ble_eq_true rfl) (e_Mess_startSegment X _ h m z.1 f z.2.1 z.2.2 hk) ?_
    refine zn_iconst 0 i_Frame_readSegment_30 (by decide) ?_
    refine zr_istore i_Frame_readSegment_31 rfl ?_
    refine zr_iload i_Frame_readSegment_33 rfl ?_
    refine zn_iconst 3 i_Frame_readSegment_35 (by decide) ?_
    refine zr_icmp_ge 60 i_Frame_readSegment_36 (by decide) (fun q => absurd q (by decide)) (fun _ => ?_)
    refine zr_aload_n i_Frame_readSegment_39 rfl ?_
    refine zr_aload_n i_Frame_readSegment_40 rfl ?_
    refine zr_getf i_Frame_readSegment_41 (isF_ms hm hF0).1 rfl rfl ?_
    refine zr_iload_n i_Frame_readSegment_44 rfl ?_
    refine zr_iload i_Frame_readSegment_45 rfl ?_
    refine zn_iadd i_Frame_readSegment_47 ?_
    refine zr_cv1 i_Frame_readSegment_48 rfl (by decide) (zrcv_of (isF_ms hm hF0).2.1) (Nat.le_of_ble_eq_true rfl) (Nat.le_of_ble_eq_true rfl) (e2_Chars_at X _ (msL h m (if 0 < z.2.2 then z.1 ++ [261] else z.1) f (stS z.2.1 z.2.2 ((if 0 < z.2.2 then z.1 ++ [261] else z.1).take 200).length) (z.2.2 + 1)) n F (isF_ms hm hF0) hn (0 + 0) (by omega)) ?_
    refine zr_cv10 i_Frame_readSegment_51 rfl (by decide) (zrcv_of msS_o) (Nat.le_of_ble_eq_true rfl) (Nat.le_of_ble_eq_true rfl) (e_Mess_add X _ h m (if 0 < z.2.2 then z.1 ++ [261] else z.1) f (stS z.2.1 z.2.2 ((if 0 < z.2.2 then z.1 ++ [261] else z.1).take 200).length) (z.2.2 + 1) (clF F n 0)) ?_
    refine zn_iinc i_Frame_readSegment_54 rfl rfl ?_
    refine zr_goto 33 i_Frame_readSegment_57 (by decide) ?_
    refine zr_iload i_Frame_readSegment_33 rfl ?_
    refine zn_iconst 3 i_Frame_readSegment_35 (by decide) ?_
    refine zr_icmp_ge 60 i_Frame_readSegment_36 (by decide) (fun q => absurd q (by decide)) (fun _ => ?_)
    refine zr_aload_n i_Frame_readSegment_39 rfl ?_
    refine zr_aload_n i_Frame_readSegment_40 rfl ?_
    refine zr_getf i_Frame_readSegment_41 (isF_ms hm hF0).1 rfl rfl ?_
    refine zr_iload_n i_Frame_readSegment_44 rfl ?_
    refine zr_iload i_Frame_readSegment_45 rfl ?_
    refine zn_iadd i_Frame_readSegment_47 ?_
    refine zr_cv1 i_Frame_readSegment_48 rfl (by decide) (zrcv_of (isF_ms hm hF0).2.1) (Nat.le_of_ble_eq_true rfl) (Nat.le_of_ble_eq_true rfl) (e2_Chars_at X _ (msL h m ((if 0 < z.2.2 then z.1 ++ [261] else z.1) ++ [(clF F n 0)]) f (stS z.2.1 z.2.2 ((if 0 < z.2.2 then z.1 ++ [261] else z.1).take 200).length) (z.2.2 + 1)) n F (isF_ms hm hF0) hn (0 + 1) (by omega)) ?_
    refine zr_cv10 i_Frame_readSegment_51 rfl (by decide) (zrcv_of msS_o) (Nat.le_of_ble_eq_true rfl) (Nat.le_of_ble_eq_true rfl) (e_Mess_add X _ h m ((if 0 < z.2.2 then z.1 ++ [261] else z.1) ++ [(clF F n 0)]) f (stS z.2.1 z.2.2 ((if 0 < z.2.2 then z.1 ++ [261] else z.1).take 200).length) (z.2.2 + 1) (clF F n (0 + 1))) ?_
    refine zn_iinc i_Frame_readSegment_54 rfl rfl ?_
    refine zr_goto 33 i_Frame_readSegment_57 (by decide) ?_
    refine zr_iload i_Frame_readSegment_33 rfl ?_
    refine zn_iconst 3 i_Frame_readSegment_35 (by decide) ?_
    refine zr_icmp_ge 60 i_Frame_readSegment_36 (by decide) (fun q => absurd q (by decide)) (fun _ => ?_)
    refine zr_aload_n i_Frame_readSegment_39 rfl ?_
    refine zr_aload_n i_Frame_readSegment_40 rfl ?_
    refine zr_getf i_Frame_readSegment_41 (isF_ms hm hF0).1 rfl rfl ?_
    refine zr_iload_n i_Frame_readSegment_44 rfl ?_
    refine zr_iload i_Frame_readSegment_45 rfl ?_
    refine zn_iadd i_Frame_readSegment_47 ?_
    refine zr_cv1 i_Frame_readSegment_48 rfl (by decide) (zrcv_of (isF_ms hm hF0).2.1) (Nat.le_of_ble_eq_true rfl) (Nat.le_of_ble_eq_true rfl) (e2_Chars_at X _ (msL h m (((if 0 < z.2.2 then z.1 ++ [261] else z.1) ++ [(clF F n 0)]) ++ [(clF F n (0 + 1))]) f (stS z.2.1 z.2.2 ((if 0 < z.2.2 then z.1 ++ [261] else z.1).take 200).length) (z.2.2 + 1)) n F (isF_ms hm hF0) hn (0 + 2) (by omega)) ?_
    refine zr_cv10 i_Frame_readSegment_51 rfl (by decide) (zrcv_of msS_o) (Nat.le_of_ble_eq_true rfl) (Nat.le_of_ble_eq_true rfl) (e_Mess_add X _ h m (((if 0 < z.2.2 then z.1 ++ [261] else z.1) ++ [(clF F n 0)]) ++ [(clF F n (0 + 1))]) f (stS z.2.1 z.2.2 ((if 0 < z.2.2 then z.1 ++ [261] else z.1).take 200).length) (z.2.2 + 1) (clF F n (0 + 2))) ?_
    refine zn_iinc i_Frame_readSegment_54 rfl rfl ?_
    refine zr_goto 33 i_Frame_readSegment_57 (by decide) ?_
    refine zr_iload i_Frame_readSegment_33 rfl ?_
    refine zn_iconst 3 i_Frame_readSegment_35 (by decide) ?_
    refine zr_icmp_ge 60 i_Frame_readSegment_36 (by decide) (fun _ => ?_) (fun q => absurd q (by decide))
    refine zr_aload_n i_Frame_readSegment_60 rfl ?_
    refine zr_aload_n i_Frame_readSegment_61 rfl ?_
    refine zr_iload_n i_Frame_readSegment_62 rfl ?_
    refine zr_iload i_Frame_readSegment_63 rfl ?_
    refine zr_if_eq 73 i_Frame_readSegment_65 (by decide) (fun q => absurd q (by decide)) (fun _ => ?_)
    refine zn_bipush 8 i_Frame_readSegment_68 (by decide) ?_
    refine zr_goto 74 i_Frame_readSegment_70 (by decide) ?_
    refine zn_iadd i_Frame_readSegment_74 ?_
    refine zr_iload_n i_Frame_readSegment_75 rfl ?_
    refine zr_cv3 i_Frame_readSegment_76 rfl (by decide) (zrcv_of (isF_ms hm hF0).1) (Nat.le_of_ble_eq_true rfl) (Nat.le_of_ble_eq_true rfl) (hrf) ?_
    exact zR.retE i_Frame_readSegment_79 (zretB _) (by simp only [msZ, List.append_assoc, List.cons_append, List.nil_append])
  · rw [if_neg hb0]
    cases hnm : nameC F n b with
    | true =>
      rw [if_pos (Or.inr rfl)]
      have hrf := e_Frame_readFields X d h n F hF0 hn hz0 hFz m hm S hS0 f (stS z.2.1 z.2.2 ((if 0 < z.2.2 then z.1 ++ [261] else z.1).take 200).length) (z.2.2 + 1) (b + 3) e hen (by omega) (((((if 0 < z.2.2 then z.1 ++ [261] else z.1)) ++ [clF F n b]) ++ [clF F n (b + 1)]) ++ [clF F n (b + 2)])
      show zR X (d + 8) 41 0 _ [] (msL h m z.1 f z.2.1 z.2.2) _
      refine zr_iload_n i_Frame_readSegment_0 rfl ?_
      refine zN_if_ne 8 i_Frame_readSegment_1 (by decide) (by omega) (fun _ => ?_) (fun q => absurd q hb0)
      refine zn_iconst 0 i_Frame_readSegment_8 (by decide) ?_
      refine zr_istore i_Frame_readSegment_9 rfl ?_
      refine zr_iload i_Frame_readSegment_11 rfl ?_
      refine zr_if_ne 26 i_Frame_readSegment_13 (by decide) (fun q => absurd q (by decide)) (fun _ => ?_)
      refine zr_aload_n i_Frame_readSegment_16 rfl ?_
      refine zr_iload_n i_Frame_readSegment_17 rfl ?_
      refine zr_cv1 i_Frame_readSegment_18 rfl (by decide) (zrcv_of (isF_ms hm hF0).1) (Nat.le_of_ble_eq_true rfl) (Nat.le_of_ble_eq_true rfl) (hnC) ?_
      refine zB_if_ne 26 i_Frame_readSegment_21 (by decide) (fun _ => ?_) (fun q => absurd q (by rw [hnm]; decide))
      refine zr_aload_n i_Frame_readSegment_26 rfl ?_
      refine zr_cv00 i_Frame_readSegment_27 rfl (by decide) (zrcv_of msS_o) (Nat.le_of_ble_eq_true rfl) (Nat.le_of_ble_eq_true rfl) (e_Mess_startSegment X _ h m z.1 f z.2.1 z.2.2 hk) ?_
      refine zn_iconst 0 i_Frame_readSegment_30 (by decide) ?_
      refine zr_istore i_Frame_readSegment_31 rfl ?_
      refine zr_iload i_Frame_readSegment_33 rfl ?_
      refine zn_iconst 3 i_Frame_readSegment_35 (by decide) ?_
      refine zr_icmp_ge 60 i_Frame_readSegment_36 (by decide) (fun q => absurd q (by decide)) (fun _ => ?_)
      refine zr_aload_n i_Frame_readSegment_39 rfl ?_
      refine zr_aload_n i_Frame_readSegment_40 rfl ?_
      refine zr_getf i_Frame_readSegment_41 (isF_ms hm hF0).1 rfl rfl ?_
      refine zr_iload_n i_Frame_readSegment_44 rfl ?_
      refine zr_iload i_Frame_readSegment_45 rfl ?_
      refine zn_iadd i_Frame_readSegment_47 ?_
      refine zr_cv1 i_Frame_readSegment_48 rfl (by decide) (zrcv_of (isF_ms hm hF0).2.1) (Nat.le_of_ble_eq_true rfl) (Nat.le_of_ble_eq_true rfl) (e2_Chars_at X _ (msL h m (if 0 < z.2.2 then z.1 ++ [261] else z.1) f (stS z.2.1 z.2.2 ((if 0 < z.2.2 then z.1 ++ [261] else z.1).take 200).length) (z.2.2 + 1)) n F (isF_ms hm hF0) hn (b + 0) (by omega)) ?_
      refine zr_cv10 i_Frame_readSegment_51 rfl (by decide) (zrcv_of msS_o) (Nat.le_of_ble_eq_true rfl) (Nat.le_of_ble_eq_true rfl) (e_Mess_add X _ h m (if 0 < z.2.2 then z.1 ++ [261] else z.1) f (stS z.2.1 z.2.2 ((if 0 < z.2.2 then z.1 ++ [261] else z.1).take 200).length) (z.2.2 + 1) (clF F n b)) ?_
      refine zn_iinc i_Frame_readSegment_54 rfl rfl ?_
      refine zr_goto 33 i_Frame_readSegment_57 (by decide) ?_
      refine zr_iload i_Frame_readSegment_33 rfl ?_
      refine zn_iconst 3 i_Frame_readSegment_35 (by decide) ?_
      refine zr_icmp_ge 60 i_Frame_readSegment_36 (by decide) (fun q => absurd q (by decide)) (fun _ => ?_)
      refine zr_aload_n i_Frame_readSegment_39 rfl ?_
      refine zr_aload_n i_Frame_readSegment_40 rfl ?_
      refine zr_getf i_Frame_readSegment_41 (isF_ms hm hF0).1 rfl rfl ?_
      refine zr_iload_n i_Frame_readSegment_44 rfl ?_
      refine zr_iload i_Frame_readSegment_45 rfl ?_
      refine zn_iadd i_Frame_readSegment_47 ?_
      refine zr_cv1 i_Frame_readSegment_48 rfl (by decide) (zrcv_of (isF_ms hm hF0).2.1) (Nat.le_of_ble_eq_true rfl) (Nat.le_of_ble_eq_true rfl) (e2_Chars_at X _ (msL h m ((if 0 < z.2.2 then z.1 ++ [261] else z.1) ++ [(clF F n b)]) f (stS z.2.1 z.2.2 ((if 0 < z.2.2 then z.1 ++ [261] else z.1).take 200).length) (z.2.2 + 1)) n F (isF_ms hm hF0) hn (b + 1) (by omega)) ?_
      refine zr_cv10 i_Frame_readSegment_51 rfl (by decide) (zrcv_of msS_o) (Nat.le_of_ble_eq_true rfl) (Nat.le_of_ble_eq_true rfl) (e_Mess_add X _ h m ((if 0 < z.2.2 then z.1 ++ [261] else z.1) ++ [(clF F n b)]) f (stS z.2.1 z.2.2 ((if 0 < z.2.2 then z.1 ++ [261] else z.1).take 200).length) (z.2.2 + 1) (clF F n (b + 1))) ?_
      refine zn_iinc i_Frame_readSegment_54 rfl rfl ?_
      refine zr_goto 33 i_Frame_readSegment_57 (by decide) ?_
      refine zr_iload i_Frame_readSegment_33 rfl ?_
      refine zn_iconst 3 i_Frame_readSegment_35 (by decide) ?_
      refine zr_icmp_ge 60 i_Frame_readSegment_36 (by decide) (fun q => absurd q (by decide)) (fun _ => ?_)
      refine zr_aload_n i_Frame_readSegment_39 rfl ?_
      refine zr_aload_n i_Frame_readSegment_40 rfl ?_
      refine zr_getf i_Frame_readSegment_41 (isF_ms hm hF0).1 rfl rfl ?_
      refine zr_iload_n i_Frame_readSegment_44 rfl ?_
      refine zr_iload i_Frame_readSegment_45 rfl ?_
      refine zn_iadd i_Frame_readSegment_47 ?_
      refine zr_cv1 i_Frame_readSegment_48 rfl (by decide) (zrcv_of (isF_ms hm hF0).2.1) (Nat.le_of_ble_eq_true rfl) (Nat.le_of_ble_eq_true rfl) (e2_Chars_at X _ (msL h m (((if 0 < z.2.2 then z.1 ++ [261] else z.1) ++ [(clF F n b)]) ++ [(clF F n (b + 1))]) f (stS z.2.1 z.2.2 ((if 0 < z.2.2 then z.1 ++ [261] else z.1).take 200).length) (z.2.2 + 1)) n F (isF_ms hm hF0) hn (b + 2) (by omega)) ?_
      refine zr_cv10 i_Frame_readSegment_51 rfl (by decide) (zrcv_of msS_o) (Nat.le_of_ble_eq_true rfl) (Nat.le_of_ble_eq_true rfl) (e_Mess_add X _ h m (((if 0 < z.2.2 then z.1 ++ [261] else z.1) ++ [(clF F n b)]) ++ [(clF F n (b + 1))]) f (stS z.2.1 z.2.2 ((if 0 < z.2.2 then z.1 ++ [261] else z.1).take 200).length) (z.2.2 + 1) (clF F n (b + 2))) ?_
      refine zn_iinc i_Frame_readSegment_54 rfl rfl ?_
      refine zr_goto 33 i_Frame_readSegment_57 (by decide) ?_
      refine zr_iload i_Frame_readSegment_33 rfl ?_
      refine zn_iconst 3 i_Frame_readSegment_35 (by decide) ?_
      refine zr_icmp_ge 60 i_Frame_readSegment_36 (by decide) (fun _ => ?_) (fun q => absurd q (by decide))
      refine zr_aload_n i_Frame_readSegment_60 rfl ?_
      refine zr_aload_n i_Frame_readSegment_61 rfl ?_
      refine zr_iload_n i_Frame_readSegment_62 rfl ?_
      refine zr_iload i_Frame_readSegment_63 rfl ?_
      refine zr_if_eq 73 i_Frame_readSegment_65 (by decide) (fun _ => ?_) (fun q => absurd q (by decide))
      refine zn_iconst 3 i_Frame_readSegment_73 (by decide) ?_
      refine zn_iadd i_Frame_readSegment_74 ?_
      refine zr_iload_n i_Frame_readSegment_75 rfl ?_
      refine zr_cv3 i_Frame_readSegment_76 rfl (by decide) (zrcv_of (isF_ms hm hF0).1) (Nat.le_of_ble_eq_true rfl) (Nat.le_of_ble_eq_true rfl) (hrf) ?_
      exact zR.retE i_Frame_readSegment_79 (zretB _) (by simp only [msZ, List.append_assoc, List.cons_append, List.nil_append])
    | false =>
      rw [if_neg (fun z => z.elim hb0 (by decide))]
      refine zr_iload_n i_Frame_readSegment_0 rfl ?_
      refine zN_if_ne 8 i_Frame_readSegment_1 (by decide) (by omega) (fun _ => ?_) (fun q => absurd q hb0)
      refine zn_iconst 0 i_Frame_readSegment_8 (by decide) ?_
      refine zr_istore i_Frame_readSegment_9 rfl ?_
      refine zr_iload i_Frame_readSegment_11 rfl ?_
      refine zr_if_ne 26 i_Frame_readSegment_13 (by decide) (fun q => absurd q (by decide)) (fun _ => ?_)
      refine zr_aload_n i_Frame_readSegment_16 rfl ?_
      refine zr_iload_n i_Frame_readSegment_17 rfl ?_
      refine zr_cv1 i_Frame_readSegment_18 rfl (by decide) (zrcv_of hF.1) (Nat.le_of_ble_eq_true rfl) (Nat.le_of_ble_eq_true rfl) (hnC) ?_
      refine zB_if_ne 26 i_Frame_readSegment_21 (by decide) (fun q => absurd q (by rw [hnm]; decide)) (fun _ => ?_)
      refine zr_iconst i_Frame_readSegment_24 (v := 0) (by decide) ?_
      exact zR.retE i_Frame_readSegment_25 rfl rfl
theorem i_Frame_readSegments_0 : zins 40 0 = some (.iconst 0) := by decide +kernel
theorem i_Frame_readSegments_1 : zins 40 1 = some (.istore_n 2) := by decide +kernel
theorem i_Frame_readSegments_2 : zins 40 2 = some (.iconst 0) := by decide +kernel
theorem i_Frame_readSegments_3 : zins 40 3 = some (.istore_n 3) := by decide +kernel
theorem i_Frame_readSegments_4 : zins 40 4 = some (.iload_n 3) := by decide +kernel
theorem i_Frame_readSegments_5 : zins 40 5 = some (.aload_n 0) := by decide +kernel
theorem i_Frame_readSegments_6 : zins 40 6 = some (.getfield 14) := by decide +kernel
theorem i_Frame_readSegments_9 : zins 40 9 = some (.getfield 61) := by decide +kernel
theorem i_Frame_readSegments_12 : zins 40 12 = some (.if_icmp .ge 38) := by decide +kernel
theorem i_Frame_readSegments_15 : zins 40 15 = some (.aload_n 0) := by decide +kernel
theorem i_Frame_readSegments_16 : zins 40 16 = some (.getfield 14) := by decide +kernel
theorem i_Frame_readSegments_19 : zins 40 19 = some (.iload_n 3) := by decide +kernel
theorem i_Frame_readSegments_20 : zins 40 20 = some (.invokevirtual 35) := by decide +kernel
theorem i_Frame_readSegments_23 : zins 40 23 = some (.bipush 13) := by decide +kernel
theorem i_Frame_readSegments_25 : zins 40 25 = some (.if_icmp .ne 19) := by decide +kernel
theorem i_Frame_readSegments_28 : zins 40 28 = some (.aload_n 0) := by decide +kernel
theorem i_Frame_readSegments_29 : zins 40 29 = some (.aload_n 1) := by decide +kernel
theorem i_Frame_readSegments_30 : zins 40 30 = some (.iload_n 2) := by decide +kernel
theorem i_Frame_readSegments_31 : zins 40 31 = some (.iload_n 3) := by decide +kernel
theorem i_Frame_readSegments_32 : zins 40 32 = some (.invokevirtual 64) := by decide +kernel
theorem i_Frame_readSegments_35 : zins 40 35 = some (.ifCond .ne 5) := by decide +kernel
theorem i_Frame_readSegments_38 : zins 40 38 = some (.iconst 0) := by decide +kernel
theorem i_Frame_readSegments_39 : zins 40 39 = some (.ireturn) := by decide +kernel
theorem i_Frame_readSegments_40 : zins 40 40 = some (.iload_n 3) := by decide +kernel
theorem i_Frame_readSegments_41 : zins 40 41 = some (.iconst 1) := by decide +kernel
theorem i_Frame_readSegments_42 : zins 40 42 = some (.iadd) := by decide +kernel
theorem i_Frame_readSegments_43 : zins 40 43 = some (.istore_n 2) := by decide +kernel
theorem i_Frame_readSegments_44 : zins 40 44 = some (.iinc 3 1) := by decide +kernel
theorem i_Frame_readSegments_47 : zins 40 47 = some (.goto (-43)) := by decide +kernel
theorem i_Frame_readSegments_50 : zins 40 50 = some (.iload_n 2) := by decide +kernel
theorem i_Frame_readSegments_51 : zins 40 51 = some (.aload_n 0) := by decide +kernel
theorem i_Frame_readSegments_52 : zins 40 52 = some (.getfield 14) := by decide +kernel
theorem i_Frame_readSegments_55 : zins 40 55 = some (.getfield 61) := by decide +kernel
theorem i_Frame_readSegments_58 : zins 40 58 = some (.if_icmp .eq 19) := by decide +kernel
theorem i_Frame_readSegments_61 : zins 40 61 = some (.aload_n 0) := by decide +kernel
theorem i_Frame_readSegments_62 : zins 40 62 = some (.aload_n 1) := by decide +kernel
theorem i_Frame_readSegments_63 : zins 40 63 = some (.iload_n 2) := by decide +kernel
theorem i_Frame_readSegments_64 : zins 40 64 = some (.aload_n 0) := by decide +kernel
theorem i_Frame_readSegments_65 : zins 40 65 = some (.getfield 14) := by decide +kernel
theorem i_Frame_readSegments_68 : zins 40 68 = some (.getfield 61) := by decide +kernel
theorem i_Frame_readSegments_71 : zins 40 71 = some (.invokevirtual 64) := by decide +kernel
theorem i_Frame_readSegments_74 : zins 40 74 = some (.ifCond .eq 7) := by decide +kernel
theorem i_Frame_readSegments_77 : zins 40 77 = some (.iconst 1) := by decide +kernel
theorem i_Frame_readSegments_78 : zins 40 78 = some (.goto 4) := by decide +kernel
theorem i_Frame_readSegments_81 : zins 40 81 = some (.iconst 0) := by decide +kernel
theorem i_Frame_readSegments_82 : zins 40 82 = some (.ireturn) := by decide +kernel
theorem rdS_k (F : Nat → Int32) (n : Nat) (S : Nat → Int32) (z : zSt) (b e : Nat) : (rdS F n S z b e).1.2.2 ≤ z.2.2 + 1 := by
  unfold rdS
  split
  · exact Nat.le_refl _
  · exact Nat.le_succ _
theorem l_Frame_readSegments (X : zX) (d : Nat) (h : zH) (n : Nat) (F : Nat → Int32) (hF0 : isF h n F) (hn : n ≤ 200) (hz0 : zlow h) (hFz : ∀ i, i < n → ¬ F i = -1) (m : Nat) (hm : 110 ≤ m) (S : Nat → Int32) (hS0 : isSp h (m + 1) S) (f : Nat → Int32) : ∀ (q a b : Nat) (z : zSt), a + q = n → b ≤ a → z.2.2 ≤ a → zR X (d + 9) 40 4 [some (.ref 101), some (.ref m), some (.int (nI b)), some (.int (nI a))] [] (msZ h m f z) (some (.int (zb (rdA F n S q a b z).2)), msZ h m f (rdA F n S q a b z).1) := by
  intro q
  induction q with
  | zero =>
    intro a b z haq hba hk
    have hF : isF (msZ h m f z) n F := isF_ms hm hF0
    rw [rdA]
    by_cases hbn : b = n
    · rw [if_pos hbn]
      refine zr_iload_n i_Frame_readSegments_4 rfl ?_
      refine zr_aload_n i_Frame_readSegments_5 rfl ?_
      refine zr_getf i_Frame_readSegments_6 hF.1 rfl rfl ?_
      refine zr_getf i_Frame_readSegments_9 hF.2.1 rfl rfl ?_
      refine zn_icmp_ge 50 i_Frame_readSegments_12 (by decide) (by omega) (by omega) (fun c_12 => ?_) (fun q => absurd q (by omega))
      refine zr_iload_n i_Frame_readSegments_50 rfl ?_
      refine zr_aload_n i_Frame_readSegments_51 rfl ?_
      refine zr_getf i_Frame_readSegments_52 hF.1 rfl rfl ?_
      refine zr_getf i_Frame_readSegments_55 hF.2.1 rfl rfl ?_
      refine zn_icmp_eq 77 i_Frame_readSegments_58 (by decide) (by omega) (by omega) (fun c_58 => ?_) (fun q => absurd q (by omega))
      refine zr_iconst i_Frame_readSegments_77 (v := 1) (by decide) ?_
      refine zr_goto 82 i_Frame_readSegments_78 (by decide) ?_
      exact zR.retE i_Frame_readSegments_82 rfl rfl
    · rw [if_neg hbn]
      have hrs := e_Frame_readSegment X d h n F hF0 hn hz0 hFz m hm S hS0 f z (by omega) b n (Nat.le_refl _) (by omega)
      cases hr : (rdS F n S z b n).2 with
      | true =>
        rw [hr] at hrs
        refine zr_iload_n i_Frame_readSegments_4 rfl ?_
        refine zr_aload_n i_Frame_readSegments_5 rfl ?_
        refine zr_getf i_Frame_readSegments_6 hF.1 rfl rfl ?_
        refine zr_getf i_Frame_readSegments_9 hF.2.1 rfl rfl ?_
        refine zn_icmp_ge 50 i_Frame_readSegments_12 (by decide) (by omega) (by omega) (fun c_12 => ?_) (fun q => absurd q (by omega))
        refine zr_iload_n i_Frame_readSegments_50 rfl ?_
        refine zr_aload_n i_Frame_readSegments_51 rfl ?_
        refine zr_getf i_Frame_readSegments_52 hF.1 rfl rfl ?_
        refine zr_getf i_Frame_readSegments_55 hF.2.1 rfl rfl ?_
        refine zn_icmp_eq 77 i_Frame_readSegments_58 (by decide) (by omega) (by omega) (fun q => absurd q (by omega)) (fun c_58 => ?_)
        refine zr_aload_n i_Frame_readSegments_61 rfl ?_
        refine zr_aload_n i_Frame_readSegments_62 rfl ?_
        refine zr_iload_n i_Frame_readSegments_63 rfl ?_
        refine zr_aload_n i_Frame_readSegments_64 rfl ?_
        refine zr_getf i_Frame_readSegments_65 hF.1 rfl rfl ?_
        refine zr_getf i_Frame_readSegments_68 hF.2.1 rfl rfl ?_
        refine zr_cv3 i_Frame_readSegments_71 rfl (by decide) (zrcv_of hF.1) (Nat.le_of_ble_eq_true rfl) (Nat.le_of_ble_eq_true rfl) (hrs) ?_
        refine zB_if_eq 81 i_Frame_readSegments_74 (by decide) (fun q => absurd q (by decide)) (fun _ => ?_)
        refine zr_iconst i_Frame_readSegments_77 (v := 1) (by decide) ?_
        refine zr_goto 82 i_Frame_readSegments_78 (by decide) ?_
        exact zR.retE i_Frame_readSegments_82 rfl rfl
      | false =>
        rw [hr] at hrs
        refine zr_iload_n i_Frame_readSegments_4 rfl ?_
        refine zr_aload_n i_Frame_readSegments_5 rfl ?_
        refine zr_getf i_Frame_readSegments_6 hF.1 rfl rfl ?_
        refine zr_getf i_Frame_readSegments_9 hF.2.1 rfl rfl ?_
        refine zn_icmp_ge 50 i_Frame_readSegments_12 (by decide) (by omega) (by omega) (fun c_12 => ?_) (fun q => absurd q (by omega))
        refine zr_iload_n i_Frame_readSegments_50 rfl ?_
        refine zr_aload_n i_Frame_readSegments_51 rfl ?_
        refine zr_getf i_Frame_readSegments_52 hF.1 rfl rfl ?_
        refine zr_getf i_Frame_readSegments_55 hF.2.1 rfl rfl ?_
        refine zn_icmp_eq 77 i_Frame_readSegments_58 (by decide) (by omega) (by omega) (fun q => absurd q (by omega)) (fun c_58 => ?_)
        refine zr_aload_n i_Frame_readSegments_61 rfl ?_
        refine zr_aload_n i_Frame_readSegments_62 rfl ?_
        refine zr_iload_n i_Frame_readSegments_63 rfl ?_
        refine zr_aload_n i_Frame_readSegments_64 rfl ?_
        refine zr_getf i_Frame_readSegments_65 hF.1 rfl rfl ?_
        refine zr_getf i_Frame_readSegments_68 hF.2.1 rfl rfl ?_
        refine zr_cv3 i_Frame_readSegments_71 rfl (by decide) (zrcv_of hF.1) (Nat.le_of_ble_eq_true rfl) (Nat.le_of_ble_eq_true rfl) (hrs) ?_
        refine zB_if_eq 81 i_Frame_readSegments_74 (by decide) (fun _ => ?_) (fun q => absurd q (by decide))
        refine zr_iconst i_Frame_readSegments_81 (v := 0) (by decide) ?_
        exact zR.retE i_Frame_readSegments_82 rfl rfl
  | succ q ih =>
    intro a b z haq hba hk
    have hF : isF (msZ h m f z) n F := isF_ms hm hF0
    have hcl : clF F n a = F a := if_pos (by omega)
    rw [rdA]
    by_cases h13 : F a = 13
    · rw [if_pos h13]
      have hrs := e_Frame_readSegment X d h n F hF0 hn hz0 hFz m hm S hS0 f z (by omega) b a (by omega) (by omega)
      have hk2 := rdS_k F n S z b a
      cases hr : (rdS F n S z b a).2 with
      | true =>
        rw [hr] at hrs
        rw [if_pos rfl]
        refine zr_iload_n i_Frame_readSegments_4 rfl ?_
        refine zr_aload_n i_Frame_readSegments_5 rfl ?_
        refine zr_getf i_Frame_readSegments_6 hF.1 rfl rfl ?_
        refine zr_getf i_Frame_readSegments_9 hF.2.1 rfl rfl ?_
        refine zn_icmp_ge 50 i_Frame_readSegments_12 (by decide) (by omega) (by omega) (fun q => absurd q (by omega)) (fun c_12 => ?_)
        refine zr_aload_n i_Frame_readSegments_15 rfl ?_
        refine zr_getf i_Frame_readSegments_16 hF.1 rfl rfl ?_
        refine zr_iload_n i_Frame_readSegments_19 rfl ?_
        refine zr_cv1 i_Frame_readSegments_20 rfl (by decide) (zrcv_of hF.2.1) (Nat.le_of_ble_eq_true rfl) (Nat.le_of_ble_eq_true rfl) (e2_Chars_at X _ (msZ h m f z) n F hF hn a (by omega)) ?_
        refine zr_top (y := F a) hcl ?_
        refine zr_bipush i_Frame_readSegments_23 (v := 13) (by decide) ?_
        refine zr_icmp_ne 44 i_Frame_readSegments_25 (by decide) (fun q => absurd h13 q) (fun c_25 => ?_)
        refine zr_aload_n i_Frame_readSegments_28 rfl ?_
        refine zr_aload_n i_Frame_readSegments_29 rfl ?_
        refine zr_iload_n i_Frame_readSegments_30 rfl ?_
        refine zr_iload_n i_Frame_readSegments_31 rfl ?_
        refine zr_cv3 i_Frame_readSegments_32 rfl (by decide) (zrcv_of hF.1) (Nat.le_of_ble_eq_true rfl) (Nat.le_of_ble_eq_true rfl) (hrs) ?_
        refine zB_if_ne 40 i_Frame_readSegments_35 (by decide) (fun _ => ?_) (fun q => absurd q (by decide))
        refine zr_iload_n i_Frame_readSegments_40 rfl ?_
        refine zn_iconst 1 i_Frame_readSegments_41 (by decide) ?_
        refine zn_iadd i_Frame_readSegments_42 ?_
        refine zr_istore_n i_Frame_readSegments_43 rfl ?_
        refine zn_iinc i_Frame_readSegments_44 rfl rfl ?_
        refine zr_goto 4 i_Frame_readSegments_47 (by decide) ?_
        exact ih (a + 1) (a + 1) _ (by omega) (by omega) (by omega)
      | false =>
        rw [hr] at hrs
        rw [if_neg (by decide)]
        refine zr_iload_n i_Frame_readSegments_4 rfl ?_
        refine zr_aload_n i_Frame_readSegments_5 rfl ?_
        refine zr_getf i_Frame_readSegments_6 hF.1 rfl rfl ?_
        refine zr_getf i_Frame_readSegments_9 hF.2.1 rfl rfl ?_
        refine zn_icmp_ge 50 i_Frame_readSegments_12 (by decide) (by omega) (by omega) (fun q => absurd q (by omega)) (fun c_12 => ?_)
        refine zr_aload_n i_Frame_readSegments_15 rfl ?_
        refine zr_getf i_Frame_readSegments_16 hF.1 rfl rfl ?_
        refine zr_iload_n i_Frame_readSegments_19 rfl ?_
        refine zr_cv1 i_Frame_readSegments_20 rfl (by decide) (zrcv_of hF.2.1) (Nat.le_of_ble_eq_true rfl) (Nat.le_of_ble_eq_true rfl) (e2_Chars_at X _ (msZ h m f z) n F hF hn a (by omega)) ?_
        refine zr_top (y := F a) hcl ?_
        refine zr_bipush i_Frame_readSegments_23 (v := 13) (by decide) ?_
        refine zr_icmp_ne 44 i_Frame_readSegments_25 (by decide) (fun q => absurd h13 q) (fun c_25 => ?_)
        refine zr_aload_n i_Frame_readSegments_28 rfl ?_
        refine zr_aload_n i_Frame_readSegments_29 rfl ?_
        refine zr_iload_n i_Frame_readSegments_30 rfl ?_
        refine zr_iload_n i_Frame_readSegments_31 rfl ?_
        refine zr_cv3 i_Frame_readSegments_32 rfl (by decide) (zrcv_of hF.1) (Nat.le_of_ble_eq_true rfl) (Nat.le_of_ble_eq_true rfl) (hrs) ?_
        refine zB_if_ne 40 i_Frame_readSegments_35 (by decide) (fun q => absurd q (by decide)) (fun _ => ?_)
        refine zr_iconst i_Frame_readSegments_38 (v := 0) (by decide) ?_
        exact zR.retE i_Frame_readSegments_39 rfl rfl
    · rw [if_neg h13]
      refine zr_iload_n i_Frame_readSegments_4 rfl ?_
      refine zr_aload_n i_Frame_readSegments_5 rfl ?_
      refine zr_getf i_Frame_readSegments_6 hF.1 rfl rfl ?_
      refine zr_getf i_Frame_readSegments_9 hF.2.1 rfl rfl ?_
      refine zn_icmp_ge 50 i_Frame_readSegments_12 (by decide) (by omega) (by omega) (fun q => absurd q (by omega)) (fun c_12 => ?_)
      refine zr_aload_n i_Frame_readSegments_15 rfl ?_
      refine zr_getf i_Frame_readSegments_16 hF.1 rfl rfl ?_
      refine zr_iload_n i_Frame_readSegments_19 rfl ?_
      refine zr_cv1 i_Frame_readSegments_20 rfl (by decide) (zrcv_of hF.2.1) (Nat.le_of_ble_eq_true rfl) (Nat.le_of_ble_eq_true rfl) (e2_Chars_at X _ (msZ h m f z) n F hF hn a (by omega)) ?_
      refine zr_top (y := F a) hcl ?_
      refine zr_bipush i_Frame_readSegments_23 (v := 13) (by decide) ?_
      refine zr_icmp_ne 44 i_Frame_readSegments_25 (by decide) (fun c_25 => ?_) (fun q => absurd q h13)
      refine zn_iinc i_Frame_readSegments_44 rfl rfl ?_
      refine zr_goto 4 i_Frame_readSegments_47 (by decide) ?_
      exact ih (a + 1) b z (by omega) (by omega) (by omega)
theorem e_Frame_readSegments (X : zX) (d : Nat) (h : zH) (n : Nat) (F : Nat → Int32) (hF0 : isF h n F) (hn : n ≤ 200) (hz0 : zlow h) (hFz : ∀ i, i < n → ¬ F i = -1) (m : Nat) (hm : 110 ≤ m) (S : Nat → Int32) (hS0 : isSp h (m + 1) S) (f : Nat → Int32) (z : zSt) (hk : z.2.2 = 0) : zR X (d + 9) 40 0 (zent 4 [.ref 101, .ref m]) [] (msZ h m f z) (some (.int (zb (rdA F n S n 0 0 z).2)), msZ h m f (rdA F n S n 0 0 z).1) := by
  refine zn_iconst 0 i_Frame_readSegments_0 (by decide) ?_
  refine zr_istore_n i_Frame_readSegments_1 rfl ?_
  refine zn_iconst 0 i_Frame_readSegments_2 (by decide) ?_
  refine zr_istore_n i_Frame_readSegments_3 rfl ?_
  exact l_Frame_readSegments X d h n F hF0 hn hz0 hFz m hm S hS0 f n 0 0 z (by omega) (by omega) (by omega)
