/-! THE CLASS: finding a text -/
def fdL (f : Nat → Int32) (F R C : Int32) (p m a b c : Nat) : Option Nat := match m with
  | 0 => if nI a = F ∧ nI b = R ∧ nI c = C then some p else none
  | m + 1 => if nI a = F ∧ nI b = R ∧ nI c = C then some p else if f p = 261 then none else if f p = 256 then fdL f F R C (p + 1) m (a + 1) 1 1 else if f p = 258 then fdL f F R C (p + 1) m a (b + 1) 1 else if f p = 257 then fdL f F R C (p + 1) m a b (c + 1) else fdL f F R C (p + 1) m a b c
theorem fdL_le {f : Nat → Int32} {F R C : Int32} : ∀ {m p a b c q : Nat}, fdL f F R C p m a b c = some q → p ≤ q ∧ q ≤ p + m := by
  intro m
  induction m with
  | zero =>
    intro p a b c q h
    rw [fdL] at h
    split at h
    · cases h; omega
    · cases h
  | succ m ih =>
    intro p a b c q h
    rw [fdL] at h
    split at h
    · cases h; omega
    · split at h
      · cases h
      · split at h
        · have := ih h; omega
        · split at h
          · have := ih h; omega
          · split at h
            · have := ih h; omega
            · have := ih h; omega
def nxL (f : Nat → Int32) (p m : Nat) : Option Nat := match m with
  | 0 => none
  | m + 1 => if f p = 258 then some (p + 1) else if f p = 256 then none else if f p = 261 then none else nxL f (p + 1) m
theorem nxL_le {f : Nat → Int32} : ∀ {m p q : Nat}, nxL f p m = some q → p < q ∧ q ≤ p + m := by
  intro m
  induction m with
  | zero => intro p q h; cases h
  | succ m ih =>
    intro p q h
    rw [nxL] at h
    split at h
    · cases h; omega
    · split at h
      · cases h
      · split at h
        · cases h
        · have := ih h; omega
def codeT (t : zT) : Int32 := if tl t = 2 then codeQ (tc t 0) (tc t 1) else -1
def idPL (t : zT) (i m : Nat) (v : Int64) : Int64 := match m with
  | 0 => v
  | m + 1 => if vlod (tc t i) = true then idPL t (i + 1) m (128 * v + (tc t i).toInt64) else 0
def idP (t : zT) : Int64 := if 6 < tl t then 0 else idPL t 0 (tl t) 0
theorem i_Mess_find_0 : zins 78 0 = some (.iload_n 1) := by decide +kernel
theorem i_Mess_find_1 : zins 78 1 = some (.iconst 1) := by decide +kernel
theorem i_Mess_find_2 : zins 78 2 = some (.if_icmp .lt 17) := by decide +kernel
theorem i_Mess_find_5 : zins 78 5 = some (.iload_n 1) := by decide +kernel
theorem i_Mess_find_6 : zins 78 6 = some (.aload_n 0) := by decide +kernel
theorem i_Mess_find_7 : zins 78 7 = some (.getfield 29) := by decide +kernel
theorem i_Mess_find_10 : zins 78 10 = some (.if_icmp .gt 9) := by decide +kernel
theorem i_Mess_find_13 : zins 78 13 = some (.iload_n 1) := by decide +kernel
theorem i_Mess_find_14 : zins 78 14 = some (.bipush 8) := by decide +kernel
theorem i_Mess_find_16 : zins 78 16 = some (.if_icmp .le 5) := by decide +kernel
theorem i_Mess_find_19 : zins 78 19 = some (.iconst (-1)) := by decide +kernel
theorem i_Mess_find_20 : zins 78 20 = some (.ireturn) := by decide +kernel
theorem i_Mess_find_21 : zins 78 21 = some (.iconst 0) := by decide +kernel
theorem i_Mess_find_22 : zins 78 22 = some (.istore 5) := by decide +kernel
theorem i_Mess_find_24 : zins 78 24 = some (.iconst 1) := by decide +kernel
theorem i_Mess_find_25 : zins 78 25 = some (.istore 6) := by decide +kernel
theorem i_Mess_find_27 : zins 78 27 = some (.iconst 1) := by decide +kernel
theorem i_Mess_find_28 : zins 78 28 = some (.istore 7) := by decide +kernel
theorem i_Mess_find_30 : zins 78 30 = some (.aload_n 0) := by decide +kernel
theorem i_Mess_find_31 : zins 78 31 = some (.getfield 22) := by decide +kernel
theorem i_Mess_find_34 : zins 78 34 = some (.iload_n 1) := by decide +kernel
theorem i_Mess_find_35 : zins 78 35 = some (.iconst 1) := by decide +kernel
theorem i_Mess_find_36 : zins 78 36 = some (.isub) := by decide +kernel
theorem i_Mess_find_37 : zins 78 37 = some (.iaload) := by decide +kernel
theorem i_Mess_find_38 : zins 78 38 = some (.istore 8) := by decide +kernel
theorem i_Mess_find_40 : zins 78 40 = some (.iload 8) := by decide +kernel
theorem i_Mess_find_42 : zins 78 42 = some (.aload_n 0) := by decide +kernel
theorem i_Mess_find_43 : zins 78 43 = some (.getfield 25) := by decide +kernel
theorem i_Mess_find_46 : zins 78 46 = some (.if_icmp .gt 113) := by decide +kernel
theorem i_Mess_find_49 : zins 78 49 = some (.iload 5) := by decide +kernel
theorem i_Mess_find_51 : zins 78 51 = some (.iload_n 2) := by decide +kernel
theorem i_Mess_find_52 : zins 78 52 = some (.if_icmp .ne 19) := by decide +kernel
theorem i_Mess_find_55 : zins 78 55 = some (.iload 6) := by decide +kernel
theorem i_Mess_find_57 : zins 78 57 = some (.iload_n 3) := by decide +kernel
theorem i_Mess_find_58 : zins 78 58 = some (.if_icmp .ne 13) := by decide +kernel
theorem i_Mess_find_61 : zins 78 61 = some (.iload 7) := by decide +kernel
theorem i_Mess_find_63 : zins 78 63 = some (.iload 4) := by decide +kernel
theorem i_Mess_find_65 : zins 78 65 = some (.if_icmp .ne 6) := by decide +kernel
theorem i_Mess_find_68 : zins 78 68 = some (.iload 8) := by decide +kernel
theorem i_Mess_find_70 : zins 78 70 = some (.ireturn) := by decide +kernel
theorem i_Mess_find_71 : zins 78 71 = some (.iload 8) := by decide +kernel
theorem i_Mess_find_73 : zins 78 73 = some (.aload_n 0) := by decide +kernel
theorem i_Mess_find_74 : zins 78 74 = some (.getfield 25) := by decide +kernel
theorem i_Mess_find_77 : zins 78 77 = some (.if_icmp .ge 13) := by decide +kernel
theorem i_Mess_find_80 : zins 78 80 = some (.aload_n 0) := by decide +kernel
theorem i_Mess_find_81 : zins 78 81 = some (.getfield 18) := by decide +kernel
theorem i_Mess_find_84 : zins 78 84 = some (.iload 8) := by decide +kernel
theorem i_Mess_find_86 : zins 78 86 = some (.iaload) := by decide +kernel
theorem i_Mess_find_87 : zins 78 87 = some (.goto 6) := by decide +kernel
theorem i_Mess_find_90 : zins 78 90 = some (.sipush 261) := by decide +kernel
theorem i_Mess_find_93 : zins 78 93 = some (.istore 9) := by decide +kernel
theorem i_Mess_find_95 : zins 78 95 = some (.iload 9) := by decide +kernel
theorem i_Mess_find_97 : zins 78 97 = some (.sipush 261) := by decide +kernel
theorem i_Mess_find_100 : zins 78 100 = some (.if_icmp .ne 5) := by decide +kernel
theorem i_Mess_find_103 : zins 78 103 = some (.iconst (-1)) := by decide +kernel
theorem i_Mess_find_104 : zins 78 104 = some (.ireturn) := by decide +kernel
theorem i_Mess_find_105 : zins 78 105 = some (.iload 9) := by decide +kernel
theorem i_Mess_find_107 : zins 78 107 = some (.sipush 256) := by decide +kernel
theorem i_Mess_find_110 : zins 78 110 = some (.if_icmp .ne 15) := by decide +kernel
theorem i_Mess_find_113 : zins 78 113 = some (.iinc 5 1) := by decide +kernel
theorem i_Mess_find_116 : zins 78 116 = some (.iconst 1) := by decide +kernel
theorem i_Mess_find_117 : zins 78 117 = some (.istore 6) := by decide +kernel
theorem i_Mess_find_119 : zins 78 119 = some (.iconst 1) := by decide +kernel
theorem i_Mess_find_120 : zins 78 120 = some (.istore 7) := by decide +kernel
theorem i_Mess_find_122 : zins 78 122 = some (.goto 31) := by decide +kernel
theorem i_Mess_find_125 : zins 78 125 = some (.iload 9) := by decide +kernel
theorem i_Mess_find_127 : zins 78 127 = some (.sipush 258) := by decide +kernel
theorem i_Mess_find_130 : zins 78 130 = some (.if_icmp .ne 12) := by decide +kernel
theorem i_Mess_find_133 : zins 78 133 = some (.iinc 6 1) := by decide +kernel
theorem i_Mess_find_136 : zins 78 136 = some (.iconst 1) := by decide +kernel
theorem i_Mess_find_137 : zins 78 137 = some (.istore 7) := by decide +kernel
theorem i_Mess_find_139 : zins 78 139 = some (.goto 14) := by decide +kernel
theorem i_Mess_find_142 : zins 78 142 = some (.iload 9) := by decide +kernel
theorem i_Mess_find_144 : zins 78 144 = some (.sipush 257) := by decide +kernel
theorem i_Mess_find_147 : zins 78 147 = some (.if_icmp .ne 6) := by decide +kernel
theorem i_Mess_find_150 : zins 78 150 = some (.iinc 7 1) := by decide +kernel
theorem i_Mess_find_153 : zins 78 153 = some (.iinc 8 1) := by decide +kernel
theorem i_Mess_find_156 : zins 78 156 = some (.goto (-116)) := by decide +kernel
theorem i_Mess_find_159 : zins 78 159 = some (.iconst (-1)) := by decide +kernel
theorem i_Mess_find_160 : zins 78 160 = some (.ireturn) := by decide +kernel
theorem l_Mess_find (X : zX) (d : Nat) (h : zH) (ad : Nat) (f : Nat → Int32) (n : Nat) (st : Nat → Int32) (k : Nat) (hM : isM h ad f n st k) (hn : n ≤ 200) (s F R C : Int32) : ∀ (m p a b c : Nat) (x : Option Value), p + m = n → zR X d 78 40 [some (.ref ad), some (.int s), some (.int F), some (.int R), some (.int C), some (.int (nI a)), some (.int (nI b)), some (.int (nI c)), some (.int (nI p)), x] [] h (some (.int (tI (fdL f F R C p m a b c))), h) := by
  intro m
  induction m with
  | zero =>
    intro p a b c x hpm
    rw [fdL]
    by_cases hm : nI a = F ∧ nI b = R ∧ nI c = C
    · rw [if_pos hm]
      refine zr_iload i_Mess_find_40 rfl ?_
      refine zr_aload_n i_Mess_find_42 rfl ?_
      refine zr_getf i_Mess_find_43 hM.1 rfl rfl ?_
      refine zn_icmp_gt 159 i_Mess_find_46 (by decide) (by omega) (by omega) (fun q => absurd q (by omega)) (fun c_46 => ?_)
      refine zr_iload i_Mess_find_49 rfl ?_
      refine zr_iload_n i_Mess_find_51 rfl ?_
      refine zr_icmp_ne 71 i_Mess_find_52 (by decide) (fun q => absurd hm.1 q) (fun c_52 => ?_)
      refine zr_iload i_Mess_find_55 rfl ?_
      refine zr_iload_n i_Mess_find_57 rfl ?_
      refine zr_icmp_ne 71 i_Mess_find_58 (by decide) (fun q => absurd hm.2.1 q) (fun c_58 => ?_)
      refine zr_iload i_Mess_find_61 rfl ?_
      refine zr_iload i_Mess_find_63 rfl ?_
      refine zr_icmp_ne 71 i_Mess_find_65 (by decide) (fun q => absurd hm.2.2 q) (fun c_65 => ?_)
      refine zr_iload i_Mess_find_68 rfl ?_
      exact zR.retE i_Mess_find_70 rfl rfl
    · rw [if_neg hm]
      have K71 : zR X d 78 71 [some (.ref ad), some (.int s), some (.int F), some (.int R), some (.int C), some (.int (nI a)), some (.int (nI b)), some (.int (nI c)), some (.int (nI p)), x] [] h (some (.int (tI none)), h) := by
        refine zr_iload i_Mess_find_71 rfl ?_
        refine zr_aload_n i_Mess_find_73 rfl ?_
        refine zr_getf i_Mess_find_74 hM.1 rfl rfl ?_
        refine zn_icmp_ge 90 i_Mess_find_77 (by decide) (by omega) (by omega) (fun c_77 => ?_) (fun q => absurd q (by omega))
        refine zn_sipush 261 i_Mess_find_90 (by decide) ?_
        refine zr_istore i_Mess_find_93 rfl ?_
        refine zr_iload i_Mess_find_95 rfl ?_
        refine zn_sipush 261 i_Mess_find_97 (by decide) ?_
        refine zr_icmp_ne 105 i_Mess_find_100 (by decide) (fun q => absurd q (by decide)) (fun _ => ?_)
        refine zr_iconst i_Mess_find_103 (v := (-1)) (by decide) ?_
        exact zR.retE i_Mess_find_104 rfl rfl
      refine zr_iload i_Mess_find_40 rfl ?_
      refine zr_aload_n i_Mess_find_42 rfl ?_
      refine zr_getf i_Mess_find_43 hM.1 rfl rfl ?_
      refine zn_icmp_gt 159 i_Mess_find_46 (by decide) (by omega) (by omega) (fun q => absurd q (by omega)) (fun c_46 => ?_)
      refine zr_iload i_Mess_find_49 rfl ?_
      refine zr_iload_n i_Mess_find_51 rfl ?_
      refine zr_icmp_ne 71 i_Mess_find_52 (by decide) (fun c_52 => ?_) (fun c_52 => ?_)
      · skip
        exact K71
      · skip
        refine zr_iload i_Mess_find_55 rfl ?_
        refine zr_iload_n i_Mess_find_57 rfl ?_
        refine zr_icmp_ne 71 i_Mess_find_58 (by decide) (fun c_58 => ?_) (fun c_58 => ?_)
        · skip
          exact K71
        · skip
          refine zr_iload i_Mess_find_61 rfl ?_
          refine zr_iload i_Mess_find_63 rfl ?_
          refine zr_icmp_ne 71 i_Mess_find_65 (by decide) (fun c_65 => ?_) (fun c_65 => ?_)
          · skip
            exact K71
          · skip
            exact absurd ⟨c_52, c_58, c_65⟩ hm
  | succ m ih =>
    intro p a b c x hpm
    rw [fdL]
    by_cases hm : nI a = F ∧ nI b = R ∧ nI c = C
    · rw [if_pos hm]
      refine zr_iload i_Mess_find_40 rfl ?_
      refine zr_aload_n i_Mess_find_42 rfl ?_
      refine zr_getf i_Mess_find_43 hM.1 rfl rfl ?_
      refine zn_icmp_gt 159 i_Mess_find_46 (by decide) (by omega) (by omega) (fun q => absurd q (by omega)) (fun c_46 => ?_)
      refine zr_iload i_Mess_find_49 rfl ?_
      refine zr_iload_n i_Mess_find_51 rfl ?_
      refine zr_icmp_ne 71 i_Mess_find_52 (by decide) (fun q => absurd hm.1 q) (fun c_52 => ?_)
      refine zr_iload i_Mess_find_55 rfl ?_
      refine zr_iload_n i_Mess_find_57 rfl ?_
      refine zr_icmp_ne 71 i_Mess_find_58 (by decide) (fun q => absurd hm.2.1 q) (fun c_58 => ?_)
      refine zr_iload i_Mess_find_61 rfl ?_
      refine zr_iload i_Mess_find_63 rfl ?_
      refine zr_icmp_ne 71 i_Mess_find_65 (by decide) (fun q => absurd hm.2.2 q) (fun c_65 => ?_)
      refine zr_iload i_Mess_find_68 rfl ?_
      exact zR.retE i_Mess_find_70 rfl rfl
    · rw [if_neg hm]
      have K71 : zR X d 78 71 [some (.ref ad), some (.int s), some (.int F), some (.int R), some (.int C), some (.int (nI a)), some (.int (nI b)), some (.int (nI c)), some (.int (nI p)), x] [] h (some (.int (tI (if f p = 261 then none else if f p = 256 then fdL f F R C (p + 1) m (a + 1) 1 1 else if f p = 258 then fdL f F R C (p + 1) m a (b + 1) 1 else if f p = 257 then fdL f F R C (p + 1) m a b (c + 1) else fdL f F R C (p + 1) m a b c))), h) := by
        by_cases h1 : f p = 261
        · rw [if_pos h1]
          refine zr_iload i_Mess_find_71 rfl ?_
          refine zr_aload_n i_Mess_find_73 rfl ?_
          refine zr_getf i_Mess_find_74 hM.1 rfl rfl ?_
          refine zn_icmp_ge 90 i_Mess_find_77 (by decide) (by omega) (by omega) (fun q => absurd q (by omega)) (fun c_77 => ?_)
          refine zr_aload_n i_Mess_find_80 rfl ?_
          refine zr_getf i_Mess_find_81 hM.1 rfl rfl ?_
          refine zr_iload i_Mess_find_84 rfl ?_
          refine zn_iaload i_Mess_find_86 hM.2.1 (by omega) (by decide) ?_
          refine zr_goto 93 i_Mess_find_87 (by decide) ?_
          refine zr_istore i_Mess_find_93 rfl ?_
          refine zr_iload i_Mess_find_95 rfl ?_
          refine zr_sipush i_Mess_find_97 (v := 261) (by decide) ?_
          refine zr_icmp_ne 105 i_Mess_find_100 (by decide) (fun q => absurd h1 q) (fun c_100 => ?_)
          refine zr_iconst i_Mess_find_103 (v := (-1)) (by decide) ?_
          exact zR.retE i_Mess_find_104 rfl rfl
        · rw [if_neg h1]
          by_cases h2 : f p = 256
          · rw [if_pos h2]
            refine zr_iload i_Mess_find_71 rfl ?_
            refine zr_aload_n i_Mess_find_73 rfl ?_
            refine zr_getf i_Mess_find_74 hM.1 rfl rfl ?_
            refine zn_icmp_ge 90 i_Mess_find_77 (by decide) (by omega) (by omega) (fun q => absurd q (by omega)) (fun c_77 => ?_)
            refine zr_aload_n i_Mess_find_80 rfl ?_
            refine zr_getf i_Mess_find_81 hM.1 rfl rfl ?_
            refine zr_iload i_Mess_find_84 rfl ?_
            refine zn_iaload i_Mess_find_86 hM.2.1 (by omega) (by decide) ?_
            refine zr_goto 93 i_Mess_find_87 (by decide) ?_
            refine zr_istore i_Mess_find_93 rfl ?_
            refine zr_iload i_Mess_find_95 rfl ?_
            refine zr_sipush i_Mess_find_97 (v := 261) (by decide) ?_
            refine zr_icmp_ne 105 i_Mess_find_100 (by decide) (fun c_100 => ?_) (fun q => absurd q h1)
            refine zr_iload i_Mess_find_105 rfl ?_
            refine zr_sipush i_Mess_find_107 (v := 256) (by decide) ?_
            refine zr_icmp_ne 125 i_Mess_find_110 (by decide) (fun q => absurd h2 q) (fun c_110 => ?_)
            refine zn_iinc i_Mess_find_113 rfl rfl ?_
            refine zn_iconst 1 i_Mess_find_116 (by decide) ?_
            refine zr_istore i_Mess_find_117 rfl ?_
            refine zn_iconst 1 i_Mess_find_119 (by decide) ?_
            refine zr_istore i_Mess_find_120 rfl ?_
            refine zr_goto 153 i_Mess_find_122 (by decide) ?_
            refine zn_iinc i_Mess_find_153 rfl rfl ?_
            refine zr_goto 40 i_Mess_find_156 (by decide) ?_
            exact ih _ _ _ _ _ (by omega)
          · rw [if_neg h2]
            by_cases h3 : f p = 258
            · rw [if_pos h3]
              refine zr_iload i_Mess_find_71 rfl ?_
              refine zr_aload_n i_Mess_find_73 rfl ?_
              refine zr_getf i_Mess_find_74 hM.1 rfl rfl ?_
              refine zn_icmp_ge 90 i_Mess_find_77 (by decide) (by omega) (by omega) (fun q => absurd q (by omega)) (fun c_77 => ?_)
              refine zr_aload_n i_Mess_find_80 rfl ?_
              refine zr_getf i_Mess_find_81 hM.1 rfl rfl ?_
              refine zr_iload i_Mess_find_84 rfl ?_
              refine zn_iaload i_Mess_find_86 hM.2.1 (by omega) (by decide) ?_
              refine zr_goto 93 i_Mess_find_87 (by decide) ?_
              refine zr_istore i_Mess_find_93 rfl ?_
              refine zr_iload i_Mess_find_95 rfl ?_
              refine zr_sipush i_Mess_find_97 (v := 261) (by decide) ?_
              refine zr_icmp_ne 105 i_Mess_find_100 (by decide) (fun c_100 => ?_) (fun q => absurd q h1)
              refine zr_iload i_Mess_find_105 rfl ?_
              refine zr_sipush i_Mess_find_107 (v := 256) (by decide) ?_
              refine zr_icmp_ne 125 i_Mess_find_110 (by decide) (fun c_110 => ?_) (fun q => absurd q h2)
              refine zr_iload i_Mess_find_125 rfl ?_
              refine zr_sipush i_Mess_find_127 (v := 258) (by decide) ?_
              refine zr_icmp_ne 142 i_Mess_find_130 (by decide) (fun q => absurd h3 q) (fun c_130 => ?_)
              refine zn_iinc i_Mess_find_133 rfl rfl ?_
              refine zn_iconst 1 i_Mess_find_136 (by decide) ?_
              refine zr_istore i_Mess_find_137 rfl ?_
              refine zr_goto 153 i_Mess_find_139 (by decide) ?_
              refine zn_iinc i_Mess_find_153 rfl rfl ?_
              refine zr_goto 40 i_Mess_find_156 (by decide) ?_
              exact ih _ _ _ _ _ (by omega)
            · rw [if_neg h3]
              by_cases h4 : f p = 257
              · rw [if_pos h4]
                refine zr_iload i_Mess_find_71 rfl ?_
                refine zr_aload_n i_Mess_find_73 rfl ?_
                refine zr_getf i_Mess_find_74 hM.1 rfl rfl ?_
                refine zn_icmp_ge 90 i_Mess_find_77 (by decide) (by omega) (by omega) (fun q => absurd q (by omega)) (fun c_77 => ?_)
                refine zr_aload_n i_Mess_find_80 rfl ?_
                refine zr_getf i_Mess_find_81 hM.1 rfl rfl ?_
                refine zr_iload i_Mess_find_84 rfl ?_
                refine zn_iaload i_Mess_find_86 hM.2.1 (by omega) (by decide) ?_
                refine zr_goto 93 i_Mess_find_87 (by decide) ?_
                refine zr_istore i_Mess_find_93 rfl ?_
                refine zr_iload i_Mess_find_95 rfl ?_
                refine zr_sipush i_Mess_find_97 (v := 261) (by decide) ?_
                refine zr_icmp_ne 105 i_Mess_find_100 (by decide) (fun c_100 => ?_) (fun q => absurd q h1)
                refine zr_iload i_Mess_find_105 rfl ?_
                refine zr_sipush i_Mess_find_107 (v := 256) (by decide) ?_
                refine zr_icmp_ne 125 i_Mess_find_110 (by decide) (fun c_110 => ?_) (fun q => absurd q h2)
                refine zr_iload i_Mess_find_125 rfl ?_
                refine zr_sipush i_Mess_find_127 (v := 258) (by decide) ?_
                refine zr_icmp_ne 142 i_Mess_find_130 (by decide) (fun c_130 => ?_) (fun q => absurd q h3)
                refine zr_iload i_Mess_find_142 rfl ?_
                refine zr_sipush i_Mess_find_144 (v := 257) (by decide) ?_
                refine zr_icmp_ne 153 i_Mess_find_147 (by decide) (fun q => absurd h4 q) (fun c_147 => ?_)
                refine zn_iinc i_Mess_find_150 rfl rfl ?_
                refine zn_iinc i_Mess_find_153 rfl rfl ?_
                refine zr_goto 40 i_Mess_find_156 (by decide) ?_
                exact ih _ _ _ _ _ (by omega)
              · rw [if_neg h4]
                refine zr_iload i_Mess_find_71 rfl ?_
                refine zr_aload_n i_Mess_find_73 rfl ?_
                refine zr_getf i_Mess_find_74 hM.1 rfl rfl ?_
                refine zn_icmp_ge 90 i_Mess_find_77 (by decide) (by omega) (by omega) (fun q => absurd q (by omega)) (fun c_77 => ?_)
                refine zr_aload_n i_Mess_find_80 rfl ?_
                refine zr_getf i_Mess_find_81 hM.1 rfl rfl ?_
                refine zr_iload i_Mess_find_84 rfl ?_
                refine zn_iaload i_Mess_find_86 hM.2.1 (by omega) (by decide) ?_
                refine zr_goto 93 i_Mess_find_87 (by decide) ?_
                refine zr_istore i_Mess_find_93 rfl ?_
                refine zr_iload i_Mess_find_95 rfl ?_
                refine zr_sipush i_Mess_find_97 (v := 261) (by decide) ?_
                refine zr_icmp_ne 105 i_Mess_find_100 (by decide) (fun c_100 => ?_) (fun q => absurd q h1)
                refine zr_iload i_Mess_find_105 rfl ?_
                refine zr_sipush i_Mess_find_107 (v := 256) (by decide) ?_
                refine zr_icmp_ne 125 i_Mess_find_110 (by decide) (fun c_110 => ?_) (fun q => absurd q h2)
                refine zr_iload i_Mess_find_125 rfl ?_
                refine zr_sipush i_Mess_find_127 (v := 258) (by decide) ?_
                refine zr_icmp_ne 142 i_Mess_find_130 (by decide) (fun c_130 => ?_) (fun q => absurd q h3)
                refine zr_iload i_Mess_find_142 rfl ?_
                refine zr_sipush i_Mess_find_144 (v := 257) (by decide) ?_
                refine zr_icmp_ne 153 i_Mess_find_147 (by decide) (fun c_147 => ?_) (fun q => absurd q h4)
                refine zn_iinc i_Mess_find_153 rfl rfl ?_
                refine zr_goto 40 i_Mess_find_156 (by decide) ?_
                exact ih _ _ _ _ _ (by omega)
      refine zr_iload i_Mess_find_40 rfl ?_
      refine zr_aload_n i_Mess_find_42 rfl ?_
      refine zr_getf i_Mess_find_43 hM.1 rfl rfl ?_
      refine zn_icmp_gt 159 i_Mess_find_46 (by decide) (by omega) (by omega) (fun q => absurd q (by omega)) (fun c_46 => ?_)
      refine zr_iload i_Mess_find_49 rfl ?_
      refine zr_iload_n i_Mess_find_51 rfl ?_
      refine zr_icmp_ne 71 i_Mess_find_52 (by decide) (fun c_52 => ?_) (fun c_52 => ?_)
      · skip
        exact K71
      · skip
        refine zr_iload i_Mess_find_55 rfl ?_
        refine zr_iload_n i_Mess_find_57 rfl ?_
        refine zr_icmp_ne 71 i_Mess_find_58 (by decide) (fun c_58 => ?_) (fun c_58 => ?_)
        · skip
          exact K71
        · skip
          refine zr_iload i_Mess_find_61 rfl ?_
          refine zr_iload i_Mess_find_63 rfl ?_
          refine zr_icmp_ne 71 i_Mess_find_65 (by decide) (fun c_65 => ?_) (fun c_65 => ?_)
          · skip
            exact K71
          · skip
            exact absurd ⟨c_52, c_58, c_65⟩ hm
theorem e_Mess_find (X : zX) (d : Nat) (h : zH) (ad : Nat) (f : Nat → Int32) (n : Nat) (st : Nat → Int32) (k : Nat) (hM : isM h ad f n st k) (hn : n ≤ 200) (j : Nat) (hj1 : 1 ≤ j) (hj2 : j ≤ k) (hj8 : j ≤ 8) (hk : k < 1000) (p : Nat) (hp : p ≤ n) (hst : st (j - 1) = nI p) (F R C : Int32) : zR X d 78 0 (zent 10 [.ref ad, .int (nI j), .int F, .int R, .int C]) [] h (some (.int (tI (fdL f F R C p (n - p) 0 1 1))), h) := by
  have hl := l_Mess_find X d h ad f n st k hM hn (nI j) F R C (n - p) p 0 1 1 none (by omega)
  refine zr_iload_n i_Mess_find_0 rfl ?_
  refine zn_iconst 1 i_Mess_find_1 (by decide) ?_
  refine zn_icmp_lt 19 i_Mess_find_2 (by decide) (by omega) (by omega) (fun q => absurd q (by omega)) (fun c_2 => ?_)
  refine zr_iload_n i_Mess_find_5 rfl ?_
  refine zr_aload_n i_Mess_find_6 rfl ?_
  refine zr_getf i_Mess_find_7 hM.1 rfl rfl ?_
  refine zn_icmp_gt 19 i_Mess_find_10 (by decide) (by omega) (by omega) (fun q => absurd q (by omega)) (fun c_10 => ?_)
  refine zr_iload_n i_Mess_find_13 rfl ?_
  refine zn_bipush 8 i_Mess_find_14 (by decide) ?_
  refine zn_icmp_le 21 i_Mess_find_16 (by decide) (by omega) (by omega) (fun c_16 => ?_) (fun q => absurd q (by omega))
  refine zn_iconst 0 i_Mess_find_21 (by decide) ?_
  refine zr_istore i_Mess_find_22 rfl ?_
  refine zn_iconst 1 i_Mess_find_24 (by decide) ?_
  refine zr_istore i_Mess_find_25 rfl ?_
  refine zn_iconst 1 i_Mess_find_27 (by decide) ?_
  refine zr_istore i_Mess_find_28 rfl ?_
  refine zr_aload_n i_Mess_find_30 rfl ?_
  refine zr_getf i_Mess_find_31 hM.1 rfl rfl ?_
  refine zr_iload_n i_Mess_find_34 rfl ?_
  refine zn_iconst 1 i_Mess_find_35 (by decide) ?_
  refine zn_isub i_Mess_find_36 (by omega) ?_
  refine zn_iaload i_Mess_find_37 hM.2.2 (by omega) (by decide) ?_
  refine zr_top (y := nI p) hst ?_
  refine zr_istore i_Mess_find_38 rfl ?_
  exact hl
theorem e0_Mess_find (X : zX) (d : Nat) (h : zH) (ad : Nat) (f : Nat → Int32) (n : Nat) (st : Nat → Int32) (k : Nat) (hM : isM h ad f n st k) (hn : n ≤ 200) (s F R C : Int32) (hs : s < 1 ∨ nI k < s ∨ 8 < s) : zR X d 78 0 (zent 10 [.ref ad, .int s, .int F, .int R, .int C]) [] h (some (.int (-1)), h) := by
  refine zr_iload_n i_Mess_find_0 rfl ?_
  refine zr_iconst i_Mess_find_1 (v := 1) (by decide) ?_
  refine zr_icmp_lt 19 i_Mess_find_2 (by decide) (fun c_2 => ?_) (fun c_2 => ?_)
  · skip
    refine zr_iconst i_Mess_find_19 (v := (-1)) (by decide) ?_
    exact zR.retE i_Mess_find_20 rfl rfl
  · skip
    refine zr_iload_n i_Mess_find_5 rfl ?_
    refine zr_aload_n i_Mess_find_6 rfl ?_
    refine zr_getf i_Mess_find_7 hM.1 rfl rfl ?_
    refine zr_icmp_gt 19 i_Mess_find_10 (by decide) (fun c_10 => ?_) (fun c_10 => ?_)
    · skip
      refine zr_iconst i_Mess_find_19 (v := (-1)) (by decide) ?_
      exact zR.retE i_Mess_find_20 rfl rfl
    · skip
      refine zr_iload_n i_Mess_find_13 rfl ?_
      refine zr_bipush i_Mess_find_14 (v := 8) (by decide) ?_
      refine zr_icmp_le 21 i_Mess_find_16 (by decide) (fun c_16 => ?_) (fun c_16 => ?_)
      · skip
        exact hs.elim (fun q => absurd q c_2) (fun z => z.elim (fun q => absurd q c_10) (fun q => absurd q (Int32.not_lt.mpr c_16)))
      · skip
        refine zr_iconst i_Mess_find_19 (v := (-1)) (by decide) ?_
        exact zR.retE i_Mess_find_20 rfl rfl
theorem i_Mess_nextRepetition_0 : zins 87 0 = some (.iload_n 1) := by decide +kernel
theorem i_Mess_nextRepetition_1 : zins 87 1 = some (.iconst 0) := by decide +kernel
theorem i_Mess_nextRepetition_2 : zins 87 2 = some (.invokestatic 36) := by decide +kernel
theorem i_Mess_nextRepetition_5 : zins 87 5 = some (.istore_n 2) := by decide +kernel
theorem i_Mess_nextRepetition_6 : zins 87 6 = some (.iload_n 2) := by decide +kernel
theorem i_Mess_nextRepetition_7 : zins 87 7 = some (.aload_n 0) := by decide +kernel
theorem i_Mess_nextRepetition_8 : zins 87 8 = some (.getfield 25) := by decide +kernel
theorem i_Mess_nextRepetition_11 : zins 87 11 = some (.if_icmp .ge 43) := by decide +kernel
theorem i_Mess_nextRepetition_14 : zins 87 14 = some (.aload_n 0) := by decide +kernel
theorem i_Mess_nextRepetition_15 : zins 87 15 = some (.getfield 18) := by decide +kernel
theorem i_Mess_nextRepetition_18 : zins 87 18 = some (.iload_n 2) := by decide +kernel
theorem i_Mess_nextRepetition_19 : zins 87 19 = some (.iaload) := by decide +kernel
theorem i_Mess_nextRepetition_20 : zins 87 20 = some (.istore_n 3) := by decide +kernel
theorem i_Mess_nextRepetition_21 : zins 87 21 = some (.iload_n 3) := by decide +kernel
theorem i_Mess_nextRepetition_22 : zins 87 22 = some (.sipush 258) := by decide +kernel
theorem i_Mess_nextRepetition_25 : zins 87 25 = some (.if_icmp .ne 7) := by decide +kernel
theorem i_Mess_nextRepetition_28 : zins 87 28 = some (.iload_n 2) := by decide +kernel
theorem i_Mess_nextRepetition_29 : zins 87 29 = some (.iconst 1) := by decide +kernel
theorem i_Mess_nextRepetition_30 : zins 87 30 = some (.iadd) := by decide +kernel
theorem i_Mess_nextRepetition_31 : zins 87 31 = some (.ireturn) := by decide +kernel
theorem i_Mess_nextRepetition_32 : zins 87 32 = some (.iload_n 3) := by decide +kernel
theorem i_Mess_nextRepetition_33 : zins 87 33 = some (.sipush 256) := by decide +kernel
theorem i_Mess_nextRepetition_36 : zins 87 36 = some (.if_icmp .eq 10) := by decide +kernel
theorem i_Mess_nextRepetition_39 : zins 87 39 = some (.iload_n 3) := by decide +kernel
theorem i_Mess_nextRepetition_40 : zins 87 40 = some (.sipush 261) := by decide +kernel
theorem i_Mess_nextRepetition_43 : zins 87 43 = some (.if_icmp .ne 5) := by decide +kernel
theorem i_Mess_nextRepetition_46 : zins 87 46 = some (.iconst (-1)) := by decide +kernel
theorem i_Mess_nextRepetition_47 : zins 87 47 = some (.ireturn) := by decide +kernel
theorem i_Mess_nextRepetition_48 : zins 87 48 = some (.iinc 2 1) := by decide +kernel
theorem i_Mess_nextRepetition_51 : zins 87 51 = some (.goto (-45)) := by decide +kernel
theorem i_Mess_nextRepetition_54 : zins 87 54 = some (.iconst (-1)) := by decide +kernel
theorem i_Mess_nextRepetition_55 : zins 87 55 = some (.ireturn) := by decide +kernel
theorem l_Mess_nextRepetition (X : zX) (d : Nat) (h : zH) (ad : Nat) (f : Nat → Int32) (n : Nat) (st : Nat → Int32) (k : Nat) (hM : isM h ad f n st k) (hn : n ≤ 200) (b : Int32) : ∀ (m p : Nat) (x : Option Value), p + m = n → zR X d 87 6 [some (.ref ad), some (.int b), some (.int (nI p)), x] [] h (some (.int (tI (nxL f p m))), h) := by
  intro m
  induction m with
  | zero =>
    intro p x hpm
    refine zr_iload_n i_Mess_nextRepetition_6 rfl ?_
    refine zr_aload_n i_Mess_nextRepetition_7 rfl ?_
    refine zr_getf i_Mess_nextRepetition_8 hM.1 rfl rfl ?_
    refine zn_icmp_ge 54 i_Mess_nextRepetition_11 (by decide) (by omega) (by omega) (fun c_11 => ?_) (fun q => absurd q (by omega))
    refine zr_iconst i_Mess_nextRepetition_54 (v := (-1)) (by decide) ?_
    exact zR.retE i_Mess_nextRepetition_55 rfl rfl
  | succ m ih =>
    intro p x hpm
    rw [nxL]
    by_cases h1 : f p = 258
    · rw [if_pos h1]
      refine zr_iload_n i_Mess_nextRepetition_6 rfl ?_
      refine zr_aload_n i_Mess_nextRepetition_7 rfl ?_
      refine zr_getf i_Mess_nextRepetition_8 hM.1 rfl rfl ?_
      refine zn_icmp_ge 54 i_Mess_nextRepetition_11 (by decide) (by omega) (by omega) (fun q => absurd q (by omega)) (fun c_11 => ?_)
      refine zr_aload_n i_Mess_nextRepetition_14 rfl ?_
      refine zr_getf i_Mess_nextRepetition_15 hM.1 rfl rfl ?_
      refine zr_iload_n i_Mess_nextRepetition_18 rfl ?_
      refine zn_iaload i_Mess_nextRepetition_19 hM.2.1 (by omega) (by decide) ?_
      refine zr_istore_n i_Mess_nextRepetition_20 rfl ?_
      refine zr_iload_n i_Mess_nextRepetition_21 rfl ?_
      refine zr_sipush i_Mess_nextRepetition_22 (v := 258) (by decide) ?_
      refine zr_icmp_ne 32 i_Mess_nextRepetition_25 (by decide) (fun q => absurd h1 q) (fun c_25 => ?_)
      refine zr_iload_n i_Mess_nextRepetition_28 rfl ?_
      refine zn_iconst 1 i_Mess_nextRepetition_29 (by decide) ?_
      refine zn_iadd i_Mess_nextRepetition_30 ?_
      exact zR.retE i_Mess_nextRepetition_31 rfl rfl
    · rw [if_neg h1]
      by_cases h2 : f p = 256
      · rw [if_pos h2]
        refine zr_iload_n i_Mess_nextRepetition_6 rfl ?_
        refine zr_aload_n i_Mess_nextRepetition_7 rfl ?_
        refine zr_getf i_Mess_nextRepetition_8 hM.1 rfl rfl ?_
        refine zn_icmp_ge 54 i_Mess_nextRepetition_11 (by decide) (by omega) (by omega) (fun q => absurd q (by omega)) (fun c_11 => ?_)
        refine zr_aload_n i_Mess_nextRepetition_14 rfl ?_
        refine zr_getf i_Mess_nextRepetition_15 hM.1 rfl rfl ?_
        refine zr_iload_n i_Mess_nextRepetition_18 rfl ?_
        refine zn_iaload i_Mess_nextRepetition_19 hM.2.1 (by omega) (by decide) ?_
        refine zr_istore_n i_Mess_nextRepetition_20 rfl ?_
        refine zr_iload_n i_Mess_nextRepetition_21 rfl ?_
        refine zr_sipush i_Mess_nextRepetition_22 (v := 258) (by decide) ?_
        refine zr_icmp_ne 32 i_Mess_nextRepetition_25 (by decide) (fun c_25 => ?_) (fun q => absurd q h1)
        refine zr_iload_n i_Mess_nextRepetition_32 rfl ?_
        refine zr_sipush i_Mess_nextRepetition_33 (v := 256) (by decide) ?_
        refine zr_icmp_eq 46 i_Mess_nextRepetition_36 (by decide) (fun c_36 => ?_) (fun q => absurd h2 q)
        refine zr_iconst i_Mess_nextRepetition_46 (v := (-1)) (by decide) ?_
        exact zR.retE i_Mess_nextRepetition_47 rfl rfl
      · rw [if_neg h2]
        by_cases h3 : f p = 261
        · rw [if_pos h3]
          refine zr_iload_n i_Mess_nextRepetition_6 rfl ?_
          refine zr_aload_n i_Mess_nextRepetition_7 rfl ?_
          refine zr_getf i_Mess_nextRepetition_8 hM.1 rfl rfl ?_
          refine zn_icmp_ge 54 i_Mess_nextRepetition_11 (by decide) (by omega) (by omega) (fun q => absurd q (by omega)) (fun c_11 => ?_)
          refine zr_aload_n i_Mess_nextRepetition_14 rfl ?_
          refine zr_getf i_Mess_nextRepetition_15 hM.1 rfl rfl ?_
          refine zr_iload_n i_Mess_nextRepetition_18 rfl ?_
          refine zn_iaload i_Mess_nextRepetition_19 hM.2.1 (by omega) (by decide) ?_
          refine zr_istore_n i_Mess_nextRepetition_20 rfl ?_
          refine zr_iload_n i_Mess_nextRepetition_21 rfl ?_
          refine zr_sipush i_Mess_nextRepetition_22 (v := 258) (by decide) ?_
          refine zr_icmp_ne 32 i_Mess_nextRepetition_25 (by decide) (fun c_25 => ?_) (fun q => absurd q h1)
          refine zr_iload_n i_Mess_nextRepetition_32 rfl ?_
          refine zr_sipush i_Mess_nextRepetition_33 (v := 256) (by decide) ?_
          refine zr_icmp_eq 46 i_Mess_nextRepetition_36 (by decide) (fun q => absurd q h2) (fun c_36 => ?_)
          refine zr_iload_n i_Mess_nextRepetition_39 rfl ?_
          refine zr_sipush i_Mess_nextRepetition_40 (v := 261) (by decide) ?_
          refine zr_icmp_ne 48 i_Mess_nextRepetition_43 (by decide) (fun q => absurd h3 q) (fun c_43 => ?_)
          refine zr_iconst i_Mess_nextRepetition_46 (v := (-1)) (by decide) ?_
          exact zR.retE i_Mess_nextRepetition_47 rfl rfl
        · rw [if_neg h3]
          refine zr_iload_n i_Mess_nextRepetition_6 rfl ?_
          refine zr_aload_n i_Mess_nextRepetition_7 rfl ?_
          refine zr_getf i_Mess_nextRepetition_8 hM.1 rfl rfl ?_
          refine zn_icmp_ge 54 i_Mess_nextRepetition_11 (by decide) (by omega) (by omega) (fun q => absurd q (by omega)) (fun c_11 => ?_)
          refine zr_aload_n i_Mess_nextRepetition_14 rfl ?_
          refine zr_getf i_Mess_nextRepetition_15 hM.1 rfl rfl ?_
          refine zr_iload_n i_Mess_nextRepetition_18 rfl ?_
          refine zn_iaload i_Mess_nextRepetition_19 hM.2.1 (by omega) (by decide) ?_
          refine zr_istore_n i_Mess_nextRepetition_20 rfl ?_
          refine zr_iload_n i_Mess_nextRepetition_21 rfl ?_
          refine zr_sipush i_Mess_nextRepetition_22 (v := 258) (by decide) ?_
          refine zr_icmp_ne 32 i_Mess_nextRepetition_25 (by decide) (fun c_25 => ?_) (fun q => absurd q h1)
          refine zr_iload_n i_Mess_nextRepetition_32 rfl ?_
          refine zr_sipush i_Mess_nextRepetition_33 (v := 256) (by decide) ?_
          refine zr_icmp_eq 46 i_Mess_nextRepetition_36 (by decide) (fun q => absurd q h2) (fun c_36 => ?_)
          refine zr_iload_n i_Mess_nextRepetition_39 rfl ?_
          refine zr_sipush i_Mess_nextRepetition_40 (v := 261) (by decide) ?_
          refine zr_icmp_ne 48 i_Mess_nextRepetition_43 (by decide) (fun c_43 => ?_) (fun q => absurd q h3)
          refine zn_iinc i_Mess_nextRepetition_48 rfl rfl ?_
          refine zr_goto 6 i_Mess_nextRepetition_51 (by decide) ?_
          exact ih _ _ (by omega)
theorem e_Mess_nextRepetition (X : zX) (d : Nat) (h : zH) (ad : Nat) (f : Nat → Int32) (n : Nat) (st : Nat → Int32) (k : Nat) (hM : isM h ad f n st k) (hn : n ≤ 200) (p : Nat) (hp : p ≤ n) : zR X (d + 1) 87 0 (zent 4 [.ref ad, .int (nI p)]) [] h (some (.int (tI (nxL f p (n - p)))), h) := by
  have hl := l_Mess_nextRepetition X (d + 1) h ad f n st k hM hn (nI p) (n - p) p none (by omega)
  refine zr_iload_n i_Mess_nextRepetition_0 rfl ?_
  refine zr_iconst i_Mess_nextRepetition_1 (v := 0) (by decide) ?_
  refine zr_max i_Mess_nextRepetition_2 rfl (Nat.le_of_ble_eq_true rfl) ?_
  refine zr_top (y := nI p) (if_neg (nI_pos (by omega))) ?_
  refine zr_istore_n i_Mess_nextRepetition_5 rfl ?_
  exact hl
theorem i_Mess_code_0 : zins 86 0 = some (.aload_n 0) := by decide +kernel
theorem i_Mess_code_1 : zins 86 1 = some (.iload_n 1) := by decide +kernel
theorem i_Mess_code_2 : zins 86 2 = some (.iconst 1) := by decide +kernel
theorem i_Mess_code_3 : zins 86 3 = some (.iconst 1) := by decide +kernel
theorem i_Mess_code_4 : zins 86 4 = some (.iconst 1) := by decide +kernel
theorem i_Mess_code_5 : zins 86 5 = some (.invokevirtual 64) := by decide +kernel
theorem i_Mess_code_8 : zins 86 8 = some (.istore_n 2) := by decide +kernel
theorem i_Mess_code_9 : zins 86 9 = some (.aload_n 0) := by decide +kernel
theorem i_Mess_code_10 : zins 86 10 = some (.iload_n 2) := by decide +kernel
theorem i_Mess_code_11 : zins 86 11 = some (.invokevirtual 42) := by decide +kernel
theorem i_Mess_code_14 : zins 86 14 = some (.iconst 2) := by decide +kernel
theorem i_Mess_code_15 : zins 86 15 = some (.if_icmp .ne 23) := by decide +kernel
theorem i_Mess_code_18 : zins 86 18 = some (.aload_n 0) := by decide +kernel
theorem i_Mess_code_19 : zins 86 19 = some (.getfield 18) := by decide +kernel
theorem i_Mess_code_22 : zins 86 22 = some (.iload_n 2) := by decide +kernel
theorem i_Mess_code_23 : zins 86 23 = some (.iaload) := by decide +kernel
theorem i_Mess_code_24 : zins 86 24 = some (.aload_n 0) := by decide +kernel
theorem i_Mess_code_25 : zins 86 25 = some (.getfield 18) := by decide +kernel
theorem i_Mess_code_28 : zins 86 28 = some (.iload_n 2) := by decide +kernel
theorem i_Mess_code_29 : zins 86 29 = some (.iconst 1) := by decide +kernel
theorem i_Mess_code_30 : zins 86 30 = some (.iadd) := by decide +kernel
theorem i_Mess_code_31 : zins 86 31 = some (.iaload) := by decide +kernel
theorem i_Mess_code_32 : zins 86 32 = some (.invokestatic 68) := by decide +kernel
theorem i_Mess_code_35 : zins 86 35 = some (.goto 4) := by decide +kernel
theorem i_Mess_code_38 : zins 86 38 = some (.iconst (-1)) := by decide +kernel
theorem i_Mess_code_39 : zins 86 39 = some (.ireturn) := by decide +kernel
theorem e_Mess_code (X : zX) (d : Nat) (h : zH) (ad : Nat) (f : Nat → Int32) (n : Nat) (st : Nat → Int32) (k : Nat) (hM : isM h ad f n st k) (hn : n ≤ 200) (s : Int32) (o : Option Nat) (ho : ∀ p, o = some p → p ≤ n) (hf : zR X (d + 2) 78 0 (zent 10 [.ref ad, .int s, .int 1, .int 1, .int 1]) [] h (some (.int (tI o)), h)) : zR X (d + 3) 86 0 (zent 3 [.ref ad, .int s]) [] h (some (.int (codeT (txo f n o))), h) := by
  have htl := e_Mess_textLength X (d + 2) h ad f n st k hM hn o ho
  have hll := tl_txo f n o
  unfold codeT
  by_cases h2 : tl (txo f n o) = 2
  · rw [if_pos h2]
    cases o with
    | none => exact absurd (show (0 : Nat) = 2 from h2) (by decide)
    | some p =>
      have t0 := tc_tx (f := f) (n := n) (p := p) (i := 0) (by omega)
      have t1 := tc_tx (f := f) (n := n) (p := p) (i := 1) (by omega)
      rw [t0.1, t1.1, Nat.add_zero]
      refine zr_aload_n i_Mess_code_0 rfl ?_
      refine zr_iload_n i_Mess_code_1 rfl ?_
      refine zr_iconst i_Mess_code_2 (v := 1) (by decide) ?_
      refine zr_iconst i_Mess_code_3 (v := 1) (by decide) ?_
      refine zr_iconst i_Mess_code_4 (v := 1) (by decide) ?_
      refine zr_cv4 i_Mess_code_5 rfl (by decide) (zrcv_of hM.1) (Nat.le_of_ble_eq_true rfl) (Nat.le_of_ble_eq_true rfl) (hf) ?_
      refine zr_istore_n i_Mess_code_8 rfl ?_
      refine zr_aload_n i_Mess_code_9 rfl ?_
      refine zr_iload_n i_Mess_code_10 rfl ?_
      refine zr_cv1 i_Mess_code_11 rfl (by decide) (zrcv_of hM.1) (Nat.le_of_ble_eq_true rfl) (Nat.le_of_ble_eq_true rfl) (htl) ?_
      refine zn_iconst 2 i_Mess_code_14 (by decide) ?_
      refine zn_icmp_ne 38 i_Mess_code_15 (by decide) (by omega) (by omega) (fun q => absurd q (by omega)) (fun c_15 => ?_)
      refine zr_aload_n i_Mess_code_18 rfl ?_
      refine zr_getf i_Mess_code_19 hM.1 rfl rfl ?_
      refine zr_iload_n i_Mess_code_22 rfl ?_
      refine zr_top (y := nI p) rfl ?_
      refine zn_iaload i_Mess_code_23 hM.2.1 (by omega) (by decide) ?_
      refine zr_aload_n i_Mess_code_24 rfl ?_
      refine zr_getf i_Mess_code_25 hM.1 rfl rfl ?_
      refine zr_iload_n i_Mess_code_28 rfl ?_
      refine zr_top (y := nI p) rfl ?_
      refine zn_iconst 1 i_Mess_code_29 (by decide) ?_
      refine zn_iadd i_Mess_code_30 ?_
      refine zn_iaload i_Mess_code_31 hM.2.1 (by omega) (by decide) ?_
      refine zr_cs2 i_Mess_code_32 rfl (by decide) (Nat.le_of_ble_eq_true rfl) (Nat.le_of_ble_eq_true rfl) (e_B_codeOf X _ h (f p) (f (p + 1))) ?_
      refine zr_goto 39 i_Mess_code_35 (by decide) ?_
      exact zR.retE i_Mess_code_39 rfl rfl
  · rw [if_neg h2]
    refine zr_aload_n i_Mess_code_0 rfl ?_
    refine zr_iload_n i_Mess_code_1 rfl ?_
    refine zr_iconst i_Mess_code_2 (v := 1) (by decide) ?_
    refine zr_iconst i_Mess_code_3 (v := 1) (by decide) ?_
    refine zr_iconst i_Mess_code_4 (v := 1) (by decide) ?_
    refine zr_cv4 i_Mess_code_5 rfl (by decide) (zrcv_of hM.1) (Nat.le_of_ble_eq_true rfl) (Nat.le_of_ble_eq_true rfl) (hf) ?_
    refine zr_istore_n i_Mess_code_8 rfl ?_
    refine zr_aload_n i_Mess_code_9 rfl ?_
    refine zr_iload_n i_Mess_code_10 rfl ?_
    refine zr_cv1 i_Mess_code_11 rfl (by decide) (zrcv_of hM.1) (Nat.le_of_ble_eq_true rfl) (Nat.le_of_ble_eq_true rfl) (htl) ?_
    refine zn_iconst 2 i_Mess_code_14 (by decide) ?_
    refine zn_icmp_ne 38 i_Mess_code_15 (by decide) (by omega) (by omega) (fun c_15 => ?_) (fun q => absurd q h2)
    refine zr_iconst i_Mess_code_38 (v := (-1)) (by decide) ?_
    exact zR.retE i_Mess_code_39 rfl rfl
theorem i_Mess_identity_0 : zins 77 0 = some (.aload_n 0) := by decide +kernel
theorem i_Mess_identity_1 : zins 77 1 = some (.iconst 1) := by decide +kernel
theorem i_Mess_identity_2 : zins 77 2 = some (.iconst 2) := by decide +kernel
theorem i_Mess_identity_3 : zins 77 3 = some (.iconst 1) := by decide +kernel
theorem i_Mess_identity_4 : zins 77 4 = some (.iconst 1) := by decide +kernel
theorem i_Mess_identity_5 : zins 77 5 = some (.invokevirtual 64) := by decide +kernel
theorem i_Mess_identity_8 : zins 77 8 = some (.istore_n 1) := by decide +kernel
theorem i_Mess_identity_9 : zins 77 9 = some (.aload_n 0) := by decide +kernel
theorem i_Mess_identity_10 : zins 77 10 = some (.iload_n 1) := by decide +kernel
theorem i_Mess_identity_11 : zins 77 11 = some (.invokevirtual 42) := by decide +kernel
theorem i_Mess_identity_14 : zins 77 14 = some (.istore_n 2) := by decide +kernel
theorem i_Mess_identity_15 : zins 77 15 = some (.lconst 0) := by decide +kernel
theorem i_Mess_identity_16 : zins 77 16 = some (.lstore_n 3) := by decide +kernel
theorem i_Mess_identity_17 : zins 77 17 = some (.iload_n 2) := by decide +kernel
theorem i_Mess_identity_18 : zins 77 18 = some (.bipush 6) := by decide +kernel
theorem i_Mess_identity_20 : zins 77 20 = some (.if_icmp .le 5) := by decide +kernel
theorem i_Mess_identity_23 : zins 77 23 = some (.lconst 0) := by decide +kernel
theorem i_Mess_identity_24 : zins 77 24 = some (.lreturn) := by decide +kernel
theorem i_Mess_identity_25 : zins 77 25 = some (.iconst 0) := by decide +kernel
theorem i_Mess_identity_26 : zins 77 26 = some (.istore 5) := by decide +kernel
theorem i_Mess_identity_28 : zins 77 28 = some (.iload 5) := by decide +kernel
theorem i_Mess_identity_30 : zins 77 30 = some (.iload_n 2) := by decide +kernel
theorem i_Mess_identity_31 : zins 77 31 = some (.if_icmp .ge 40) := by decide +kernel
theorem i_Mess_identity_34 : zins 77 34 = some (.aload_n 0) := by decide +kernel
theorem i_Mess_identity_35 : zins 77 35 = some (.getfield 18) := by decide +kernel
theorem i_Mess_identity_38 : zins 77 38 = some (.iload_n 1) := by decide +kernel
theorem i_Mess_identity_39 : zins 77 39 = some (.iload 5) := by decide +kernel
theorem i_Mess_identity_41 : zins 77 41 = some (.iadd) := by decide +kernel
theorem i_Mess_identity_42 : zins 77 42 = some (.iaload) := by decide +kernel
theorem i_Mess_identity_43 : zins 77 43 = some (.istore 6) := by decide +kernel
theorem i_Mess_identity_45 : zins 77 45 = some (.iload 6) := by decide +kernel
theorem i_Mess_identity_47 : zins 77 47 = some (.invokestatic 75) := by decide +kernel
theorem i_Mess_identity_50 : zins 77 50 = some (.ifCond .ne 5) := by decide +kernel
theorem i_Mess_identity_53 : zins 77 53 = some (.lconst 0) := by decide +kernel
theorem i_Mess_identity_54 : zins 77 54 = some (.lreturn) := by decide +kernel
theorem i_Mess_identity_55 : zins 77 55 = some (.ldc2_w 78) := by decide +kernel
theorem i_Mess_identity_58 : zins 77 58 = some (.lload_n 3) := by decide +kernel
theorem i_Mess_identity_59 : zins 77 59 = some (.lmul) := by decide +kernel
theorem i_Mess_identity_60 : zins 77 60 = some (.iload 6) := by decide +kernel
theorem i_Mess_identity_62 : zins 77 62 = some (.i2l) := by decide +kernel
theorem i_Mess_identity_63 : zins 77 63 = some (.ladd) := by decide +kernel
theorem i_Mess_identity_64 : zins 77 64 = some (.lstore_n 3) := by decide +kernel
theorem i_Mess_identity_65 : zins 77 65 = some (.iinc 5 1) := by decide +kernel
theorem i_Mess_identity_68 : zins 77 68 = some (.goto (-40)) := by decide +kernel
theorem i_Mess_identity_71 : zins 77 71 = some (.lload_n 3) := by decide +kernel
theorem i_Mess_identity_72 : zins 77 72 = some (.lreturn) := by decide +kernel
theorem l_Mess_identity (X : zX) (d : Nat) (h : zH) (ad : Nat) (f : Nat → Int32) (n : Nat) (st : Nat → Int32) (k : Nat) (hM : isM h ad f n st k) (hn : n ≤ 200) (p : Nat) : ∀ (m i : Nat) (v : Int64) (x : Option Value), i + m = tl (txo f n (some p)) → zR X (d + 3) 77 28 [some (.ref ad), some (.int (nI p)), some (.int (nI (tl (txo f n (some p))))), some (.long v), none, some (.int (nI i)), x] [] h (some (.long (idPL (txo f n (some p)) i m v)), h) := by
  have hll := tl_txo f n (some p)
  intro m
  induction m with
  | zero =>
    intro i v x him
    refine zr_iload i_Mess_identity_28 rfl ?_
    refine zr_iload_n i_Mess_identity_30 rfl ?_
    refine zn_icmp_ge 71 i_Mess_identity_31 (by decide) (by omega) (by omega) (fun c_31 => ?_) (fun q => absurd q (by omega))
    refine zr_lload_n i_Mess_identity_71 rfl ?_
    exact zR.retE i_Mess_identity_72 rfl rfl
  | succ m ih =>
    intro i v x him
    have htc := tc_tx (f := f) (n := n) (p := p) (i := i) (by omega)
    rw [idPL, htc.1]
    cases hv : vlod (f (p + i)) with
    | true =>
      rw [if_pos rfl]
      refine zr_iload i_Mess_identity_28 rfl ?_
      refine zr_iload_n i_Mess_identity_30 rfl ?_
      refine zn_icmp_ge 71 i_Mess_identity_31 (by decide) (by omega) (by omega) (fun q => absurd q (by omega)) (fun c_31 => ?_)
      refine zr_aload_n i_Mess_identity_34 rfl ?_
      refine zr_getf i_Mess_identity_35 hM.1 rfl rfl ?_
      refine zr_iload_n i_Mess_identity_38 rfl ?_
      refine zr_iload i_Mess_identity_39 rfl ?_
      refine zn_iadd i_Mess_identity_41 ?_
      refine zn_iaload i_Mess_identity_42 hM.2.1 (by omega) (by decide) ?_
      refine zr_istore i_Mess_identity_43 rfl ?_
      refine zr_iload i_Mess_identity_45 rfl ?_
      refine zr_cs1 i_Mess_identity_47 rfl (by decide) (Nat.le_of_ble_eq_true rfl) (Nat.le_of_ble_eq_true rfl) (e_B_isLetterOrDigit X _ _ _) ?_
      refine zB_if_ne 55 i_Mess_identity_50 (by decide) (fun _ => ?_) (fun q => absurd q (by rw [hv]; decide))
      refine zr_ldc2 i_Mess_identity_55 rfl ?_
      refine zr_lload_n i_Mess_identity_58 rfl ?_
      refine zr_lmul i_Mess_identity_59 ?_
      refine zr_iload i_Mess_identity_60 rfl ?_
      refine zr_i2l i_Mess_identity_62 ?_
      refine zr_ladd i_Mess_identity_63 ?_
      refine zr_lstore_n i_Mess_identity_64 rfl ?_
      refine zn_iinc i_Mess_identity_65 rfl rfl ?_
      refine zr_goto 28 i_Mess_identity_68 (by decide) ?_
      exact ih _ _ _ (by omega)
    | false =>
      rw [if_neg (by decide)]
      refine zr_iload i_Mess_identity_28 rfl ?_
      refine zr_iload_n i_Mess_identity_30 rfl ?_
      refine zn_icmp_ge 71 i_Mess_identity_31 (by decide) (by omega) (by omega) (fun q => absurd q (by omega)) (fun c_31 => ?_)
      refine zr_aload_n i_Mess_identity_34 rfl ?_
      refine zr_getf i_Mess_identity_35 hM.1 rfl rfl ?_
      refine zr_iload_n i_Mess_identity_38 rfl ?_
      refine zr_iload i_Mess_identity_39 rfl ?_
      refine zn_iadd i_Mess_identity_41 ?_
      refine zn_iaload i_Mess_identity_42 hM.2.1 (by omega) (by decide) ?_
      refine zr_istore i_Mess_identity_43 rfl ?_
      refine zr_iload i_Mess_identity_45 rfl ?_
      refine zr_cs1 i_Mess_identity_47 rfl (by decide) (Nat.le_of_ble_eq_true rfl) (Nat.le_of_ble_eq_true rfl) (e_B_isLetterOrDigit X _ _ _) ?_
      refine zB_if_ne 55 i_Mess_identity_50 (by decide) (fun q => absurd q (by rw [hv]; decide)) (fun _ => ?_)
      refine zr_lconst i_Mess_identity_53 (v := 0) (by decide) ?_
      exact zR.retE i_Mess_identity_54 rfl rfl
theorem e_Mess_identity (X : zX) (d : Nat) (h : zH) (ad : Nat) (f : Nat → Int32) (n : Nat) (st : Nat → Int32) (k : Nat) (hM : isM h ad f n st k) (hn : n ≤ 200) (o : Option Nat) (ho : ∀ p, o = some p → p ≤ n) (hf : zR X (d + 2) 78 0 (zent 10 [.ref ad, .int 1, .int 2, .int 1, .int 1]) [] h (some (.int (tI o)), h)) : zR X (d + 3) 77 0 (zent 7 [.ref ad]) [] h (some (.long (idP (txo f n o))), h) := by
  have htl := e_Mess_textLength X (d + 2) h ad f n st k hM hn o ho
  have hll := tl_txo f n o
  unfold idP
  by_cases h6 : 6 < tl (txo f n o)
  · rw [if_pos h6]
    refine zr_aload_n i_Mess_identity_0 rfl ?_
    refine zr_iconst i_Mess_identity_1 (v := 1) (by decide) ?_
    refine zr_iconst i_Mess_identity_2 (v := 2) (by decide) ?_
    refine zr_iconst i_Mess_identity_3 (v := 1) (by decide) ?_
    refine zr_iconst i_Mess_identity_4 (v := 1) (by decide) ?_
    refine zr_cv4 i_Mess_identity_5 rfl (by decide) (zrcv_of hM.1) (Nat.le_of_ble_eq_true rfl) (Nat.le_of_ble_eq_true rfl) (hf) ?_
    refine zr_istore_n i_Mess_identity_8 rfl ?_
    refine zr_aload_n i_Mess_identity_9 rfl ?_
    refine zr_iload_n i_Mess_identity_10 rfl ?_
    refine zr_cv1 i_Mess_identity_11 rfl (by decide) (zrcv_of hM.1) (Nat.le_of_ble_eq_true rfl) (Nat.le_of_ble_eq_true rfl) (htl) ?_
    refine zr_istore_n i_Mess_identity_14 rfl ?_
    refine zr_lconst i_Mess_identity_15 (v := 0) (by decide) ?_
    refine zr_lstore_n i_Mess_identity_16 rfl ?_
    refine zr_iload_n i_Mess_identity_17 rfl ?_
    refine zn_bipush 6 i_Mess_identity_18 (by decide) ?_
    refine zn_icmp_le 25 i_Mess_identity_20 (by decide) (by omega) (by omega) (fun q => absurd q (by omega)) (fun c_20 => ?_)
    refine zr_lconst i_Mess_identity_23 (v := 0) (by decide) ?_
    exact zR.retE i_Mess_identity_24 rfl rfl
  · rw [if_neg h6]
    cases o with
    | none =>
      refine zr_aload_n i_Mess_identity_0 rfl ?_
      refine zr_iconst i_Mess_identity_1 (v := 1) (by decide) ?_
      refine zr_iconst i_Mess_identity_2 (v := 2) (by decide) ?_
      refine zr_iconst i_Mess_identity_3 (v := 1) (by decide) ?_
      refine zr_iconst i_Mess_identity_4 (v := 1) (by decide) ?_
      refine zr_cv4 i_Mess_identity_5 rfl (by decide) (zrcv_of hM.1) (Nat.le_of_ble_eq_true rfl) (Nat.le_of_ble_eq_true rfl) (hf) ?_
      refine zr_istore_n i_Mess_identity_8 rfl ?_
      refine zr_aload_n i_Mess_identity_9 rfl ?_
      refine zr_iload_n i_Mess_identity_10 rfl ?_
      refine zr_cv1 i_Mess_identity_11 rfl (by decide) (zrcv_of hM.1) (Nat.le_of_ble_eq_true rfl) (Nat.le_of_ble_eq_true rfl) (htl) ?_
      refine zr_istore_n i_Mess_identity_14 rfl ?_
      refine zr_lconst i_Mess_identity_15 (v := 0) (by decide) ?_
      refine zr_lstore_n i_Mess_identity_16 rfl ?_
      refine zr_iload_n i_Mess_identity_17 rfl ?_
      refine zn_bipush 6 i_Mess_identity_18 (by decide) ?_
      refine zn_icmp_le 25 i_Mess_identity_20 (by decide) (by omega) (by omega) (fun c_20 => ?_) (fun q => absurd q (by omega))
      refine zn_iconst 0 i_Mess_identity_25 (by decide) ?_
      refine zr_istore i_Mess_identity_26 rfl ?_
      refine zr_iload i_Mess_identity_28 rfl ?_
      refine zr_iload_n i_Mess_identity_30 rfl ?_
      refine zn_icmp_ge 71 i_Mess_identity_31 (by decide) (by omega) (by omega) (fun c_31 => ?_) (fun q => absurd q (fun z => absurd z (Nat.not_lt_zero _)))
      refine zr_lload_n i_Mess_identity_71 rfl ?_
      exact zR.retE i_Mess_identity_72 rfl rfl
    | some p =>
      have hl := l_Mess_identity X d h ad f n st k hM hn p (tl (txo f n (some p))) 0 0 none (by omega)
      refine zr_aload_n i_Mess_identity_0 rfl ?_
      refine zr_iconst i_Mess_identity_1 (v := 1) (by decide) ?_
      refine zr_iconst i_Mess_identity_2 (v := 2) (by decide) ?_
      refine zr_iconst i_Mess_identity_3 (v := 1) (by decide) ?_
      refine zr_iconst i_Mess_identity_4 (v := 1) (by decide) ?_
      refine zr_cv4 i_Mess_identity_5 rfl (by decide) (zrcv_of hM.1) (Nat.le_of_ble_eq_true rfl) (Nat.le_of_ble_eq_true rfl) (hf) ?_
      refine zr_istore_n i_Mess_identity_8 rfl ?_
      refine zr_aload_n i_Mess_identity_9 rfl ?_
      refine zr_iload_n i_Mess_identity_10 rfl ?_
      refine zr_cv1 i_Mess_identity_11 rfl (by decide) (zrcv_of hM.1) (Nat.le_of_ble_eq_true rfl) (Nat.le_of_ble_eq_true rfl) (htl) ?_
      refine zr_istore_n i_Mess_identity_14 rfl ?_
      refine zr_lconst i_Mess_identity_15 (v := 0) (by decide) ?_
      refine zr_lstore_n i_Mess_identity_16 rfl ?_
      refine zr_iload_n i_Mess_identity_17 rfl ?_
      refine zn_bipush 6 i_Mess_identity_18 (by decide) ?_
      refine zn_icmp_le 25 i_Mess_identity_20 (by decide) (by omega) (by omega) (fun c_20 => ?_) (fun q => absurd q (by omega))
      refine zn_iconst 0 i_Mess_identity_25 (by decide) ?_
      refine zr_istore i_Mess_identity_26 rfl ?_
      exact hl
