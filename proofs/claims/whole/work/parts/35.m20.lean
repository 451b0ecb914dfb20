/-! THE REFERENCE: writing a segment -/
/-- table 1 as a list of texts -/
def mTB (ms : zMS) (E : List zEn) : Prop := ms.2 3 1 = nI E.length ∧ E.length ≤ 220 ∧ ∀ t e, E[t]? = some e → ms.2 5 (220 + t) = nI e.1.1 ∧ ms.2 6 (220 + t) = nI e.1.2.1 ∧ ms.2 7 (220 + t) = nI e.1.2.2.1 ∧ ms.2 8 (220 + t) = nI e.1.2.2.2.1 ∧ ms.2 11 (220 + t) = nI e.2.length ∧ e.2.length ≤ 200 ∧ mto ms (some (220 + t)) ∧ mtx ms (some (220 + t)) = some e.2 ∧ ∀ c, c ∈ e.2 → zch c
def markF (f : Nat → Int32) (pv : Option zEn) (e : zEn) : Int32 := match pv with
  | none => f 0
  | some p => if ¬ nI p.1.2.1 = nI e.1.2.1 then f 0 else if ¬ nI p.1.2.2.1 = nI e.1.2.2.1 then f 2 else if ¬ nI p.1.2.2.2.1 = nI e.1.2.2.2.1 then f 1 else f 4
def wrE (f : Nat → Int32) (s : Nat) (pv : Option zEn) (E : List zEn) : List Int32 := match E with
  | [] => []
  | e :: E => if nI e.1.1 = nI s then markF f pv e :: (e.2.flatMap (putF f) ++ wrE f s (some e) E) else wrE f s pv E
theorem putF_len (f : Nat → Int32) (c : Int32) : 1 ≤ (putF f c).length ∧ (putF f c).length ≤ 3 := by
  unfold putF
  split <;> simp
theorem i_Mod_putSegment_0 : zins 160 0 = some (.iconst (-1)) := by decide +kernel
theorem i_Mod_putSegment_1 : zins 160 1 = some (.istore_n 2) := by decide +kernel
theorem i_Mod_putSegment_2 : zins 160 2 = some (.sipush 220) := by decide +kernel
theorem i_Mod_putSegment_5 : zins 160 5 = some (.istore_n 3) := by decide +kernel
theorem i_Mod_putSegment_6 : zins 160 6 = some (.iload_n 3) := by decide +kernel
theorem i_Mod_putSegment_7 : zins 160 7 = some (.sipush 220) := by decide +kernel
theorem i_Mod_putSegment_10 : zins 160 10 = some (.aload_n 0) := by decide +kernel
theorem i_Mod_putSegment_11 : zins 160 11 = some (.getfield 17) := by decide +kernel
theorem i_Mod_putSegment_14 : zins 160 14 = some (.iconst 1) := by decide +kernel
theorem i_Mod_putSegment_15 : zins 160 15 = some (.iaload) := by decide +kernel
theorem i_Mod_putSegment_16 : zins 160 16 = some (.iadd) := by decide +kernel
theorem i_Mod_putSegment_17 : zins 160 17 = some (.if_icmp .ge 189) := by decide +kernel
theorem i_Mod_putSegment_20 : zins 160 20 = some (.aload_n 0) := by decide +kernel
theorem i_Mod_putSegment_21 : zins 160 21 = some (.getfield 23) := by decide +kernel
theorem i_Mod_putSegment_24 : zins 160 24 = some (.iload_n 3) := by decide +kernel
theorem i_Mod_putSegment_25 : zins 160 25 = some (.iaload) := by decide +kernel
theorem i_Mod_putSegment_26 : zins 160 26 = some (.iload_n 1) := by decide +kernel
theorem i_Mod_putSegment_27 : zins 160 27 = some (.if_icmp .ne 173) := by decide +kernel
theorem i_Mod_putSegment_30 : zins 160 30 = some (.iload_n 2) := by decide +kernel
theorem i_Mod_putSegment_31 : zins 160 31 = some (.ifCond .lt 18) := by decide +kernel
theorem i_Mod_putSegment_34 : zins 160 34 = some (.aload_n 0) := by decide +kernel
theorem i_Mod_putSegment_35 : zins 160 35 = some (.getfield 26) := by decide +kernel
theorem i_Mod_putSegment_38 : zins 160 38 = some (.iload_n 2) := by decide +kernel
theorem i_Mod_putSegment_39 : zins 160 39 = some (.iaload) := by decide +kernel
theorem i_Mod_putSegment_40 : zins 160 40 = some (.aload_n 0) := by decide +kernel
theorem i_Mod_putSegment_41 : zins 160 41 = some (.getfield 26) := by decide +kernel
theorem i_Mod_putSegment_44 : zins 160 44 = some (.iload_n 3) := by decide +kernel
theorem i_Mod_putSegment_45 : zins 160 45 = some (.iaload) := by decide +kernel
theorem i_Mod_putSegment_46 : zins 160 46 = some (.if_icmp .eq 7) := by decide +kernel
theorem i_Mod_putSegment_49 : zins 160 49 = some (.iconst 1) := by decide +kernel
theorem i_Mod_putSegment_50 : zins 160 50 = some (.goto 4) := by decide +kernel
theorem i_Mod_putSegment_53 : zins 160 53 = some (.iconst 0) := by decide +kernel
theorem i_Mod_putSegment_54 : zins 160 54 = some (.istore 4) := by decide +kernel
theorem i_Mod_putSegment_56 : zins 160 56 = some (.iload 4) := by decide +kernel
theorem i_Mod_putSegment_58 : zins 160 58 = some (.ifCond .ne 22) := by decide +kernel
theorem i_Mod_putSegment_61 : zins 160 61 = some (.aload_n 0) := by decide +kernel
theorem i_Mod_putSegment_62 : zins 160 62 = some (.getfield 29) := by decide +kernel
theorem i_Mod_putSegment_65 : zins 160 65 = some (.iload_n 2) := by decide +kernel
theorem i_Mod_putSegment_66 : zins 160 66 = some (.iaload) := by decide +kernel
theorem i_Mod_putSegment_67 : zins 160 67 = some (.aload_n 0) := by decide +kernel
theorem i_Mod_putSegment_68 : zins 160 68 = some (.getfield 29) := by decide +kernel
theorem i_Mod_putSegment_71 : zins 160 71 = some (.iload_n 3) := by decide +kernel
theorem i_Mod_putSegment_72 : zins 160 72 = some (.iaload) := by decide +kernel
theorem i_Mod_putSegment_73 : zins 160 73 = some (.if_icmp .eq 7) := by decide +kernel
theorem i_Mod_putSegment_76 : zins 160 76 = some (.iconst 1) := by decide +kernel
theorem i_Mod_putSegment_77 : zins 160 77 = some (.goto 4) := by decide +kernel
theorem i_Mod_putSegment_80 : zins 160 80 = some (.iconst 0) := by decide +kernel
theorem i_Mod_putSegment_81 : zins 160 81 = some (.istore 5) := by decide +kernel
theorem i_Mod_putSegment_83 : zins 160 83 = some (.iload 4) := by decide +kernel
theorem i_Mod_putSegment_85 : zins 160 85 = some (.ifCond .ne 27) := by decide +kernel
theorem i_Mod_putSegment_88 : zins 160 88 = some (.iload 5) := by decide +kernel
theorem i_Mod_putSegment_90 : zins 160 90 = some (.ifCond .ne 22) := by decide +kernel
theorem i_Mod_putSegment_93 : zins 160 93 = some (.aload_n 0) := by decide +kernel
theorem i_Mod_putSegment_94 : zins 160 94 = some (.getfield 32) := by decide +kernel
theorem i_Mod_putSegment_97 : zins 160 97 = some (.iload_n 2) := by decide +kernel
theorem i_Mod_putSegment_98 : zins 160 98 = some (.iaload) := by decide +kernel
theorem i_Mod_putSegment_99 : zins 160 99 = some (.aload_n 0) := by decide +kernel
theorem i_Mod_putSegment_100 : zins 160 100 = some (.getfield 32) := by decide +kernel
theorem i_Mod_putSegment_103 : zins 160 103 = some (.iload_n 3) := by decide +kernel
theorem i_Mod_putSegment_104 : zins 160 104 = some (.iaload) := by decide +kernel
theorem i_Mod_putSegment_105 : zins 160 105 = some (.if_icmp .eq 7) := by decide +kernel
theorem i_Mod_putSegment_108 : zins 160 108 = some (.iconst 1) := by decide +kernel
theorem i_Mod_putSegment_109 : zins 160 109 = some (.goto 4) := by decide +kernel
theorem i_Mod_putSegment_112 : zins 160 112 = some (.iconst 0) := by decide +kernel
theorem i_Mod_putSegment_113 : zins 160 113 = some (.istore 6) := by decide +kernel
theorem i_Mod_putSegment_115 : zins 160 115 = some (.aload_n 0) := by decide +kernel
theorem i_Mod_putSegment_116 : zins 160 116 = some (.iload 4) := by decide +kernel
theorem i_Mod_putSegment_118 : zins 160 118 = some (.ifCond .eq 12) := by decide +kernel
theorem i_Mod_putSegment_121 : zins 160 121 = some (.aload_n 0) := by decide +kernel
theorem i_Mod_putSegment_122 : zins 160 122 = some (.getfield 87) := by decide +kernel
theorem i_Mod_putSegment_125 : zins 160 125 = some (.iconst 0) := by decide +kernel
theorem i_Mod_putSegment_126 : zins 160 126 = some (.caload) := by decide +kernel
theorem i_Mod_putSegment_127 : zins 160 127 = some (.goto 37) := by decide +kernel
theorem i_Mod_putSegment_130 : zins 160 130 = some (.iload 5) := by decide +kernel
theorem i_Mod_putSegment_132 : zins 160 132 = some (.ifCond .eq 12) := by decide +kernel
theorem i_Mod_putSegment_135 : zins 160 135 = some (.aload_n 0) := by decide +kernel
theorem i_Mod_putSegment_136 : zins 160 136 = some (.getfield 87) := by decide +kernel
theorem i_Mod_putSegment_139 : zins 160 139 = some (.iconst 2) := by decide +kernel
theorem i_Mod_putSegment_140 : zins 160 140 = some (.caload) := by decide +kernel
theorem i_Mod_putSegment_141 : zins 160 141 = some (.goto 23) := by decide +kernel
theorem i_Mod_putSegment_144 : zins 160 144 = some (.iload 6) := by decide +kernel
theorem i_Mod_putSegment_146 : zins 160 146 = some (.ifCond .eq 12) := by decide +kernel
theorem i_Mod_putSegment_149 : zins 160 149 = some (.aload_n 0) := by decide +kernel
theorem i_Mod_putSegment_150 : zins 160 150 = some (.getfield 87) := by decide +kernel
theorem i_Mod_putSegment_153 : zins 160 153 = some (.iconst 1) := by decide +kernel
theorem i_Mod_putSegment_154 : zins 160 154 = some (.caload) := by decide +kernel
theorem i_Mod_putSegment_155 : zins 160 155 = some (.goto 9) := by decide +kernel
theorem i_Mod_putSegment_158 : zins 160 158 = some (.aload_n 0) := by decide +kernel
theorem i_Mod_putSegment_159 : zins 160 159 = some (.getfield 87) := by decide +kernel
theorem i_Mod_putSegment_162 : zins 160 162 = some (.iconst 4) := by decide +kernel
theorem i_Mod_putSegment_163 : zins 160 163 = some (.caload) := by decide +kernel
theorem i_Mod_putSegment_164 : zins 160 164 = some (.invokevirtual 282) := by decide +kernel
theorem i_Mod_putSegment_167 : zins 160 167 = some (.iconst 0) := by decide +kernel
theorem i_Mod_putSegment_168 : zins 160 168 = some (.istore 7) := by decide +kernel
theorem i_Mod_putSegment_170 : zins 160 170 = some (.iload 7) := by decide +kernel
theorem i_Mod_putSegment_172 : zins 160 172 = some (.aload_n 0) := by decide +kernel
theorem i_Mod_putSegment_173 : zins 160 173 = some (.getfield 41) := by decide +kernel
theorem i_Mod_putSegment_176 : zins 160 176 = some (.iload_n 3) := by decide +kernel
theorem i_Mod_putSegment_177 : zins 160 177 = some (.iaload) := by decide +kernel
theorem i_Mod_putSegment_178 : zins 160 178 = some (.if_icmp .ge 20) := by decide +kernel
theorem i_Mod_putSegment_181 : zins 160 181 = some (.aload_n 0) := by decide +kernel
theorem i_Mod_putSegment_182 : zins 160 182 = some (.aload_n 0) := by decide +kernel
theorem i_Mod_putSegment_183 : zins 160 183 = some (.iload_n 3) := by decide +kernel
theorem i_Mod_putSegment_184 : zins 160 184 = some (.iload 7) := by decide +kernel
theorem i_Mod_putSegment_186 : zins 160 186 = some (.invokevirtual 149) := by decide +kernel
theorem i_Mod_putSegment_189 : zins 160 189 = some (.invokevirtual 285) := by decide +kernel
theorem i_Mod_putSegment_192 : zins 160 192 = some (.iinc 7 1) := by decide +kernel
theorem i_Mod_putSegment_195 : zins 160 195 = some (.goto (-25)) := by decide +kernel
theorem i_Mod_putSegment_198 : zins 160 198 = some (.iload_n 3) := by decide +kernel
theorem i_Mod_putSegment_199 : zins 160 199 = some (.istore_n 2) := by decide +kernel
theorem i_Mod_putSegment_200 : zins 160 200 = some (.iinc 3 1) := by decide +kernel
theorem i_Mod_putSegment_203 : zins 160 203 = some (.goto (-197)) := by decide +kernel
theorem i_Mod_putSegment_206 : zins 160 206 = some (.return_) := by decide +kernel
theorem l1_Mod_putSegment (X : zX) (d : Nat) (g : zH) (ms : zMS) (hG : ∀ k, k < 5 → zch (ms.2 26 k)) (E : List zEn) (hT : mTB ms E) (s t : Nat) (e : zEn) (he : E[t]? = some e) (x2 x4 x5 : Option Value) (y6 : Int32) (l : List Int32) (hl : (l ++ e.2.flatMap (putF (ms.2 26))).length ≤ 790) (u : Option Value × zH) (K : zR X (d + 3) 160 198 [some (.ref 129), some (.int (nI s)), x2, some (.int (nI (220 + t))), x4, x5, some (.int y6), some (.int (nI e.2.length))] [] (mset g (mwr ms (l ++ (e.2.take e.2.length).flatMap (putF (ms.2 26))))) u) : ∀ (k i : Nat), i + k = e.2.length → zR X (d + 3) 160 170 [some (.ref 129), some (.int (nI s)), x2, some (.int (nI (220 + t))), x4, x5, some (.int y6), some (.int (nI i))] [] (mset g (mwr ms (l ++ (e.2.take i).flatMap (putF (ms.2 26))))) u := by
  have hB := hT.2.2 t e he
  have ht : t < E.length := by
    rcases Nat.lt_or_ge t E.length with q | q
    · exact q
    · rw [List.getElem?_eq_none q] at he; cases he
  have hEl := hT.2.1
  have hel := hB.2.2.2.2.2.1
  intro k
  induction k with
  | zero =>
    intro i hik
    have hi : i = e.2.length := by omega
    subst hi
    refine zr_iload i_Mod_putSegment_170 rfl ?_
    refine zr_aload_n i_Mod_putSegment_172 rfl ?_
    refine zr_getf i_Mod_putSegment_173 rfl rfl rfl ?_
    refine zr_iload_n i_Mod_putSegment_176 rfl ?_
    refine zn_iaload i_Mod_putSegment_177 rfl (by omega) (by decide) ?_
    refine zr_top (y := nI e.2.length) hB.2.2.2.2.1 ?_
    refine zn_icmp_ge 198 i_Mod_putSegment_178 (by decide) (by omega) (by omega) (fun c_178 => ?_) (fun q => absurd q (by omega))
    exact K
  | succ k ih =>
    intro i hik
    have hi : i < e.2.length := by omega
    have hgi : e.2.getD i 0 = e.2[i] := by rw [List.getD_eq_getElem?_getD, List.getElem?_eq_getElem hi]; rfl
    have hz : zch (e.2.getD i 0) := by rw [hgi]; exact hB.2.2.2.2.2.2.2.2 _ (List.getElem_mem hi)
    have htc : tc (mtx ms (some (220 + t))) i = e.2.getD i 0 := by rw [hB.2.2.2.2.2.2.2.1]; rfl
    have htk : e.2.take (i + 1) = e.2.take i ++ [e.2.getD i 0] := by rw [hgi, List.take_succ, List.getElem?_eq_getElem hi]; rfl
    have hst : (e.2.take (i + 1)).flatMap (putF (ms.2 26)) = (e.2.take i).flatMap (putF (ms.2 26)) ++ putF (ms.2 26) (e.2.getD i 0) := by
      rw [htk, List.flatMap_append]; simp
    have hlen : (l ++ (e.2.take i).flatMap (putF (ms.2 26))).length + 3 ≤ 800 := by
      have h1 : e.2.flatMap (putF (ms.2 26)) = (e.2.take i).flatMap (putF (ms.2 26)) ++ (e.2.drop i).flatMap (putF (ms.2 26)) := by
        rw [← List.flatMap_append, List.take_append_drop]
      rw [h1, ← List.append_assoc, List.length_append] at hl
      omega
    have hnext := ih (i + 1) (by omega)
    rw [hst, ← List.append_assoc] at hnext
    refine zr_iload i_Mod_putSegment_170 rfl ?_
    refine zr_aload_n i_Mod_putSegment_172 rfl ?_
    refine zr_getf i_Mod_putSegment_173 rfl rfl rfl ?_
    refine zr_iload_n i_Mod_putSegment_176 rfl ?_
    refine zn_iaload i_Mod_putSegment_177 rfl (by omega) (by decide) ?_
    refine zr_top (y := nI e.2.length) hB.2.2.2.2.1 ?_
    refine zn_icmp_ge 198 i_Mod_putSegment_178 (by decide) (by omega) (by omega) (fun q => absurd q (by omega)) (fun c_178 => ?_)
    refine zr_aload_n i_Mod_putSegment_181 rfl ?_
    refine zr_aload_n i_Mod_putSegment_182 rfl ?_
    refine zr_iload_n i_Mod_putSegment_183 rfl ?_
    refine zr_iload i_Mod_putSegment_184 rfl ?_
    refine zr_cv2 i_Mod_putSegment_186 rfl (by decide) rfl (Nat.le_of_ble_eq_true rfl) (Nat.le_of_ble_eq_true rfl) (v_charOf X _ g (mwr ms (l ++ (e.2.take i).flatMap (putF (ms.2 26)))) (some (220 + t)) (hB.2.2.2.2.2.2.1 : mto ms _) i (by omega)) ?_
    refine zr_top (y := e.2.getD i 0) htc ?_
    refine zr_cv10 i_Mod_putSegment_189 rfl (by decide) rfl (Nat.le_of_ble_eq_true rfl) (Nat.le_of_ble_eq_true rfl) (e_Mod_putText X _ g ms (l ++ (e.2.take i).flatMap (putF (ms.2 26))) hlen hG (e.2.getD i 0) hz) ?_
    refine zn_iinc i_Mod_putSegment_192 rfl rfl ?_
    refine zr_goto 170 i_Mod_putSegment_195 (by decide) ?_
    exact hnext
theorem l2_Mod_putSegment (X : zX) (d : Nat) (g : zH) (ms : zMS) (hG : ∀ k, k < 5 → zch (ms.2 26 k)) (E : List zEn) (hT : mTB ms E) (s : Nat) : ∀ (k t : Nat) (l : List Int32) (o : Option Nat) (pv : Option zEn) (x4 x5 x6 x7 : Option Value), t + k = E.length → ((o = none ∧ pv = none) ∨ ∃ t' p, o = some (220 + t') ∧ pv = some p ∧ E[t']? = some p) → (l ++ wrE (ms.2 26) s pv (E.drop t)).length ≤ 790 → zR X (d + 3) 160 6 [some (.ref 129), some (.int (nI s)), some (.int (tI o)), some (.int (nI (220 + t))), x4, x5, x6, x7] [] (mset g (mwr ms l)) (none, mset g (mwr ms (l ++ wrE (ms.2 26) s pv (E.drop t)))) := by
  have hEl := hT.2.1
  intro k
  induction k with
  | zero =>
    intro t l o pv x4 x5 x6 x7 hik hpv hl
    refine zr_iload_n i_Mod_putSegment_6 rfl ?_
    refine zn_sipush 220 i_Mod_putSegment_7 (by decide) ?_
    refine zr_aload_n i_Mod_putSegment_10 rfl ?_
    refine zr_getf i_Mod_putSegment_11 rfl rfl rfl ?_
    refine zn_iconst 1 i_Mod_putSegment_14 (by decide) ?_
    refine zn_iaload i_Mod_putSegment_15 rfl (by omega) (by decide) ?_
    refine zr_top (y := nI E.length) hT.1 ?_
    refine zn_iadd i_Mod_putSegment_16 ?_
    refine zn_icmp_ge 206 i_Mod_putSegment_17 (by decide) (by omega) (by omega) (fun c_17 => ?_) (fun q => absurd q (by omega))
    exact zR.retE i_Mod_putSegment_206 rfl (by rw [List.drop_of_length_le (by omega), wrE, List.append_nil])
  | succ k ih =>
    intro t l o pv x4 x5 x6 x7 hik hpv hl
    have ht : t < E.length := by omega
    obtain ⟨e, he⟩ : ∃ e, E[t]? = some e := ⟨E[t], List.getElem?_eq_getElem ht⟩
    have hB := hT.2.2 t e he
    have hdr : E.drop t = e :: E.drop (t + 1) := by
      rw [List.drop_eq_getElem_cons ht]
      rw [List.getElem?_eq_getElem ht] at he
      cases he; rfl
    rw [hdr, wrE] at hl ⊢
    by_cases hs : nI e.1.1 = nI s
    · rw [if_pos hs] at hl ⊢
      have hl2 := hl
      rw [List.length_append, List.length_cons, List.length_append] at hl2
      have hlen : l.length < 800 := by omega
      have hl3 : (l ++ [markF (ms.2 26) pv e] ++ e.2.flatMap (putF (ms.2 26))).length ≤ 790 := by
        rw [List.length_append, List.length_append, List.length_singleton]; omega
      have hnext := fun y4 y5 y6 y7 => ih (t + 1) (l ++ [markF (ms.2 26) pv e] ++ e.2.flatMap (putF (ms.2 26))) (some (220 + t)) (some e) y4 y5 y6 y7 (by omega) (Or.inr ⟨t, e, rfl, rfl, he⟩) (by rw [List.length_append, List.length_append, List.length_append, List.length_singleton]; omega)
      rw [show l ++ markF (ms.2 26) pv e :: (e.2.flatMap (putF (ms.2 26)) ++ wrE (ms.2 26) s (some e) (E.drop (t + 1))) = l ++ [markF (ms.2 26) pv e] ++ e.2.flatMap (putF (ms.2 26)) ++ wrE (ms.2 26) s (some e) (E.drop (t + 1)) by simp]
      have K : ∀ x2 x4 x5 y6, zR X (d + 3) 160 198 [some (.ref 129), some (.int (nI s)), x2, some (.int (nI (220 + t))), x4, x5, some (.int y6), some (.int (nI e.2.length))] [] (mset g (mwr ms (l ++ [markF (ms.2 26) pv e] ++ (e.2.take e.2.length).flatMap (putF (ms.2 26))))) (none, mset g (mwr ms (l ++ [markF (ms.2 26) pv e] ++ e.2.flatMap (putF (ms.2 26)) ++ wrE (ms.2 26) s (some e) (E.drop (t + 1))))) := by
        intro x2 x4 x5 y6
        rw [List.take_length]
        have hnext := hnext x4 x5 (some (.int y6)) (some (.int (nI e.2.length)))
        refine zr_iload_n i_Mod_putSegment_198 rfl ?_
        refine zr_istore_n i_Mod_putSegment_199 rfl ?_
        refine zn_iinc i_Mod_putSegment_200 rfl rfl ?_
        refine zr_goto 6 i_Mod_putSegment_203 (by decide) ?_
        exact hnext
      clear hnext
      rcases hpv with ⟨rfl, rfl⟩ | ⟨t', p, rfl, rfl, htp⟩
      · skip
        refine zr_iload_n i_Mod_putSegment_6 rfl ?_
        refine zn_sipush 220 i_Mod_putSegment_7 (by decide) ?_
        refine zr_aload_n i_Mod_putSegment_10 rfl ?_
        refine zr_getf i_Mod_putSegment_11 rfl rfl rfl ?_
        refine zn_iconst 1 i_Mod_putSegment_14 (by decide) ?_
        refine zn_iaload i_Mod_putSegment_15 rfl (by omega) (by decide) ?_
        refine zr_top (y := nI E.length) hT.1 ?_
        refine zn_iadd i_Mod_putSegment_16 ?_
        refine zn_icmp_ge 206 i_Mod_putSegment_17 (by decide) (by omega) (by omega) (fun q => absurd q (by omega)) (fun c_17 => ?_)
        refine zr_aload_n i_Mod_putSegment_20 rfl ?_
        refine zr_getf i_Mod_putSegment_21 rfl rfl rfl ?_
        refine zr_iload_n i_Mod_putSegment_24 rfl ?_
        refine zn_iaload i_Mod_putSegment_25 rfl (by omega) (by decide) ?_
        refine zr_top (y := nI e.1.1) hB.1 ?_
        refine zr_iload_n i_Mod_putSegment_26 rfl ?_
        refine zr_icmp_ne 200 i_Mod_putSegment_27 (by decide) (fun q => absurd hs q) (fun c_27 => ?_)
        refine zr_iload_n i_Mod_putSegment_30 rfl ?_
        refine zr_if_lt 49 i_Mod_putSegment_31 (by decide) (fun _ => ?_) (fun q => absurd q (by decide))
        refine zr_iconst i_Mod_putSegment_49 (v := 1) (by decide) ?_
        refine zr_goto 54 i_Mod_putSegment_50 (by decide) ?_
        refine zr_istore i_Mod_putSegment_54 rfl ?_
        refine zr_iload i_Mod_putSegment_56 rfl ?_
        refine zr_if_ne 80 i_Mod_putSegment_58 (by decide) (fun _ => ?_) (fun q => absurd q (by decide))
        refine zr_iconst i_Mod_putSegment_80 (v := 0) (by decide) ?_
        refine zr_istore i_Mod_putSegment_81 rfl ?_
        refine zr_iload i_Mod_putSegment_83 rfl ?_
        refine zr_if_ne 112 i_Mod_putSegment_85 (by decide) (fun _ => ?_) (fun q => absurd q (by decide))
        refine zr_iconst i_Mod_putSegment_112 (v := 0) (by decide) ?_
        refine zr_istore i_Mod_putSegment_113 rfl ?_
        refine zr_aload_n i_Mod_putSegment_115 rfl ?_
        refine zr_iload i_Mod_putSegment_116 rfl ?_
        refine zr_if_eq 130 i_Mod_putSegment_118 (by decide) (fun q => absurd q (by decide)) (fun _ => ?_)
        refine zr_aload_n i_Mod_putSegment_121 rfl ?_
        refine zr_getf i_Mod_putSegment_122 rfl rfl rfl ?_
        refine zn_iconst 0 i_Mod_putSegment_125 (by decide) ?_
        refine zn_caload i_Mod_putSegment_126 rfl (by omega) (by decide) ?_
        refine zr_goto 164 i_Mod_putSegment_127 (by decide) ?_
        refine zr_cv10 i_Mod_putSegment_164 rfl (by decide) rfl (Nat.le_of_ble_eq_true rfl) (Nat.le_of_ble_eq_true rfl) (e_Mod_put X _ g ms l (by omega) (ms.2 26 0) (hG _ (by decide))) ?_
        refine zn_iconst 0 i_Mod_putSegment_167 (by decide) ?_
        refine zr_istore i_Mod_putSegment_168 rfl ?_
        (have hm : markF (ms.2 26) none e = ms.2 26 0 := by simp [markF, *]
         rw [hm] at K hl3 ⊢
         have h0 := fun a2 a4 a5 a6 => l1_Mod_putSegment X d g ms hG E hT s t e he a2 a4 a5 a6 (l ++ [ms.2 26 0]) hl3 _ (K a2 a4 a5 a6) e.2.length 0 (by omega)
         simp only [List.take_zero, List.flatMap_nil, List.append_nil] at h0
         exact h0 (some (.int (tI none))) (some (.int 1)) (some (.int 0)) 0)
      · have hP := hT.2.2 t' p htp
        have htl : t' < E.length := by
          rcases Nat.lt_or_ge t' E.length with q | q
          · exact q
          · rw [List.getElem?_eq_none q] at htp; cases htp
        refine zr_iload_n i_Mod_putSegment_6 rfl ?_
        refine zn_sipush 220 i_Mod_putSegment_7 (by decide) ?_
        refine zr_aload_n i_Mod_putSegment_10 rfl ?_
        refine zr_getf i_Mod_putSegment_11 rfl rfl rfl ?_
        refine zn_iconst 1 i_Mod_putSegment_14 (by decide) ?_
        refine zn_iaload i_Mod_putSegment_15 rfl (by omega) (by decide) ?_
        refine zr_top (y := nI E.length) hT.1 ?_
        refine zn_iadd i_Mod_putSegment_16 ?_
        refine zn_icmp_ge 206 i_Mod_putSegment_17 (by decide) (by omega) (by omega) (fun q => absurd q (by omega)) (fun c_17 => ?_)
        refine zr_aload_n i_Mod_putSegment_20 rfl ?_
        refine zr_getf i_Mod_putSegment_21 rfl rfl rfl ?_
        refine zr_iload_n i_Mod_putSegment_24 rfl ?_
        refine zn_iaload i_Mod_putSegment_25 rfl (by omega) (by decide) ?_
        refine zr_top (y := nI e.1.1) hB.1 ?_
        refine zr_iload_n i_Mod_putSegment_26 rfl ?_
        refine zr_icmp_ne 200 i_Mod_putSegment_27 (by decide) (fun q => absurd hs q) (fun c_27 => ?_)
        refine zr_iload_n i_Mod_putSegment_30 rfl ?_
        refine zN_if_lt 49 i_Mod_putSegment_31 (by decide) (by omega) ?_
        refine zr_aload_n i_Mod_putSegment_34 rfl ?_
        refine zr_getf i_Mod_putSegment_35 rfl rfl rfl ?_
        refine zr_iload_n i_Mod_putSegment_38 rfl ?_
        refine zn_iaload i_Mod_putSegment_39 rfl (by omega) (by decide) ?_
        refine zr_top (y := nI p.1.2.1) hP.2.1 ?_
        refine zr_aload_n i_Mod_putSegment_40 rfl ?_
        refine zr_getf i_Mod_putSegment_41 rfl rfl rfl ?_
        refine zr_iload_n i_Mod_putSegment_44 rfl ?_
        refine zn_iaload i_Mod_putSegment_45 rfl (by omega) (by decide) ?_
        refine zr_top (y := nI e.1.2.1) hB.2.1 ?_
        refine zr_icmp_eq 53 i_Mod_putSegment_46 (by decide) (fun c_46 => ?_) (fun c_46 => ?_)
        · skip
          refine zr_iconst i_Mod_putSegment_53 (v := 0) (by decide) ?_
          refine zr_istore i_Mod_putSegment_54 rfl ?_
          refine zr_iload i_Mod_putSegment_56 rfl ?_
          refine zr_if_ne 80 i_Mod_putSegment_58 (by decide) (fun q => absurd q (by decide)) (fun _ => ?_)
          refine zr_aload_n i_Mod_putSegment_61 rfl ?_
          refine zr_getf i_Mod_putSegment_62 rfl rfl rfl ?_
          refine zr_iload_n i_Mod_putSegment_65 rfl ?_
          refine zn_iaload i_Mod_putSegment_66 rfl (by omega) (by decide) ?_
          refine zr_top (y := nI p.1.2.2.1) hP.2.2.1 ?_
          refine zr_aload_n i_Mod_putSegment_67 rfl ?_
          refine zr_getf i_Mod_putSegment_68 rfl rfl rfl ?_
          refine zr_iload_n i_Mod_putSegment_71 rfl ?_
          refine zn_iaload i_Mod_putSegment_72 rfl (by omega) (by decide) ?_
          refine zr_top (y := nI e.1.2.2.1) hB.2.2.1 ?_
          refine zr_icmp_eq 80 i_Mod_putSegment_73 (by decide) (fun c_73 => ?_) (fun c_73 => ?_)
          · skip
            refine zr_iconst i_Mod_putSegment_80 (v := 0) (by decide) ?_
            refine zr_istore i_Mod_putSegment_81 rfl ?_
            refine zr_iload i_Mod_putSegment_83 rfl ?_
            refine zr_if_ne 112 i_Mod_putSegment_85 (by decide) (fun q => absurd q (by decide)) (fun _ => ?_)
            refine zr_iload i_Mod_putSegment_88 rfl ?_
            refine zr_if_ne 112 i_Mod_putSegment_90 (by decide) (fun q => absurd q (by decide)) (fun _ => ?_)
            refine zr_aload_n i_Mod_putSegment_93 rfl ?_
            refine zr_getf i_Mod_putSegment_94 rfl rfl rfl ?_
            refine zr_iload_n i_Mod_putSegment_97 rfl ?_
            refine zn_iaload i_Mod_putSegment_98 rfl (by omega) (by decide) ?_
            refine zr_top (y := nI p.1.2.2.2.1) hP.2.2.2.1 ?_
            refine zr_aload_n i_Mod_putSegment_99 rfl ?_
            refine zr_getf i_Mod_putSegment_100 rfl rfl rfl ?_
            refine zr_iload_n i_Mod_putSegment_103 rfl ?_
            refine zn_iaload i_Mod_putSegment_104 rfl (by omega) (by decide) ?_
            refine zr_top (y := nI e.1.2.2.2.1) hB.2.2.2.1 ?_
            refine zr_icmp_eq 112 i_Mod_putSegment_105 (by decide) (fun c_105 => ?_) (fun c_105 => ?_)
            · skip
              refine zr_iconst i_Mod_putSegment_112 (v := 0) (by decide) ?_
              refine zr_istore i_Mod_putSegment_113 rfl ?_
              refine zr_aload_n i_Mod_putSegment_115 rfl ?_
              refine zr_iload i_Mod_putSegment_116 rfl ?_
              refine zr_if_eq 130 i_Mod_putSegment_118 (by decide) (fun _ => ?_) (fun q => absurd q (by decide))
              refine zr_iload i_Mod_putSegment_130 rfl ?_
              refine zr_if_eq 144 i_Mod_putSegment_132 (by decide) (fun _ => ?_) (fun q => absurd q (by decide))
              refine zr_iload i_Mod_putSegment_144 rfl ?_
              refine zr_if_eq 158 i_Mod_putSegment_146 (by decide) (fun _ => ?_) (fun q => absurd q (by decide))
              refine zr_aload_n i_Mod_putSegment_158 rfl ?_
              refine zr_getf i_Mod_putSegment_159 rfl rfl rfl ?_
              refine zn_iconst 4 i_Mod_putSegment_162 (by decide) ?_
              refine zn_caload i_Mod_putSegment_163 rfl (by omega) (by decide) ?_
              refine zr_cv10 i_Mod_putSegment_164 rfl (by decide) rfl (Nat.le_of_ble_eq_true rfl) (Nat.le_of_ble_eq_true rfl) (e_Mod_put X _ g ms l (by omega) (ms.2 26 4) (hG _ (by decide))) ?_
              refine zn_iconst 0 i_Mod_putSegment_167 (by decide) ?_
              refine zr_istore i_Mod_putSegment_168 rfl ?_
              (have hm : markF (ms.2 26) (some p) e = ms.2 26 4 := by simp [markF, *]
               rw [hm] at K hl3 ⊢
               have h0 := fun a2 a4 a5 a6 => l1_Mod_putSegment X d g ms hG E hT s t e he a2 a4 a5 a6 (l ++ [ms.2 26 4]) hl3 _ (K a2 a4 a5 a6) e.2.length 0 (by omega)
               simp only [List.take_zero, List.flatMap_nil, List.append_nil] at h0
               exact h0 (some (.int (tI (some (220 + t'))))) (some (.int 0)) (some (.int 0)) 0)
            · skip
              refine zr_iconst i_Mod_putSegment_108 (v := 1) (by decide) ?_
              refine zr_goto 113 i_Mod_putSegment_109 (by decide) ?_
              refine zr_istore i_Mod_putSegment_113 rfl ?_
              refine zr_aload_n i_Mod_putSegment_115 rfl ?_
              refine zr_iload i_Mod_putSegment_116 rfl ?_
              refine zr_if_eq 130 i_Mod_putSegment_118 (by decide) (fun _ => ?_) (fun q => absurd q (by decide))
              refine zr_iload i_Mod_putSegment_130 rfl ?_
              refine zr_if_eq 144 i_Mod_putSegment_132 (by decide) (fun _ => ?_) (fun q => absurd q (by decide))
              refine zr_iload i_Mod_putSegment_144 rfl ?_
              refine zr_if_eq 158 i_Mod_putSegment_146 (by decide) (fun q => absurd q (by decide)) (fun _ => ?_)
              refine zr_aload_n i_Mod_putSegment_149 rfl ?_
              refine zr_getf i_Mod_putSegment_150 rfl rfl rfl ?_
              refine zn_iconst 1 i_Mod_putSegment_153 (by decide) ?_
              refine zn_caload i_Mod_putSegment_154 rfl (by omega) (by decide) ?_
              refine zr_goto 164 i_Mod_putSegment_155 (by decide) ?_
              refine zr_cv10 i_Mod_putSegment_164 rfl (by decide) rfl (Nat.le_of_ble_eq_true rfl) (Nat.le_of_ble_eq_true rfl) (e_Mod_put X _ g ms l (by omega) (ms.2 26 1) (hG _ (by decide))) ?_
              refine zn_iconst 0 i_Mod_putSegment_167 (by decide) ?_
              refine zr_istore i_Mod_putSegment_168 rfl ?_
              (have hm : markF (ms.2 26) (some p) e = ms.2 26 1 := by simp [markF, *]
               rw [hm] at K hl3 ⊢
               have h0 := fun a2 a4 a5 a6 => l1_Mod_putSegment X d g ms hG E hT s t e he a2 a4 a5 a6 (l ++ [ms.2 26 1]) hl3 _ (K a2 a4 a5 a6) e.2.length 0 (by omega)
               simp only [List.take_zero, List.flatMap_nil, List.append_nil] at h0
               exact h0 (some (.int (tI (some (220 + t'))))) (some (.int 0)) (some (.int 0)) 1)
          · skip
            refine zr_iconst i_Mod_putSegment_76 (v := 1) (by decide) ?_
            refine zr_goto 81 i_Mod_putSegment_77 (by decide) ?_
            refine zr_istore i_Mod_putSegment_81 rfl ?_
            refine zr_iload i_Mod_putSegment_83 rfl ?_
            refine zr_if_ne 112 i_Mod_putSegment_85 (by decide) (fun q => absurd q (by decide)) (fun _ => ?_)
            refine zr_iload i_Mod_putSegment_88 rfl ?_
            refine zr_if_ne 112 i_Mod_putSegment_90 (by decide) (fun _ => ?_) (fun q => absurd q (by decide))
            refine zr_iconst i_Mod_putSegment_112 (v := 0) (by decide) ?_
            refine zr_istore i_Mod_putSegment_113 rfl ?_
            refine zr_aload_n i_Mod_putSegment_115 rfl ?_
            refine zr_iload i_Mod_putSegment_116 rfl ?_
            refine zr_if_eq 130 i_Mod_putSegment_118 (by decide) (fun _ => ?_) (fun q => absurd q (by decide))
            refine zr_iload i_Mod_putSegment_130 rfl ?_
            refine zr_if_eq 144 i_Mod_putSegment_132 (by decide) (fun q => absurd q (by decide)) (fun _ => ?_)
            refine zr_aload_n i_Mod_putSegment_135 rfl ?_
            refine zr_getf i_Mod_putSegment_136 rfl rfl rfl ?_
            refine zn_iconst 2 i_Mod_putSegment_139 (by decide) ?_
            refine zn_caload i_Mod_putSegment_140 rfl (by omega) (by decide) ?_
            refine zr_goto 164 i_Mod_putSegment_141 (by decide) ?_
            refine zr_cv10 i_Mod_putSegment_164 rfl (by decide) rfl (Nat.le_of_ble_eq_true rfl) (Nat.le_of_ble_eq_true rfl) (e_Mod_put X _ g ms l (by omega) (ms.2 26 2) (hG _ (by decide))) ?_
            refine zn_iconst 0 i_Mod_putSegment_167 (by decide) ?_
            refine zr_istore i_Mod_putSegment_168 rfl ?_
            (have hm : markF (ms.2 26) (some p) e = ms.2 26 2 := by simp [markF, *]
             rw [hm] at K hl3 ⊢
             have h0 := fun a2 a4 a5 a6 => l1_Mod_putSegment X d g ms hG E hT s t e he a2 a4 a5 a6 (l ++ [ms.2 26 2]) hl3 _ (K a2 a4 a5 a6) e.2.length 0 (by omega)
             simp only [List.take_zero, List.flatMap_nil, List.append_nil] at h0
             exact h0 (some (.int (tI (some (220 + t'))))) (some (.int 0)) (some (.int 1)) 0)
        · skip
          refine zr_iconst i_Mod_putSegment_49 (v := 1) (by decide) ?_
          refine zr_goto 54 i_Mod_putSegment_50 (by decide) ?_
          refine zr_istore i_Mod_putSegment_54 rfl ?_
          refine zr_iload i_Mod_putSegment_56 rfl ?_
          refine zr_if_ne 80 i_Mod_putSegment_58 (by decide) (fun _ => ?_) (fun q => absurd q (by decide))
          refine zr_iconst i_Mod_putSegment_80 (v := 0) (by decide) ?_
          refine zr_istore i_Mod_putSegment_81 rfl ?_
          refine zr_iload i_Mod_putSegment_83 rfl ?_
          refine zr_if_ne 112 i_Mod_putSegment_85 (by decide) (fun _ => ?_) (fun q => absurd q (by decide))
          refine zr_iconst i_Mod_putSegment_112 (v := 0) (by decide) ?_
          refine zr_istore i_Mod_putSegment_113 rfl ?_
          refine zr_aload_n i_Mod_putSegment_115 rfl ?_
          refine zr_iload i_Mod_putSegment_116 rfl ?_
          refine zr_if_eq 130 i_Mod_putSegment_118 (by decide) (fun q => absurd q (by decide)) (fun _ => ?_)
          refine zr_aload_n i_Mod_putSegment_121 rfl ?_
          refine zr_getf i_Mod_putSegment_122 rfl rfl rfl ?_
          refine zn_iconst 0 i_Mod_putSegment_125 (by decide) ?_
          refine zn_caload i_Mod_putSegment_126 rfl (by omega) (by decide) ?_
          refine zr_goto 164 i_Mod_putSegment_127 (by decide) ?_
          refine zr_cv10 i_Mod_putSegment_164 rfl (by decide) rfl (Nat.le_of_ble_eq_true rfl) (Nat.le_of_ble_eq_true rfl) (e_Mod_put X _ g ms l (by omega) (ms.2 26 0) (hG _ (by decide))) ?_
          refine zn_iconst 0 i_Mod_putSegment_167 (by decide) ?_
          refine zr_istore i_Mod_putSegment_168 rfl ?_
          (have hm : markF (ms.2 26) (some p) e = ms.2 26 0 := by simp [markF, *]
           rw [hm] at K hl3 ⊢
           have h0 := fun a2 a4 a5 a6 => l1_Mod_putSegment X d g ms hG E hT s t e he a2 a4 a5 a6 (l ++ [ms.2 26 0]) hl3 _ (K a2 a4 a5 a6) e.2.length 0 (by omega)
           simp only [List.take_zero, List.flatMap_nil, List.append_nil] at h0
           exact h0 (some (.int (tI (some (220 + t'))))) (some (.int 1)) (some (.int 0)) 0)
    · rw [if_neg hs] at hl ⊢
      refine zr_iload_n i_Mod_putSegment_6 rfl ?_
      refine zn_sipush 220 i_Mod_putSegment_7 (by decide) ?_
      refine zr_aload_n i_Mod_putSegment_10 rfl ?_
      refine zr_getf i_Mod_putSegment_11 rfl rfl rfl ?_
      refine zn_iconst 1 i_Mod_putSegment_14 (by decide) ?_
      refine zn_iaload i_Mod_putSegment_15 rfl (by omega) (by decide) ?_
      refine zr_top (y := nI E.length) hT.1 ?_
      refine zn_iadd i_Mod_putSegment_16 ?_
      refine zn_icmp_ge 206 i_Mod_putSegment_17 (by decide) (by omega) (by omega) (fun q => absurd q (by omega)) (fun c_17 => ?_)
      refine zr_aload_n i_Mod_putSegment_20 rfl ?_
      refine zr_getf i_Mod_putSegment_21 rfl rfl rfl ?_
      refine zr_iload_n i_Mod_putSegment_24 rfl ?_
      refine zn_iaload i_Mod_putSegment_25 rfl (by omega) (by decide) ?_
      refine zr_top (y := nI e.1.1) hB.1 ?_
      refine zr_iload_n i_Mod_putSegment_26 rfl ?_
      refine zr_icmp_ne 200 i_Mod_putSegment_27 (by decide) (fun c_27 => ?_) (fun q => absurd q hs)
      refine zn_iinc i_Mod_putSegment_200 rfl rfl ?_
      refine zr_goto 6 i_Mod_putSegment_203 (by decide) ?_
      exact ih (t + 1) l o pv _ _ _ _ (by omega) hpv hl
theorem e_Mod_putSegment (X : zX) (d : Nat) (g : zH) (ms : zMS) (hG : ∀ k, k < 5 → zch (ms.2 26 k)) (E : List zEn) (hT : mTB ms E) (s : Nat) (l : List Int32) (hl : (l ++ wrE (ms.2 26) s none E).length ≤ 790) : zR X (d + 3) 160 0 (zent 8 [.ref 129, .int (nI s)]) [] (mset g (mwr ms l)) (none, mset g (mwr ms (l ++ wrE (ms.2 26) s none E))) := by
  refine zr_iconst i_Mod_putSegment_0 (v := (-1)) (by decide) ?_
  refine zr_istore_n i_Mod_putSegment_1 rfl ?_
  refine zn_sipush 220 i_Mod_putSegment_2 (by decide) ?_
  refine zr_istore_n i_Mod_putSegment_5 rfl ?_
  exact l2_Mod_putSegment X d g ms hG E hT s E.length 0 l none none none none none none (by omega) (Or.inl ⟨rfl, rfl⟩) hl
