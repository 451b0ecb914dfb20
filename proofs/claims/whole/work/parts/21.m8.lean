/-! THE REFERENCE: judging and acting -/
def zpas (f : Nat → Int32) (b : Nat) (h : Nat → Int32) (n j : Nat) : Int32 := if b ≤ j ∧ j < b + n then h (j - b) else f j
theorem zpas_0 {f h : Nat → Int32} {b : Nat} : zpas f b h 0 = f := by
  funext j
  exact if_neg (by omega)
theorem zpas_s {f h : Nat → Int32} {b i : Nat} : upd (zpas f b h i) (b + i) (h i) = zpas f b h (i + 1) := by
  funext j
  unfold zpas
  by_cases h1 : j = b + i
  · subst h1
    rw [pk_us, if_pos (by omega), Nat.add_sub_cancel_left]
  · rw [pk_un h1]
    by_cases h2 : b ≤ j ∧ j < b + i
    · rw [if_pos h2, if_pos (by omega)]
    · rw [if_neg h2, if_neg (by omega)]
def mnam (ms : zMS) (q : (Nat → Int32) × (Nat → Int32)) : zMS := (ms.1, va_up (va_up ms.2 20 q.1) 21 q.2)
def mnq (ms : zMS) : (Nat → Int32) × (Nat → Int32) := (ms.2 20, ms.2 21)
theorem mnam_self (ms : zMS) : mnam ms (mnq ms) = ms := by
  unfold mnam mnq
  rw [up_self (f := ms.2) (i := 20), up_self (f := ms.2) (i := 21)]
theorem mnam_nam (ms : zMS) (q q' : (Nat → Int32) × (Nat → Int32)) : mnam (mnam ms q) q' = mnam ms q' := by
  unfold mnam
  dsimp only
  rw [up_comm (i := 21) (j := 20) (by decide), up_same, up_same]
theorem mnam_21 (ms : zMS) (q : (Nat → Int32) × (Nat → Int32)) (b : Nat → Int32) : ((mnam ms q).1, va_up (mnam ms q).2 21 b) = mnam ms (q.1, b) := by
  unfold mnam
  dsimp only
  rw [up_same]
theorem mnam_20 (ms : zMS) (a : Nat → Int32) : (ms.1, va_up ms.2 20 a) = mnam ms (a, ms.2 21) := by
  unfold mnam
  dsimp only
  rw [up_comm (i := 20) (j := 21) (by decide), up_self (f := ms.2) (i := 21)]
def nameN (t : zT) : Nat := if tl t < 12 then tl t else 12
/-- a name taken out of a text -/
def takeQ (q : (Nat → Int32) × (Nat → Int32)) (t : zT) (p part : Nat) : (Nat → Int32) × (Nat → Int32) := if tl t = 0 then q else (upd q.1 (2 * p + part) (if vnull t = true then 0 else nI (nameN t)), zpas q.2 (24 * p + 12 * part) (fun i => vp_nar .char (tc t i)) (nameN t))
theorem i_Mod_takeName_0 : zins 136 0 = some (.aload_n 0) := by decide +kernel
theorem i_Mod_takeName_1 : zins 136 1 = some (.iconst 0) := by decide +kernel
theorem i_Mod_takeName_2 : zins 136 2 = some (.iload_n 3) := by decide +kernel
theorem i_Mod_takeName_3 : zins 136 3 = some (.iconst 2) := by decide +kernel
theorem i_Mod_takeName_4 : zins 136 4 = some (.iconst 1) := by decide +kernel
theorem i_Mod_takeName_5 : zins 136 5 = some (.iload_n 2) := by decide +kernel
theorem i_Mod_takeName_6 : zins 136 6 = some (.iconst 1) := by decide +kernel
theorem i_Mod_takeName_7 : zins 136 7 = some (.iadd) := by decide +kernel
theorem i_Mod_takeName_8 : zins 136 8 = some (.invokevirtual 153) := by decide +kernel
theorem i_Mod_takeName_11 : zins 136 11 = some (.istore 4) := by decide +kernel
theorem i_Mod_takeName_13 : zins 136 13 = some (.aload_n 0) := by decide +kernel
theorem i_Mod_takeName_14 : zins 136 14 = some (.iload 4) := by decide +kernel
theorem i_Mod_takeName_16 : zins 136 16 = some (.invokevirtual 145) := by decide +kernel
theorem i_Mod_takeName_19 : zins 136 19 = some (.bipush 12) := by decide +kernel
theorem i_Mod_takeName_21 : zins 136 21 = some (.if_icmp .ge 12) := by decide +kernel
theorem i_Mod_takeName_24 : zins 136 24 = some (.aload_n 0) := by decide +kernel
theorem i_Mod_takeName_25 : zins 136 25 = some (.iload 4) := by decide +kernel
theorem i_Mod_takeName_27 : zins 136 27 = some (.invokevirtual 145) := by decide +kernel
theorem i_Mod_takeName_30 : zins 136 30 = some (.goto 5) := by decide +kernel
theorem i_Mod_takeName_33 : zins 136 33 = some (.bipush 12) := by decide +kernel
theorem i_Mod_takeName_35 : zins 136 35 = some (.istore 5) := by decide +kernel
theorem i_Mod_takeName_37 : zins 136 37 = some (.iload 5) := by decide +kernel
theorem i_Mod_takeName_39 : zins 136 39 = some (.ifCond .ne 4) := by decide +kernel
theorem i_Mod_takeName_42 : zins 136 42 = some (.return_) := by decide +kernel
theorem i_Mod_takeName_43 : zins 136 43 = some (.aload_n 0) := by decide +kernel
theorem i_Mod_takeName_44 : zins 136 44 = some (.getfield 69) := by decide +kernel
theorem i_Mod_takeName_47 : zins 136 47 = some (.iconst 2) := by decide +kernel
theorem i_Mod_takeName_48 : zins 136 48 = some (.iload_n 1) := by decide +kernel
theorem i_Mod_takeName_49 : zins 136 49 = some (.imul) := by decide +kernel
theorem i_Mod_takeName_50 : zins 136 50 = some (.iload_n 2) := by decide +kernel
theorem i_Mod_takeName_51 : zins 136 51 = some (.iadd) := by decide +kernel
theorem i_Mod_takeName_52 : zins 136 52 = some (.aload_n 0) := by decide +kernel
theorem i_Mod_takeName_53 : zins 136 53 = some (.iload 4) := by decide +kernel
theorem i_Mod_takeName_55 : zins 136 55 = some (.invokevirtual 175) := by decide +kernel
theorem i_Mod_takeName_58 : zins 136 58 = some (.ifCond .eq 7) := by decide +kernel
theorem i_Mod_takeName_61 : zins 136 61 = some (.iconst 0) := by decide +kernel
theorem i_Mod_takeName_62 : zins 136 62 = some (.goto 5) := by decide +kernel
theorem i_Mod_takeName_65 : zins 136 65 = some (.iload 5) := by decide +kernel
theorem i_Mod_takeName_67 : zins 136 67 = some (.iastore) := by decide +kernel
theorem i_Mod_takeName_68 : zins 136 68 = some (.iconst 0) := by decide +kernel
theorem i_Mod_takeName_69 : zins 136 69 = some (.istore 6) := by decide +kernel
theorem i_Mod_takeName_71 : zins 136 71 = some (.iload 6) := by decide +kernel
theorem i_Mod_takeName_73 : zins 136 73 = some (.iload 5) := by decide +kernel
theorem i_Mod_takeName_75 : zins 136 75 = some (.if_icmp .ge 34) := by decide +kernel
theorem i_Mod_takeName_78 : zins 136 78 = some (.aload_n 0) := by decide +kernel
theorem i_Mod_takeName_79 : zins 136 79 = some (.getfield 72) := by decide +kernel
theorem i_Mod_takeName_82 : zins 136 82 = some (.bipush 24) := by decide +kernel
theorem i_Mod_takeName_84 : zins 136 84 = some (.iload_n 1) := by decide +kernel
theorem i_Mod_takeName_85 : zins 136 85 = some (.imul) := by decide +kernel
theorem i_Mod_takeName_86 : zins 136 86 = some (.bipush 12) := by decide +kernel
theorem i_Mod_takeName_88 : zins 136 88 = some (.iload_n 2) := by decide +kernel
theorem i_Mod_takeName_89 : zins 136 89 = some (.imul) := by decide +kernel
theorem i_Mod_takeName_90 : zins 136 90 = some (.iadd) := by decide +kernel
theorem i_Mod_takeName_91 : zins 136 91 = some (.iload 6) := by decide +kernel
theorem i_Mod_takeName_93 : zins 136 93 = some (.iadd) := by decide +kernel
theorem i_Mod_takeName_94 : zins 136 94 = some (.aload_n 0) := by decide +kernel
theorem i_Mod_takeName_95 : zins 136 95 = some (.iload 4) := by decide +kernel
theorem i_Mod_takeName_97 : zins 136 97 = some (.iload 6) := by decide +kernel
theorem i_Mod_takeName_99 : zins 136 99 = some (.invokevirtual 149) := by decide +kernel
theorem i_Mod_takeName_102 : zins 136 102 = some (.castore) := by decide +kernel
theorem i_Mod_takeName_103 : zins 136 103 = some (.iinc 6 1) := by decide +kernel
theorem i_Mod_takeName_106 : zins 136 106 = some (.goto (-35)) := by decide +kernel
theorem i_Mod_takeName_109 : zins 136 109 = some (.return_) := by decide +kernel
theorem l_Mod_takeName (X : zX) (d : Nat) (g : zH) (ms : zMS) (cnt : Nat) (hT : mTV ms 0 cnt) (p part pid : Nat) (hp : p ≤ 99) (hpa : part ≤ 1) (hpi : pid < 2 ^ 30) (a : Nat → Int32) (m : Nat) (hm : m ≤ 12) : ∀ (k i : Nat), i + k = m → zR X (d + 2) 136 71 [some (.ref 129), some (.int (nI p)), some (.int (nI part)), some (.int (nI pid)), some (.int (tI (mfind ms 0 (nI pid) 2 1 (nI (part + 1))))), some (.int (nI m)), some (.int (nI i))] [] (mset g (mnam ms (a, zpas (ms.2 21) (24 * p + 12 * part) (fun i => vp_nar .char (tc (mV ms (nI pid) 2 1 (nI (part + 1))) i)) i))) (none, mset g (mnam ms (a, zpas (ms.2 21) (24 * p + 12 * part) (fun i => vp_nar .char (tc (mV ms (nI pid) 2 1 (nI (part + 1))) i)) m))) := by
  intro k
  induction k with
  | zero =>
    intro i hik
    refine zr_iload i_Mod_takeName_71 rfl ?_
    refine zr_iload i_Mod_takeName_73 rfl ?_
    refine zn_icmp_ge 109 i_Mod_takeName_75 (by decide) (by omega) (by omega) (fun c_75 => ?_) (fun q => absurd q (by first | assumption | omega | simp_all))
    exact zR.retE i_Mod_takeName_109 rfl (by rw [show i = m by omega])
  | succ k ih =>
    intro i hik
    refine zr_iload i_Mod_takeName_71 rfl ?_
    refine zr_iload i_Mod_takeName_73 rfl ?_
    refine zn_icmp_ge 109 i_Mod_takeName_75 (by decide) (by omega) (by omega) (fun q => absurd q (by first | assumption | omega | simp_all)) (fun c_75 => ?_)
    refine zr_aload_n i_Mod_takeName_78 rfl ?_
    refine zr_getf i_Mod_takeName_79 rfl rfl rfl ?_
    refine zn_bipush 24 i_Mod_takeName_82 (by decide) ?_
    refine zr_iload_n i_Mod_takeName_84 rfl ?_
    refine zn_imul i_Mod_takeName_85 ?_
    refine zn_bipush 12 i_Mod_takeName_86 (by decide) ?_
    refine zr_iload_n i_Mod_takeName_88 rfl ?_
    refine zn_imul i_Mod_takeName_89 ?_
    refine zn_iadd i_Mod_takeName_90 ?_
    refine zr_iload i_Mod_takeName_91 rfl ?_
    refine zn_iadd i_Mod_takeName_93 ?_
    refine zr_aload_n i_Mod_takeName_94 rfl ?_
    refine zr_iload i_Mod_takeName_95 rfl ?_
    refine zr_iload i_Mod_takeName_97 rfl ?_
    refine zr_cv2 i_Mod_takeName_99 rfl (by decide) rfl (Nat.le_of_ble_eq_true rfl) (Nat.le_of_ble_eq_true rfl) (v_charOf X _ g (mnam ms (a, zpas (ms.2 21) (24 * p + 12 * part) (fun i => vp_nar .char (tc (mV ms (nI pid) 2 1 (nI (part + 1))) i)) i)) (mfind ms 0 (nI pid) 2 1 (nI (part + 1))) (mto_find hT _ _ _ _ : mto ms _) i (by omega)) ?_
    refine mn_castore 21 2400 i_Mod_takeName_102 (fun _ => rfl) (by decide) (by omega) (by decide) ?_
    refine zn_iinc i_Mod_takeName_103 rfl rfl ?_
    refine zr_goto 71 i_Mod_takeName_106 (by decide) ?_
    (have e := ih (i + 1) (by omega)
     rw [← zpas_s, ← mnam_21 ms (a, zpas (ms.2 21) (24 * p + 12 * part) (fun i => vp_nar .char (tc (mV ms (nI pid) 2 1 (nI (part + 1))) i)) i)] at e
     exact e)
theorem e_Mod_takeName (X : zX) (d : Nat) (g : zH) (ms : zMS) (cnt : Nat) (hT : mTV ms 0 cnt) (p part pid : Nat) (hp : p ≤ 99) (hpa : part ≤ 1) (hpi : pid < 2 ^ 30) : zR X (d + 3) 136 0 (zent 7 [.ref 129, .int (nI p), .int (nI part), .int (nI pid)]) [] (mset g ms) (none, mset g (mnam ms (takeQ (mnq ms) (mV ms (nI pid) 2 1 (nI (part + 1))) p part))) := by
  have hz : tl (mtx ms (mfind ms 0 (nI pid) 2 1 (nI (part + 1)))) ≤ 400 := v_tl ms _ (mto_find hT _ _ _ _)
  have hnm : nameN (mV ms (nI pid) 2 1 (nI (part + 1))) ≤ 12 := by unfold nameN; split <;> omega
  have hze : nameN (mV ms (nI pid) 2 1 (nI (part + 1))) = 0 → tl (mV ms (nI pid) 2 1 (nI (part + 1))) = 0 := by unfold nameN; split <;> omega
  have hne : nameN (mV ms (nI pid) 2 1 (nI (part + 1))) ≠ 0 → tl (mV ms (nI pid) 2 1 (nI (part + 1))) ≠ 0 := by unfold nameN; split <;> omega
  have key : zR X (d + 3) 136 37 [some (.ref 129), some (.int (nI p)), some (.int (nI part)), some (.int (nI pid)), some (.int (tI (mfind ms 0 (nI pid) 2 1 (nI (part + 1))))), some (.int (nI (nameN (mV ms (nI pid) 2 1 (nI (part + 1)))))), none] [] (mset g ms) (none, mset g (mnam ms (takeQ (mnq ms) (mV ms (nI pid) 2 1 (nI (part + 1))) p part))) := by
    refine zr_iload i_Mod_takeName_37 rfl ?_
    refine zN_if_ne 43 i_Mod_takeName_39 (by decide) (by omega) (fun c_39 => ?_) (fun c_39 => ?_)
    · skip
      refine zr_aload_n i_Mod_takeName_43 rfl ?_
      refine zr_getf i_Mod_takeName_44 rfl rfl rfl ?_
      refine zn_iconst 2 i_Mod_takeName_47 (by decide) ?_
      refine zr_iload_n i_Mod_takeName_48 rfl ?_
      refine zn_imul i_Mod_takeName_49 ?_
      refine zr_iload_n i_Mod_takeName_50 rfl ?_
      refine zn_iadd i_Mod_takeName_51 ?_
      refine zr_aload_n i_Mod_takeName_52 rfl ?_
      refine zr_iload i_Mod_takeName_53 rfl ?_
      refine zr_cv1 i_Mod_takeName_55 rfl (by decide) rfl (Nat.le_of_ble_eq_true rfl) (Nat.le_of_ble_eq_true rfl) (v_isNull X _ g ms _ (mto_find hT _ _ _ _)) ?_
      refine zB_if_eq 65 i_Mod_takeName_58 (by decide) (fun c_58 => ?_) (fun c_58 => ?_)
      · skip
        refine zr_iload i_Mod_takeName_65 rfl ?_
        refine mn_iastore 20 200 i_Mod_takeName_67 (fun _ => rfl) (by decide) (by omega) (by decide) ?_
        refine zn_iconst 0 i_Mod_takeName_68 (by decide) ?_
        refine zr_istore i_Mod_takeName_69 rfl ?_
        (have e := l_Mod_takeName X (d + 1) g ms cnt hT p part pid hp hpa hpi (upd (ms.2 20) (2 * p + part) (nI (nameN (mV ms (nI pid) 2 1 (nI (part + 1)))))) (nameN (mV ms (nI pid) 2 1 (nI (part + 1)))) hnm (nameN (mV ms (nI pid) 2 1 (nI (part + 1)))) 0 (by omega)
         rw [zpas_0, ← mnam_20] at e
         rw [show takeQ (mnq ms) (mV ms (nI pid) 2 1 (nI (part + 1))) p part = (upd (ms.2 20) (2 * p + part) (nI (nameN (mV ms (nI pid) 2 1 (nI (part + 1))))), zpas (ms.2 21) (24 * p + 12 * part) (fun i => vp_nar .char (tc (mV ms (nI pid) 2 1 (nI (part + 1))) i)) (nameN (mV ms (nI pid) 2 1 (nI (part + 1))))) by
           unfold takeQ
           rw [if_neg (show ¬ tl (mV ms (nI pid) 2 1 (nI (part + 1))) = 0 from hne (by omega))]
           simp [mnq, mV, *]]
         exact e)
      · skip
        refine zr_iconst i_Mod_takeName_61 (v := 0) (by decide) ?_
        refine zr_goto 67 i_Mod_takeName_62 (by decide) ?_
        refine mn_iastore 20 200 i_Mod_takeName_67 (fun _ => rfl) (by decide) (by omega) (by decide) ?_
        refine zn_iconst 0 i_Mod_takeName_68 (by decide) ?_
        refine zr_istore i_Mod_takeName_69 rfl ?_
        (have e := l_Mod_takeName X (d + 1) g ms cnt hT p part pid hp hpa hpi (upd (ms.2 20) (2 * p + part) 0) (nameN (mV ms (nI pid) 2 1 (nI (part + 1)))) hnm (nameN (mV ms (nI pid) 2 1 (nI (part + 1)))) 0 (by omega)
         rw [zpas_0, ← mnam_20] at e
         rw [show takeQ (mnq ms) (mV ms (nI pid) 2 1 (nI (part + 1))) p part = (upd (ms.2 20) (2 * p + part) 0, zpas (ms.2 21) (24 * p + 12 * part) (fun i => vp_nar .char (tc (mV ms (nI pid) 2 1 (nI (part + 1))) i)) (nameN (mV ms (nI pid) 2 1 (nI (part + 1))))) by
           unfold takeQ
           rw [if_neg (show ¬ tl (mV ms (nI pid) 2 1 (nI (part + 1))) = 0 from hne (by omega))]
           simp [mnq, mV, *]]
         exact e)
    · skip
      exact zR.retE i_Mod_takeName_42 rfl (by rw [takeQ, if_pos (hze (by omega)), mnam_self])
  refine zr_aload_n i_Mod_takeName_0 rfl ?_
  refine zn_iconst 0 i_Mod_takeName_1 (by decide) ?_
  refine zr_iload_n i_Mod_takeName_2 rfl ?_
  refine zr_iconst i_Mod_takeName_3 (v := 2) (by decide) ?_
  refine zr_iconst i_Mod_takeName_4 (v := 1) (by decide) ?_
  refine zr_iload_n i_Mod_takeName_5 rfl ?_
  refine zn_iconst 1 i_Mod_takeName_6 (by decide) ?_
  refine zn_iadd i_Mod_takeName_7 ?_
  refine zr_cv5 i_Mod_takeName_8 rfl (by decide) rfl (Nat.le_of_ble_eq_true rfl) (Nat.le_of_ble_eq_true rfl) (e_Mod_find X _ g ms 0 cnt _ _ _ _ (by decide) hT.1 hT.2.1) ?_
  refine zr_istore i_Mod_takeName_11 rfl ?_
  refine zr_aload_n i_Mod_takeName_13 rfl ?_
  refine zr_iload i_Mod_takeName_14 rfl ?_
  refine zr_cv1 i_Mod_takeName_16 rfl (by decide) rfl (Nat.le_of_ble_eq_true rfl) (Nat.le_of_ble_eq_true rfl) (v_sizeOf X _ g ms _ (mto_find hT _ _ _ _)) ?_
  refine zn_bipush 12 i_Mod_takeName_19 (by decide) ?_
  refine zn_icmp_ge 33 i_Mod_takeName_21 (by decide) (by omega) (by omega) (fun c_21 => ?_) (fun c_21 => ?_)
  · skip
    refine zn_bipush 12 i_Mod_takeName_33 (by decide) ?_
    refine zr_istore i_Mod_takeName_35 rfl ?_
    first
    | (rw [show nameN (mV ms (nI pid) 2 1 (nI (part + 1))) = tl (mtx ms (mfind ms 0 (nI pid) 2 1 (nI (part + 1)))) from if_pos (by assumption)] at key; exact key)
    | (rw [show nameN (mV ms (nI pid) 2 1 (nI (part + 1))) = 12 from if_neg (show ¬ tl (mtx ms (mfind ms 0 (nI pid) 2 1 (nI (part + 1)))) < 12 by omega)] at key; exact key)
  · skip
    refine zr_aload_n i_Mod_takeName_24 rfl ?_
    refine zr_iload i_Mod_takeName_25 rfl ?_
    refine zr_cv1 i_Mod_takeName_27 rfl (by decide) rfl (Nat.le_of_ble_eq_true rfl) (Nat.le_of_ble_eq_true rfl) (v_sizeOf X _ g ms _ (mto_find hT _ _ _ _)) ?_
    refine zr_goto 35 i_Mod_takeName_30 (by decide) ?_
    refine zr_istore i_Mod_takeName_35 rfl ?_
    first
    | (rw [show nameN (mV ms (nI pid) 2 1 (nI (part + 1))) = tl (mtx ms (mfind ms 0 (nI pid) 2 1 (nI (part + 1)))) from if_pos (by assumption)] at key; exact key)
    | (rw [show nameN (mV ms (nI pid) 2 1 (nI (part + 1))) = 12 from if_neg (show ¬ tl (mtx ms (mfind ms 0 (nI pid) 2 1 (nI (part + 1)))) < 12 by omega)] at key; exact key)
theorem i32_rng {c a b : Int32} {m n : Nat} (ha : a = nI m) (hb : b = nI n) (hm : m < 2 ^ 31) (hn : n < 2 ^ 31) (h1 : ¬ c < a) (h2 : ¬ b < c) : ∃ x, m ≤ x ∧ x ≤ n ∧ c = nI x := by
  rw [Int32.lt_iff_toInt_lt, ha, nI_toInt hm] at h1
  rw [Int32.lt_iff_toInt_lt, hb, nI_toInt hn] at h2
  obtain ⟨j, hj, e⟩ := nI_of (x := c) (by rw [Int32.lt_iff_toInt_lt, show (0 : Int32).toInt = 0 from rfl]; omega)
  rw [e, nI_toInt hj] at h1 h2
  exact ⟨j, by omega, by omega, e⟩
theorem zdig_nI {c : Int32} (h : zdig c = true) : ∃ x, 48 ≤ x ∧ x ≤ 57 ∧ c = nI x := by
  unfold zdig at h
  simp only [Bool.and_eq_true, Bool.not_eq_true', decide_eq_false_iff_not] at h
  exact i32_rng (a := 48) (b := 57) rfl rfl (by decide) (by decide) h.1 h.2
theorem vnumL_b (t : zT) : ∀ (k i a : Nat), vnumL t i k (nI a) = -1 ∨ ∃ b, b < (a + 1) * 10 ^ k ∧ vnumL t i k (nI a) = nI b := by
  intro k
  induction k with
  | zero => intro i a; exact Or.inr ⟨a, by omega, rfl⟩
  | succ k ih =>
    intro i a
    rw [vnumL]
    split
    · rename_i hd
      obtain ⟨x, h1, h2, e⟩ := zdig_nI hd
      rw [e, show (10 : Int32) * nI a + nI x - 48 = nI (10 * a + (x - 48)) by
        rw [show (10 : Int32) = nI 10 from rfl, pk_mul, nI_add, show (48 : Int32) = nI 48 from rfl, pk_sub (by omega)]
        congr 1; omega]
      rcases ih (i + 1) (10 * a + (x - 48)) with h | ⟨b, hb, h⟩
      · exact Or.inl h
      · refine Or.inr ⟨b, Nat.lt_of_lt_of_le hb ?_, h⟩
        rw [Nat.pow_succ, Nat.mul_comm (10 ^ k) 10, ← Nat.mul_assoc]
        exact Nat.mul_le_mul_right _ (by omega)
    · exact Or.inl rfl
theorem vnum_b (t : zT) (most : Nat) : vnum t most = -1 ∨ ∃ b, b < 10 ^ most ∧ vnum t most = nI b := by
  unfold vnum
  split
  · rename_i h
    rcases vnumL_b t (tl t) 0 0 with e | ⟨b, hb, e⟩
    · exact Or.inl e
    · refine Or.inr ⟨b, Nat.lt_of_lt_of_le hb ?_, e⟩
      rw [Nat.zero_add, Nat.one_mul]
      exact Nat.pow_le_pow_right (by decide) h.2
  · exact Or.inl rfl
theorem patF_b (V : zV) (pid : Nat) : patF V pid = -1 ∨ ∃ p, p ≤ 99 ∧ patF V pid = nI p := by
  unfold patF
  split
  · exact Or.inl rfl
  · split
    · exact Or.inl rfl
    · rcases vnum_b (V (nI pid) 1 1 1) 2 with e | ⟨b, hb, e⟩
      · exact Or.inl e
      · exact Or.inr ⟨b, by omega, e⟩
/-- why a message of a kind is in error, 0 where it isn't; the rows of results after the trial -/
def judgeF (V : zV) (S : zSg) (sg : Nat) (bed kn : Nat → Int32) (q : zQ) (kind : Nat) : Int32 × zQ :=
  if kind = 0 then (6, q)
  else if (patF V (S 80 73 68 1)).toNatClampNeg = 0 then (11, q)
  else if kind = 1 then (if ¬ 0 ≤ bedF V (S 80 86 49 1) then 12 else if ¬ bed (patF V (S 80 73 68 1)).toNatClampNeg < 0 then 14 else if ¬ whoF bed (bedF V (S 80 86 49 1)) = 0 then 15 else 0, q)
  else if kind = 2 then (if ¬ 0 ≤ bedF V (S 80 86 49 1) then 12 else if bed (patF V (S 80 73 68 1)).toNatClampNeg < 0 then 13 else if ¬ whoF bed (bedF V (S 80 86 49 1)) = 0 then 15 else 0, q)
  else if kind = 3 then (if bed (patF V (S 80 73 68 1)).toNatClampNeg < 0 then 13 else 0, q)
  else if kind = 8 then (if kn (patF V (S 80 73 68 1)).toNatClampNeg = 0 then 16 else 0, q)
  else if bed (patF V (S 80 73 68 1)).toNatClampNeg < 0 then (13, q)
  else if wrongF V S sg = true then (17, q)
  else (if (tryF V S sg (patF V (S 80 73 68 1)).toNatClampNeg q).2 = true then 0 else 18, (tryF V S sg (patF V (S 80 73 68 1)).toNatClampNeg q).1)
theorem whoL_b (b : Nat → Int32) (bed : Int32) : ∀ k i w, w ≤ i + k → whoL b bed i k w ≤ i + k := by
  intro k
  induction k with
  | zero => intro i w h; exact h
  | succ k ih =>
    intro i w h
    rw [whoL]
    have := ih (i + 1) (if b i = bed then i else w) (by split <;> omega)
    omega
theorem whoF_b (b : Nat → Int32) (bed : Int32) : whoF b bed ≤ 100 := whoL_b b bed 99 1 0 (by omega)
theorem i_Mod_judge_0 : zins 121 0 = some (.iload_n 1) := by decide +kernel
theorem i_Mod_judge_1 : zins 121 1 = some (.ifCond .ne 6) := by decide +kernel
theorem i_Mod_judge_4 : zins 121 4 = some (.bipush 6) := by decide +kernel
theorem i_Mod_judge_6 : zins 121 6 = some (.ireturn) := by decide +kernel
theorem i_Mod_judge_7 : zins 121 7 = some (.aload_n 0) := by decide +kernel
theorem i_Mod_judge_8 : zins 121 8 = some (.aload_n 0) := by decide +kernel
theorem i_Mod_judge_9 : zins 121 9 = some (.bipush 80) := by decide +kernel
theorem i_Mod_judge_11 : zins 121 11 = some (.bipush 73) := by decide +kernel
theorem i_Mod_judge_13 : zins 121 13 = some (.bipush 68) := by decide +kernel
theorem i_Mod_judge_15 : zins 121 15 = some (.iconst 1) := by decide +kernel
theorem i_Mod_judge_16 : zins 121 16 = some (.invokevirtual 165) := by decide +kernel
theorem i_Mod_judge_19 : zins 121 19 = some (.invokevirtual 202) := by decide +kernel
theorem i_Mod_judge_22 : zins 121 22 = some (.istore_n 2) := by decide +kernel
theorem i_Mod_judge_23 : zins 121 23 = some (.aload_n 0) := by decide +kernel
theorem i_Mod_judge_24 : zins 121 24 = some (.aload_n 0) := by decide +kernel
theorem i_Mod_judge_25 : zins 121 25 = some (.bipush 80) := by decide +kernel
theorem i_Mod_judge_27 : zins 121 27 = some (.bipush 86) := by decide +kernel
theorem i_Mod_judge_29 : zins 121 29 = some (.bipush 49) := by decide +kernel
theorem i_Mod_judge_31 : zins 121 31 = some (.iconst 1) := by decide +kernel
theorem i_Mod_judge_32 : zins 121 32 = some (.invokevirtual 165) := by decide +kernel
theorem i_Mod_judge_35 : zins 121 35 = some (.invokevirtual 205) := by decide +kernel
theorem i_Mod_judge_38 : zins 121 38 = some (.istore_n 3) := by decide +kernel
theorem i_Mod_judge_39 : zins 121 39 = some (.iload_n 2) := by decide +kernel
theorem i_Mod_judge_40 : zins 121 40 = some (.iconst 1) := by decide +kernel
theorem i_Mod_judge_41 : zins 121 41 = some (.if_icmp .ge 6) := by decide +kernel
theorem i_Mod_judge_44 : zins 121 44 = some (.bipush 11) := by decide +kernel
theorem i_Mod_judge_46 : zins 121 46 = some (.ireturn) := by decide +kernel
theorem i_Mod_judge_47 : zins 121 47 = some (.iload_n 1) := by decide +kernel
theorem i_Mod_judge_48 : zins 121 48 = some (.iconst 1) := by decide +kernel
theorem i_Mod_judge_49 : zins 121 49 = some (.if_icmp .eq 8) := by decide +kernel
theorem i_Mod_judge_52 : zins 121 52 = some (.iload_n 1) := by decide +kernel
theorem i_Mod_judge_53 : zins 121 53 = some (.iconst 2) := by decide +kernel
theorem i_Mod_judge_54 : zins 121 54 = some (.if_icmp .ne 7) := by decide +kernel
theorem i_Mod_judge_57 : zins 121 57 = some (.iconst 1) := by decide +kernel
theorem i_Mod_judge_58 : zins 121 58 = some (.goto 4) := by decide +kernel
theorem i_Mod_judge_61 : zins 121 61 = some (.iconst 0) := by decide +kernel
theorem i_Mod_judge_62 : zins 121 62 = some (.istore 4) := by decide +kernel
theorem i_Mod_judge_64 : zins 121 64 = some (.iload 4) := by decide +kernel
theorem i_Mod_judge_66 : zins 121 66 = some (.ifCond .eq 10) := by decide +kernel
theorem i_Mod_judge_69 : zins 121 69 = some (.iload_n 3) := by decide +kernel
theorem i_Mod_judge_70 : zins 121 70 = some (.ifCond .ge 6) := by decide +kernel
theorem i_Mod_judge_73 : zins 121 73 = some (.bipush 12) := by decide +kernel
theorem i_Mod_judge_75 : zins 121 75 = some (.ireturn) := by decide +kernel
theorem i_Mod_judge_76 : zins 121 76 = some (.aload_n 0) := by decide +kernel
theorem i_Mod_judge_77 : zins 121 77 = some (.getfield 66) := by decide +kernel
theorem i_Mod_judge_80 : zins 121 80 = some (.iload_n 2) := by decide +kernel
theorem i_Mod_judge_81 : zins 121 81 = some (.iaload) := by decide +kernel
theorem i_Mod_judge_82 : zins 121 82 = some (.ifCond .lt 7) := by decide +kernel
theorem i_Mod_judge_85 : zins 121 85 = some (.iconst 1) := by decide +kernel
theorem i_Mod_judge_86 : zins 121 86 = some (.goto 4) := by decide +kernel
theorem i_Mod_judge_89 : zins 121 89 = some (.iconst 0) := by decide +kernel
theorem i_Mod_judge_90 : zins 121 90 = some (.istore 5) := by decide +kernel
theorem i_Mod_judge_92 : zins 121 92 = some (.iload 5) := by decide +kernel
theorem i_Mod_judge_94 : zins 121 94 = some (.ifCond .ne 22) := by decide +kernel
theorem i_Mod_judge_97 : zins 121 97 = some (.iload_n 1) := by decide +kernel
theorem i_Mod_judge_98 : zins 121 98 = some (.iconst 2) := by decide +kernel
theorem i_Mod_judge_99 : zins 121 99 = some (.if_icmp .eq 14) := by decide +kernel
theorem i_Mod_judge_102 : zins 121 102 = some (.iload_n 1) := by decide +kernel
theorem i_Mod_judge_103 : zins 121 103 = some (.iconst 3) := by decide +kernel
theorem i_Mod_judge_104 : zins 121 104 = some (.if_icmp .eq 9) := by decide +kernel
theorem i_Mod_judge_107 : zins 121 107 = some (.iload_n 1) := by decide +kernel
theorem i_Mod_judge_108 : zins 121 108 = some (.bipush 9) := by decide +kernel
theorem i_Mod_judge_110 : zins 121 110 = some (.if_icmp .ne 6) := by decide +kernel
theorem i_Mod_judge_113 : zins 121 113 = some (.bipush 13) := by decide +kernel
theorem i_Mod_judge_115 : zins 121 115 = some (.ireturn) := by decide +kernel
theorem i_Mod_judge_116 : zins 121 116 = some (.iload 5) := by decide +kernel
theorem i_Mod_judge_118 : zins 121 118 = some (.ifCond .eq 11) := by decide +kernel
theorem i_Mod_judge_121 : zins 121 121 = some (.iload_n 1) := by decide +kernel
theorem i_Mod_judge_122 : zins 121 122 = some (.iconst 1) := by decide +kernel
theorem i_Mod_judge_123 : zins 121 123 = some (.if_icmp .ne 6) := by decide +kernel
theorem i_Mod_judge_126 : zins 121 126 = some (.bipush 14) := by decide +kernel
theorem i_Mod_judge_128 : zins 121 128 = some (.ireturn) := by decide +kernel
theorem i_Mod_judge_129 : zins 121 129 = some (.iload 4) := by decide +kernel
theorem i_Mod_judge_131 : zins 121 131 = some (.ifCond .eq 14) := by decide +kernel
theorem i_Mod_judge_134 : zins 121 134 = some (.aload_n 0) := by decide +kernel
theorem i_Mod_judge_135 : zins 121 135 = some (.iload_n 3) := by decide +kernel
theorem i_Mod_judge_136 : zins 121 136 = some (.invokevirtual 208) := by decide +kernel
theorem i_Mod_judge_139 : zins 121 139 = some (.ifCond .eq 6) := by decide +kernel
theorem i_Mod_judge_142 : zins 121 142 = some (.bipush 15) := by decide +kernel
theorem i_Mod_judge_144 : zins 121 144 = some (.ireturn) := by decide +kernel
theorem i_Mod_judge_145 : zins 121 145 = some (.iload_n 1) := by decide +kernel
theorem i_Mod_judge_146 : zins 121 146 = some (.bipush 8) := by decide +kernel
theorem i_Mod_judge_148 : zins 121 148 = some (.if_icmp .ne 15) := by decide +kernel
theorem i_Mod_judge_151 : zins 121 151 = some (.aload_n 0) := by decide +kernel
theorem i_Mod_judge_152 : zins 121 152 = some (.getfield 62) := by decide +kernel
theorem i_Mod_judge_155 : zins 121 155 = some (.iload_n 2) := by decide +kernel
theorem i_Mod_judge_156 : zins 121 156 = some (.baload) := by decide +kernel
theorem i_Mod_judge_157 : zins 121 157 = some (.ifCond .ne 6) := by decide +kernel
theorem i_Mod_judge_160 : zins 121 160 = some (.bipush 16) := by decide +kernel
theorem i_Mod_judge_162 : zins 121 162 = some (.ireturn) := by decide +kernel
theorem i_Mod_judge_163 : zins 121 163 = some (.iload_n 1) := by decide +kernel
theorem i_Mod_judge_164 : zins 121 164 = some (.bipush 9) := by decide +kernel
theorem i_Mod_judge_166 : zins 121 166 = some (.if_icmp .eq 7) := by decide +kernel
theorem i_Mod_judge_169 : zins 121 169 = some (.iconst 0) := by decide +kernel
theorem i_Mod_judge_170 : zins 121 170 = some (.goto 29) := by decide +kernel
theorem i_Mod_judge_173 : zins 121 173 = some (.aload_n 0) := by decide +kernel
theorem i_Mod_judge_174 : zins 121 174 = some (.invokevirtual 211) := by decide +kernel
theorem i_Mod_judge_177 : zins 121 177 = some (.ifCond .eq 8) := by decide +kernel
theorem i_Mod_judge_180 : zins 121 180 = some (.bipush 17) := by decide +kernel
theorem i_Mod_judge_182 : zins 121 182 = some (.goto 17) := by decide +kernel
theorem i_Mod_judge_185 : zins 121 185 = some (.aload_n 0) := by decide +kernel
theorem i_Mod_judge_186 : zins 121 186 = some (.iload_n 2) := by decide +kernel
theorem i_Mod_judge_187 : zins 121 187 = some (.invokevirtual 214) := by decide +kernel
theorem i_Mod_judge_190 : zins 121 190 = some (.ifCond .eq 7) := by decide +kernel
theorem i_Mod_judge_193 : zins 121 193 = some (.iconst 0) := by decide +kernel
theorem i_Mod_judge_194 : zins 121 194 = some (.goto 5) := by decide +kernel
theorem i_Mod_judge_197 : zins 121 197 = some (.bipush 18) := by decide +kernel
theorem i_Mod_judge_199 : zins 121 199 = some (.ireturn) := by decide +kernel
theorem e0_Mod_judge (X : zX) (d : Nat) (g : zH) (ms : zMS) (cnt : Nat) (hT : mTV ms 0 cnt) (hR : ∀ s : Nat, mfind ms 0 (nI s) 2 (nI 222) 1 = none) (sg : Nat) (hs : ms.2 2 0 = nI sg) (hsl : sg ≤ 200) (nr : Nat → Nat) (hN : ∀ p, p ≤ 99 → ms.2 22 p = nI (nr p) ∧ nr p ≤ 12) : zR X (d + 4) 121 0 (zent 6 [.ref 129, .int 0]) [] (mset g ms) (some (.int (judgeF (mV ms) (mseg ms) sg (ms.2 19) (ms.2 18) (mq ms) 0).1), mset g (mres ms (judgeF (mV ms) (mseg ms) sg (ms.2 19) (ms.2 18) (mq ms) 0).2)) := by
  have hb1 := mseg_b hs hsl 80 73 68 1 (by omega)
  have hb2 := mseg_b hs hsl 80 86 49 1 (by omega)
  refine zr_iload_n i_Mod_judge_0 rfl ?_
  refine zr_if_ne 7 i_Mod_judge_1 (by decide) (fun q => absurd q (by decide)) (fun _ => ?_)
  refine zr_bipush i_Mod_judge_4 (v := 6) (by decide) ?_
  exact zR.retE i_Mod_judge_6 rfl (by simp [judgeF, mres_self, show (-1 : Int32).toNatClampNeg = 0 from rfl, *])
theorem e1_Mod_judge (X : zX) (d : Nat) (g : zH) (ms : zMS) (cnt : Nat) (hT : mTV ms 0 cnt) (hR : ∀ s : Nat, mfind ms 0 (nI s) 2 (nI 222) 1 = none) (sg : Nat) (hs : ms.2 2 0 = nI sg) (hsl : sg ≤ 200) (nr : Nat → Nat) (hN : ∀ p, p ≤ 99 → ms.2 22 p = nI (nr p) ∧ nr p ≤ 12) : zR X (d + 4) 121 0 (zent 6 [.ref 129, .int 1]) [] (mset g ms) (some (.int (judgeF (mV ms) (mseg ms) sg (ms.2 19) (ms.2 18) (mq ms) 1).1), mset g (mres ms (judgeF (mV ms) (mseg ms) sg (ms.2 19) (ms.2 18) (mq ms) 1).2)) := by
  have hb1 := mseg_b hs hsl 80 73 68 1 (by omega)
  have hb2 := mseg_b hs hsl 80 86 49 1 (by omega)
  refine zr_iload_n i_Mod_judge_0 rfl ?_
  refine zr_if_ne 7 i_Mod_judge_1 (by decide) (fun _ => ?_) (fun q => absurd q (by decide))
  refine zr_aload_n i_Mod_judge_7 rfl ?_
  refine zr_aload_n i_Mod_judge_8 rfl ?_
  refine zr_bipush i_Mod_judge_9 (v := 80) (by decide) ?_
  refine zr_bipush i_Mod_judge_11 (v := 73) (by decide) ?_
  refine zr_bipush i_Mod_judge_13 (v := 68) (by decide) ?_
  refine zn_iconst 1 i_Mod_judge_15 (by decide) ?_
  refine zr_cv4 i_Mod_judge_16 rfl (by decide) rfl (Nat.le_of_ble_eq_true rfl) (Nat.le_of_ble_eq_true rfl) (e_Mod_segment X _ g ms sg _ _ _ _ hs hsl (by omega) (by omega)) ?_
  refine zr_cv1 i_Mod_judge_19 rfl (by decide) rfl (Nat.le_of_ble_eq_true rfl) (Nat.le_of_ble_eq_true rfl) (e_Mod_patientIn X _ g ms cnt hT _ (by omega)) ?_
  refine zr_istore_n i_Mod_judge_22 rfl ?_
  refine zr_aload_n i_Mod_judge_23 rfl ?_
  refine zr_aload_n i_Mod_judge_24 rfl ?_
  refine zr_bipush i_Mod_judge_25 (v := 80) (by decide) ?_
  refine zr_bipush i_Mod_judge_27 (v := 86) (by decide) ?_
  refine zr_bipush i_Mod_judge_29 (v := 49) (by decide) ?_
  refine zn_iconst 1 i_Mod_judge_31 (by decide) ?_
  refine zr_cv4 i_Mod_judge_32 rfl (by decide) rfl (Nat.le_of_ble_eq_true rfl) (Nat.le_of_ble_eq_true rfl) (e_Mod_segment X _ g ms sg _ _ _ _ hs hsl (by omega) (by omega)) ?_
  refine zr_cv1 i_Mod_judge_35 rfl (by decide) rfl (Nat.le_of_ble_eq_true rfl) (Nat.le_of_ble_eq_true rfl) (e_Mod_bedIn X _ g ms cnt hT _ (by omega)) ?_
  refine zr_istore_n i_Mod_judge_38 rfl ?_
  rcases patF_b (mV ms) (mseg ms 80 73 68 1) with e | ⟨p, hp, e⟩
  · rw [e]
    refine zr_iload_n i_Mod_judge_39 rfl ?_
    refine zr_iconst i_Mod_judge_40 (v := 1) (by decide) ?_
    refine zr_icmp_ge 47 i_Mod_judge_41 (by decide) (fun q => absurd q (by decide)) (fun _ => ?_)
    refine zr_bipush i_Mod_judge_44 (v := 11) (by decide) ?_
    exact zR.retE i_Mod_judge_46 rfl (by simp [judgeF, mres_self, show (-1 : Int32).toNatClampNeg = 0 from rfl, *])
  · rw [e]
    refine zr_iload_n i_Mod_judge_39 rfl ?_
    refine zn_iconst 1 i_Mod_judge_40 (by decide) ?_
    refine zn_icmp_ge 47 i_Mod_judge_41 (by decide) (by omega) (by omega) (fun c_41 => ?_) (fun c_41 => ?_)
    · skip
      have hp0 : p ≠ 0 := by omega
      refine zr_iload_n i_Mod_judge_47 rfl ?_
      refine zr_iconst i_Mod_judge_48 (v := 1) (by decide) ?_
      refine zr_icmp_eq 57 i_Mod_judge_49 (by decide) (fun _ => ?_) (fun q => absurd q (by decide))
      refine zr_iconst i_Mod_judge_57 (v := 1) (by decide) ?_
      refine zr_goto 62 i_Mod_judge_58 (by decide) ?_
      refine zr_istore i_Mod_judge_62 rfl ?_
      refine zr_iload i_Mod_judge_64 rfl ?_
      refine zr_if_eq 76 i_Mod_judge_66 (by decide) (fun q => absurd q (by decide)) (fun _ => ?_)
      refine zr_iload_n i_Mod_judge_69 rfl ?_
      refine zr_if_ge 76 i_Mod_judge_70 (by decide) (fun c_70 => ?_) (fun c_70 => ?_)
      · skip
        refine zr_aload_n i_Mod_judge_76 rfl ?_
        refine zr_getf i_Mod_judge_77 rfl rfl rfl ?_
        refine zr_iload_n i_Mod_judge_80 rfl ?_
        refine zn_iaload i_Mod_judge_81 rfl (by omega) (by decide) ?_
        refine zr_if_lt 89 i_Mod_judge_82 (by decide) (fun c_82 => ?_) (fun c_82 => ?_)
        · skip
          refine zr_iconst i_Mod_judge_89 (v := 0) (by decide) ?_
          refine zr_istore i_Mod_judge_90 rfl ?_
          refine zr_iload i_Mod_judge_92 rfl ?_
          refine zr_if_ne 116 i_Mod_judge_94 (by decide) (fun q => absurd q (by decide)) (fun _ => ?_)
          refine zr_iload_n i_Mod_judge_97 rfl ?_
          refine zr_iconst i_Mod_judge_98 (v := 2) (by decide) ?_
          refine zr_icmp_eq 113 i_Mod_judge_99 (by decide) (fun q => absurd q (by decide)) (fun _ => ?_)
          refine zr_iload_n i_Mod_judge_102 rfl ?_
          refine zr_iconst i_Mod_judge_103 (v := 3) (by decide) ?_
          refine zr_icmp_eq 113 i_Mod_judge_104 (by decide) (fun q => absurd q (by decide)) (fun _ => ?_)
          refine zr_iload_n i_Mod_judge_107 rfl ?_
          refine zr_bipush i_Mod_judge_108 (v := 9) (by decide) ?_
          refine zr_icmp_ne 116 i_Mod_judge_110 (by decide) (fun _ => ?_) (fun q => absurd q (by decide))
          refine zr_iload i_Mod_judge_116 rfl ?_
          refine zr_if_eq 129 i_Mod_judge_118 (by decide) (fun _ => ?_) (fun q => absurd q (by decide))
          refine zr_iload i_Mod_judge_129 rfl ?_
          refine zr_if_eq 145 i_Mod_judge_131 (by decide) (fun q => absurd q (by decide)) (fun _ => ?_)
          refine zr_aload_n i_Mod_judge_134 rfl ?_
          refine zr_iload_n i_Mod_judge_135 rfl ?_
          refine zr_cv1 i_Mod_judge_136 rfl (by decide) rfl (Nat.le_of_ble_eq_true rfl) (Nat.le_of_ble_eq_true rfl) (e_Mod_whoIsIn X _ g ms _) ?_
          refine zN_if_eq 145 i_Mod_judge_139 (by decide) (by have := whoF_b (ms.2 19) (bedF (mV ms) (mseg ms 80 86 49 1)); omega) (fun c_139 => ?_) (fun c_139 => ?_)
          · skip
            refine zr_iload_n i_Mod_judge_145 rfl ?_
            refine zr_bipush i_Mod_judge_146 (v := 8) (by decide) ?_
            refine zr_icmp_ne 163 i_Mod_judge_148 (by decide) (fun _ => ?_) (fun q => absurd q (by decide))
            refine zr_iload_n i_Mod_judge_163 rfl ?_
            refine zr_bipush i_Mod_judge_164 (v := 9) (by decide) ?_
            refine zr_icmp_eq 173 i_Mod_judge_166 (by decide) (fun q => absurd q (by decide)) (fun _ => ?_)
            refine zr_iconst i_Mod_judge_169 (v := 0) (by decide) ?_
            refine zr_goto 199 i_Mod_judge_170 (by decide) ?_
            exact zR.retE i_Mod_judge_199 rfl (by simp [judgeF, mres_self, nI_clamp (show p < 2 ^ 31 by omega), *])
          · skip
            refine zr_bipush i_Mod_judge_142 (v := 15) (by decide) ?_
            exact zR.retE i_Mod_judge_144 rfl (by simp [judgeF, mres_self, nI_clamp (show p < 2 ^ 31 by omega), *])
        · skip
          refine zr_iconst i_Mod_judge_85 (v := 1) (by decide) ?_
          refine zr_goto 90 i_Mod_judge_86 (by decide) ?_
          refine zr_istore i_Mod_judge_90 rfl ?_
          refine zr_iload i_Mod_judge_92 rfl ?_
          refine zr_if_ne 116 i_Mod_judge_94 (by decide) (fun _ => ?_) (fun q => absurd q (by decide))
          refine zr_iload i_Mod_judge_116 rfl ?_
          refine zr_if_eq 129 i_Mod_judge_118 (by decide) (fun q => absurd q (by decide)) (fun _ => ?_)
          refine zr_iload_n i_Mod_judge_121 rfl ?_
          refine zr_iconst i_Mod_judge_122 (v := 1) (by decide) ?_
          refine zr_icmp_ne 129 i_Mod_judge_123 (by decide) (fun q => absurd q (by decide)) (fun _ => ?_)
          refine zr_bipush i_Mod_judge_126 (v := 14) (by decide) ?_
          exact zR.retE i_Mod_judge_128 rfl (by simp [judgeF, mres_self, nI_clamp (show p < 2 ^ 31 by omega), *])
      · skip
        refine zr_bipush i_Mod_judge_73 (v := 12) (by decide) ?_
        exact zR.retE i_Mod_judge_75 rfl (by simp [judgeF, mres_self, nI_clamp (show p < 2 ^ 31 by omega), *])
    · skip
      have hp0 : p = 0 := by omega
      refine zr_bipush i_Mod_judge_44 (v := 11) (by decide) ?_
      exact zR.retE i_Mod_judge_46 rfl (by unfold judgeF; rw [if_neg (by decide), if_pos (by rw [e, nI_clamp (by omega)]; exact hp0), mres_self])
theorem e2_Mod_judge (X : zX) (d : Nat) (g : zH) (ms : zMS) (cnt : Nat) (hT : mTV ms 0 cnt) (hR : ∀ s : Nat, mfind ms 0 (nI s) 2 (nI 222) 1 = none) (sg : Nat) (hs : ms.2 2 0 = nI sg) (hsl : sg ≤ 200) (nr : Nat → Nat) (hN : ∀ p, p ≤ 99 → ms.2 22 p = nI (nr p) ∧ nr p ≤ 12) : zR X (d + 4) 121 0 (zent 6 [.ref 129, .int 2]) [] (mset g ms) (some (.int (judgeF (mV ms) (mseg ms) sg (ms.2 19) (ms.2 18) (mq ms) 2).1), mset g (mres ms (judgeF (mV ms) (mseg ms) sg (ms.2 19) (ms.2 18) (mq ms) 2).2)) := by
  have hb1 := mseg_b hs hsl 80 73 68 1 (by omega)
  have hb2 := mseg_b hs hsl 80 86 49 1 (by omega)
  refine zr_iload_n i_Mod_judge_0 rfl ?_
  refine zr_if_ne 7 i_Mod_judge_1 (by decide) (fun _ => ?_) (fun q => absurd q (by decide))
  refine zr_aload_n i_Mod_judge_7 rfl ?_
  refine zr_aload_n i_Mod_judge_8 rfl ?_
  refine zr_bipush i_Mod_judge_9 (v := 80) (by decide) ?_
  refine zr_bipush i_Mod_judge_11 (v := 73) (by decide) ?_
  refine zr_bipush i_Mod_judge_13 (v := 68) (by decide) ?_
  refine zn_iconst 1 i_Mod_judge_15 (by decide) ?_
  refine zr_cv4 i_Mod_judge_16 rfl (by decide) rfl (Nat.le_of_ble_eq_true rfl) (Nat.le_of_ble_eq_true rfl) (e_Mod_segment X _ g ms sg _ _ _ _ hs hsl (by omega) (by omega)) ?_
  refine zr_cv1 i_Mod_judge_19 rfl (by decide) rfl (Nat.le_of_ble_eq_true rfl) (Nat.le_of_ble_eq_true rfl) (e_Mod_patientIn X _ g ms cnt hT _ (by omega)) ?_
  refine zr_istore_n i_Mod_judge_22 rfl ?_
  refine zr_aload_n i_Mod_judge_23 rfl ?_
  refine zr_aload_n i_Mod_judge_24 rfl ?_
  refine zr_bipush i_Mod_judge_25 (v := 80) (by decide) ?_
  refine zr_bipush i_Mod_judge_27 (v := 86) (by decide) ?_
  refine zr_bipush i_Mod_judge_29 (v := 49) (by decide) ?_
  refine zn_iconst 1 i_Mod_judge_31 (by decide) ?_
  refine zr_cv4 i_Mod_judge_32 rfl (by decide) rfl (Nat.le_of_ble_eq_true rfl) (Nat.le_of_ble_eq_true rfl) (e_Mod_segment X _ g ms sg _ _ _ _ hs hsl (by omega) (by omega)) ?_
  refine zr_cv1 i_Mod_judge_35 rfl (by decide) rfl (Nat.le_of_ble_eq_true rfl) (Nat.le_of_ble_eq_true rfl) (e_Mod_bedIn X _ g ms cnt hT _ (by omega)) ?_
  refine zr_istore_n i_Mod_judge_38 rfl ?_
  rcases patF_b (mV ms) (mseg ms 80 73 68 1) with e | ⟨p, hp, e⟩
  · rw [e]
    refine zr_iload_n i_Mod_judge_39 rfl ?_
    refine zr_iconst i_Mod_judge_40 (v := 1) (by decide) ?_
    refine zr_icmp_ge 47 i_Mod_judge_41 (by decide) (fun q => absurd q (by decide)) (fun _ => ?_)
    refine zr_bipush i_Mod_judge_44 (v := 11) (by decide) ?_
    exact zR.retE i_Mod_judge_46 rfl (by simp [judgeF, mres_self, show (-1 : Int32).toNatClampNeg = 0 from rfl, *])
  · rw [e]
    refine zr_iload_n i_Mod_judge_39 rfl ?_
    refine zn_iconst 1 i_Mod_judge_40 (by decide) ?_
    refine zn_icmp_ge 47 i_Mod_judge_41 (by decide) (by omega) (by omega) (fun c_41 => ?_) (fun c_41 => ?_)
    · skip
      have hp0 : p ≠ 0 := by omega
      refine zr_iload_n i_Mod_judge_47 rfl ?_
      refine zr_iconst i_Mod_judge_48 (v := 1) (by decide) ?_
      refine zr_icmp_eq 57 i_Mod_judge_49 (by decide) (fun q => absurd q (by decide)) (fun _ => ?_)
      refine zr_iload_n i_Mod_judge_52 rfl ?_
      refine zr_iconst i_Mod_judge_53 (v := 2) (by decide) ?_
      refine zr_icmp_ne 61 i_Mod_judge_54 (by decide) (fun q => absurd q (by decide)) (fun _ => ?_)
      refine zr_iconst i_Mod_judge_57 (v := 1) (by decide) ?_
      refine zr_goto 62 i_Mod_judge_58 (by decide) ?_
      refine zr_istore i_Mod_judge_62 rfl ?_
      refine zr_iload i_Mod_judge_64 rfl ?_
      refine zr_if_eq 76 i_Mod_judge_66 (by decide) (fun q => absurd q (by decide)) (fun _ => ?_)
      refine zr_iload_n i_Mod_judge_69 rfl ?_
      refine zr_if_ge 76 i_Mod_judge_70 (by decide) (fun c_70 => ?_) (fun c_70 => ?_)
      · skip
        refine zr_aload_n i_Mod_judge_76 rfl ?_
        refine zr_getf i_Mod_judge_77 rfl rfl rfl ?_
        refine zr_iload_n i_Mod_judge_80 rfl ?_
        refine zn_iaload i_Mod_judge_81 rfl (by omega) (by decide) ?_
        refine zr_if_lt 89 i_Mod_judge_82 (by decide) (fun c_82 => ?_) (fun c_82 => ?_)
        · skip
          refine zr_iconst i_Mod_judge_89 (v := 0) (by decide) ?_
          refine zr_istore i_Mod_judge_90 rfl ?_
          refine zr_iload i_Mod_judge_92 rfl ?_
          refine zr_if_ne 116 i_Mod_judge_94 (by decide) (fun q => absurd q (by decide)) (fun _ => ?_)
          refine zr_iload_n i_Mod_judge_97 rfl ?_
          refine zr_iconst i_Mod_judge_98 (v := 2) (by decide) ?_
          refine zr_icmp_eq 113 i_Mod_judge_99 (by decide) (fun _ => ?_) (fun q => absurd q (by decide))
          refine zr_bipush i_Mod_judge_113 (v := 13) (by decide) ?_
          exact zR.retE i_Mod_judge_115 rfl (by simp [judgeF, mres_self, nI_clamp (show p < 2 ^ 31 by omega), *])
        · skip
          refine zr_iconst i_Mod_judge_85 (v := 1) (by decide) ?_
          refine zr_goto 90 i_Mod_judge_86 (by decide) ?_
          refine zr_istore i_Mod_judge_90 rfl ?_
          refine zr_iload i_Mod_judge_92 rfl ?_
          refine zr_if_ne 116 i_Mod_judge_94 (by decide) (fun _ => ?_) (fun q => absurd q (by decide))
          refine zr_iload i_Mod_judge_116 rfl ?_
          refine zr_if_eq 129 i_Mod_judge_118 (by decide) (fun q => absurd q (by decide)) (fun _ => ?_)
          refine zr_iload_n i_Mod_judge_121 rfl ?_
          refine zr_iconst i_Mod_judge_122 (v := 1) (by decide) ?_
          refine zr_icmp_ne 129 i_Mod_judge_123 (by decide) (fun _ => ?_) (fun q => absurd q (by decide))
          refine zr_iload i_Mod_judge_129 rfl ?_
          refine zr_if_eq 145 i_Mod_judge_131 (by decide) (fun q => absurd q (by decide)) (fun _ => ?_)
          refine zr_aload_n i_Mod_judge_134 rfl ?_
          refine zr_iload_n i_Mod_judge_135 rfl ?_
          refine zr_cv1 i_Mod_judge_136 rfl (by decide) rfl (Nat.le_of_ble_eq_true rfl) (Nat.le_of_ble_eq_true rfl) (e_Mod_whoIsIn X _ g ms _) ?_
          refine zN_if_eq 145 i_Mod_judge_139 (by decide) (by have := whoF_b (ms.2 19) (bedF (mV ms) (mseg ms 80 86 49 1)); omega) (fun c_139 => ?_) (fun c_139 => ?_)
          · skip
            refine zr_iload_n i_Mod_judge_145 rfl ?_
            refine zr_bipush i_Mod_judge_146 (v := 8) (by decide) ?_
            refine zr_icmp_ne 163 i_Mod_judge_148 (by decide) (fun _ => ?_) (fun q => absurd q (by decide))
            refine zr_iload_n i_Mod_judge_163 rfl ?_
            refine zr_bipush i_Mod_judge_164 (v := 9) (by decide) ?_
            refine zr_icmp_eq 173 i_Mod_judge_166 (by decide) (fun q => absurd q (by decide)) (fun _ => ?_)
            refine zr_iconst i_Mod_judge_169 (v := 0) (by decide) ?_
            refine zr_goto 199 i_Mod_judge_170 (by decide) ?_
            exact zR.retE i_Mod_judge_199 rfl (by simp [judgeF, mres_self, nI_clamp (show p < 2 ^ 31 by omega), *])
          · skip
            refine zr_bipush i_Mod_judge_142 (v := 15) (by decide) ?_
            exact zR.retE i_Mod_judge_144 rfl (by simp [judgeF, mres_self, nI_clamp (show p < 2 ^ 31 by omega), *])
      · skip
        refine zr_bipush i_Mod_judge_73 (v := 12) (by decide) ?_
        exact zR.retE i_Mod_judge_75 rfl (by simp [judgeF, mres_self, nI_clamp (show p < 2 ^ 31 by omega), *])
    · skip
      have hp0 : p = 0 := by omega
      refine zr_bipush i_Mod_judge_44 (v := 11) (by decide) ?_
      exact zR.retE i_Mod_judge_46 rfl (by unfold judgeF; rw [if_neg (by decide), if_pos (by rw [e, nI_clamp (by omega)]; exact hp0), mres_self])
theorem e3_Mod_judge (X : zX) (d : Nat) (g : zH) (ms : zMS) (cnt : Nat) (hT : mTV ms 0 cnt) (hR : ∀ s : Nat, mfind ms 0 (nI s) 2 (nI 222) 1 = none) (sg : Nat) (hs : ms.2 2 0 = nI sg) (hsl : sg ≤ 200) (nr : Nat → Nat) (hN : ∀ p, p ≤ 99 → ms.2 22 p = nI (nr p) ∧ nr p ≤ 12) : zR X (d + 4) 121 0 (zent 6 [.ref 129, .int 3]) [] (mset g ms) (some (.int (judgeF (mV ms) (mseg ms) sg (ms.2 19) (ms.2 18) (mq ms) 3).1), mset g (mres ms (judgeF (mV ms) (mseg ms) sg (ms.2 19) (ms.2 18) (mq ms) 3).2)) := by
  have hb1 := mseg_b hs hsl 80 73 68 1 (by omega)
  have hb2 := mseg_b hs hsl 80 86 49 1 (by omega)
  refine zr_iload_n i_Mod_judge_0 rfl ?_
  refine zr_if_ne 7 i_Mod_judge_1 (by decide) (fun _ => ?_) (fun q => absurd q (by decide))
  refine zr_aload_n i_Mod_judge_7 rfl ?_
  refine zr_aload_n i_Mod_judge_8 rfl ?_
  refine zr_bipush i_Mod_judge_9 (v := 80) (by decide) ?_
  refine zr_bipush i_Mod_judge_11 (v := 73) (by decide) ?_
  refine zr_bipush i_Mod_judge_13 (v := 68) (by decide) ?_
  refine zn_iconst 1 i_Mod_judge_15 (by decide) ?_
  refine zr_cv4 i_Mod_judge_16 rfl (by decide) rfl (Nat.le_of_ble_eq_true rfl) (Nat.le_of_ble_eq_true rfl) (e_Mod_segment X _ g ms sg _ _ _ _ hs hsl (by omega) (by omega)) ?_
  refine zr_cv1 i_Mod_judge_19 rfl (by decide) rfl (Nat.le_of_ble_eq_true rfl) (Nat.le_of_ble_eq_true rfl) (e_Mod_patientIn X _ g ms cnt hT _ (by omega)) ?_
  refine zr_istore_n i_Mod_judge_22 rfl ?_
  refine zr_aload_n i_Mod_judge_23 rfl ?_
  refine zr_aload_n i_Mod_judge_24 rfl ?_
  refine zr_bipush i_Mod_judge_25 (v := 80) (by decide) ?_
  refine zr_bipush i_Mod_judge_27 (v := 86) (by decide) ?_
  refine zr_bipush i_Mod_judge_29 (v := 49) (by decide) ?_
  refine zn_iconst 1 i_Mod_judge_31 (by decide) ?_
  refine zr_cv4 i_Mod_judge_32 rfl (by decide) rfl (Nat.le_of_ble_eq_true rfl) (Nat.le_of_ble_eq_true rfl) (e_Mod_segment X _ g ms sg _ _ _ _ hs hsl (by omega) (by omega)) ?_
  refine zr_cv1 i_Mod_judge_35 rfl (by decide) rfl (Nat.le_of_ble_eq_true rfl) (Nat.le_of_ble_eq_true rfl) (e_Mod_bedIn X _ g ms cnt hT _ (by omega)) ?_
  refine zr_istore_n i_Mod_judge_38 rfl ?_
  rcases patF_b (mV ms) (mseg ms 80 73 68 1) with e | ⟨p, hp, e⟩
  · rw [e]
    refine zr_iload_n i_Mod_judge_39 rfl ?_
    refine zr_iconst i_Mod_judge_40 (v := 1) (by decide) ?_
    refine zr_icmp_ge 47 i_Mod_judge_41 (by decide) (fun q => absurd q (by decide)) (fun _ => ?_)
    refine zr_bipush i_Mod_judge_44 (v := 11) (by decide) ?_
    exact zR.retE i_Mod_judge_46 rfl (by simp [judgeF, mres_self, show (-1 : Int32).toNatClampNeg = 0 from rfl, *])
  · rw [e]
    refine zr_iload_n i_Mod_judge_39 rfl ?_
    refine zn_iconst 1 i_Mod_judge_40 (by decide) ?_
    refine zn_icmp_ge 47 i_Mod_judge_41 (by decide) (by omega) (by omega) (fun c_41 => ?_) (fun c_41 => ?_)
    · skip
      have hp0 : p ≠ 0 := by omega
      refine zr_iload_n i_Mod_judge_47 rfl ?_
      refine zr_iconst i_Mod_judge_48 (v := 1) (by decide) ?_
      refine zr_icmp_eq 57 i_Mod_judge_49 (by decide) (fun q => absurd q (by decide)) (fun _ => ?_)
      refine zr_iload_n i_Mod_judge_52 rfl ?_
      refine zr_iconst i_Mod_judge_53 (v := 2) (by decide) ?_
      refine zr_icmp_ne 61 i_Mod_judge_54 (by decide) (fun _ => ?_) (fun q => absurd q (by decide))
      refine zr_iconst i_Mod_judge_61 (v := 0) (by decide) ?_
      refine zr_istore i_Mod_judge_62 rfl ?_
      refine zr_iload i_Mod_judge_64 rfl ?_
      refine zr_if_eq 76 i_Mod_judge_66 (by decide) (fun _ => ?_) (fun q => absurd q (by decide))
      refine zr_aload_n i_Mod_judge_76 rfl ?_
      refine zr_getf i_Mod_judge_77 rfl rfl rfl ?_
      refine zr_iload_n i_Mod_judge_80 rfl ?_
      refine zn_iaload i_Mod_judge_81 rfl (by omega) (by decide) ?_
      refine zr_if_lt 89 i_Mod_judge_82 (by decide) (fun c_82 => ?_) (fun c_82 => ?_)
      · skip
        refine zr_iconst i_Mod_judge_89 (v := 0) (by decide) ?_
        refine zr_istore i_Mod_judge_90 rfl ?_
        refine zr_iload i_Mod_judge_92 rfl ?_
        refine zr_if_ne 116 i_Mod_judge_94 (by decide) (fun q => absurd q (by decide)) (fun _ => ?_)
        refine zr_iload_n i_Mod_judge_97 rfl ?_
        refine zr_iconst i_Mod_judge_98 (v := 2) (by decide) ?_
        refine zr_icmp_eq 113 i_Mod_judge_99 (by decide) (fun q => absurd q (by decide)) (fun _ => ?_)
        refine zr_iload_n i_Mod_judge_102 rfl ?_
        refine zr_iconst i_Mod_judge_103 (v := 3) (by decide) ?_
        refine zr_icmp_eq 113 i_Mod_judge_104 (by decide) (fun _ => ?_) (fun q => absurd q (by decide))
        refine zr_bipush i_Mod_judge_113 (v := 13) (by decide) ?_
        exact zR.retE i_Mod_judge_115 rfl (by simp [judgeF, mres_self, nI_clamp (show p < 2 ^ 31 by omega), *])
      · skip
        refine zr_iconst i_Mod_judge_85 (v := 1) (by decide) ?_
        refine zr_goto 90 i_Mod_judge_86 (by decide) ?_
        refine zr_istore i_Mod_judge_90 rfl ?_
        refine zr_iload i_Mod_judge_92 rfl ?_
        refine zr_if_ne 116 i_Mod_judge_94 (by decide) (fun _ => ?_) (fun q => absurd q (by decide))
        refine zr_iload i_Mod_judge_116 rfl ?_
        refine zr_if_eq 129 i_Mod_judge_118 (by decide) (fun q => absurd q (by decide)) (fun _ => ?_)
        refine zr_iload_n i_Mod_judge_121 rfl ?_
        refine zr_iconst i_Mod_judge_122 (v := 1) (by decide) ?_
        refine zr_icmp_ne 129 i_Mod_judge_123 (by decide) (fun _ => ?_) (fun q => absurd q (by decide))
        refine zr_iload i_Mod_judge_129 rfl ?_
        refine zr_if_eq 145 i_Mod_judge_131 (by decide) (fun _ => ?_) (fun q => absurd q (by decide))
        refine zr_iload_n i_Mod_judge_145 rfl ?_
        refine zr_bipush i_Mod_judge_146 (v := 8) (by decide) ?_
        refine zr_icmp_ne 163 i_Mod_judge_148 (by decide) (fun _ => ?_) (fun q => absurd q (by decide))
        refine zr_iload_n i_Mod_judge_163 rfl ?_
        refine zr_bipush i_Mod_judge_164 (v := 9) (by decide) ?_
        refine zr_icmp_eq 173 i_Mod_judge_166 (by decide) (fun q => absurd q (by decide)) (fun _ => ?_)
        refine zr_iconst i_Mod_judge_169 (v := 0) (by decide) ?_
        refine zr_goto 199 i_Mod_judge_170 (by decide) ?_
        exact zR.retE i_Mod_judge_199 rfl (by simp [judgeF, mres_self, nI_clamp (show p < 2 ^ 31 by omega), *])
    · skip
      have hp0 : p = 0 := by omega
      refine zr_bipush i_Mod_judge_44 (v := 11) (by decide) ?_
      exact zR.retE i_Mod_judge_46 rfl (by unfold judgeF; rw [if_neg (by decide), if_pos (by rw [e, nI_clamp (by omega)]; exact hp0), mres_self])
theorem e8_Mod_judge (X : zX) (d : Nat) (g : zH) (ms : zMS) (cnt : Nat) (hT : mTV ms 0 cnt) (hR : ∀ s : Nat, mfind ms 0 (nI s) 2 (nI 222) 1 = none) (sg : Nat) (hs : ms.2 2 0 = nI sg) (hsl : sg ≤ 200) (nr : Nat → Nat) (hN : ∀ p, p ≤ 99 → ms.2 22 p = nI (nr p) ∧ nr p ≤ 12) : zR X (d + 4) 121 0 (zent 6 [.ref 129, .int 8]) [] (mset g ms) (some (.int (judgeF (mV ms) (mseg ms) sg (ms.2 19) (ms.2 18) (mq ms) 8).1), mset g (mres ms (judgeF (mV ms) (mseg ms) sg (ms.2 19) (ms.2 18) (mq ms) 8).2)) := by
  have hb1 := mseg_b hs hsl 80 73 68 1 (by omega)
  have hb2 := mseg_b hs hsl 80 86 49 1 (by omega)
  refine zr_iload_n i_Mod_judge_0 rfl ?_
  refine zr_if_ne 7 i_Mod_judge_1 (by decide) (fun _ => ?_) (fun q => absurd q (by decide))
  refine zr_aload_n i_Mod_judge_7 rfl ?_
  refine zr_aload_n i_Mod_judge_8 rfl ?_
  refine zr_bipush i_Mod_judge_9 (v := 80) (by decide) ?_
  refine zr_bipush i_Mod_judge_11 (v := 73) (by decide) ?_
  refine zr_bipush i_Mod_judge_13 (v := 68) (by decide) ?_
  refine zn_iconst 1 i_Mod_judge_15 (by decide) ?_
  refine zr_cv4 i_Mod_judge_16 rfl (by decide) rfl (Nat.le_of_ble_eq_true rfl) (Nat.le_of_ble_eq_true rfl) (e_Mod_segment X _ g ms sg _ _ _ _ hs hsl (by omega) (by omega)) ?_
  refine zr_cv1 i_Mod_judge_19 rfl (by decide) rfl (Nat.le_of_ble_eq_true rfl) (Nat.le_of_ble_eq_true rfl) (e_Mod_patientIn X _ g ms cnt hT _ (by omega)) ?_
  refine zr_istore_n i_Mod_judge_22 rfl ?_
  refine zr_aload_n i_Mod_judge_23 rfl ?_
  refine zr_aload_n i_Mod_judge_24 rfl ?_
  refine zr_bipush i_Mod_judge_25 (v := 80) (by decide) ?_
  refine zr_bipush i_Mod_judge_27 (v := 86) (by decide) ?_
  refine zr_bipush i_Mod_judge_29 (v := 49) (by decide) ?_
  refine zn_iconst 1 i_Mod_judge_31 (by decide) ?_
  refine zr_cv4 i_Mod_judge_32 rfl (by decide) rfl (Nat.le_of_ble_eq_true rfl) (Nat.le_of_ble_eq_true rfl) (e_Mod_segment X _ g ms sg _ _ _ _ hs hsl (by omega) (by omega)) ?_
  refine zr_cv1 i_Mod_judge_35 rfl (by decide) rfl (Nat.le_of_ble_eq_true rfl) (Nat.le_of_ble_eq_true rfl) (e_Mod_bedIn X _ g ms cnt hT _ (by omega)) ?_
  refine zr_istore_n i_Mod_judge_38 rfl ?_
  rcases patF_b (mV ms) (mseg ms 80 73 68 1) with e | ⟨p, hp, e⟩
  · rw [e]
    refine zr_iload_n i_Mod_judge_39 rfl ?_
    refine zr_iconst i_Mod_judge_40 (v := 1) (by decide) ?_
    refine zr_icmp_ge 47 i_Mod_judge_41 (by decide) (fun q => absurd q (by decide)) (fun _ => ?_)
    refine zr_bipush i_Mod_judge_44 (v := 11) (by decide) ?_
    exact zR.retE i_Mod_judge_46 rfl (by simp [judgeF, mres_self, show (-1 : Int32).toNatClampNeg = 0 from rfl, *])
  · rw [e]
    refine zr_iload_n i_Mod_judge_39 rfl ?_
    refine zn_iconst 1 i_Mod_judge_40 (by decide) ?_
    refine zn_icmp_ge 47 i_Mod_judge_41 (by decide) (by omega) (by omega) (fun c_41 => ?_) (fun c_41 => ?_)
    · skip
      have hp0 : p ≠ 0 := by omega
      refine zr_iload_n i_Mod_judge_47 rfl ?_
      refine zr_iconst i_Mod_judge_48 (v := 1) (by decide) ?_
      refine zr_icmp_eq 57 i_Mod_judge_49 (by decide) (fun q => absurd q (by decide)) (fun _ => ?_)
      refine zr_iload_n i_Mod_judge_52 rfl ?_
      refine zr_iconst i_Mod_judge_53 (v := 2) (by decide) ?_
      refine zr_icmp_ne 61 i_Mod_judge_54 (by decide) (fun _ => ?_) (fun q => absurd q (by decide))
      refine zr_iconst i_Mod_judge_61 (v := 0) (by decide) ?_
      refine zr_istore i_Mod_judge_62 rfl ?_
      refine zr_iload i_Mod_judge_64 rfl ?_
      refine zr_if_eq 76 i_Mod_judge_66 (by decide) (fun _ => ?_) (fun q => absurd q (by decide))
      refine zr_aload_n i_Mod_judge_76 rfl ?_
      refine zr_getf i_Mod_judge_77 rfl rfl rfl ?_
      refine zr_iload_n i_Mod_judge_80 rfl ?_
      refine zn_iaload i_Mod_judge_81 rfl (by omega) (by decide) ?_
      refine zr_if_lt 89 i_Mod_judge_82 (by decide) (fun c_82 => ?_) (fun c_82 => ?_)
      · skip
        refine zr_iconst i_Mod_judge_89 (v := 0) (by decide) ?_
        refine zr_istore i_Mod_judge_90 rfl ?_
        refine zr_iload i_Mod_judge_92 rfl ?_
        refine zr_if_ne 116 i_Mod_judge_94 (by decide) (fun q => absurd q (by decide)) (fun _ => ?_)
        refine zr_iload_n i_Mod_judge_97 rfl ?_
        refine zr_iconst i_Mod_judge_98 (v := 2) (by decide) ?_
        refine zr_icmp_eq 113 i_Mod_judge_99 (by decide) (fun q => absurd q (by decide)) (fun _ => ?_)
        refine zr_iload_n i_Mod_judge_102 rfl ?_
        refine zr_iconst i_Mod_judge_103 (v := 3) (by decide) ?_
        refine zr_icmp_eq 113 i_Mod_judge_104 (by decide) (fun q => absurd q (by decide)) (fun _ => ?_)
        refine zr_iload_n i_Mod_judge_107 rfl ?_
        refine zr_bipush i_Mod_judge_108 (v := 9) (by decide) ?_
        refine zr_icmp_ne 116 i_Mod_judge_110 (by decide) (fun _ => ?_) (fun q => absurd q (by decide))
        refine zr_iload i_Mod_judge_116 rfl ?_
        refine zr_if_eq 129 i_Mod_judge_118 (by decide) (fun _ => ?_) (fun q => absurd q (by decide))
        refine zr_iload i_Mod_judge_129 rfl ?_
        refine zr_if_eq 145 i_Mod_judge_131 (by decide) (fun _ => ?_) (fun q => absurd q (by decide))
        refine zr_iload_n i_Mod_judge_145 rfl ?_
        refine zr_bipush i_Mod_judge_146 (v := 8) (by decide) ?_
        refine zr_icmp_ne 163 i_Mod_judge_148 (by decide) (fun q => absurd q (by decide)) (fun _ => ?_)
        refine zr_aload_n i_Mod_judge_151 rfl ?_
        refine zr_getf i_Mod_judge_152 rfl rfl rfl ?_
        refine zr_iload_n i_Mod_judge_155 rfl ?_
        refine zn_baload i_Mod_judge_156 rfl (by omega) (by decide) ?_
        refine zr_if_ne 163 i_Mod_judge_157 (by decide) (fun c_157 => ?_) (fun c_157 => ?_)
        · skip
          refine zr_iload_n i_Mod_judge_163 rfl ?_
          refine zr_bipush i_Mod_judge_164 (v := 9) (by decide) ?_
          refine zr_icmp_eq 173 i_Mod_judge_166 (by decide) (fun q => absurd q (by decide)) (fun _ => ?_)
          refine zr_iconst i_Mod_judge_169 (v := 0) (by decide) ?_
          refine zr_goto 199 i_Mod_judge_170 (by decide) ?_
          exact zR.retE i_Mod_judge_199 rfl (by simp [judgeF, mres_self, nI_clamp (show p < 2 ^ 31 by omega), *])
        · skip
          refine zr_bipush i_Mod_judge_160 (v := 16) (by decide) ?_
          exact zR.retE i_Mod_judge_162 rfl (by simp [judgeF, mres_self, nI_clamp (show p < 2 ^ 31 by omega), *])
      · skip
        refine zr_iconst i_Mod_judge_85 (v := 1) (by decide) ?_
        refine zr_goto 90 i_Mod_judge_86 (by decide) ?_
        refine zr_istore i_Mod_judge_90 rfl ?_
        refine zr_iload i_Mod_judge_92 rfl ?_
        refine zr_if_ne 116 i_Mod_judge_94 (by decide) (fun _ => ?_) (fun q => absurd q (by decide))
        refine zr_iload i_Mod_judge_116 rfl ?_
        refine zr_if_eq 129 i_Mod_judge_118 (by decide) (fun q => absurd q (by decide)) (fun _ => ?_)
        refine zr_iload_n i_Mod_judge_121 rfl ?_
        refine zr_iconst i_Mod_judge_122 (v := 1) (by decide) ?_
        refine zr_icmp_ne 129 i_Mod_judge_123 (by decide) (fun _ => ?_) (fun q => absurd q (by decide))
        refine zr_iload i_Mod_judge_129 rfl ?_
        refine zr_if_eq 145 i_Mod_judge_131 (by decide) (fun _ => ?_) (fun q => absurd q (by decide))
        refine zr_iload_n i_Mod_judge_145 rfl ?_
        refine zr_bipush i_Mod_judge_146 (v := 8) (by decide) ?_
        refine zr_icmp_ne 163 i_Mod_judge_148 (by decide) (fun q => absurd q (by decide)) (fun _ => ?_)
        refine zr_aload_n i_Mod_judge_151 rfl ?_
        refine zr_getf i_Mod_judge_152 rfl rfl rfl ?_
        refine zr_iload_n i_Mod_judge_155 rfl ?_
        refine zn_baload i_Mod_judge_156 rfl (by omega) (by decide) ?_
        refine zr_if_ne 163 i_Mod_judge_157 (by decide) (fun c_157 => ?_) (fun c_157 => ?_)
        · skip
          refine zr_iload_n i_Mod_judge_163 rfl ?_
          refine zr_bipush i_Mod_judge_164 (v := 9) (by decide) ?_
          refine zr_icmp_eq 173 i_Mod_judge_166 (by decide) (fun q => absurd q (by decide)) (fun _ => ?_)
          refine zr_iconst i_Mod_judge_169 (v := 0) (by decide) ?_
          refine zr_goto 199 i_Mod_judge_170 (by decide) ?_
          exact zR.retE i_Mod_judge_199 rfl (by simp [judgeF, mres_self, nI_clamp (show p < 2 ^ 31 by omega), *])
        · skip
          refine zr_bipush i_Mod_judge_160 (v := 16) (by decide) ?_
          exact zR.retE i_Mod_judge_162 rfl (by simp [judgeF, mres_self, nI_clamp (show p < 2 ^ 31 by omega), *])
    · skip
      have hp0 : p = 0 := by omega
      refine zr_bipush i_Mod_judge_44 (v := 11) (by decide) ?_
      exact zR.retE i_Mod_judge_46 rfl (by unfold judgeF; rw [if_neg (by decide), if_pos (by rw [e, nI_clamp (by omega)]; exact hp0), mres_self])
theorem e9_Mod_judge (X : zX) (d : Nat) (g : zH) (ms : zMS) (cnt : Nat) (hT : mTV ms 0 cnt) (hR : ∀ s : Nat, mfind ms 0 (nI s) 2 (nI 222) 1 = none) (sg : Nat) (hs : ms.2 2 0 = nI sg) (hsl : sg ≤ 200) (nr : Nat → Nat) (hN : ∀ p, p ≤ 99 → ms.2 22 p = nI (nr p) ∧ nr p ≤ 12) : zR X (d + 4) 121 0 (zent 6 [.ref 129, .int 9]) [] (mset g ms) (some (.int (judgeF (mV ms) (mseg ms) sg (ms.2 19) (ms.2 18) (mq ms) 9).1), mset g (mres ms (judgeF (mV ms) (mseg ms) sg (ms.2 19) (ms.2 18) (mq ms) 9).2)) := by
  have hb1 := mseg_b hs hsl 80 73 68 1 (by omega)
  have hb2 := mseg_b hs hsl 80 86 49 1 (by omega)
  refine zr_iload_n i_Mod_judge_0 rfl ?_
  refine zr_if_ne 7 i_Mod_judge_1 (by decide) (fun _ => ?_) (fun q => absurd q (by decide))
  refine zr_aload_n i_Mod_judge_7 rfl ?_
  refine zr_aload_n i_Mod_judge_8 rfl ?_
  refine zr_bipush i_Mod_judge_9 (v := 80) (by decide) ?_
  refine zr_bipush i_Mod_judge_11 (v := 73) (by decide) ?_
  refine zr_bipush i_Mod_judge_13 (v := 68) (by decide) ?_
  refine zn_iconst 1 i_Mod_judge_15 (by decide) ?_
  refine zr_cv4 i_Mod_judge_16 rfl (by decide) rfl (Nat.le_of_ble_eq_true rfl) (Nat.le_of_ble_eq_true rfl) (e_Mod_segment X _ g ms sg _ _ _ _ hs hsl (by omega) (by omega)) ?_
  refine zr_cv1 i_Mod_judge_19 rfl (by decide) rfl (Nat.le_of_ble_eq_true rfl) (Nat.le_of_ble_eq_true rfl) (e_Mod_patientIn X _ g ms cnt hT _ (by omega)) ?_
  refine zr_istore_n i_Mod_judge_22 rfl ?_
  refine zr_aload_n i_Mod_judge_23 rfl ?_
  refine zr_aload_n i_Mod_judge_24 rfl ?_
  refine zr_bipush i_Mod_judge_25 (v := 80) (by decide) ?_
  refine zr_bipush i_Mod_judge_27 (v := 86) (by decide) ?_
  refine zr_bipush i_Mod_judge_29 (v := 49) (by decide) ?_
  refine zn_iconst 1 i_Mod_judge_31 (by decide) ?_
  refine zr_cv4 i_Mod_judge_32 rfl (by decide) rfl (Nat.le_of_ble_eq_true rfl) (Nat.le_of_ble_eq_true rfl) (e_Mod_segment X _ g ms sg _ _ _ _ hs hsl (by omega) (by omega)) ?_
  refine zr_cv1 i_Mod_judge_35 rfl (by decide) rfl (Nat.le_of_ble_eq_true rfl) (Nat.le_of_ble_eq_true rfl) (e_Mod_bedIn X _ g ms cnt hT _ (by omega)) ?_
  refine zr_istore_n i_Mod_judge_38 rfl ?_
  rcases patF_b (mV ms) (mseg ms 80 73 68 1) with e | ⟨p, hp, e⟩
  · rw [e]
    refine zr_iload_n i_Mod_judge_39 rfl ?_
    refine zr_iconst i_Mod_judge_40 (v := 1) (by decide) ?_
    refine zr_icmp_ge 47 i_Mod_judge_41 (by decide) (fun q => absurd q (by decide)) (fun _ => ?_)
    refine zr_bipush i_Mod_judge_44 (v := 11) (by decide) ?_
    exact zR.retE i_Mod_judge_46 rfl (by simp [judgeF, mres_self, show (-1 : Int32).toNatClampNeg = 0 from rfl, *])
  · rw [e]
    refine zr_iload_n i_Mod_judge_39 rfl ?_
    refine zn_iconst 1 i_Mod_judge_40 (by decide) ?_
    refine zn_icmp_ge 47 i_Mod_judge_41 (by decide) (by omega) (by omega) (fun c_41 => ?_) (fun c_41 => ?_)
    · skip
      have hp0 : p ≠ 0 := by omega
      refine zr_iload_n i_Mod_judge_47 rfl ?_
      refine zr_iconst i_Mod_judge_48 (v := 1) (by decide) ?_
      refine zr_icmp_eq 57 i_Mod_judge_49 (by decide) (fun q => absurd q (by decide)) (fun _ => ?_)
      refine zr_iload_n i_Mod_judge_52 rfl ?_
      refine zr_iconst i_Mod_judge_53 (v := 2) (by decide) ?_
      refine zr_icmp_ne 61 i_Mod_judge_54 (by decide) (fun _ => ?_) (fun q => absurd q (by decide))
      refine zr_iconst i_Mod_judge_61 (v := 0) (by decide) ?_
      refine zr_istore i_Mod_judge_62 rfl ?_
      refine zr_iload i_Mod_judge_64 rfl ?_
      refine zr_if_eq 76 i_Mod_judge_66 (by decide) (fun _ => ?_) (fun q => absurd q (by decide))
      refine zr_aload_n i_Mod_judge_76 rfl ?_
      refine zr_getf i_Mod_judge_77 rfl rfl rfl ?_
      refine zr_iload_n i_Mod_judge_80 rfl ?_
      refine zn_iaload i_Mod_judge_81 rfl (by omega) (by decide) ?_
      refine zr_if_lt 89 i_Mod_judge_82 (by decide) (fun c_82 => ?_) (fun c_82 => ?_)
      · skip
        refine zr_iconst i_Mod_judge_89 (v := 0) (by decide) ?_
        refine zr_istore i_Mod_judge_90 rfl ?_
        refine zr_iload i_Mod_judge_92 rfl ?_
        refine zr_if_ne 116 i_Mod_judge_94 (by decide) (fun q => absurd q (by decide)) (fun _ => ?_)
        refine zr_iload_n i_Mod_judge_97 rfl ?_
        refine zr_iconst i_Mod_judge_98 (v := 2) (by decide) ?_
        refine zr_icmp_eq 113 i_Mod_judge_99 (by decide) (fun q => absurd q (by decide)) (fun _ => ?_)
        refine zr_iload_n i_Mod_judge_102 rfl ?_
        refine zr_iconst i_Mod_judge_103 (v := 3) (by decide) ?_
        refine zr_icmp_eq 113 i_Mod_judge_104 (by decide) (fun q => absurd q (by decide)) (fun _ => ?_)
        refine zr_iload_n i_Mod_judge_107 rfl ?_
        refine zr_bipush i_Mod_judge_108 (v := 9) (by decide) ?_
        refine zr_icmp_ne 116 i_Mod_judge_110 (by decide) (fun q => absurd q (by decide)) (fun _ => ?_)
        refine zr_bipush i_Mod_judge_113 (v := 13) (by decide) ?_
        exact zR.retE i_Mod_judge_115 rfl (by simp [judgeF, mres_self, nI_clamp (show p < 2 ^ 31 by omega), *])
      · skip
        refine zr_iconst i_Mod_judge_85 (v := 1) (by decide) ?_
        refine zr_goto 90 i_Mod_judge_86 (by decide) ?_
        refine zr_istore i_Mod_judge_90 rfl ?_
        refine zr_iload i_Mod_judge_92 rfl ?_
        refine zr_if_ne 116 i_Mod_judge_94 (by decide) (fun _ => ?_) (fun q => absurd q (by decide))
        refine zr_iload i_Mod_judge_116 rfl ?_
        refine zr_if_eq 129 i_Mod_judge_118 (by decide) (fun q => absurd q (by decide)) (fun _ => ?_)
        refine zr_iload_n i_Mod_judge_121 rfl ?_
        refine zr_iconst i_Mod_judge_122 (v := 1) (by decide) ?_
        refine zr_icmp_ne 129 i_Mod_judge_123 (by decide) (fun _ => ?_) (fun q => absurd q (by decide))
        refine zr_iload i_Mod_judge_129 rfl ?_
        refine zr_if_eq 145 i_Mod_judge_131 (by decide) (fun _ => ?_) (fun q => absurd q (by decide))
        refine zr_iload_n i_Mod_judge_145 rfl ?_
        refine zr_bipush i_Mod_judge_146 (v := 8) (by decide) ?_
        refine zr_icmp_ne 163 i_Mod_judge_148 (by decide) (fun _ => ?_) (fun q => absurd q (by decide))
        refine zr_iload_n i_Mod_judge_163 rfl ?_
        refine zr_bipush i_Mod_judge_164 (v := 9) (by decide) ?_
        refine zr_icmp_eq 173 i_Mod_judge_166 (by decide) (fun _ => ?_) (fun q => absurd q (by decide))
        refine zr_aload_n i_Mod_judge_173 rfl ?_
        refine zr_cv0 i_Mod_judge_174 rfl (by decide) rfl (Nat.le_of_ble_eq_true rfl) (Nat.le_of_ble_eq_true rfl) (e_Mod_wrongResults X _ g ms cnt hT hR sg hs hsl) ?_
        refine zB_if_eq 185 i_Mod_judge_177 (by decide) (fun c_177 => ?_) (fun c_177 => ?_)
        · skip
          refine zr_aload_n i_Mod_judge_185 rfl ?_
          refine zr_iload_n i_Mod_judge_186 rfl ?_
          refine zr_cv1 i_Mod_judge_187 rfl (by decide) rfl (Nat.le_of_ble_eq_true rfl) (Nat.le_of_ble_eq_true rfl) (e_Mod_tryResults X _ g ms cnt hT hR sg hs hsl p _ hp (hN p hp).1 (hN p hp).2) ?_
          refine zB_if_eq 197 i_Mod_judge_190 (by decide) (fun c_190 => ?_) (fun c_190 => ?_)
          · skip
            refine zr_bipush i_Mod_judge_197 (v := 18) (by decide) ?_
            exact zR.retE i_Mod_judge_199 rfl (by simp [judgeF, mres_self, nI_clamp (show p < 2 ^ 31 by omega), *])
          · skip
            refine zr_iconst i_Mod_judge_193 (v := 0) (by decide) ?_
            refine zr_goto 199 i_Mod_judge_194 (by decide) ?_
            exact zR.retE i_Mod_judge_199 rfl (by simp [judgeF, mres_self, nI_clamp (show p < 2 ^ 31 by omega), *])
        · skip
          refine zr_bipush i_Mod_judge_180 (v := 17) (by decide) ?_
          refine zr_goto 199 i_Mod_judge_182 (by decide) ?_
          exact zR.retE i_Mod_judge_199 rfl (by simp [judgeF, mres_self, nI_clamp (show p < 2 ^ 31 by omega), *])
    · skip
      have hp0 : p = 0 := by omega
      refine zr_bipush i_Mod_judge_44 (v := 11) (by decide) ?_
      exact zR.retE i_Mod_judge_46 rfl (by unfold judgeF; rw [if_neg (by decide), if_pos (by rw [e, nI_clamp (by omega)]; exact hp0), mres_self])
def mB (ms : zMS) (b kn : Nat → Int32) : zMS := (ms.1, va_up (va_up ms.2 19 b) 18 kn)
/-- what an accepted message of a kind does -/
def actF (ms : zMS) (kind : Nat) : zMS :=
  let pid := mseg ms 80 73 68 1
  let p := (patF (mV ms) pid).toNatClampNeg
  let b := bedF (mV ms) (mseg ms 80 86 49 1)
  if kind = 1 then mnam (mB ms (upd (ms.2 19) p b) (upd (ms.2 18) p 1)) (takeQ (takeQ (mnq ms) (mV ms (nI pid) 2 1 1) p 0) (mV ms (nI pid) 2 1 2) p 1)
  else if kind = 2 then mB ms (upd (ms.2 19) p b) (upd (ms.2 18) p 1)
  else if kind = 3 then (ms.1, va_up ms.2 19 (upd (ms.2 19) p (-1)))
  else if kind = 8 then mnam ms (takeQ (takeQ (mnq ms) (mV ms (nI pid) 2 1 1) p 0) (mV ms (nI pid) 2 1 2) p 1)
  else mres ms (copyQ (mq ms) 100 p)
theorem i_Mod_act_0 : zins 135 0 = some (.aload_n 0) := by decide +kernel
theorem i_Mod_act_1 : zins 135 1 = some (.bipush 80) := by decide +kernel
theorem i_Mod_act_3 : zins 135 3 = some (.bipush 73) := by decide +kernel
theorem i_Mod_act_5 : zins 135 5 = some (.bipush 68) := by decide +kernel
theorem i_Mod_act_7 : zins 135 7 = some (.iconst 1) := by decide +kernel
theorem i_Mod_act_8 : zins 135 8 = some (.invokevirtual 165) := by decide +kernel
theorem i_Mod_act_11 : zins 135 11 = some (.istore_n 2) := by decide +kernel
theorem i_Mod_act_12 : zins 135 12 = some (.aload_n 0) := by decide +kernel
theorem i_Mod_act_13 : zins 135 13 = some (.iload_n 2) := by decide +kernel
theorem i_Mod_act_14 : zins 135 14 = some (.invokevirtual 202) := by decide +kernel
theorem i_Mod_act_17 : zins 135 17 = some (.istore_n 3) := by decide +kernel
theorem i_Mod_act_18 : zins 135 18 = some (.iload_n 1) := by decide +kernel
theorem i_Mod_act_19 : zins 135 19 = some (.iconst 1) := by decide +kernel
theorem i_Mod_act_20 : zins 135 20 = some (.if_icmp .eq 8) := by decide +kernel
theorem i_Mod_act_23 : zins 135 23 = some (.iload_n 1) := by decide +kernel
theorem i_Mod_act_24 : zins 135 24 = some (.iconst 2) := by decide +kernel
theorem i_Mod_act_25 : zins 135 25 = some (.if_icmp .ne 31) := by decide +kernel
theorem i_Mod_act_28 : zins 135 28 = some (.aload_n 0) := by decide +kernel
theorem i_Mod_act_29 : zins 135 29 = some (.getfield 66) := by decide +kernel
theorem i_Mod_act_32 : zins 135 32 = some (.iload_n 3) := by decide +kernel
theorem i_Mod_act_33 : zins 135 33 = some (.aload_n 0) := by decide +kernel
theorem i_Mod_act_34 : zins 135 34 = some (.aload_n 0) := by decide +kernel
theorem i_Mod_act_35 : zins 135 35 = some (.bipush 80) := by decide +kernel
theorem i_Mod_act_37 : zins 135 37 = some (.bipush 86) := by decide +kernel
theorem i_Mod_act_39 : zins 135 39 = some (.bipush 49) := by decide +kernel
theorem i_Mod_act_41 : zins 135 41 = some (.iconst 1) := by decide +kernel
theorem i_Mod_act_42 : zins 135 42 = some (.invokevirtual 165) := by decide +kernel
theorem i_Mod_act_45 : zins 135 45 = some (.invokevirtual 205) := by decide +kernel
theorem i_Mod_act_48 : zins 135 48 = some (.iastore) := by decide +kernel
theorem i_Mod_act_49 : zins 135 49 = some (.aload_n 0) := by decide +kernel
theorem i_Mod_act_50 : zins 135 50 = some (.getfield 62) := by decide +kernel
theorem i_Mod_act_53 : zins 135 53 = some (.iload_n 3) := by decide +kernel
theorem i_Mod_act_54 : zins 135 54 = some (.iconst 1) := by decide +kernel
theorem i_Mod_act_55 : zins 135 55 = some (.bastore) := by decide +kernel
theorem i_Mod_act_56 : zins 135 56 = some (.iload_n 1) := by decide +kernel
theorem i_Mod_act_57 : zins 135 57 = some (.iconst 3) := by decide +kernel
theorem i_Mod_act_58 : zins 135 58 = some (.if_icmp .ne 10) := by decide +kernel
theorem i_Mod_act_61 : zins 135 61 = some (.aload_n 0) := by decide +kernel
theorem i_Mod_act_62 : zins 135 62 = some (.getfield 66) := by decide +kernel
theorem i_Mod_act_65 : zins 135 65 = some (.iload_n 3) := by decide +kernel
theorem i_Mod_act_66 : zins 135 66 = some (.iconst (-1)) := by decide +kernel
theorem i_Mod_act_67 : zins 135 67 = some (.iastore) := by decide +kernel
theorem i_Mod_act_68 : zins 135 68 = some (.iload_n 1) := by decide +kernel
theorem i_Mod_act_69 : zins 135 69 = some (.iconst 1) := by decide +kernel
theorem i_Mod_act_70 : zins 135 70 = some (.if_icmp .eq 9) := by decide +kernel
theorem i_Mod_act_73 : zins 135 73 = some (.iload_n 1) := by decide +kernel
theorem i_Mod_act_74 : zins 135 74 = some (.bipush 8) := by decide +kernel
theorem i_Mod_act_76 : zins 135 76 = some (.if_icmp .ne 17) := by decide +kernel
theorem i_Mod_act_79 : zins 135 79 = some (.aload_n 0) := by decide +kernel
theorem i_Mod_act_80 : zins 135 80 = some (.iload_n 3) := by decide +kernel
theorem i_Mod_act_81 : zins 135 81 = some (.iconst 0) := by decide +kernel
theorem i_Mod_act_82 : zins 135 82 = some (.iload_n 2) := by decide +kernel
theorem i_Mod_act_83 : zins 135 83 = some (.invokevirtual 217) := by decide +kernel
theorem i_Mod_act_86 : zins 135 86 = some (.aload_n 0) := by decide +kernel
theorem i_Mod_act_87 : zins 135 87 = some (.iload_n 3) := by decide +kernel
theorem i_Mod_act_88 : zins 135 88 = some (.iconst 1) := by decide +kernel
theorem i_Mod_act_89 : zins 135 89 = some (.iload_n 2) := by decide +kernel
theorem i_Mod_act_90 : zins 135 90 = some (.invokevirtual 217) := by decide +kernel
theorem i_Mod_act_93 : zins 135 93 = some (.iload_n 1) := by decide +kernel
theorem i_Mod_act_94 : zins 135 94 = some (.bipush 9) := by decide +kernel
theorem i_Mod_act_96 : zins 135 96 = some (.if_icmp .ne 10) := by decide +kernel
theorem i_Mod_act_99 : zins 135 99 = some (.aload_n 0) := by decide +kernel
theorem i_Mod_act_100 : zins 135 100 = some (.bipush 100) := by decide +kernel
theorem i_Mod_act_102 : zins 135 102 = some (.iload_n 3) := by decide +kernel
theorem i_Mod_act_103 : zins 135 103 = some (.invokevirtual 182) := by decide +kernel
theorem i_Mod_act_106 : zins 135 106 = some (.return_) := by decide +kernel
theorem e1_Mod_act (X : zX) (d : Nat) (g : zH) (ms : zMS) (cnt : Nat) (hT : mTV ms 0 cnt) (sg : Nat) (hs : ms.2 2 0 = nI sg) (hsl : sg ≤ 200) (p : Nat) (hp : p ≤ 99) (e : patF (mV ms) (mseg ms 80 73 68 1) = nI p) : zR X (d + 4) 135 0 (zent 4 [.ref 129, .int 1]) [] (mset g ms) (none, mset g (actF ms 1)) := by
  have hb1 := mseg_b hs hsl 80 73 68 1 (by omega)
  have hb2 := mseg_b hs hsl 80 86 49 1 (by omega)
  have e2 : actF ms 1 = mnam (mB ms (upd (ms.2 19) p (bedF (mV ms) (mseg ms 80 86 49 1))) (upd (ms.2 18) p 1)) (takeQ (takeQ (mnq ms) (mV ms (nI (mseg ms 80 73 68 1)) 2 1 1) p 0) (mV ms (nI (mseg ms 80 73 68 1)) 2 1 2) p 1) := by
    unfold actF
    dsimp only
    rw [e, nI_clamp (by omega)]
    rfl
  refine zr_aload_n i_Mod_act_0 rfl ?_
  refine zr_bipush i_Mod_act_1 (v := 80) (by decide) ?_
  refine zr_bipush i_Mod_act_3 (v := 73) (by decide) ?_
  refine zr_bipush i_Mod_act_5 (v := 68) (by decide) ?_
  refine zn_iconst 1 i_Mod_act_7 (by decide) ?_
  refine zr_cv4 i_Mod_act_8 rfl (by decide) rfl (Nat.le_of_ble_eq_true rfl) (Nat.le_of_ble_eq_true rfl) (e_Mod_segment X _ g ms sg _ _ _ _ hs hsl (by omega) (by omega)) ?_
  refine zr_istore_n i_Mod_act_11 rfl ?_
  refine zr_aload_n i_Mod_act_12 rfl ?_
  refine zr_iload_n i_Mod_act_13 rfl ?_
  refine zr_cv1 i_Mod_act_14 rfl (by decide) rfl (Nat.le_of_ble_eq_true rfl) (Nat.le_of_ble_eq_true rfl) (e_Mod_patientIn X _ g ms cnt hT _ (by omega)) ?_
  refine zr_top (y := nI p) e ?_
  refine zr_istore_n i_Mod_act_17 rfl ?_
  refine zr_iload_n i_Mod_act_18 rfl ?_
  refine zr_iconst i_Mod_act_19 (v := 1) (by decide) ?_
  refine zr_icmp_eq 28 i_Mod_act_20 (by decide) (fun _ => ?_) (fun q => absurd q (by decide))
  refine zr_aload_n i_Mod_act_28 rfl ?_
  refine zr_getf i_Mod_act_29 rfl rfl rfl ?_
  refine zr_iload_n i_Mod_act_32 rfl ?_
  refine zr_aload_n i_Mod_act_33 rfl ?_
  refine zr_aload_n i_Mod_act_34 rfl ?_
  refine zr_bipush i_Mod_act_35 (v := 80) (by decide) ?_
  refine zr_bipush i_Mod_act_37 (v := 86) (by decide) ?_
  refine zr_bipush i_Mod_act_39 (v := 49) (by decide) ?_
  refine zn_iconst 1 i_Mod_act_41 (by decide) ?_
  refine zr_cv4 i_Mod_act_42 rfl (by decide) rfl (Nat.le_of_ble_eq_true rfl) (Nat.le_of_ble_eq_true rfl) (e_Mod_segment X _ g ms sg _ _ _ _ hs hsl (by omega) (by omega)) ?_
  refine zr_cv1 i_Mod_act_45 rfl (by decide) rfl (Nat.le_of_ble_eq_true rfl) (Nat.le_of_ble_eq_true rfl) (e_Mod_bedIn X _ g ms cnt hT _ (by omega)) ?_
  refine mn_iastore 19 100 i_Mod_act_48 (fun _ => rfl) (by decide) (by omega) (by decide) ?_
  refine zr_aload_n i_Mod_act_49 rfl ?_
  refine zr_getf i_Mod_act_50 rfl rfl rfl ?_
  refine zr_iload_n i_Mod_act_53 rfl ?_
  refine zr_iconst i_Mod_act_54 (v := 1) (by decide) ?_
  refine mn_bastore 18 100 i_Mod_act_55 (fun _ => rfl) (by decide) (by omega) (by decide) ?_
  refine zr_iload_n i_Mod_act_56 rfl ?_
  refine zr_iconst i_Mod_act_57 (v := 3) (by decide) ?_
  refine zr_icmp_ne 68 i_Mod_act_58 (by decide) (fun _ => ?_) (fun q => absurd q (by decide))
  refine zr_iload_n i_Mod_act_68 rfl ?_
  refine zr_iconst i_Mod_act_69 (v := 1) (by decide) ?_
  refine zr_icmp_eq 79 i_Mod_act_70 (by decide) (fun _ => ?_) (fun q => absurd q (by decide))
  refine zr_aload_n i_Mod_act_79 rfl ?_
  refine zr_iload_n i_Mod_act_80 rfl ?_
  refine zn_iconst 0 i_Mod_act_81 (by decide) ?_
  refine zr_iload_n i_Mod_act_82 rfl ?_
  refine zr_cv30 i_Mod_act_83 rfl (by decide) rfl (Nat.le_of_ble_eq_true rfl) (Nat.le_of_ble_eq_true rfl) (e_Mod_takeName X _ g (mB ms (upd (ms.2 19) p (bedF (mV ms) (mseg ms 80 86 49 1))) (upd (ms.2 18) p 1)) cnt hT p 0 _ hp (by decide) (by omega)) ?_
  refine zr_aload_n i_Mod_act_86 rfl ?_
  refine zr_iload_n i_Mod_act_87 rfl ?_
  refine zn_iconst 1 i_Mod_act_88 (by decide) ?_
  refine zr_iload_n i_Mod_act_89 rfl ?_
  refine zr_cv30 i_Mod_act_90 rfl (by decide) rfl (Nat.le_of_ble_eq_true rfl) (Nat.le_of_ble_eq_true rfl) (e_Mod_takeName X _ g (mnam (mB ms (upd (ms.2 19) p (bedF (mV ms) (mseg ms 80 86 49 1))) (upd (ms.2 18) p 1)) (takeQ (mnq (mB ms (upd (ms.2 19) p (bedF (mV ms) (mseg ms 80 86 49 1))) (upd (ms.2 18) p 1))) (mV (mB ms (upd (ms.2 19) p (bedF (mV ms) (mseg ms 80 86 49 1))) (upd (ms.2 18) p 1)) (nI (mseg ms 80 73 68 1)) 2 1 (nI (0 + 1))) p 0)) cnt hT p 1 _ hp (by decide) (by omega)) ?_
  refine zr_iload_n i_Mod_act_93 rfl ?_
  refine zr_bipush i_Mod_act_94 (v := 9) (by decide) ?_
  refine zr_icmp_ne 106 i_Mod_act_96 (by decide) (fun _ => ?_) (fun q => absurd q (by decide))
  exact zR.retE i_Mod_act_106 rfl (by rw [e2, mnam_nam]; rfl)
theorem e2_Mod_act (X : zX) (d : Nat) (g : zH) (ms : zMS) (cnt : Nat) (hT : mTV ms 0 cnt) (sg : Nat) (hs : ms.2 2 0 = nI sg) (hsl : sg ≤ 200) (p : Nat) (hp : p ≤ 99) (e : patF (mV ms) (mseg ms 80 73 68 1) = nI p) : zR X (d + 4) 135 0 (zent 4 [.ref 129, .int 2]) [] (mset g ms) (none, mset g (actF ms 2)) := by
  have hb1 := mseg_b hs hsl 80 73 68 1 (by omega)
  have hb2 := mseg_b hs hsl 80 86 49 1 (by omega)
  have e2 : actF ms 2 = (mB ms (upd (ms.2 19) p (bedF (mV ms) (mseg ms 80 86 49 1))) (upd (ms.2 18) p 1)) := by
    unfold actF
    dsimp only
    rw [e, nI_clamp (by omega)]
    rfl
  refine zr_aload_n i_Mod_act_0 rfl ?_
  refine zr_bipush i_Mod_act_1 (v := 80) (by decide) ?_
  refine zr_bipush i_Mod_act_3 (v := 73) (by decide) ?_
  refine zr_bipush i_Mod_act_5 (v := 68) (by decide) ?_
  refine zn_iconst 1 i_Mod_act_7 (by decide) ?_
  refine zr_cv4 i_Mod_act_8 rfl (by decide) rfl (Nat.le_of_ble_eq_true rfl) (Nat.le_of_ble_eq_true rfl) (e_Mod_segment X _ g ms sg _ _ _ _ hs hsl (by omega) (by omega)) ?_
  refine zr_istore_n i_Mod_act_11 rfl ?_
  refine zr_aload_n i_Mod_act_12 rfl ?_
  refine zr_iload_n i_Mod_act_13 rfl ?_
  refine zr_cv1 i_Mod_act_14 rfl (by decide) rfl (Nat.le_of_ble_eq_true rfl) (Nat.le_of_ble_eq_true rfl) (e_Mod_patientIn X _ g ms cnt hT _ (by omega)) ?_
  refine zr_top (y := nI p) e ?_
  refine zr_istore_n i_Mod_act_17 rfl ?_
  refine zr_iload_n i_Mod_act_18 rfl ?_
  refine zr_iconst i_Mod_act_19 (v := 1) (by decide) ?_
  refine zr_icmp_eq 28 i_Mod_act_20 (by decide) (fun q => absurd q (by decide)) (fun _ => ?_)
  refine zr_iload_n i_Mod_act_23 rfl ?_
  refine zr_iconst i_Mod_act_24 (v := 2) (by decide) ?_
  refine zr_icmp_ne 56 i_Mod_act_25 (by decide) (fun q => absurd q (by decide)) (fun _ => ?_)
  refine zr_aload_n i_Mod_act_28 rfl ?_
  refine zr_getf i_Mod_act_29 rfl rfl rfl ?_
  refine zr_iload_n i_Mod_act_32 rfl ?_
  refine zr_aload_n i_Mod_act_33 rfl ?_
  refine zr_aload_n i_Mod_act_34 rfl ?_
  refine zr_bipush i_Mod_act_35 (v := 80) (by decide) ?_
  refine zr_bipush i_Mod_act_37 (v := 86) (by decide) ?_
  refine zr_bipush i_Mod_act_39 (v := 49) (by decide) ?_
  refine zn_iconst 1 i_Mod_act_41 (by decide) ?_
  refine zr_cv4 i_Mod_act_42 rfl (by decide) rfl (Nat.le_of_ble_eq_true rfl) (Nat.le_of_ble_eq_true rfl) (e_Mod_segment X _ g ms sg _ _ _ _ hs hsl (by omega) (by omega)) ?_
  refine zr_cv1 i_Mod_act_45 rfl (by decide) rfl (Nat.le_of_ble_eq_true rfl) (Nat.le_of_ble_eq_true rfl) (e_Mod_bedIn X _ g ms cnt hT _ (by omega)) ?_
  refine mn_iastore 19 100 i_Mod_act_48 (fun _ => rfl) (by decide) (by omega) (by decide) ?_
  refine zr_aload_n i_Mod_act_49 rfl ?_
  refine zr_getf i_Mod_act_50 rfl rfl rfl ?_
  refine zr_iload_n i_Mod_act_53 rfl ?_
  refine zr_iconst i_Mod_act_54 (v := 1) (by decide) ?_
  refine mn_bastore 18 100 i_Mod_act_55 (fun _ => rfl) (by decide) (by omega) (by decide) ?_
  refine zr_iload_n i_Mod_act_56 rfl ?_
  refine zr_iconst i_Mod_act_57 (v := 3) (by decide) ?_
  refine zr_icmp_ne 68 i_Mod_act_58 (by decide) (fun _ => ?_) (fun q => absurd q (by decide))
  refine zr_iload_n i_Mod_act_68 rfl ?_
  refine zr_iconst i_Mod_act_69 (v := 1) (by decide) ?_
  refine zr_icmp_eq 79 i_Mod_act_70 (by decide) (fun q => absurd q (by decide)) (fun _ => ?_)
  refine zr_iload_n i_Mod_act_73 rfl ?_
  refine zr_bipush i_Mod_act_74 (v := 8) (by decide) ?_
  refine zr_icmp_ne 93 i_Mod_act_76 (by decide) (fun _ => ?_) (fun q => absurd q (by decide))
  refine zr_iload_n i_Mod_act_93 rfl ?_
  refine zr_bipush i_Mod_act_94 (v := 9) (by decide) ?_
  refine zr_icmp_ne 106 i_Mod_act_96 (by decide) (fun _ => ?_) (fun q => absurd q (by decide))
  exact zR.retE i_Mod_act_106 rfl (by rw [e2] <;> rfl)
theorem e3_Mod_act (X : zX) (d : Nat) (g : zH) (ms : zMS) (cnt : Nat) (hT : mTV ms 0 cnt) (sg : Nat) (hs : ms.2 2 0 = nI sg) (hsl : sg ≤ 200) (p : Nat) (hp : p ≤ 99) (e : patF (mV ms) (mseg ms 80 73 68 1) = nI p) : zR X (d + 4) 135 0 (zent 4 [.ref 129, .int 3]) [] (mset g ms) (none, mset g (actF ms 3)) := by
  have hb1 := mseg_b hs hsl 80 73 68 1 (by omega)
  have hb2 := mseg_b hs hsl 80 86 49 1 (by omega)
  have e2 : actF ms 3 = (ms.1, va_up ms.2 19 (upd (ms.2 19) p (-1))) := by
    unfold actF
    dsimp only
    rw [e, nI_clamp (by omega)]
    rfl
  refine zr_aload_n i_Mod_act_0 rfl ?_
  refine zr_bipush i_Mod_act_1 (v := 80) (by decide) ?_
  refine zr_bipush i_Mod_act_3 (v := 73) (by decide) ?_
  refine zr_bipush i_Mod_act_5 (v := 68) (by decide) ?_
  refine zn_iconst 1 i_Mod_act_7 (by decide) ?_
  refine zr_cv4 i_Mod_act_8 rfl (by decide) rfl (Nat.le_of_ble_eq_true rfl) (Nat.le_of_ble_eq_true rfl) (e_Mod_segment X _ g ms sg _ _ _ _ hs hsl (by omega) (by omega)) ?_
  refine zr_istore_n i_Mod_act_11 rfl ?_
  refine zr_aload_n i_Mod_act_12 rfl ?_
  refine zr_iload_n i_Mod_act_13 rfl ?_
  refine zr_cv1 i_Mod_act_14 rfl (by decide) rfl (Nat.le_of_ble_eq_true rfl) (Nat.le_of_ble_eq_true rfl) (e_Mod_patientIn X _ g ms cnt hT _ (by omega)) ?_
  refine zr_top (y := nI p) e ?_
  refine zr_istore_n i_Mod_act_17 rfl ?_
  refine zr_iload_n i_Mod_act_18 rfl ?_
  refine zr_iconst i_Mod_act_19 (v := 1) (by decide) ?_
  refine zr_icmp_eq 28 i_Mod_act_20 (by decide) (fun q => absurd q (by decide)) (fun _ => ?_)
  refine zr_iload_n i_Mod_act_23 rfl ?_
  refine zr_iconst i_Mod_act_24 (v := 2) (by decide) ?_
  refine zr_icmp_ne 56 i_Mod_act_25 (by decide) (fun _ => ?_) (fun q => absurd q (by decide))
  refine zr_iload_n i_Mod_act_56 rfl ?_
  refine zr_iconst i_Mod_act_57 (v := 3) (by decide) ?_
  refine zr_icmp_ne 68 i_Mod_act_58 (by decide) (fun q => absurd q (by decide)) (fun _ => ?_)
  refine zr_aload_n i_Mod_act_61 rfl ?_
  refine zr_getf i_Mod_act_62 rfl rfl rfl ?_
  refine zr_iload_n i_Mod_act_65 rfl ?_
  refine zr_iconst i_Mod_act_66 (v := (-1)) (by decide) ?_
  refine mn_iastore 19 100 i_Mod_act_67 (fun _ => rfl) (by decide) (by omega) (by decide) ?_
  refine zr_iload_n i_Mod_act_68 rfl ?_
  refine zr_iconst i_Mod_act_69 (v := 1) (by decide) ?_
  refine zr_icmp_eq 79 i_Mod_act_70 (by decide) (fun q => absurd q (by decide)) (fun _ => ?_)
  refine zr_iload_n i_Mod_act_73 rfl ?_
  refine zr_bipush i_Mod_act_74 (v := 8) (by decide) ?_
  refine zr_icmp_ne 93 i_Mod_act_76 (by decide) (fun _ => ?_) (fun q => absurd q (by decide))
  refine zr_iload_n i_Mod_act_93 rfl ?_
  refine zr_bipush i_Mod_act_94 (v := 9) (by decide) ?_
  refine zr_icmp_ne 106 i_Mod_act_96 (by decide) (fun _ => ?_) (fun q => absurd q (by decide))
  exact zR.retE i_Mod_act_106 rfl (by rw [e2] <;> rfl)
theorem e8_Mod_act (X : zX) (d : Nat) (g : zH) (ms : zMS) (cnt : Nat) (hT : mTV ms 0 cnt) (sg : Nat) (hs : ms.2 2 0 = nI sg) (hsl : sg ≤ 200) (p : Nat) (hp : p ≤ 99) (e : patF (mV ms) (mseg ms 80 73 68 1) = nI p) : zR X (d + 4) 135 0 (zent 4 [.ref 129, .int 8]) [] (mset g ms) (none, mset g (actF ms 8)) := by
  have hb1 := mseg_b hs hsl 80 73 68 1 (by omega)
  have hb2 := mseg_b hs hsl 80 86 49 1 (by omega)
  have e2 : actF ms 8 = mnam ms (takeQ (takeQ (mnq ms) (mV ms (nI (mseg ms 80 73 68 1)) 2 1 1) p 0) (mV ms (nI (mseg ms 80 73 68 1)) 2 1 2) p 1) := by
    unfold actF
    dsimp only
    rw [e, nI_clamp (by omega)]
    rfl
  refine zr_aload_n i_Mod_act_0 rfl ?_
  refine zr_bipush i_Mod_act_1 (v := 80) (by decide) ?_
  refine zr_bipush i_Mod_act_3 (v := 73) (by decide) ?_
  refine zr_bipush i_Mod_act_5 (v := 68) (by decide) ?_
  refine zn_iconst 1 i_Mod_act_7 (by decide) ?_
  refine zr_cv4 i_Mod_act_8 rfl (by decide) rfl (Nat.le_of_ble_eq_true rfl) (Nat.le_of_ble_eq_true rfl) (e_Mod_segment X _ g ms sg _ _ _ _ hs hsl (by omega) (by omega)) ?_
  refine zr_istore_n i_Mod_act_11 rfl ?_
  refine zr_aload_n i_Mod_act_12 rfl ?_
  refine zr_iload_n i_Mod_act_13 rfl ?_
  refine zr_cv1 i_Mod_act_14 rfl (by decide) rfl (Nat.le_of_ble_eq_true rfl) (Nat.le_of_ble_eq_true rfl) (e_Mod_patientIn X _ g ms cnt hT _ (by omega)) ?_
  refine zr_top (y := nI p) e ?_
  refine zr_istore_n i_Mod_act_17 rfl ?_
  refine zr_iload_n i_Mod_act_18 rfl ?_
  refine zr_iconst i_Mod_act_19 (v := 1) (by decide) ?_
  refine zr_icmp_eq 28 i_Mod_act_20 (by decide) (fun q => absurd q (by decide)) (fun _ => ?_)
  refine zr_iload_n i_Mod_act_23 rfl ?_
  refine zr_iconst i_Mod_act_24 (v := 2) (by decide) ?_
  refine zr_icmp_ne 56 i_Mod_act_25 (by decide) (fun _ => ?_) (fun q => absurd q (by decide))
  refine zr_iload_n i_Mod_act_56 rfl ?_
  refine zr_iconst i_Mod_act_57 (v := 3) (by decide) ?_
  refine zr_icmp_ne 68 i_Mod_act_58 (by decide) (fun _ => ?_) (fun q => absurd q (by decide))
  refine zr_iload_n i_Mod_act_68 rfl ?_
  refine zr_iconst i_Mod_act_69 (v := 1) (by decide) ?_
  refine zr_icmp_eq 79 i_Mod_act_70 (by decide) (fun q => absurd q (by decide)) (fun _ => ?_)
  refine zr_iload_n i_Mod_act_73 rfl ?_
  refine zr_bipush i_Mod_act_74 (v := 8) (by decide) ?_
  refine zr_icmp_ne 93 i_Mod_act_76 (by decide) (fun q => absurd q (by decide)) (fun _ => ?_)
  refine zr_aload_n i_Mod_act_79 rfl ?_
  refine zr_iload_n i_Mod_act_80 rfl ?_
  refine zn_iconst 0 i_Mod_act_81 (by decide) ?_
  refine zr_iload_n i_Mod_act_82 rfl ?_
  refine zr_cv30 i_Mod_act_83 rfl (by decide) rfl (Nat.le_of_ble_eq_true rfl) (Nat.le_of_ble_eq_true rfl) (e_Mod_takeName X _ g ms cnt hT p 0 _ hp (by decide) (by omega)) ?_
  refine zr_aload_n i_Mod_act_86 rfl ?_
  refine zr_iload_n i_Mod_act_87 rfl ?_
  refine zn_iconst 1 i_Mod_act_88 (by decide) ?_
  refine zr_iload_n i_Mod_act_89 rfl ?_
  refine zr_cv30 i_Mod_act_90 rfl (by decide) rfl (Nat.le_of_ble_eq_true rfl) (Nat.le_of_ble_eq_true rfl) (e_Mod_takeName X _ g (mnam ms (takeQ (mnq ms) (mV ms (nI (mseg ms 80 73 68 1)) 2 1 (nI (0 + 1))) p 0)) cnt hT p 1 _ hp (by decide) (by omega)) ?_
  refine zr_iload_n i_Mod_act_93 rfl ?_
  refine zr_bipush i_Mod_act_94 (v := 9) (by decide) ?_
  refine zr_icmp_ne 106 i_Mod_act_96 (by decide) (fun _ => ?_) (fun q => absurd q (by decide))
  exact zR.retE i_Mod_act_106 rfl (by rw [e2, mnam_nam]; rfl)
theorem e9_Mod_act (X : zX) (d : Nat) (g : zH) (ms : zMS) (cnt : Nat) (hT : mTV ms 0 cnt) (sg : Nat) (hs : ms.2 2 0 = nI sg) (hsl : sg ≤ 200) (p : Nat) (hp : p ≤ 99) (e : patF (mV ms) (mseg ms 80 73 68 1) = nI p) : zR X (d + 4) 135 0 (zent 4 [.ref 129, .int 9]) [] (mset g ms) (none, mset g (actF ms 9)) := by
  have hb1 := mseg_b hs hsl 80 73 68 1 (by omega)
  have hb2 := mseg_b hs hsl 80 86 49 1 (by omega)
  have e2 : actF ms 9 = mres ms (copyQ (mq ms) 100 p) := by
    unfold actF
    dsimp only
    rw [e, nI_clamp (by omega)]
    rfl
  refine zr_aload_n i_Mod_act_0 rfl ?_
  refine zr_bipush i_Mod_act_1 (v := 80) (by decide) ?_
  refine zr_bipush i_Mod_act_3 (v := 73) (by decide) ?_
  refine zr_bipush i_Mod_act_5 (v := 68) (by decide) ?_
  refine zn_iconst 1 i_Mod_act_7 (by decide) ?_
  refine zr_cv4 i_Mod_act_8 rfl (by decide) rfl (Nat.le_of_ble_eq_true rfl) (Nat.le_of_ble_eq_true rfl) (e_Mod_segment X _ g ms sg _ _ _ _ hs hsl (by omega) (by omega)) ?_
  refine zr_istore_n i_Mod_act_11 rfl ?_
  refine zr_aload_n i_Mod_act_12 rfl ?_
  refine zr_iload_n i_Mod_act_13 rfl ?_
  refine zr_cv1 i_Mod_act_14 rfl (by decide) rfl (Nat.le_of_ble_eq_true rfl) (Nat.le_of_ble_eq_true rfl) (e_Mod_patientIn X _ g ms cnt hT _ (by omega)) ?_
  refine zr_top (y := nI p) e ?_
  refine zr_istore_n i_Mod_act_17 rfl ?_
  refine zr_iload_n i_Mod_act_18 rfl ?_
  refine zr_iconst i_Mod_act_19 (v := 1) (by decide) ?_
  refine zr_icmp_eq 28 i_Mod_act_20 (by decide) (fun q => absurd q (by decide)) (fun _ => ?_)
  refine zr_iload_n i_Mod_act_23 rfl ?_
  refine zr_iconst i_Mod_act_24 (v := 2) (by decide) ?_
  refine zr_icmp_ne 56 i_Mod_act_25 (by decide) (fun _ => ?_) (fun q => absurd q (by decide))
  refine zr_iload_n i_Mod_act_56 rfl ?_
  refine zr_iconst i_Mod_act_57 (v := 3) (by decide) ?_
  refine zr_icmp_ne 68 i_Mod_act_58 (by decide) (fun _ => ?_) (fun q => absurd q (by decide))
  refine zr_iload_n i_Mod_act_68 rfl ?_
  refine zr_iconst i_Mod_act_69 (v := 1) (by decide) ?_
  refine zr_icmp_eq 79 i_Mod_act_70 (by decide) (fun q => absurd q (by decide)) (fun _ => ?_)
  refine zr_iload_n i_Mod_act_73 rfl ?_
  refine zr_bipush i_Mod_act_74 (v := 8) (by decide) ?_
  refine zr_icmp_ne 93 i_Mod_act_76 (by decide) (fun _ => ?_) (fun q => absurd q (by decide))
  refine zr_iload_n i_Mod_act_93 rfl ?_
  refine zr_bipush i_Mod_act_94 (v := 9) (by decide) ?_
  refine zr_icmp_ne 106 i_Mod_act_96 (by decide) (fun q => absurd q (by decide)) (fun _ => ?_)
  refine zr_aload_n i_Mod_act_99 rfl ?_
  refine zr_bipush i_Mod_act_100 (v := 100) (by decide) ?_
  refine zr_iload_n i_Mod_act_102 rfl ?_
  refine zr_cv20 i_Mod_act_103 rfl (by decide) rfl (Nat.le_of_ble_eq_true rfl) (Nat.le_of_ble_eq_true rfl) (e_Mod_copyResults X _ g ms 100 p (by decide) (by omega) (by omega)) ?_
  exact zR.retE i_Mod_act_106 rfl (by rw [e2] <;> rfl)
