/-! THE REFERENCE: what a message says, over its texts -/
section KR
variable {X : zX} {d j pc : Nat} {L : zL} {r : List Value} {h : zH} {u : Option Value × zH}
theorem zB_if_eq {b : Bool} {off : Int} (t : Nat) (hi : zins j pc = some (.ifCond .eq off)) (ht : (pc : Int) + off = (t : Int)) (kt : b = false → zR X d j t L r h u) (kf : b = true → zR X d j (pc + 3) L r h u) : zR X d j pc L (.int (zb b) :: r) h u :=
  zr_if_eq t hi ht (fun q => kt (zb_eq0.mp q)) (fun q => kf (by cases b with
    | true => rfl
    | false => exact absurd rfl q))
theorem zB_if_ne {b : Bool} {off : Int} (t : Nat) (hi : zins j pc = some (.ifCond .ne off)) (ht : (pc : Int) + off = (t : Int)) (kt : b = true → zR X d j t L r h u) (kf : b = false → zR X d j (pc + 3) L r h u) : zR X d j pc L (.int (zb b) :: r) h u :=
  zr_if_ne t hi ht (fun q => kt (by cases b with
    | true => rfl
    | false => exact absurd rfl q)) (fun q => kf (zb_eq0.mp q))
theorem zN_if_eq {a : Nat} {off : Int} (t : Nat) (hi : zins j pc = some (.ifCond .eq off)) (ht : (pc : Int) + off = (t : Int)) (ha : a < 2 ^ 31) (kt : a = 0 → zR X d j t L r h u) (kf : a ≠ 0 → zR X d j (pc + 3) L r h u) : zR X d j pc L (.int (nI a) :: r) h u :=
  zr_if_eq t hi ht (fun q => kt ((nI_eq (b := 0) ha (by decide)).mp q)) (fun q => kf (fun e => q (by rw [e]; rfl)))
theorem zN_if_ne {a : Nat} {off : Int} (t : Nat) (hi : zins j pc = some (.ifCond .ne off)) (ht : (pc : Int) + off = (t : Int)) (ha : a < 2 ^ 31) (kt : a ≠ 0 → zR X d j t L r h u) (kf : a = 0 → zR X d j (pc + 3) L r h u) : zR X d j pc L (.int (nI a) :: r) h u :=
  zr_if_ne t hi ht (fun q => kt (fun e => q (by rw [e]; rfl))) (fun q => kf ((nI_eq (b := 0) ha (by decide)).mp q))
theorem zN_if_le {a : Nat} {off : Int} (t : Nat) (hi : zins j pc = some (.ifCond .le off)) (ht : (pc : Int) + off = (t : Int)) (ha : a < 2 ^ 31) (kt : a = 0 → zR X d j t L r h u) (kf : 0 < a → zR X d j (pc + 3) L r h u) : zR X d j pc L (.int (nI a) :: r) h u :=
  zr_if_le t hi ht (fun q => kt (Nat.le_zero.mp ((nI_leI (b := 0) ha (by decide)).mp q))) (fun q => kf (Nat.pos_of_ne_zero (fun e => q (by rw [e]; decide))))
theorem zN_if_gt {a : Nat} {off : Int} (t : Nat) (hi : zins j pc = some (.ifCond .gt off)) (ht : (pc : Int) + off = (t : Int)) (ha : a < 2 ^ 31) (kt : 0 < a → zR X d j t L r h u) (kf : a = 0 → zR X d j (pc + 3) L r h u) : zR X d j pc L (.int (nI a) :: r) h u :=
  zr_if_gt t hi ht (fun q => kt ((nI_ltI (a := 0) (by decide) ha).mp q)) (fun q => kf (Nat.eq_zero_of_not_pos (fun e => q ((nI_ltI (a := 0) (by decide) ha).mpr e))))
theorem zT_if_lt {o : Option Nat} {off : Int} (t : Nat) (hi : zins j pc = some (.ifCond .lt off)) (ht : (pc : Int) + off = (t : Int)) (ho : ∀ k, o = some k → k < 2 ^ 31) (kt : o = none → zR X d j t L r h u) (kf : o.isSome = true → zR X d j (pc + 3) L r h u) : zR X d j pc L (.int (tI o) :: r) h u := by
  refine zr_if_lt t hi ht (fun q => kt ?_) (fun q => kf ?_)
  · cases o with
    | none => rfl
    | some k => exact absurd q (nI_pos (ho k rfl))
  · cases o with
    | none => exact absurd tI_neg q
    | some k => rfl
theorem zT_if_ge {o : Option Nat} {off : Int} (t : Nat) (hi : zins j pc = some (.ifCond .ge off)) (ht : (pc : Int) + off = (t : Int)) (ho : ∀ k, o = some k → k < 2 ^ 31) (kt : o.isSome = true → zR X d j t L r h u) (kf : o = none → zR X d j (pc + 3) L r h u) : zR X d j pc L (.int (tI o) :: r) h u := by
  refine zr_if_ge t hi ht (fun q => kt ?_) (fun q => kf ?_)
  · cases o with
    | none => exact absurd q (by decide)
    | some k => rfl
  · cases o with
    | none => rfl
    | some k => exact absurd (nI_pos' (ho k rfl)) q
end KR
theorem zretB (b : Bool) : zret (some .boolean) .ireturn [.int (zb b)] = some (some (.int (zb b))) := by cases b <;> rfl
/-- a text that is there, or none -/
abbrev zT : Type := Option (List Int32)
def tl (o : zT) : Nat := (o.getD []).length
def tc (o : zT) (i : Nat) : Int32 := (o.getD []).getD i 0
def mtx (ms : zMS) (o : Option Nat) : zT := o.map fun k => (List.range (msz ms (some k))).map (mch ms (some k))
theorem tl_mtx (ms : zMS) (o : Option Nat) : tl (mtx ms o) = msz ms o := by
  cases o with
  | none => rfl
  | some k => simp [tl, mtx]
theorem tc_mtx (ms : zMS) (o : Option Nat) (i : Nat) : tc (mtx ms o) i = mch ms o i := by
  cases o with
  | none => rfl
  | some k =>
    simp only [tc, mtx, Option.map_some, Option.getD_some, List.getD_eq_getElem?_getD, List.getElem?_map]
    by_cases hi : i < msz ms (some k)
    · rw [List.getElem?_range hi]; rfl
    · rw [List.getElem?_eq_none (by simp; omega)]
      show (0 : Int32) = if i < (ms.2 11 k).toNatClampNeg then _ else 0
      exact (if_neg hi).symm
theorem mtx_none {ms : zMS} {o : Option Nat} : mtx ms o = none ↔ o = none := by cases o <;> simp [mtx]
def vis (t : zT) (a b c : Int32) : Bool := decide (tl t = 3) && (decide (tc t 0 = a) && (decide (tc t 1 = b) && decide (tc t 2 = c)))
def vnull (t : zT) : Bool := decide (tl t = 2) && (decide (tc t 0 = 34) && decide (tc t 1 = 34))
def vnumL (t : zT) (i k : Nat) (v : Int32) : Int32 := match k with
  | 0 => v
  | k + 1 => if zdig (tc t i) = true then vnumL t (i + 1) k (10 * v + tc t i - 48) else -1
def vnum (t : zT) (most : Nat) : Int32 := if 1 ≤ tl t ∧ tl t ≤ most then vnumL t 0 (tl t) 0 else -1
theorem mnumL_v (ms : zMS) (o : Option Nat) : ∀ (k i : Nat) (v : Int32), mnumL ms o i k v = vnumL (mtx ms o) i k v := by
  intro k
  induction k with
  | zero => intro i v; rfl
  | succ k ih => intro i v; rw [mnumL, vnumL, tc_mtx, ih]
/-- the texts that a message holds -/
def mV (ms : zMS) (s f r c : Int32) : zT := mtx ms (mfind ms 0 s f r c)
theorem v_sizeOf (X : zX) (d : Nat) (g : zH) (ms : zMS) (o : Option Nat) (ho : mto ms o) : zR X d 116 0 (zent 2 [.ref 129, .int (tI o)]) [] (mset g ms) (some (.int (nI (tl (mtx ms o)))), mset g ms) := by
  rw [tl_mtx]; exact e_Mod_sizeOf X d g ms o ho
theorem v_charOf (X : zX) (d : Nat) (g : zH) (ms : zMS) (o : Option Nat) (ho : mto ms o) (m : Nat) (hm : m < 2 ^ 30) : zR X (d + 1) 117 0 (zent 3 [.ref 129, .int (tI o), .int (nI m)]) [] (mset g ms) (some (.int (tc (mtx ms o) m)), mset g ms) := by
  rw [tc_mtx]; exact e_Mod_charOf X d g ms o ho m hm
theorem v_is (X : zX) (d : Nat) (g : zH) (ms : zMS) (o : Option Nat) (ho : mto ms o) (a b c : Int32) : zR X (d + 2) 120 0 (zent 5 [.ref 129, .int (tI o), .int a, .int b, .int c]) [] (mset g ms) (some (.int (zb (vis (mtx ms o) a b c))), mset g ms) := by
  rw [vis, tl_mtx, tc_mtx, tc_mtx, tc_mtx]; exact e_Mod_is X d g ms o ho a b c
theorem v_isNull (X : zX) (d : Nat) (g : zH) (ms : zMS) (o : Option Nat) (ho : mto ms o) : zR X (d + 2) 130 0 (zent 2 [.ref 129, .int (tI o)]) [] (mset g ms) (some (.int (zb (vnull (mtx ms o)))), mset g ms) := by
  rw [vnull, tl_mtx, tc_mtx, tc_mtx]; exact e_Mod_isNull X d g ms o ho
theorem v_number (X : zX) (d : Nat) (g : zH) (ms : zMS) (o : Option Nat) (ho : mto ms o) (most : Nat) (hm : most < 2 ^ 30) : zR X (d + 2) 124 0 (zent 6 [.ref 129, .int (tI o), .int (nI most)]) [] (mset g ms) (some (.int (vnum (mtx ms o) most)), mset g ms) := by
  rw [vnum, tl_mtx, ← mnumL_v]; exact e_Mod_number X d g ms o ho most hm
theorem v_tl (ms : zMS) (o : Option Nat) (ho : mto ms o) : tl (mtx ms o) ≤ 400 := by rw [tl_mtx]; exact msz_lt ho
def patF (V : Int32 → Int32 → Int32 → Int32 → zT) (pid : Nat) : Int32 := if pid = 0 then -1 else if tc (V (nI pid) 1 1 1) 0 = 48 then -1 else vnum (V (nI pid) 1 1 1) 2
def bedF (V : Int32 → Int32 → Int32 → Int32 → zT) (pv : Nat) : Int32 := if (0 < pv ∧ tl (V (nI pv) 1 1 1) = 1) ∧ tl (V (nI pv) 1 1 2) = 1 ∧ ¬ tc (V (nI pv) 1 1 1) 0 < 65 ∧ ¬ 68 < tc (V (nI pv) 1 1 1) 0 ∧ ¬ tc (V (nI pv) 1 1 2) 0 < 48 ∧ ¬ 55 < tc (V (nI pv) 1 1 2) 0 then 8 * (tc (V (nI pv) 1 1 1) 0 - 65) + tc (V (nI pv) 1 1 2) 0 - 48 else -1
def codeF (V : Int32 → Int32 → Int32 → Int32 → zT) (s : Nat) : Int32 := if tl (V (nI s) 1 1 1) = 2 ∧ zsml (tc (V (nI s) 1 1 1) 0) = true ∧ zsml (tc (V (nI s) 1 1 1) 1) = true then 26 * (tc (V (nI s) 1 1 1) 0 - 97) + tc (V (nI s) 1 1 1) 1 - 97 else -1
def kindF (V : Int32 → Int32 → Int32 → Int32 → zT) : Int32 := if vis (V 1 3 1 1) 79 82 85 = true then (if vis (V 1 3 1 2) 82 48 49 = true then 9 else 0) else if (vis (V 1 3 1 1) 65 68 84 = true ∧ tl (V 1 3 1 2) = 3 ∧ tc (V 1 3 1 2) 0 = 65 ∧ tc (V 1 3 1 2) 1 = 48) ∧ (tc (V 1 3 1 2) 2 = 49 ∨ tc (V 1 3 1 2) 2 = 50 ∨ tc (V 1 3 1 2) 2 = 51 ∨ tc (V 1 3 1 2) 2 = 56) then tc (V 1 3 1 2) 2 - 48 else 0
theorem i_Mod_patientIn_0 : zins 123 0 = some (.aload_n 0) := by decide +kernel
theorem i_Mod_patientIn_1 : zins 123 1 = some (.iconst 0) := by decide +kernel
theorem i_Mod_patientIn_2 : zins 123 2 = some (.iload_n 1) := by decide +kernel
theorem i_Mod_patientIn_3 : zins 123 3 = some (.iconst 1) := by decide +kernel
theorem i_Mod_patientIn_4 : zins 123 4 = some (.iconst 1) := by decide +kernel
theorem i_Mod_patientIn_5 : zins 123 5 = some (.iconst 1) := by decide +kernel
theorem i_Mod_patientIn_6 : zins 123 6 = some (.invokevirtual 153) := by decide +kernel
theorem i_Mod_patientIn_9 : zins 123 9 = some (.istore_n 2) := by decide +kernel
theorem i_Mod_patientIn_10 : zins 123 10 = some (.iload_n 1) := by decide +kernel
theorem i_Mod_patientIn_11 : zins 123 11 = some (.ifCond .eq 14) := by decide +kernel
theorem i_Mod_patientIn_14 : zins 123 14 = some (.aload_n 0) := by decide +kernel
theorem i_Mod_patientIn_15 : zins 123 15 = some (.iload_n 2) := by decide +kernel
theorem i_Mod_patientIn_16 : zins 123 16 = some (.iconst 0) := by decide +kernel
theorem i_Mod_patientIn_17 : zins 123 17 = some (.invokevirtual 149) := by decide +kernel
theorem i_Mod_patientIn_20 : zins 123 20 = some (.bipush 48) := by decide +kernel
theorem i_Mod_patientIn_22 : zins 123 22 = some (.if_icmp .ne 7) := by decide +kernel
theorem i_Mod_patientIn_25 : zins 123 25 = some (.iconst (-1)) := by decide +kernel
theorem i_Mod_patientIn_26 : zins 123 26 = some (.goto 9) := by decide +kernel
theorem i_Mod_patientIn_29 : zins 123 29 = some (.aload_n 0) := by decide +kernel
theorem i_Mod_patientIn_30 : zins 123 30 = some (.iload_n 2) := by decide +kernel
theorem i_Mod_patientIn_31 : zins 123 31 = some (.iconst 2) := by decide +kernel
theorem i_Mod_patientIn_32 : zins 123 32 = some (.invokevirtual 161) := by decide +kernel
theorem i_Mod_patientIn_35 : zins 123 35 = some (.ireturn) := by decide +kernel
theorem e_Mod_patientIn (X : zX) (d : Nat) (g : zH) (ms : zMS) (cnt : Nat) (hT : mTV ms 0 cnt) (pid : Nat) (hp : pid < 2 ^ 30) : zR X (d + 3) 123 0 (zent 3 [.ref 129, .int (nI pid)]) [] (mset g ms) (some (.int (patF (mV ms) pid)), mset g ms) := by
  refine zr_aload_n i_Mod_patientIn_0 rfl ?_
  refine zn_iconst 0 i_Mod_patientIn_1 (by decide) ?_
  refine zr_iload_n i_Mod_patientIn_2 rfl ?_
  refine zr_iconst i_Mod_patientIn_3 (v := 1) (by decide) ?_
  refine zr_iconst i_Mod_patientIn_4 (v := 1) (by decide) ?_
  refine zr_iconst i_Mod_patientIn_5 (v := 1) (by decide) ?_
  refine zr_cv5 i_Mod_patientIn_6 rfl (by decide) rfl (Nat.le_of_ble_eq_true rfl) (Nat.le_of_ble_eq_true rfl) (e_Mod_find X _ g ms 0 cnt _ _ _ _ (by decide) hT.1 hT.2.1) ?_
  refine zr_istore_n i_Mod_patientIn_9 rfl ?_
  refine zr_iload_n i_Mod_patientIn_10 rfl ?_
  refine zN_if_eq 25 i_Mod_patientIn_11 (by decide) (by omega) (fun c_11 => ?_) (fun c_11 => ?_)
  · skip
    refine zr_iconst i_Mod_patientIn_25 (v := (-1)) (by decide) ?_
    refine zr_goto 35 i_Mod_patientIn_26 (by decide) ?_
    exact zR.retE i_Mod_patientIn_35 rfl (by simp [patF, mV, *])
  · skip
    refine zr_aload_n i_Mod_patientIn_14 rfl ?_
    refine zr_iload_n i_Mod_patientIn_15 rfl ?_
    refine zn_iconst 0 i_Mod_patientIn_16 (by decide) ?_
    refine zr_cv2 i_Mod_patientIn_17 rfl (by decide) rfl (Nat.le_of_ble_eq_true rfl) (Nat.le_of_ble_eq_true rfl) (v_charOf X _ g ms _ (mto_find hT _ _ _ _) _ (by first | decide | omega)) ?_
    refine zr_bipush i_Mod_patientIn_20 (v := 48) (by decide) ?_
    refine zr_icmp_ne 29 i_Mod_patientIn_22 (by decide) (fun c_22 => ?_) (fun c_22 => ?_)
    · skip
      refine zr_aload_n i_Mod_patientIn_29 rfl ?_
      refine zr_iload_n i_Mod_patientIn_30 rfl ?_
      refine zn_iconst 2 i_Mod_patientIn_31 (by decide) ?_
      refine zr_cv2 i_Mod_patientIn_32 rfl (by decide) rfl (Nat.le_of_ble_eq_true rfl) (Nat.le_of_ble_eq_true rfl) (v_number X _ g ms _ (mto_find hT _ _ _ _) _ (by decide)) ?_
      exact zR.retE i_Mod_patientIn_35 rfl (by simp [patF, mV, *])
    · skip
      refine zr_iconst i_Mod_patientIn_25 (v := (-1)) (by decide) ?_
      refine zr_goto 35 i_Mod_patientIn_26 (by decide) ?_
      exact zR.retE i_Mod_patientIn_35 rfl (by simp [patF, mV, *])
theorem i_Mod_bedIn_0 : zins 125 0 = some (.aload_n 0) := by decide +kernel
theorem i_Mod_bedIn_1 : zins 125 1 = some (.iconst 0) := by decide +kernel
theorem i_Mod_bedIn_2 : zins 125 2 = some (.iload_n 1) := by decide +kernel
theorem i_Mod_bedIn_3 : zins 125 3 = some (.iconst 1) := by decide +kernel
theorem i_Mod_bedIn_4 : zins 125 4 = some (.iconst 1) := by decide +kernel
theorem i_Mod_bedIn_5 : zins 125 5 = some (.iconst 1) := by decide +kernel
theorem i_Mod_bedIn_6 : zins 125 6 = some (.invokevirtual 153) := by decide +kernel
theorem i_Mod_bedIn_9 : zins 125 9 = some (.istore_n 2) := by decide +kernel
theorem i_Mod_bedIn_10 : zins 125 10 = some (.aload_n 0) := by decide +kernel
theorem i_Mod_bedIn_11 : zins 125 11 = some (.iconst 0) := by decide +kernel
theorem i_Mod_bedIn_12 : zins 125 12 = some (.iload_n 1) := by decide +kernel
theorem i_Mod_bedIn_13 : zins 125 13 = some (.iconst 1) := by decide +kernel
theorem i_Mod_bedIn_14 : zins 125 14 = some (.iconst 1) := by decide +kernel
theorem i_Mod_bedIn_15 : zins 125 15 = some (.iconst 2) := by decide +kernel
theorem i_Mod_bedIn_16 : zins 125 16 = some (.invokevirtual 153) := by decide +kernel
theorem i_Mod_bedIn_19 : zins 125 19 = some (.istore_n 3) := by decide +kernel
theorem i_Mod_bedIn_20 : zins 125 20 = some (.aload_n 0) := by decide +kernel
theorem i_Mod_bedIn_21 : zins 125 21 = some (.iload_n 2) := by decide +kernel
theorem i_Mod_bedIn_22 : zins 125 22 = some (.iconst 0) := by decide +kernel
theorem i_Mod_bedIn_23 : zins 125 23 = some (.invokevirtual 149) := by decide +kernel
theorem i_Mod_bedIn_26 : zins 125 26 = some (.istore 4) := by decide +kernel
theorem i_Mod_bedIn_28 : zins 125 28 = some (.aload_n 0) := by decide +kernel
theorem i_Mod_bedIn_29 : zins 125 29 = some (.iload_n 3) := by decide +kernel
theorem i_Mod_bedIn_30 : zins 125 30 = some (.iconst 0) := by decide +kernel
theorem i_Mod_bedIn_31 : zins 125 31 = some (.invokevirtual 149) := by decide +kernel
theorem i_Mod_bedIn_34 : zins 125 34 = some (.istore 5) := by decide +kernel
theorem i_Mod_bedIn_36 : zins 125 36 = some (.iload_n 1) := by decide +kernel
theorem i_Mod_bedIn_37 : zins 125 37 = some (.ifCond .le 53) := by decide +kernel
theorem i_Mod_bedIn_40 : zins 125 40 = some (.aload_n 0) := by decide +kernel
theorem i_Mod_bedIn_41 : zins 125 41 = some (.iload_n 2) := by decide +kernel
theorem i_Mod_bedIn_42 : zins 125 42 = some (.invokevirtual 145) := by decide +kernel
theorem i_Mod_bedIn_45 : zins 125 45 = some (.iconst 1) := by decide +kernel
theorem i_Mod_bedIn_46 : zins 125 46 = some (.if_icmp .ne 44) := by decide +kernel
theorem i_Mod_bedIn_49 : zins 125 49 = some (.aload_n 0) := by decide +kernel
theorem i_Mod_bedIn_50 : zins 125 50 = some (.iload_n 3) := by decide +kernel
theorem i_Mod_bedIn_51 : zins 125 51 = some (.invokevirtual 145) := by decide +kernel
theorem i_Mod_bedIn_54 : zins 125 54 = some (.iconst 1) := by decide +kernel
theorem i_Mod_bedIn_55 : zins 125 55 = some (.if_icmp .ne 35) := by decide +kernel
theorem i_Mod_bedIn_58 : zins 125 58 = some (.iload 4) := by decide +kernel
theorem i_Mod_bedIn_60 : zins 125 60 = some (.bipush 65) := by decide +kernel
theorem i_Mod_bedIn_62 : zins 125 62 = some (.if_icmp .lt 28) := by decide +kernel
theorem i_Mod_bedIn_65 : zins 125 65 = some (.iload 4) := by decide +kernel
theorem i_Mod_bedIn_67 : zins 125 67 = some (.bipush 68) := by decide +kernel
theorem i_Mod_bedIn_69 : zins 125 69 = some (.if_icmp .gt 21) := by decide +kernel
theorem i_Mod_bedIn_72 : zins 125 72 = some (.iload 5) := by decide +kernel
theorem i_Mod_bedIn_74 : zins 125 74 = some (.bipush 48) := by decide +kernel
theorem i_Mod_bedIn_76 : zins 125 76 = some (.if_icmp .lt 14) := by decide +kernel
theorem i_Mod_bedIn_79 : zins 125 79 = some (.iload 5) := by decide +kernel
theorem i_Mod_bedIn_81 : zins 125 81 = some (.bipush 55) := by decide +kernel
theorem i_Mod_bedIn_83 : zins 125 83 = some (.if_icmp .gt 7) := by decide +kernel
theorem i_Mod_bedIn_86 : zins 125 86 = some (.iconst 1) := by decide +kernel
theorem i_Mod_bedIn_87 : zins 125 87 = some (.goto 4) := by decide +kernel
theorem i_Mod_bedIn_90 : zins 125 90 = some (.iconst 0) := by decide +kernel
theorem i_Mod_bedIn_91 : zins 125 91 = some (.istore 6) := by decide +kernel
theorem i_Mod_bedIn_93 : zins 125 93 = some (.iload 6) := by decide +kernel
theorem i_Mod_bedIn_95 : zins 125 95 = some (.ifCond .eq 20) := by decide +kernel
theorem i_Mod_bedIn_98 : zins 125 98 = some (.bipush 8) := by decide +kernel
theorem i_Mod_bedIn_100 : zins 125 100 = some (.iload 4) := by decide +kernel
theorem i_Mod_bedIn_102 : zins 125 102 = some (.bipush 65) := by decide +kernel
theorem i_Mod_bedIn_104 : zins 125 104 = some (.isub) := by decide +kernel
theorem i_Mod_bedIn_105 : zins 125 105 = some (.imul) := by decide +kernel
theorem i_Mod_bedIn_106 : zins 125 106 = some (.iload 5) := by decide +kernel
theorem i_Mod_bedIn_108 : zins 125 108 = some (.iadd) := by decide +kernel
theorem i_Mod_bedIn_109 : zins 125 109 = some (.bipush 48) := by decide +kernel
theorem i_Mod_bedIn_111 : zins 125 111 = some (.isub) := by decide +kernel
theorem i_Mod_bedIn_112 : zins 125 112 = some (.goto 4) := by decide +kernel
theorem i_Mod_bedIn_115 : zins 125 115 = some (.iconst (-1)) := by decide +kernel
theorem i_Mod_bedIn_116 : zins 125 116 = some (.ireturn) := by decide +kernel
theorem e_Mod_bedIn (X : zX) (d : Nat) (g : zH) (ms : zMS) (cnt : Nat) (hT : mTV ms 0 cnt) (pv : Nat) (hp : pv < 2 ^ 30) : zR X (d + 2) 125 0 (zent 7 [.ref 129, .int (nI pv)]) [] (mset g ms) (some (.int (bedF (mV ms) pv)), mset g ms) := by
  have hz := fun s f r c => v_tl ms _ (mto_find hT s f r c)
  refine zr_aload_n i_Mod_bedIn_0 rfl ?_
  refine zn_iconst 0 i_Mod_bedIn_1 (by decide) ?_
  refine zr_iload_n i_Mod_bedIn_2 rfl ?_
  refine zr_iconst i_Mod_bedIn_3 (v := 1) (by decide) ?_
  refine zr_iconst i_Mod_bedIn_4 (v := 1) (by decide) ?_
  refine zr_iconst i_Mod_bedIn_5 (v := 1) (by decide) ?_
  refine zr_cv5 i_Mod_bedIn_6 rfl (by decide) rfl (Nat.le_of_ble_eq_true rfl) (Nat.le_of_ble_eq_true rfl) (e_Mod_find X _ g ms 0 cnt _ _ _ _ (by decide) hT.1 hT.2.1) ?_
  refine zr_istore_n i_Mod_bedIn_9 rfl ?_
  refine zr_aload_n i_Mod_bedIn_10 rfl ?_
  refine zn_iconst 0 i_Mod_bedIn_11 (by decide) ?_
  refine zr_iload_n i_Mod_bedIn_12 rfl ?_
  refine zr_iconst i_Mod_bedIn_13 (v := 1) (by decide) ?_
  refine zr_iconst i_Mod_bedIn_14 (v := 1) (by decide) ?_
  refine zr_iconst i_Mod_bedIn_15 (v := 2) (by decide) ?_
  refine zr_cv5 i_Mod_bedIn_16 rfl (by decide) rfl (Nat.le_of_ble_eq_true rfl) (Nat.le_of_ble_eq_true rfl) (e_Mod_find X _ g ms 0 cnt _ _ _ _ (by decide) hT.1 hT.2.1) ?_
  refine zr_istore_n i_Mod_bedIn_19 rfl ?_
  refine zr_aload_n i_Mod_bedIn_20 rfl ?_
  refine zr_iload_n i_Mod_bedIn_21 rfl ?_
  refine zn_iconst 0 i_Mod_bedIn_22 (by decide) ?_
  refine zr_cv2 i_Mod_bedIn_23 rfl (by decide) rfl (Nat.le_of_ble_eq_true rfl) (Nat.le_of_ble_eq_true rfl) (v_charOf X _ g ms _ (mto_find hT _ _ _ _) _ (by first | decide | omega)) ?_
  refine zr_istore i_Mod_bedIn_26 rfl ?_
  refine zr_aload_n i_Mod_bedIn_28 rfl ?_
  refine zr_iload_n i_Mod_bedIn_29 rfl ?_
  refine zn_iconst 0 i_Mod_bedIn_30 (by decide) ?_
  refine zr_cv2 i_Mod_bedIn_31 rfl (by decide) rfl (Nat.le_of_ble_eq_true rfl) (Nat.le_of_ble_eq_true rfl) (v_charOf X _ g ms _ (mto_find hT _ _ _ _) _ (by first | decide | omega)) ?_
  refine zr_istore i_Mod_bedIn_34 rfl ?_
  refine zr_iload_n i_Mod_bedIn_36 rfl ?_
  refine zN_if_le 90 i_Mod_bedIn_37 (by decide) (by omega) (fun c_37 => ?_) (fun c_37 => ?_)
  · skip
    refine zr_iconst i_Mod_bedIn_90 (v := 0) (by decide) ?_
    refine zr_istore i_Mod_bedIn_91 rfl ?_
    refine zr_iload i_Mod_bedIn_93 rfl ?_
    refine zr_if_eq 115 i_Mod_bedIn_95 (by decide) (fun _ => ?_) (fun q => absurd (by decide) q)
    refine zr_iconst i_Mod_bedIn_115 (v := (-1)) (by decide) ?_
    exact zR.retE i_Mod_bedIn_116 rfl (by simp [bedF, mV, *])
  · skip
    refine zr_aload_n i_Mod_bedIn_40 rfl ?_
    refine zr_iload_n i_Mod_bedIn_41 rfl ?_
    refine zr_cv1 i_Mod_bedIn_42 rfl (by decide) rfl (Nat.le_of_ble_eq_true rfl) (Nat.le_of_ble_eq_true rfl) (v_sizeOf X _ g ms _ (mto_find hT _ _ _ _)) ?_
    refine zn_iconst 1 i_Mod_bedIn_45 (by decide) ?_
    refine zn_icmp_ne 90 i_Mod_bedIn_46 (by decide) (by have := hz (nI pv) 1 1 1; have := hz (nI pv) 1 1 2; omega) (by omega) (fun c_46 => ?_) (fun c_46 => ?_)
    · skip
      refine zr_iconst i_Mod_bedIn_90 (v := 0) (by decide) ?_
      refine zr_istore i_Mod_bedIn_91 rfl ?_
      refine zr_iload i_Mod_bedIn_93 rfl ?_
      refine zr_if_eq 115 i_Mod_bedIn_95 (by decide) (fun _ => ?_) (fun q => absurd (by decide) q)
      refine zr_iconst i_Mod_bedIn_115 (v := (-1)) (by decide) ?_
      exact zR.retE i_Mod_bedIn_116 rfl (by simp [bedF, mV, *])
    · skip
      refine zr_aload_n i_Mod_bedIn_49 rfl ?_
      refine zr_iload_n i_Mod_bedIn_50 rfl ?_
      refine zr_cv1 i_Mod_bedIn_51 rfl (by decide) rfl (Nat.le_of_ble_eq_true rfl) (Nat.le_of_ble_eq_true rfl) (v_sizeOf X _ g ms _ (mto_find hT _ _ _ _)) ?_
      refine zn_iconst 1 i_Mod_bedIn_54 (by decide) ?_
      refine zn_icmp_ne 90 i_Mod_bedIn_55 (by decide) (by have := hz (nI pv) 1 1 1; have := hz (nI pv) 1 1 2; omega) (by omega) (fun c_55 => ?_) (fun c_55 => ?_)
      · skip
        refine zr_iconst i_Mod_bedIn_90 (v := 0) (by decide) ?_
        refine zr_istore i_Mod_bedIn_91 rfl ?_
        refine zr_iload i_Mod_bedIn_93 rfl ?_
        refine zr_if_eq 115 i_Mod_bedIn_95 (by decide) (fun _ => ?_) (fun q => absurd (by decide) q)
        refine zr_iconst i_Mod_bedIn_115 (v := (-1)) (by decide) ?_
        exact zR.retE i_Mod_bedIn_116 rfl (by simp [bedF, mV, *])
      · skip
        refine zr_iload i_Mod_bedIn_58 rfl ?_
        refine zr_bipush i_Mod_bedIn_60 (v := 65) (by decide) ?_
        refine zr_icmp_lt 90 i_Mod_bedIn_62 (by decide) (fun c_62 => ?_) (fun c_62 => ?_)
        · skip
          refine zr_iconst i_Mod_bedIn_90 (v := 0) (by decide) ?_
          refine zr_istore i_Mod_bedIn_91 rfl ?_
          refine zr_iload i_Mod_bedIn_93 rfl ?_
          refine zr_if_eq 115 i_Mod_bedIn_95 (by decide) (fun _ => ?_) (fun q => absurd (by decide) q)
          refine zr_iconst i_Mod_bedIn_115 (v := (-1)) (by decide) ?_
          exact zR.retE i_Mod_bedIn_116 rfl (by simp [bedF, mV, *])
        · skip
          refine zr_iload i_Mod_bedIn_65 rfl ?_
          refine zr_bipush i_Mod_bedIn_67 (v := 68) (by decide) ?_
          refine zr_icmp_gt 90 i_Mod_bedIn_69 (by decide) (fun c_69 => ?_) (fun c_69 => ?_)
          · skip
            refine zr_iconst i_Mod_bedIn_90 (v := 0) (by decide) ?_
            refine zr_istore i_Mod_bedIn_91 rfl ?_
            refine zr_iload i_Mod_bedIn_93 rfl ?_
            refine zr_if_eq 115 i_Mod_bedIn_95 (by decide) (fun _ => ?_) (fun q => absurd (by decide) q)
            refine zr_iconst i_Mod_bedIn_115 (v := (-1)) (by decide) ?_
            exact zR.retE i_Mod_bedIn_116 rfl (by simp [bedF, mV, *])
          · skip
            refine zr_iload i_Mod_bedIn_72 rfl ?_
            refine zr_bipush i_Mod_bedIn_74 (v := 48) (by decide) ?_
            refine zr_icmp_lt 90 i_Mod_bedIn_76 (by decide) (fun c_76 => ?_) (fun c_76 => ?_)
            · skip
              refine zr_iconst i_Mod_bedIn_90 (v := 0) (by decide) ?_
              refine zr_istore i_Mod_bedIn_91 rfl ?_
              refine zr_iload i_Mod_bedIn_93 rfl ?_
              refine zr_if_eq 115 i_Mod_bedIn_95 (by decide) (fun _ => ?_) (fun q => absurd (by decide) q)
              refine zr_iconst i_Mod_bedIn_115 (v := (-1)) (by decide) ?_
              exact zR.retE i_Mod_bedIn_116 rfl (by simp [bedF, mV, *])
            · skip
              refine zr_iload i_Mod_bedIn_79 rfl ?_
              refine zr_bipush i_Mod_bedIn_81 (v := 55) (by decide) ?_
              refine zr_icmp_gt 90 i_Mod_bedIn_83 (by decide) (fun c_83 => ?_) (fun c_83 => ?_)
              · skip
                refine zr_iconst i_Mod_bedIn_90 (v := 0) (by decide) ?_
                refine zr_istore i_Mod_bedIn_91 rfl ?_
                refine zr_iload i_Mod_bedIn_93 rfl ?_
                refine zr_if_eq 115 i_Mod_bedIn_95 (by decide) (fun _ => ?_) (fun q => absurd (by decide) q)
                refine zr_iconst i_Mod_bedIn_115 (v := (-1)) (by decide) ?_
                exact zR.retE i_Mod_bedIn_116 rfl (by simp [bedF, mV, *])
              · skip
                refine zr_iconst i_Mod_bedIn_86 (v := 1) (by decide) ?_
                refine zr_goto 91 i_Mod_bedIn_87 (by decide) ?_
                refine zr_istore i_Mod_bedIn_91 rfl ?_
                refine zr_iload i_Mod_bedIn_93 rfl ?_
                refine zr_if_eq 115 i_Mod_bedIn_95 (by decide) (fun q => absurd q (by decide)) (fun _ => ?_)
                refine zr_bipush i_Mod_bedIn_98 (v := 8) (by decide) ?_
                refine zr_iload i_Mod_bedIn_100 rfl ?_
                refine zr_bipush i_Mod_bedIn_102 (v := 65) (by decide) ?_
                refine zr_isub i_Mod_bedIn_104 ?_
                refine zr_imul i_Mod_bedIn_105 ?_
                refine zr_iload i_Mod_bedIn_106 rfl ?_
                refine zr_iadd i_Mod_bedIn_108 ?_
                refine zr_bipush i_Mod_bedIn_109 (v := 48) (by decide) ?_
                refine zr_isub i_Mod_bedIn_111 ?_
                refine zr_goto 116 i_Mod_bedIn_112 (by decide) ?_
                exact zR.retE i_Mod_bedIn_116 rfl (by simp [bedF, mV, *])
theorem i_Mod_codeIn_0 : zins 128 0 = some (.aload_n 0) := by decide +kernel
theorem i_Mod_codeIn_1 : zins 128 1 = some (.iconst 0) := by decide +kernel
theorem i_Mod_codeIn_2 : zins 128 2 = some (.iload_n 1) := by decide +kernel
theorem i_Mod_codeIn_3 : zins 128 3 = some (.iconst 1) := by decide +kernel
theorem i_Mod_codeIn_4 : zins 128 4 = some (.iconst 1) := by decide +kernel
theorem i_Mod_codeIn_5 : zins 128 5 = some (.iconst 1) := by decide +kernel
theorem i_Mod_codeIn_6 : zins 128 6 = some (.invokevirtual 153) := by decide +kernel
theorem i_Mod_codeIn_9 : zins 128 9 = some (.istore_n 2) := by decide +kernel
theorem i_Mod_codeIn_10 : zins 128 10 = some (.aload_n 0) := by decide +kernel
theorem i_Mod_codeIn_11 : zins 128 11 = some (.iload_n 2) := by decide +kernel
theorem i_Mod_codeIn_12 : zins 128 12 = some (.invokevirtual 145) := by decide +kernel
theorem i_Mod_codeIn_15 : zins 128 15 = some (.iconst 2) := by decide +kernel
theorem i_Mod_codeIn_16 : zins 128 16 = some (.if_icmp .ne 31) := by decide +kernel
theorem i_Mod_codeIn_19 : zins 128 19 = some (.aload_n 0) := by decide +kernel
theorem i_Mod_codeIn_20 : zins 128 20 = some (.iload_n 2) := by decide +kernel
theorem i_Mod_codeIn_21 : zins 128 21 = some (.iconst 0) := by decide +kernel
theorem i_Mod_codeIn_22 : zins 128 22 = some (.invokevirtual 149) := by decide +kernel
theorem i_Mod_codeIn_25 : zins 128 25 = some (.invokestatic 106) := by decide +kernel
theorem i_Mod_codeIn_28 : zins 128 28 = some (.ifCond .eq 19) := by decide +kernel
theorem i_Mod_codeIn_31 : zins 128 31 = some (.aload_n 0) := by decide +kernel
theorem i_Mod_codeIn_32 : zins 128 32 = some (.iload_n 2) := by decide +kernel
theorem i_Mod_codeIn_33 : zins 128 33 = some (.iconst 1) := by decide +kernel
theorem i_Mod_codeIn_34 : zins 128 34 = some (.invokevirtual 149) := by decide +kernel
theorem i_Mod_codeIn_37 : zins 128 37 = some (.invokestatic 106) := by decide +kernel
theorem i_Mod_codeIn_40 : zins 128 40 = some (.ifCond .eq 7) := by decide +kernel
theorem i_Mod_codeIn_43 : zins 128 43 = some (.iconst 1) := by decide +kernel
theorem i_Mod_codeIn_44 : zins 128 44 = some (.goto 4) := by decide +kernel
theorem i_Mod_codeIn_47 : zins 128 47 = some (.iconst 0) := by decide +kernel
theorem i_Mod_codeIn_48 : zins 128 48 = some (.istore_n 3) := by decide +kernel
theorem i_Mod_codeIn_49 : zins 128 49 = some (.iload_n 3) := by decide +kernel
theorem i_Mod_codeIn_50 : zins 128 50 = some (.ifCond .eq 28) := by decide +kernel
theorem i_Mod_codeIn_53 : zins 128 53 = some (.bipush 26) := by decide +kernel
theorem i_Mod_codeIn_55 : zins 128 55 = some (.aload_n 0) := by decide +kernel
theorem i_Mod_codeIn_56 : zins 128 56 = some (.iload_n 2) := by decide +kernel
theorem i_Mod_codeIn_57 : zins 128 57 = some (.iconst 0) := by decide +kernel
theorem i_Mod_codeIn_58 : zins 128 58 = some (.invokevirtual 149) := by decide +kernel
theorem i_Mod_codeIn_61 : zins 128 61 = some (.bipush 97) := by decide +kernel
theorem i_Mod_codeIn_63 : zins 128 63 = some (.isub) := by decide +kernel
theorem i_Mod_codeIn_64 : zins 128 64 = some (.imul) := by decide +kernel
theorem i_Mod_codeIn_65 : zins 128 65 = some (.aload_n 0) := by decide +kernel
theorem i_Mod_codeIn_66 : zins 128 66 = some (.iload_n 2) := by decide +kernel
theorem i_Mod_codeIn_67 : zins 128 67 = some (.iconst 1) := by decide +kernel
theorem i_Mod_codeIn_68 : zins 128 68 = some (.invokevirtual 149) := by decide +kernel
theorem i_Mod_codeIn_71 : zins 128 71 = some (.iadd) := by decide +kernel
theorem i_Mod_codeIn_72 : zins 128 72 = some (.bipush 97) := by decide +kernel
theorem i_Mod_codeIn_74 : zins 128 74 = some (.isub) := by decide +kernel
theorem i_Mod_codeIn_75 : zins 128 75 = some (.goto 4) := by decide +kernel
theorem i_Mod_codeIn_78 : zins 128 78 = some (.iconst (-1)) := by decide +kernel
theorem i_Mod_codeIn_79 : zins 128 79 = some (.ireturn) := by decide +kernel
theorem e_Mod_codeIn (X : zX) (d : Nat) (g : zH) (ms : zMS) (cnt : Nat) (hT : mTV ms 0 cnt) (s : Nat) (hp : s < 2 ^ 30) : zR X (d + 2) 128 0 (zent 4 [.ref 129, .int (nI s)]) [] (mset g ms) (some (.int (codeF (mV ms) s)), mset g ms) := by
  have hz := fun s f r c => v_tl ms _ (mto_find hT s f r c)
  refine zr_aload_n i_Mod_codeIn_0 rfl ?_
  refine zn_iconst 0 i_Mod_codeIn_1 (by decide) ?_
  refine zr_iload_n i_Mod_codeIn_2 rfl ?_
  refine zr_iconst i_Mod_codeIn_3 (v := 1) (by decide) ?_
  refine zr_iconst i_Mod_codeIn_4 (v := 1) (by decide) ?_
  refine zr_iconst i_Mod_codeIn_5 (v := 1) (by decide) ?_
  refine zr_cv5 i_Mod_codeIn_6 rfl (by decide) rfl (Nat.le_of_ble_eq_true rfl) (Nat.le_of_ble_eq_true rfl) (e_Mod_find X _ g ms 0 cnt _ _ _ _ (by decide) hT.1 hT.2.1) ?_
  refine zr_istore_n i_Mod_codeIn_9 rfl ?_
  refine zr_aload_n i_Mod_codeIn_10 rfl ?_
  refine zr_iload_n i_Mod_codeIn_11 rfl ?_
  refine zr_cv1 i_Mod_codeIn_12 rfl (by decide) rfl (Nat.le_of_ble_eq_true rfl) (Nat.le_of_ble_eq_true rfl) (v_sizeOf X _ g ms _ (mto_find hT _ _ _ _)) ?_
  refine zn_iconst 2 i_Mod_codeIn_15 (by decide) ?_
  refine zn_icmp_ne 47 i_Mod_codeIn_16 (by decide) (by have := hz (nI s) 1 1 1; omega) (by omega) (fun c_16 => ?_) (fun c_16 => ?_)
  · skip
    refine zr_iconst i_Mod_codeIn_47 (v := 0) (by decide) ?_
    refine zr_istore_n i_Mod_codeIn_48 rfl ?_
    refine zr_iload_n i_Mod_codeIn_49 rfl ?_
    refine zr_if_eq 78 i_Mod_codeIn_50 (by decide) (fun _ => ?_) (fun q => absurd (by decide) q)
    refine zr_iconst i_Mod_codeIn_78 (v := (-1)) (by decide) ?_
    exact zR.retE i_Mod_codeIn_79 rfl (by simp [codeF, mV, *])
  · skip
    refine zr_aload_n i_Mod_codeIn_19 rfl ?_
    refine zr_iload_n i_Mod_codeIn_20 rfl ?_
    refine zn_iconst 0 i_Mod_codeIn_21 (by decide) ?_
    refine zr_cv2 i_Mod_codeIn_22 rfl (by decide) rfl (Nat.le_of_ble_eq_true rfl) (Nat.le_of_ble_eq_true rfl) (v_charOf X _ g ms _ (mto_find hT _ _ _ _) _ (by first | decide | omega)) ?_
    refine zr_cs1 i_Mod_codeIn_25 rfl (by decide) (Nat.le_of_ble_eq_true rfl) (Nat.le_of_ble_eq_true rfl) (e_Mod_small X _ _ _) ?_
    refine zB_if_eq 47 i_Mod_codeIn_28 (by decide) (fun c_28 => ?_) (fun c_28 => ?_)
    · skip
      refine zr_iconst i_Mod_codeIn_47 (v := 0) (by decide) ?_
      refine zr_istore_n i_Mod_codeIn_48 rfl ?_
      refine zr_iload_n i_Mod_codeIn_49 rfl ?_
      refine zr_if_eq 78 i_Mod_codeIn_50 (by decide) (fun _ => ?_) (fun q => absurd (by decide) q)
      refine zr_iconst i_Mod_codeIn_78 (v := (-1)) (by decide) ?_
      exact zR.retE i_Mod_codeIn_79 rfl (by simp [codeF, mV, *])
    · skip
      refine zr_aload_n i_Mod_codeIn_31 rfl ?_
      refine zr_iload_n i_Mod_codeIn_32 rfl ?_
      refine zn_iconst 1 i_Mod_codeIn_33 (by decide) ?_
      refine zr_cv2 i_Mod_codeIn_34 rfl (by decide) rfl (Nat.le_of_ble_eq_true rfl) (Nat.le_of_ble_eq_true rfl) (v_charOf X _ g ms _ (mto_find hT _ _ _ _) _ (by first | decide | omega)) ?_
      refine zr_cs1 i_Mod_codeIn_37 rfl (by decide) (Nat.le_of_ble_eq_true rfl) (Nat.le_of_ble_eq_true rfl) (e_Mod_small X _ _ _) ?_
      refine zB_if_eq 47 i_Mod_codeIn_40 (by decide) (fun c_40 => ?_) (fun c_40 => ?_)
      · skip
        refine zr_iconst i_Mod_codeIn_47 (v := 0) (by decide) ?_
        refine zr_istore_n i_Mod_codeIn_48 rfl ?_
        refine zr_iload_n i_Mod_codeIn_49 rfl ?_
        refine zr_if_eq 78 i_Mod_codeIn_50 (by decide) (fun _ => ?_) (fun q => absurd (by decide) q)
        refine zr_iconst i_Mod_codeIn_78 (v := (-1)) (by decide) ?_
        exact zR.retE i_Mod_codeIn_79 rfl (by simp [codeF, mV, *])
      · skip
        refine zr_iconst i_Mod_codeIn_43 (v := 1) (by decide) ?_
        refine zr_goto 48 i_Mod_codeIn_44 (by decide) ?_
        refine zr_istore_n i_Mod_codeIn_48 rfl ?_
        refine zr_iload_n i_Mod_codeIn_49 rfl ?_
        refine zr_if_eq 78 i_Mod_codeIn_50 (by decide) (fun q => absurd q (by decide)) (fun _ => ?_)
        refine zr_bipush i_Mod_codeIn_53 (v := 26) (by decide) ?_
        refine zr_aload_n i_Mod_codeIn_55 rfl ?_
        refine zr_iload_n i_Mod_codeIn_56 rfl ?_
        refine zn_iconst 0 i_Mod_codeIn_57 (by decide) ?_
        refine zr_cv2 i_Mod_codeIn_58 rfl (by decide) rfl (Nat.le_of_ble_eq_true rfl) (Nat.le_of_ble_eq_true rfl) (v_charOf X _ g ms _ (mto_find hT _ _ _ _) _ (by first | decide | omega)) ?_
        refine zr_bipush i_Mod_codeIn_61 (v := 97) (by decide) ?_
        refine zr_isub i_Mod_codeIn_63 ?_
        refine zr_imul i_Mod_codeIn_64 ?_
        refine zr_aload_n i_Mod_codeIn_65 rfl ?_
        refine zr_iload_n i_Mod_codeIn_66 rfl ?_
        refine zn_iconst 1 i_Mod_codeIn_67 (by decide) ?_
        refine zr_cv2 i_Mod_codeIn_68 rfl (by decide) rfl (Nat.le_of_ble_eq_true rfl) (Nat.le_of_ble_eq_true rfl) (v_charOf X _ g ms _ (mto_find hT _ _ _ _) _ (by first | decide | omega)) ?_
        refine zr_iadd i_Mod_codeIn_71 ?_
        refine zr_bipush i_Mod_codeIn_72 (v := 97) (by decide) ?_
        refine zr_isub i_Mod_codeIn_74 ?_
        refine zr_goto 79 i_Mod_codeIn_75 (by decide) ?_
        exact zR.retE i_Mod_codeIn_79 rfl (by simp [codeF, mV, *])
theorem i_Mod_kind_0 : zins 119 0 = some (.aload_n 0) := by decide +kernel
theorem i_Mod_kind_1 : zins 119 1 = some (.iconst 0) := by decide +kernel
theorem i_Mod_kind_2 : zins 119 2 = some (.iconst 1) := by decide +kernel
theorem i_Mod_kind_3 : zins 119 3 = some (.iconst 3) := by decide +kernel
theorem i_Mod_kind_4 : zins 119 4 = some (.iconst 1) := by decide +kernel
theorem i_Mod_kind_5 : zins 119 5 = some (.iconst 1) := by decide +kernel
theorem i_Mod_kind_6 : zins 119 6 = some (.invokevirtual 153) := by decide +kernel
theorem i_Mod_kind_9 : zins 119 9 = some (.istore_n 1) := by decide +kernel
theorem i_Mod_kind_10 : zins 119 10 = some (.aload_n 0) := by decide +kernel
theorem i_Mod_kind_11 : zins 119 11 = some (.iconst 0) := by decide +kernel
theorem i_Mod_kind_12 : zins 119 12 = some (.iconst 1) := by decide +kernel
theorem i_Mod_kind_13 : zins 119 13 = some (.iconst 3) := by decide +kernel
theorem i_Mod_kind_14 : zins 119 14 = some (.iconst 1) := by decide +kernel
theorem i_Mod_kind_15 : zins 119 15 = some (.iconst 2) := by decide +kernel
theorem i_Mod_kind_16 : zins 119 16 = some (.invokevirtual 153) := by decide +kernel
theorem i_Mod_kind_19 : zins 119 19 = some (.istore_n 2) := by decide +kernel
theorem i_Mod_kind_20 : zins 119 20 = some (.aload_n 0) := by decide +kernel
theorem i_Mod_kind_21 : zins 119 21 = some (.iload_n 1) := by decide +kernel
theorem i_Mod_kind_22 : zins 119 22 = some (.bipush 79) := by decide +kernel
theorem i_Mod_kind_24 : zins 119 24 = some (.bipush 82) := by decide +kernel
theorem i_Mod_kind_26 : zins 119 26 = some (.bipush 85) := by decide +kernel
theorem i_Mod_kind_28 : zins 119 28 = some (.invokevirtual 157) := by decide +kernel
theorem i_Mod_kind_31 : zins 119 31 = some (.ifCond .eq 24) := by decide +kernel
theorem i_Mod_kind_34 : zins 119 34 = some (.aload_n 0) := by decide +kernel
theorem i_Mod_kind_35 : zins 119 35 = some (.iload_n 2) := by decide +kernel
theorem i_Mod_kind_36 : zins 119 36 = some (.bipush 82) := by decide +kernel
theorem i_Mod_kind_38 : zins 119 38 = some (.bipush 48) := by decide +kernel
theorem i_Mod_kind_40 : zins 119 40 = some (.bipush 49) := by decide +kernel
theorem i_Mod_kind_42 : zins 119 42 = some (.invokevirtual 157) := by decide +kernel
theorem i_Mod_kind_45 : zins 119 45 = some (.ifCond .eq 8) := by decide +kernel
theorem i_Mod_kind_48 : zins 119 48 = some (.bipush 9) := by decide +kernel
theorem i_Mod_kind_50 : zins 119 50 = some (.goto 4) := by decide +kernel
theorem i_Mod_kind_53 : zins 119 53 = some (.iconst 0) := by decide +kernel
theorem i_Mod_kind_54 : zins 119 54 = some (.ireturn) := by decide +kernel
theorem i_Mod_kind_55 : zins 119 55 = some (.aload_n 0) := by decide +kernel
theorem i_Mod_kind_56 : zins 119 56 = some (.iload_n 1) := by decide +kernel
theorem i_Mod_kind_57 : zins 119 57 = some (.bipush 65) := by decide +kernel
theorem i_Mod_kind_59 : zins 119 59 = some (.bipush 68) := by decide +kernel
theorem i_Mod_kind_61 : zins 119 61 = some (.bipush 84) := by decide +kernel
theorem i_Mod_kind_63 : zins 119 63 = some (.invokevirtual 157) := by decide +kernel
theorem i_Mod_kind_66 : zins 119 66 = some (.ifCond .eq 38) := by decide +kernel
theorem i_Mod_kind_69 : zins 119 69 = some (.aload_n 0) := by decide +kernel
theorem i_Mod_kind_70 : zins 119 70 = some (.iload_n 2) := by decide +kernel
theorem i_Mod_kind_71 : zins 119 71 = some (.invokevirtual 145) := by decide +kernel
theorem i_Mod_kind_74 : zins 119 74 = some (.iconst 3) := by decide +kernel
theorem i_Mod_kind_75 : zins 119 75 = some (.if_icmp .ne 29) := by decide +kernel
theorem i_Mod_kind_78 : zins 119 78 = some (.aload_n 0) := by decide +kernel
theorem i_Mod_kind_79 : zins 119 79 = some (.iload_n 2) := by decide +kernel
theorem i_Mod_kind_80 : zins 119 80 = some (.iconst 0) := by decide +kernel
theorem i_Mod_kind_81 : zins 119 81 = some (.invokevirtual 149) := by decide +kernel
theorem i_Mod_kind_84 : zins 119 84 = some (.bipush 65) := by decide +kernel
theorem i_Mod_kind_86 : zins 119 86 = some (.if_icmp .ne 18) := by decide +kernel
theorem i_Mod_kind_89 : zins 119 89 = some (.aload_n 0) := by decide +kernel
theorem i_Mod_kind_90 : zins 119 90 = some (.iload_n 2) := by decide +kernel
theorem i_Mod_kind_91 : zins 119 91 = some (.iconst 1) := by decide +kernel
theorem i_Mod_kind_92 : zins 119 92 = some (.invokevirtual 149) := by decide +kernel
theorem i_Mod_kind_95 : zins 119 95 = some (.bipush 48) := by decide +kernel
theorem i_Mod_kind_97 : zins 119 97 = some (.if_icmp .ne 7) := by decide +kernel
theorem i_Mod_kind_100 : zins 119 100 = some (.iconst 1) := by decide +kernel
theorem i_Mod_kind_101 : zins 119 101 = some (.goto 4) := by decide +kernel
theorem i_Mod_kind_104 : zins 119 104 = some (.iconst 0) := by decide +kernel
theorem i_Mod_kind_105 : zins 119 105 = some (.istore_n 3) := by decide +kernel
theorem i_Mod_kind_106 : zins 119 106 = some (.aload_n 0) := by decide +kernel
theorem i_Mod_kind_107 : zins 119 107 = some (.iload_n 2) := by decide +kernel
theorem i_Mod_kind_108 : zins 119 108 = some (.iconst 2) := by decide +kernel
theorem i_Mod_kind_109 : zins 119 109 = some (.invokevirtual 149) := by decide +kernel
theorem i_Mod_kind_112 : zins 119 112 = some (.istore 4) := by decide +kernel
theorem i_Mod_kind_114 : zins 119 114 = some (.iload_n 3) := by decide +kernel
theorem i_Mod_kind_115 : zins 119 115 = some (.ifCond .eq 39) := by decide +kernel
theorem i_Mod_kind_118 : zins 119 118 = some (.iload 4) := by decide +kernel
theorem i_Mod_kind_120 : zins 119 120 = some (.bipush 49) := by decide +kernel
theorem i_Mod_kind_122 : zins 119 122 = some (.if_icmp .eq 24) := by decide +kernel
theorem i_Mod_kind_125 : zins 119 125 = some (.iload 4) := by decide +kernel
theorem i_Mod_kind_127 : zins 119 127 = some (.bipush 50) := by decide +kernel
theorem i_Mod_kind_129 : zins 119 129 = some (.if_icmp .eq 17) := by decide +kernel
theorem i_Mod_kind_132 : zins 119 132 = some (.iload 4) := by decide +kernel
theorem i_Mod_kind_134 : zins 119 134 = some (.bipush 51) := by decide +kernel
theorem i_Mod_kind_136 : zins 119 136 = some (.if_icmp .eq 10) := by decide +kernel
theorem i_Mod_kind_139 : zins 119 139 = some (.iload 4) := by decide +kernel
theorem i_Mod_kind_141 : zins 119 141 = some (.bipush 56) := by decide +kernel
theorem i_Mod_kind_143 : zins 119 143 = some (.if_icmp .ne 11) := by decide +kernel
theorem i_Mod_kind_146 : zins 119 146 = some (.iload 4) := by decide +kernel
theorem i_Mod_kind_148 : zins 119 148 = some (.bipush 48) := by decide +kernel
theorem i_Mod_kind_150 : zins 119 150 = some (.isub) := by decide +kernel
theorem i_Mod_kind_151 : zins 119 151 = some (.goto 4) := by decide +kernel
theorem i_Mod_kind_154 : zins 119 154 = some (.iconst 0) := by decide +kernel
theorem i_Mod_kind_155 : zins 119 155 = some (.ireturn) := by decide +kernel
theorem e_Mod_kind (X : zX) (d : Nat) (g : zH) (ms : zMS) (cnt : Nat) (hT : mTV ms 0 cnt) : zR X (d + 3) 119 0 (zent 5 [.ref 129]) [] (mset g ms) (some (.int (kindF (mV ms))), mset g ms) := by
  have hz := fun s f r c => v_tl ms _ (mto_find hT s f r c)
  refine zr_aload_n i_Mod_kind_0 rfl ?_
  refine zn_iconst 0 i_Mod_kind_1 (by decide) ?_
  refine zr_iconst i_Mod_kind_2 (v := 1) (by decide) ?_
  refine zr_iconst i_Mod_kind_3 (v := 3) (by decide) ?_
  refine zr_iconst i_Mod_kind_4 (v := 1) (by decide) ?_
  refine zr_iconst i_Mod_kind_5 (v := 1) (by decide) ?_
  refine zr_cv5 i_Mod_kind_6 rfl (by decide) rfl (Nat.le_of_ble_eq_true rfl) (Nat.le_of_ble_eq_true rfl) (e_Mod_find X _ g ms 0 cnt _ _ _ _ (by decide) hT.1 hT.2.1) ?_
  refine zr_istore_n i_Mod_kind_9 rfl ?_
  refine zr_aload_n i_Mod_kind_10 rfl ?_
  refine zn_iconst 0 i_Mod_kind_11 (by decide) ?_
  refine zr_iconst i_Mod_kind_12 (v := 1) (by decide) ?_
  refine zr_iconst i_Mod_kind_13 (v := 3) (by decide) ?_
  refine zr_iconst i_Mod_kind_14 (v := 1) (by decide) ?_
  refine zr_iconst i_Mod_kind_15 (v := 2) (by decide) ?_
  refine zr_cv5 i_Mod_kind_16 rfl (by decide) rfl (Nat.le_of_ble_eq_true rfl) (Nat.le_of_ble_eq_true rfl) (e_Mod_find X _ g ms 0 cnt _ _ _ _ (by decide) hT.1 hT.2.1) ?_
  refine zr_istore_n i_Mod_kind_19 rfl ?_
  refine zr_aload_n i_Mod_kind_20 rfl ?_
  refine zr_iload_n i_Mod_kind_21 rfl ?_
  refine zr_bipush i_Mod_kind_22 (v := 79) (by decide) ?_
  refine zr_bipush i_Mod_kind_24 (v := 82) (by decide) ?_
  refine zr_bipush i_Mod_kind_26 (v := 85) (by decide) ?_
  refine zr_cv4 i_Mod_kind_28 rfl (by decide) rfl (Nat.le_of_ble_eq_true rfl) (Nat.le_of_ble_eq_true rfl) (v_is X _ g ms _ (mto_find hT _ _ _ _) _ _ _) ?_
  refine zB_if_eq 55 i_Mod_kind_31 (by decide) (fun c_31 => ?_) (fun c_31 => ?_)
  · skip
    refine zr_aload_n i_Mod_kind_55 rfl ?_
    refine zr_iload_n i_Mod_kind_56 rfl ?_
    refine zr_bipush i_Mod_kind_57 (v := 65) (by decide) ?_
    refine zr_bipush i_Mod_kind_59 (v := 68) (by decide) ?_
    refine zr_bipush i_Mod_kind_61 (v := 84) (by decide) ?_
    refine zr_cv4 i_Mod_kind_63 rfl (by decide) rfl (Nat.le_of_ble_eq_true rfl) (Nat.le_of_ble_eq_true rfl) (v_is X _ g ms _ (mto_find hT _ _ _ _) _ _ _) ?_
    refine zB_if_eq 104 i_Mod_kind_66 (by decide) (fun c_66 => ?_) (fun c_66 => ?_)
    · skip
      refine zr_iconst i_Mod_kind_104 (v := 0) (by decide) ?_
      refine zr_istore_n i_Mod_kind_105 rfl ?_
      refine zr_aload_n i_Mod_kind_106 rfl ?_
      refine zr_iload_n i_Mod_kind_107 rfl ?_
      refine zn_iconst 2 i_Mod_kind_108 (by decide) ?_
      refine zr_cv2 i_Mod_kind_109 rfl (by decide) rfl (Nat.le_of_ble_eq_true rfl) (Nat.le_of_ble_eq_true rfl) (v_charOf X _ g ms _ (mto_find hT _ _ _ _) _ (by first | decide | omega)) ?_
      refine zr_istore i_Mod_kind_112 rfl ?_
      refine zr_iload_n i_Mod_kind_114 rfl ?_
      refine zr_if_eq 154 i_Mod_kind_115 (by decide) (fun _ => ?_) (fun q => absurd (by decide) q)
      refine zr_iconst i_Mod_kind_154 (v := 0) (by decide) ?_
      exact zR.retE i_Mod_kind_155 rfl (by simp [kindF, mV, *])
    · skip
      refine zr_aload_n i_Mod_kind_69 rfl ?_
      refine zr_iload_n i_Mod_kind_70 rfl ?_
      refine zr_cv1 i_Mod_kind_71 rfl (by decide) rfl (Nat.le_of_ble_eq_true rfl) (Nat.le_of_ble_eq_true rfl) (v_sizeOf X _ g ms _ (mto_find hT _ _ _ _)) ?_
      refine zn_iconst 3 i_Mod_kind_74 (by decide) ?_
      refine zn_icmp_ne 104 i_Mod_kind_75 (by decide) (by have := hz 1 3 1 2; omega) (by omega) (fun c_75 => ?_) (fun c_75 => ?_)
      · skip
        refine zr_iconst i_Mod_kind_104 (v := 0) (by decide) ?_
        refine zr_istore_n i_Mod_kind_105 rfl ?_
        refine zr_aload_n i_Mod_kind_106 rfl ?_
        refine zr_iload_n i_Mod_kind_107 rfl ?_
        refine zn_iconst 2 i_Mod_kind_108 (by decide) ?_
        refine zr_cv2 i_Mod_kind_109 rfl (by decide) rfl (Nat.le_of_ble_eq_true rfl) (Nat.le_of_ble_eq_true rfl) (v_charOf X _ g ms _ (mto_find hT _ _ _ _) _ (by first | decide | omega)) ?_
        refine zr_istore i_Mod_kind_112 rfl ?_
        refine zr_iload_n i_Mod_kind_114 rfl ?_
        refine zr_if_eq 154 i_Mod_kind_115 (by decide) (fun _ => ?_) (fun q => absurd (by decide) q)
        refine zr_iconst i_Mod_kind_154 (v := 0) (by decide) ?_
        exact zR.retE i_Mod_kind_155 rfl (by simp [kindF, mV, *])
      · skip
        refine zr_aload_n i_Mod_kind_78 rfl ?_
        refine zr_iload_n i_Mod_kind_79 rfl ?_
        refine zn_iconst 0 i_Mod_kind_80 (by decide) ?_
        refine zr_cv2 i_Mod_kind_81 rfl (by decide) rfl (Nat.le_of_ble_eq_true rfl) (Nat.le_of_ble_eq_true rfl) (v_charOf X _ g ms _ (mto_find hT _ _ _ _) _ (by first | decide | omega)) ?_
        refine zr_bipush i_Mod_kind_84 (v := 65) (by decide) ?_
        refine zr_icmp_ne 104 i_Mod_kind_86 (by decide) (fun c_86 => ?_) (fun c_86 => ?_)
        · skip
          refine zr_iconst i_Mod_kind_104 (v := 0) (by decide) ?_
          refine zr_istore_n i_Mod_kind_105 rfl ?_
          refine zr_aload_n i_Mod_kind_106 rfl ?_
          refine zr_iload_n i_Mod_kind_107 rfl ?_
          refine zn_iconst 2 i_Mod_kind_108 (by decide) ?_
          refine zr_cv2 i_Mod_kind_109 rfl (by decide) rfl (Nat.le_of_ble_eq_true rfl) (Nat.le_of_ble_eq_true rfl) (v_charOf X _ g ms _ (mto_find hT _ _ _ _) _ (by first | decide | omega)) ?_
          refine zr_istore i_Mod_kind_112 rfl ?_
          refine zr_iload_n i_Mod_kind_114 rfl ?_
          refine zr_if_eq 154 i_Mod_kind_115 (by decide) (fun _ => ?_) (fun q => absurd (by decide) q)
          refine zr_iconst i_Mod_kind_154 (v := 0) (by decide) ?_
          exact zR.retE i_Mod_kind_155 rfl (by simp [kindF, mV, *])
        · skip
          refine zr_aload_n i_Mod_kind_89 rfl ?_
          refine zr_iload_n i_Mod_kind_90 rfl ?_
          refine zn_iconst 1 i_Mod_kind_91 (by decide) ?_
          refine zr_cv2 i_Mod_kind_92 rfl (by decide) rfl (Nat.le_of_ble_eq_true rfl) (Nat.le_of_ble_eq_true rfl) (v_charOf X _ g ms _ (mto_find hT _ _ _ _) _ (by first | decide | omega)) ?_
          refine zr_bipush i_Mod_kind_95 (v := 48) (by decide) ?_
          refine zr_icmp_ne 104 i_Mod_kind_97 (by decide) (fun c_97 => ?_) (fun c_97 => ?_)
          · skip
            refine zr_iconst i_Mod_kind_104 (v := 0) (by decide) ?_
            refine zr_istore_n i_Mod_kind_105 rfl ?_
            refine zr_aload_n i_Mod_kind_106 rfl ?_
            refine zr_iload_n i_Mod_kind_107 rfl ?_
            refine zn_iconst 2 i_Mod_kind_108 (by decide) ?_
            refine zr_cv2 i_Mod_kind_109 rfl (by decide) rfl (Nat.le_of_ble_eq_true rfl) (Nat.le_of_ble_eq_true rfl) (v_charOf X _ g ms _ (mto_find hT _ _ _ _) _ (by first | decide | omega)) ?_
            refine zr_istore i_Mod_kind_112 rfl ?_
            refine zr_iload_n i_Mod_kind_114 rfl ?_
            refine zr_if_eq 154 i_Mod_kind_115 (by decide) (fun _ => ?_) (fun q => absurd (by decide) q)
            refine zr_iconst i_Mod_kind_154 (v := 0) (by decide) ?_
            exact zR.retE i_Mod_kind_155 rfl (by simp [kindF, mV, *])
          · skip
            refine zr_iconst i_Mod_kind_100 (v := 1) (by decide) ?_
            refine zr_goto 105 i_Mod_kind_101 (by decide) ?_
            refine zr_istore_n i_Mod_kind_105 rfl ?_
            refine zr_aload_n i_Mod_kind_106 rfl ?_
            refine zr_iload_n i_Mod_kind_107 rfl ?_
            refine zn_iconst 2 i_Mod_kind_108 (by decide) ?_
            refine zr_cv2 i_Mod_kind_109 rfl (by decide) rfl (Nat.le_of_ble_eq_true rfl) (Nat.le_of_ble_eq_true rfl) (v_charOf X _ g ms _ (mto_find hT _ _ _ _) _ (by first | decide | omega)) ?_
            refine zr_istore i_Mod_kind_112 rfl ?_
            refine zr_iload_n i_Mod_kind_114 rfl ?_
            refine zr_if_eq 154 i_Mod_kind_115 (by decide) (fun q => absurd q (by decide)) (fun _ => ?_)
            refine zr_iload i_Mod_kind_118 rfl ?_
            refine zr_bipush i_Mod_kind_120 (v := 49) (by decide) ?_
            refine zr_icmp_eq 146 i_Mod_kind_122 (by decide) (fun c_122 => ?_) (fun c_122 => ?_)
            · skip
              refine zr_iload i_Mod_kind_146 rfl ?_
              refine zr_bipush i_Mod_kind_148 (v := 48) (by decide) ?_
              refine zr_isub i_Mod_kind_150 ?_
              refine zr_goto 155 i_Mod_kind_151 (by decide) ?_
              exact zR.retE i_Mod_kind_155 rfl (by simp [kindF, mV, *])
            · skip
              refine zr_iload i_Mod_kind_125 rfl ?_
              refine zr_bipush i_Mod_kind_127 (v := 50) (by decide) ?_
              refine zr_icmp_eq 146 i_Mod_kind_129 (by decide) (fun c_129 => ?_) (fun c_129 => ?_)
              · skip
                refine zr_iload i_Mod_kind_146 rfl ?_
                refine zr_bipush i_Mod_kind_148 (v := 48) (by decide) ?_
                refine zr_isub i_Mod_kind_150 ?_
                refine zr_goto 155 i_Mod_kind_151 (by decide) ?_
                exact zR.retE i_Mod_kind_155 rfl (by simp [kindF, mV, *])
              · skip
                refine zr_iload i_Mod_kind_132 rfl ?_
                refine zr_bipush i_Mod_kind_134 (v := 51) (by decide) ?_
                refine zr_icmp_eq 146 i_Mod_kind_136 (by decide) (fun c_136 => ?_) (fun c_136 => ?_)
                · skip
                  refine zr_iload i_Mod_kind_146 rfl ?_
                  refine zr_bipush i_Mod_kind_148 (v := 48) (by decide) ?_
                  refine zr_isub i_Mod_kind_150 ?_
                  refine zr_goto 155 i_Mod_kind_151 (by decide) ?_
                  exact zR.retE i_Mod_kind_155 rfl (by simp [kindF, mV, *])
                · skip
                  refine zr_iload i_Mod_kind_139 rfl ?_
                  refine zr_bipush i_Mod_kind_141 (v := 56) (by decide) ?_
                  refine zr_icmp_ne 154 i_Mod_kind_143 (by decide) (fun c_143 => ?_) (fun c_143 => ?_)
                  · skip
                    refine zr_iconst i_Mod_kind_154 (v := 0) (by decide) ?_
                    exact zR.retE i_Mod_kind_155 rfl (by simp [kindF, mV, *])
                  · skip
                    refine zr_iload i_Mod_kind_146 rfl ?_
                    refine zr_bipush i_Mod_kind_148 (v := 48) (by decide) ?_
                    refine zr_isub i_Mod_kind_150 ?_
                    refine zr_goto 155 i_Mod_kind_151 (by decide) ?_
                    exact zR.retE i_Mod_kind_155 rfl (by simp [kindF, mV, *])
  · skip
    refine zr_aload_n i_Mod_kind_34 rfl ?_
    refine zr_iload_n i_Mod_kind_35 rfl ?_
    refine zr_bipush i_Mod_kind_36 (v := 82) (by decide) ?_
    refine zr_bipush i_Mod_kind_38 (v := 48) (by decide) ?_
    refine zr_bipush i_Mod_kind_40 (v := 49) (by decide) ?_
    refine zr_cv4 i_Mod_kind_42 rfl (by decide) rfl (Nat.le_of_ble_eq_true rfl) (Nat.le_of_ble_eq_true rfl) (v_is X _ g ms _ (mto_find hT _ _ _ _) _ _ _) ?_
    refine zB_if_eq 53 i_Mod_kind_45 (by decide) (fun c_45 => ?_) (fun c_45 => ?_)
    · skip
      refine zr_iconst i_Mod_kind_53 (v := 0) (by decide) ?_
      exact zR.retE i_Mod_kind_54 rfl (by simp [kindF, mV, *])
    · skip
      refine zr_bipush i_Mod_kind_48 (v := 9) (by decide) ?_
      refine zr_goto 54 i_Mod_kind_50 (by decide) ?_
      exact zR.retE i_Mod_kind_54 rfl (by simp [kindF, mV, *])
def vlod (c : Int32) : Bool := zcap c || zsml c || zdig c
def vidL (t : zT) (i k : Nat) (ok : Bool) : Bool := match k with
  | 0 => ok
  | k + 1 => vidL t (i + 1) k (ok && vlod (tc t i))
def idF (V : Int32 → Int32 → Int32 → Int32 → zT) : Bool := vidL (V 1 2 1 1) 0 (tl (V 1 2 1 1)) (!decide (tl (V 1 2 1 1) < 1) && !decide (6 < tl (V 1 2 1 1)))
theorem i_Mod_hasIdentity_0 : zins 114 0 = some (.aload_n 0) := by decide +kernel
theorem i_Mod_hasIdentity_1 : zins 114 1 = some (.iconst 0) := by decide +kernel
theorem i_Mod_hasIdentity_2 : zins 114 2 = some (.iconst 1) := by decide +kernel
theorem i_Mod_hasIdentity_3 : zins 114 3 = some (.iconst 2) := by decide +kernel
theorem i_Mod_hasIdentity_4 : zins 114 4 = some (.iconst 1) := by decide +kernel
theorem i_Mod_hasIdentity_5 : zins 114 5 = some (.iconst 1) := by decide +kernel
theorem i_Mod_hasIdentity_6 : zins 114 6 = some (.invokevirtual 153) := by decide +kernel
theorem i_Mod_hasIdentity_9 : zins 114 9 = some (.istore_n 1) := by decide +kernel
theorem i_Mod_hasIdentity_10 : zins 114 10 = some (.aload_n 0) := by decide +kernel
theorem i_Mod_hasIdentity_11 : zins 114 11 = some (.iload_n 1) := by decide +kernel
theorem i_Mod_hasIdentity_12 : zins 114 12 = some (.invokevirtual 145) := by decide +kernel
theorem i_Mod_hasIdentity_15 : zins 114 15 = some (.iconst 1) := by decide +kernel
theorem i_Mod_hasIdentity_16 : zins 114 16 = some (.if_icmp .lt 17) := by decide +kernel
theorem i_Mod_hasIdentity_19 : zins 114 19 = some (.aload_n 0) := by decide +kernel
theorem i_Mod_hasIdentity_20 : zins 114 20 = some (.iload_n 1) := by decide +kernel
theorem i_Mod_hasIdentity_21 : zins 114 21 = some (.invokevirtual 145) := by decide +kernel
theorem i_Mod_hasIdentity_24 : zins 114 24 = some (.bipush 6) := by decide +kernel
theorem i_Mod_hasIdentity_26 : zins 114 26 = some (.if_icmp .gt 7) := by decide +kernel
theorem i_Mod_hasIdentity_29 : zins 114 29 = some (.iconst 1) := by decide +kernel
theorem i_Mod_hasIdentity_30 : zins 114 30 = some (.goto 4) := by decide +kernel
theorem i_Mod_hasIdentity_33 : zins 114 33 = some (.iconst 0) := by decide +kernel
theorem i_Mod_hasIdentity_34 : zins 114 34 = some (.istore_n 2) := by decide +kernel
theorem i_Mod_hasIdentity_35 : zins 114 35 = some (.iconst 0) := by decide +kernel
theorem i_Mod_hasIdentity_36 : zins 114 36 = some (.istore_n 3) := by decide +kernel
theorem i_Mod_hasIdentity_37 : zins 114 37 = some (.iload_n 3) := by decide +kernel
theorem i_Mod_hasIdentity_38 : zins 114 38 = some (.aload_n 0) := by decide +kernel
theorem i_Mod_hasIdentity_39 : zins 114 39 = some (.iload_n 1) := by decide +kernel
theorem i_Mod_hasIdentity_40 : zins 114 40 = some (.invokevirtual 145) := by decide +kernel
theorem i_Mod_hasIdentity_43 : zins 114 43 = some (.if_icmp .ge 51) := by decide +kernel
theorem i_Mod_hasIdentity_46 : zins 114 46 = some (.aload_n 0) := by decide +kernel
theorem i_Mod_hasIdentity_47 : zins 114 47 = some (.iload_n 1) := by decide +kernel
theorem i_Mod_hasIdentity_48 : zins 114 48 = some (.iload_n 3) := by decide +kernel
theorem i_Mod_hasIdentity_49 : zins 114 49 = some (.invokevirtual 149) := by decide +kernel
theorem i_Mod_hasIdentity_52 : zins 114 52 = some (.istore 4) := by decide +kernel
theorem i_Mod_hasIdentity_54 : zins 114 54 = some (.iload_n 2) := by decide +kernel
theorem i_Mod_hasIdentity_55 : zins 114 55 = some (.ifCond .eq 31) := by decide +kernel
theorem i_Mod_hasIdentity_58 : zins 114 58 = some (.iload 4) := by decide +kernel
theorem i_Mod_hasIdentity_60 : zins 114 60 = some (.invokestatic 102) := by decide +kernel
theorem i_Mod_hasIdentity_63 : zins 114 63 = some (.ifCond .ne 19) := by decide +kernel
theorem i_Mod_hasIdentity_66 : zins 114 66 = some (.iload 4) := by decide +kernel
theorem i_Mod_hasIdentity_68 : zins 114 68 = some (.invokestatic 106) := by decide +kernel
theorem i_Mod_hasIdentity_71 : zins 114 71 = some (.ifCond .ne 11) := by decide +kernel
theorem i_Mod_hasIdentity_74 : zins 114 74 = some (.iload 4) := by decide +kernel
theorem i_Mod_hasIdentity_76 : zins 114 76 = some (.invokestatic 109) := by decide +kernel
theorem i_Mod_hasIdentity_79 : zins 114 79 = some (.ifCond .eq 7) := by decide +kernel
theorem i_Mod_hasIdentity_82 : zins 114 82 = some (.iconst 1) := by decide +kernel
theorem i_Mod_hasIdentity_83 : zins 114 83 = some (.goto 4) := by decide +kernel
theorem i_Mod_hasIdentity_86 : zins 114 86 = some (.iconst 0) := by decide +kernel
theorem i_Mod_hasIdentity_87 : zins 114 87 = some (.istore_n 2) := by decide +kernel
theorem i_Mod_hasIdentity_88 : zins 114 88 = some (.iinc 3 1) := by decide +kernel
theorem i_Mod_hasIdentity_91 : zins 114 91 = some (.goto (-54)) := by decide +kernel
theorem i_Mod_hasIdentity_94 : zins 114 94 = some (.iload_n 2) := by decide +kernel
theorem i_Mod_hasIdentity_95 : zins 114 95 = some (.ireturn) := by decide +kernel
theorem l_Mod_hasIdentity (X : zX) (d : Nat) (g : zH) (ms : zMS) (cnt : Nat) (hT : mTV ms 0 cnt) : ∀ (k i : Nat) (ok : Bool) (x : Option Value), i + k = tl (mV ms 1 2 1 1) → zR X (d + 2) 114 37 [some (.ref 129), some (.int (tI (mfind ms 0 1 2 1 1))), some (.int (zb ok)), some (.int (nI i)), x] [] (mset g ms) (some (.int (zb (vidL (mV ms 1 2 1 1) i k ok))), mset g ms) := by
  have hz := fun s f r c => v_tl ms _ (mto_find hT s f r c)
  have hL : tl (mV ms 1 2 1 1) ≤ 400 := hz 1 2 1 1
  intro k
  induction k with
  | zero =>
    intro i ok x hik
    have hik : i + 0 = tl (mtx ms (mfind ms 0 1 2 1 1)) := hik
    refine zr_iload_n i_Mod_hasIdentity_37 rfl ?_
    refine zr_aload_n i_Mod_hasIdentity_38 rfl ?_
    refine zr_iload_n i_Mod_hasIdentity_39 rfl ?_
    refine zr_cv1 i_Mod_hasIdentity_40 rfl (by decide) rfl (Nat.le_of_ble_eq_true rfl) (Nat.le_of_ble_eq_true rfl) (v_sizeOf X _ g ms _ (mto_find hT _ _ _ _)) ?_
    refine zn_icmp_ge 94 i_Mod_hasIdentity_43 (by decide) (by have := hz 1 2 1 1; omega) (by have := hz 1 2 1 1; omega) (fun c_43 => ?_) (fun q => absurd q (by first | assumption | omega | simp_all))
    refine zr_iload_n i_Mod_hasIdentity_94 rfl ?_
    exact zR.retE i_Mod_hasIdentity_95 (zretB _) rfl
  | succ k ih =>
    intro i ok x hik
    have hik' : i + (k + 1) = tl (mtx ms (mfind ms 0 1 2 1 1)) := hik
    refine zr_iload_n i_Mod_hasIdentity_37 rfl ?_
    refine zr_aload_n i_Mod_hasIdentity_38 rfl ?_
    refine zr_iload_n i_Mod_hasIdentity_39 rfl ?_
    refine zr_cv1 i_Mod_hasIdentity_40 rfl (by decide) rfl (Nat.le_of_ble_eq_true rfl) (Nat.le_of_ble_eq_true rfl) (v_sizeOf X _ g ms _ (mto_find hT _ _ _ _)) ?_
    refine zn_icmp_ge 94 i_Mod_hasIdentity_43 (by decide) (by have := hz 1 2 1 1; omega) (by have := hz 1 2 1 1; omega) (fun q => absurd q (by first | assumption | omega | simp_all)) (fun c_43 => ?_)
    refine zr_aload_n i_Mod_hasIdentity_46 rfl ?_
    refine zr_iload_n i_Mod_hasIdentity_47 rfl ?_
    refine zr_iload_n i_Mod_hasIdentity_48 rfl ?_
    refine zr_cv2 i_Mod_hasIdentity_49 rfl (by decide) rfl (Nat.le_of_ble_eq_true rfl) (Nat.le_of_ble_eq_true rfl) (v_charOf X _ g ms _ (mto_find hT _ _ _ _) _ (by first | decide | omega)) ?_
    refine zr_istore i_Mod_hasIdentity_52 rfl ?_
    refine zr_iload_n i_Mod_hasIdentity_54 rfl ?_
    refine zB_if_eq 86 i_Mod_hasIdentity_55 (by decide) (fun c_55 => ?_) (fun c_55 => ?_)
    · skip
      refine zr_iconst i_Mod_hasIdentity_86 (v := 0) (by decide) ?_
      refine zr_istore_n i_Mod_hasIdentity_87 rfl ?_
      refine zn_iinc i_Mod_hasIdentity_88 rfl rfl ?_
      refine zr_goto 37 i_Mod_hasIdentity_91 (by decide) ?_
      (rw [vidL]; have e : (ok && vlod (tc (mV ms 1 2 1 1) i)) = false := by simp [vlod, mV, *]
       rw [e]; exact ih (i + 1) false _ (by omega))
    · skip
      refine zr_iload i_Mod_hasIdentity_58 rfl ?_
      refine zr_cs1 i_Mod_hasIdentity_60 rfl (by decide) (Nat.le_of_ble_eq_true rfl) (Nat.le_of_ble_eq_true rfl) (e_Mod_capital X _ _ _) ?_
      refine zB_if_ne 82 i_Mod_hasIdentity_63 (by decide) (fun c_63 => ?_) (fun c_63 => ?_)
      · skip
        refine zr_iconst i_Mod_hasIdentity_82 (v := 1) (by decide) ?_
        refine zr_goto 87 i_Mod_hasIdentity_83 (by decide) ?_
        refine zr_istore_n i_Mod_hasIdentity_87 rfl ?_
        refine zn_iinc i_Mod_hasIdentity_88 rfl rfl ?_
        refine zr_goto 37 i_Mod_hasIdentity_91 (by decide) ?_
        (rw [vidL]; have e : (ok && vlod (tc (mV ms 1 2 1 1) i)) = true := by simp [vlod, mV, *]
         rw [e]; exact ih (i + 1) true _ (by omega))
      · skip
        refine zr_iload i_Mod_hasIdentity_66 rfl ?_
        refine zr_cs1 i_Mod_hasIdentity_68 rfl (by decide) (Nat.le_of_ble_eq_true rfl) (Nat.le_of_ble_eq_true rfl) (e_Mod_small X _ _ _) ?_
        refine zB_if_ne 82 i_Mod_hasIdentity_71 (by decide) (fun c_71 => ?_) (fun c_71 => ?_)
        · skip
          refine zr_iconst i_Mod_hasIdentity_82 (v := 1) (by decide) ?_
          refine zr_goto 87 i_Mod_hasIdentity_83 (by decide) ?_
          refine zr_istore_n i_Mod_hasIdentity_87 rfl ?_
          refine zn_iinc i_Mod_hasIdentity_88 rfl rfl ?_
          refine zr_goto 37 i_Mod_hasIdentity_91 (by decide) ?_
          (rw [vidL]; have e : (ok && vlod (tc (mV ms 1 2 1 1) i)) = true := by simp [vlod, mV, *]
           rw [e]; exact ih (i + 1) true _ (by omega))
        · skip
          refine zr_iload i_Mod_hasIdentity_74 rfl ?_
          refine zr_cs1 i_Mod_hasIdentity_76 rfl (by decide) (Nat.le_of_ble_eq_true rfl) (Nat.le_of_ble_eq_true rfl) (e_Mod_digit X _ _ _) ?_
          refine zB_if_eq 86 i_Mod_hasIdentity_79 (by decide) (fun c_79 => ?_) (fun c_79 => ?_)
          · skip
            refine zr_iconst i_Mod_hasIdentity_86 (v := 0) (by decide) ?_
            refine zr_istore_n i_Mod_hasIdentity_87 rfl ?_
            refine zn_iinc i_Mod_hasIdentity_88 rfl rfl ?_
            refine zr_goto 37 i_Mod_hasIdentity_91 (by decide) ?_
            (rw [vidL]; have e : (ok && vlod (tc (mV ms 1 2 1 1) i)) = false := by simp [vlod, mV, *]
             rw [e]; exact ih (i + 1) false _ (by omega))
          · skip
            refine zr_iconst i_Mod_hasIdentity_82 (v := 1) (by decide) ?_
            refine zr_goto 87 i_Mod_hasIdentity_83 (by decide) ?_
            refine zr_istore_n i_Mod_hasIdentity_87 rfl ?_
            refine zn_iinc i_Mod_hasIdentity_88 rfl rfl ?_
            refine zr_goto 37 i_Mod_hasIdentity_91 (by decide) ?_
            (rw [vidL]; have e : (ok && vlod (tc (mV ms 1 2 1 1) i)) = true := by simp [vlod, mV, *]
             rw [e]; exact ih (i + 1) true _ (by omega))
theorem e_Mod_hasIdentity (X : zX) (d : Nat) (g : zH) (ms : zMS) (cnt : Nat) (hT : mTV ms 0 cnt) : zR X (d + 2) 114 0 (zent 5 [.ref 129]) [] (mset g ms) (some (.int (zb (idF (mV ms)))), mset g ms) := by
  have hz := fun s f r c => v_tl ms _ (mto_find hT s f r c)
  refine zr_aload_n i_Mod_hasIdentity_0 rfl ?_
  refine zn_iconst 0 i_Mod_hasIdentity_1 (by decide) ?_
  refine zr_iconst i_Mod_hasIdentity_2 (v := 1) (by decide) ?_
  refine zr_iconst i_Mod_hasIdentity_3 (v := 2) (by decide) ?_
  refine zr_iconst i_Mod_hasIdentity_4 (v := 1) (by decide) ?_
  refine zr_iconst i_Mod_hasIdentity_5 (v := 1) (by decide) ?_
  refine zr_cv5 i_Mod_hasIdentity_6 rfl (by decide) rfl (Nat.le_of_ble_eq_true rfl) (Nat.le_of_ble_eq_true rfl) (e_Mod_find X _ g ms 0 cnt _ _ _ _ (by decide) hT.1 hT.2.1) ?_
  refine zr_istore_n i_Mod_hasIdentity_9 rfl ?_
  refine zr_aload_n i_Mod_hasIdentity_10 rfl ?_
  refine zr_iload_n i_Mod_hasIdentity_11 rfl ?_
  refine zr_cv1 i_Mod_hasIdentity_12 rfl (by decide) rfl (Nat.le_of_ble_eq_true rfl) (Nat.le_of_ble_eq_true rfl) (v_sizeOf X _ g ms _ (mto_find hT _ _ _ _)) ?_
  refine zn_iconst 1 i_Mod_hasIdentity_15 (by decide) ?_
  refine zn_icmp_lt 33 i_Mod_hasIdentity_16 (by decide) (by have := hz 1 2 1 1; omega) (by have := hz 1 2 1 1; omega) (fun c_16 => ?_) (fun c_16 => ?_)
  · skip
    refine zr_iconst i_Mod_hasIdentity_33 (v := 0) (by decide) ?_
    refine zr_istore_n i_Mod_hasIdentity_34 rfl ?_
    refine zn_iconst 0 i_Mod_hasIdentity_35 (by decide) ?_
    refine zr_istore_n i_Mod_hasIdentity_36 rfl ?_
    (unfold idF; have e : (!decide (tl (mtx ms (mfind ms 0 1 2 1 1)) < 1) && !decide (6 < tl (mtx ms (mfind ms 0 1 2 1 1)))) = false := (by first | (rw [decide_eq_true (p := tl (mtx ms (mfind ms 0 1 2 1 1)) < 1) (by omega)]; rfl) | (rw [decide_eq_false (p := tl (mtx ms (mfind ms 0 1 2 1 1)) < 1) (by omega), decide_eq_true (p := 6 < tl (mtx ms (mfind ms 0 1 2 1 1))) (by omega)]; rfl))
     rw [show (!decide (tl (mV ms 1 2 1 1) < 1) && !decide (6 < tl (mV ms 1 2 1 1))) = false from e]; exact l_Mod_hasIdentity X d g ms cnt hT (tl (mV ms 1 2 1 1)) 0 false none (by omega))
  · skip
    refine zr_aload_n i_Mod_hasIdentity_19 rfl ?_
    refine zr_iload_n i_Mod_hasIdentity_20 rfl ?_
    refine zr_cv1 i_Mod_hasIdentity_21 rfl (by decide) rfl (Nat.le_of_ble_eq_true rfl) (Nat.le_of_ble_eq_true rfl) (v_sizeOf X _ g ms _ (mto_find hT _ _ _ _)) ?_
    refine zn_bipush 6 i_Mod_hasIdentity_24 (by decide) ?_
    refine zn_icmp_gt 33 i_Mod_hasIdentity_26 (by decide) (by have := hz 1 2 1 1; omega) (by have := hz 1 2 1 1; omega) (fun c_26 => ?_) (fun c_26 => ?_)
    · skip
      refine zr_iconst i_Mod_hasIdentity_33 (v := 0) (by decide) ?_
      refine zr_istore_n i_Mod_hasIdentity_34 rfl ?_
      refine zn_iconst 0 i_Mod_hasIdentity_35 (by decide) ?_
      refine zr_istore_n i_Mod_hasIdentity_36 rfl ?_
      (unfold idF; have e : (!decide (tl (mtx ms (mfind ms 0 1 2 1 1)) < 1) && !decide (6 < tl (mtx ms (mfind ms 0 1 2 1 1)))) = false := (by first | (rw [decide_eq_true (p := tl (mtx ms (mfind ms 0 1 2 1 1)) < 1) (by omega)]; rfl) | (rw [decide_eq_false (p := tl (mtx ms (mfind ms 0 1 2 1 1)) < 1) (by omega), decide_eq_true (p := 6 < tl (mtx ms (mfind ms 0 1 2 1 1))) (by omega)]; rfl))
       rw [show (!decide (tl (mV ms 1 2 1 1) < 1) && !decide (6 < tl (mV ms 1 2 1 1))) = false from e]; exact l_Mod_hasIdentity X d g ms cnt hT (tl (mV ms 1 2 1 1)) 0 false none (by omega))
    · skip
      refine zr_iconst i_Mod_hasIdentity_29 (v := 1) (by decide) ?_
      refine zr_goto 34 i_Mod_hasIdentity_30 (by decide) ?_
      refine zr_istore_n i_Mod_hasIdentity_34 rfl ?_
      refine zn_iconst 0 i_Mod_hasIdentity_35 (by decide) ?_
      refine zr_istore_n i_Mod_hasIdentity_36 rfl ?_
      (unfold idF; have e : (!decide (tl (mtx ms (mfind ms 0 1 2 1 1)) < 1) && !decide (6 < tl (mtx ms (mfind ms 0 1 2 1 1)))) = true := (by rw [decide_eq_false (p := tl (mtx ms (mfind ms 0 1 2 1 1)) < 1) (by omega), decide_eq_false (p := 6 < tl (mtx ms (mfind ms 0 1 2 1 1))) (by omega)]; rfl)
       rw [show (!decide (tl (mV ms 1 2 1 1) < 1) && !decide (6 < tl (mV ms 1 2 1 1))) = true from e]; exact l_Mod_hasIdentity X d g ms cnt hT (tl (mV ms 1 2 1 1)) 0 true none (by omega))
theorem i_Mod_whoIsIn_0 : zins 126 0 = some (.iconst 0) := by decide +kernel
theorem i_Mod_whoIsIn_1 : zins 126 1 = some (.istore_n 2) := by decide +kernel
theorem i_Mod_whoIsIn_2 : zins 126 2 = some (.iconst 1) := by decide +kernel
theorem i_Mod_whoIsIn_3 : zins 126 3 = some (.istore_n 3) := by decide +kernel
theorem i_Mod_whoIsIn_4 : zins 126 4 = some (.iload_n 3) := by decide +kernel
theorem i_Mod_whoIsIn_5 : zins 126 5 = some (.bipush 100) := by decide +kernel
theorem i_Mod_whoIsIn_7 : zins 126 7 = some (.if_icmp .ge 25) := by decide +kernel
theorem i_Mod_whoIsIn_10 : zins 126 10 = some (.aload_n 0) := by decide +kernel
theorem i_Mod_whoIsIn_11 : zins 126 11 = some (.getfield 66) := by decide +kernel
theorem i_Mod_whoIsIn_14 : zins 126 14 = some (.iload_n 3) := by decide +kernel
theorem i_Mod_whoIsIn_15 : zins 126 15 = some (.iaload) := by decide +kernel
theorem i_Mod_whoIsIn_16 : zins 126 16 = some (.iload_n 1) := by decide +kernel
theorem i_Mod_whoIsIn_17 : zins 126 17 = some (.if_icmp .ne 7) := by decide +kernel
theorem i_Mod_whoIsIn_20 : zins 126 20 = some (.iload_n 3) := by decide +kernel
theorem i_Mod_whoIsIn_21 : zins 126 21 = some (.goto 4) := by decide +kernel
theorem i_Mod_whoIsIn_24 : zins 126 24 = some (.iload_n 2) := by decide +kernel
theorem i_Mod_whoIsIn_25 : zins 126 25 = some (.istore_n 2) := by decide +kernel
theorem i_Mod_whoIsIn_26 : zins 126 26 = some (.iinc 3 1) := by decide +kernel
theorem i_Mod_whoIsIn_29 : zins 126 29 = some (.goto (-25)) := by decide +kernel
theorem i_Mod_whoIsIn_32 : zins 126 32 = some (.iload_n 2) := by decide +kernel
theorem i_Mod_whoIsIn_33 : zins 126 33 = some (.ireturn) := by decide +kernel
def whoL (b : Nat → Int32) (bed : Int32) (i k w : Nat) : Nat := match k with
  | 0 => w
  | k + 1 => whoL b bed (i + 1) k (if b i = bed then i else w)
def whoF (b : Nat → Int32) (bed : Int32) : Nat := whoL b bed 1 99 0
theorem l_Mod_whoIsIn (X : zX) (d : Nat) (g : zH) (ms : zMS) (bed : Int32) : ∀ (k i w : Nat), i + k = 100 → zR X d 126 4 [some (.ref 129), some (.int bed), some (.int (nI w)), some (.int (nI i))] [] (mset g ms) (some (.int (nI (whoL (ms.2 19) bed i k w))), mset g ms) := by
  intro k
  induction k with
  | zero =>
    intro i w hik
    refine zr_iload_n i_Mod_whoIsIn_4 rfl ?_
    refine zn_bipush 100 i_Mod_whoIsIn_5 (by decide) ?_
    refine zn_icmp_ge 32 i_Mod_whoIsIn_7 (by decide) (by omega) (by omega) (fun c_7 => ?_) (fun q => absurd q (by first | assumption | omega | simp_all))
    refine zr_iload_n i_Mod_whoIsIn_32 rfl ?_
    exact zR.retE i_Mod_whoIsIn_33 rfl rfl
  | succ k ih =>
    intro i w hik
    refine zr_iload_n i_Mod_whoIsIn_4 rfl ?_
    refine zn_bipush 100 i_Mod_whoIsIn_5 (by decide) ?_
    refine zn_icmp_ge 32 i_Mod_whoIsIn_7 (by decide) (by omega) (by omega) (fun q => absurd q (by first | assumption | omega | simp_all)) (fun c_7 => ?_)
    refine zr_aload_n i_Mod_whoIsIn_10 rfl ?_
    refine zr_getf i_Mod_whoIsIn_11 rfl rfl rfl ?_
    refine zr_iload_n i_Mod_whoIsIn_14 rfl ?_
    refine zn_iaload i_Mod_whoIsIn_15 rfl (by omega) (by decide) ?_
    refine zr_iload_n i_Mod_whoIsIn_16 rfl ?_
    refine zr_icmp_ne 24 i_Mod_whoIsIn_17 (by decide) (fun c_17 => ?_) (fun c_17 => ?_)
    · skip
      refine zr_iload_n i_Mod_whoIsIn_24 rfl ?_
      refine zr_istore_n i_Mod_whoIsIn_25 rfl ?_
      refine zn_iinc i_Mod_whoIsIn_26 rfl rfl ?_
      refine zr_goto 4 i_Mod_whoIsIn_29 (by decide) ?_
      (rw [whoL]; first | (rw [if_pos (by assumption)]; exact ih (i + 1) _ (by omega)) | (rw [if_neg (by assumption)]; exact ih (i + 1) _ (by omega)))
    · skip
      refine zr_iload_n i_Mod_whoIsIn_20 rfl ?_
      refine zr_goto 25 i_Mod_whoIsIn_21 (by decide) ?_
      refine zr_istore_n i_Mod_whoIsIn_25 rfl ?_
      refine zn_iinc i_Mod_whoIsIn_26 rfl rfl ?_
      refine zr_goto 4 i_Mod_whoIsIn_29 (by decide) ?_
      (rw [whoL]; first | (rw [if_pos (by assumption)]; exact ih (i + 1) _ (by omega)) | (rw [if_neg (by assumption)]; exact ih (i + 1) _ (by omega)))
theorem e_Mod_whoIsIn (X : zX) (d : Nat) (g : zH) (ms : zMS) (bed : Int32) : zR X d 126 0 (zent 4 [.ref 129, .int bed]) [] (mset g ms) (some (.int (nI (whoF (ms.2 19) bed))), mset g ms) := by
  refine zn_iconst 0 i_Mod_whoIsIn_0 (by decide) ?_
  refine zr_istore_n i_Mod_whoIsIn_1 rfl ?_
  refine zn_iconst 1 i_Mod_whoIsIn_2 (by decide) ?_
  refine zr_istore_n i_Mod_whoIsIn_3 rfl ?_
  exact l_Mod_whoIsIn X d g ms bed 99 1 0 rfl
theorem i_Mod_repetitions_0 : zins 129 0 = some (.iconst 1) := by decide +kernel
theorem i_Mod_repetitions_1 : zins 129 1 = some (.istore_n 2) := by decide +kernel
theorem i_Mod_repetitions_2 : zins 129 2 = some (.aload_n 0) := by decide +kernel
theorem i_Mod_repetitions_3 : zins 129 3 = some (.iconst 0) := by decide +kernel
theorem i_Mod_repetitions_4 : zins 129 4 = some (.iload_n 1) := by decide +kernel
theorem i_Mod_repetitions_5 : zins 129 5 = some (.iconst 2) := by decide +kernel
theorem i_Mod_repetitions_6 : zins 129 6 = some (.iload_n 2) := by decide +kernel
theorem i_Mod_repetitions_7 : zins 129 7 = some (.iconst 1) := by decide +kernel
theorem i_Mod_repetitions_8 : zins 129 8 = some (.iadd) := by decide +kernel
theorem i_Mod_repetitions_9 : zins 129 9 = some (.iconst 1) := by decide +kernel
theorem i_Mod_repetitions_10 : zins 129 10 = some (.invokevirtual 153) := by decide +kernel
theorem i_Mod_repetitions_13 : zins 129 13 = some (.ifCond .lt 9) := by decide +kernel
theorem i_Mod_repetitions_16 : zins 129 16 = some (.iinc 2 1) := by decide +kernel
theorem i_Mod_repetitions_19 : zins 129 19 = some (.goto (-17)) := by decide +kernel
theorem i_Mod_repetitions_22 : zins 129 22 = some (.iload_n 2) := by decide +kernel
theorem i_Mod_repetitions_23 : zins 129 23 = some (.ireturn) := by decide +kernel
def repL (V : Int32 → Int32 → Int32 → Int32 → zT) (s : Int32) (n k : Nat) : Nat := match k with
  | 0 => n
  | k + 1 => if V s 2 (nI (n + 1)) 1 = none then n else repL V s (n + 1) k
def repF (V : Int32 → Int32 → Int32 → Int32 → zT) (s : Nat) : Nat := repL V (nI s) 1 220
theorem repL_le (V : Int32 → Int32 → Int32 → Int32 → zT) (s : Int32) : ∀ k n, n ≤ repL V s n k ∧ repL V s n k ≤ n + k := by
  intro k
  induction k with
  | zero => intro n; exact ⟨Nat.le_refl _, Nat.le_refl _⟩
  | succ k ih =>
    intro n
    rw [repL]
    split
    · omega
    · have := ih (n + 1); omega
theorem mfind_lt {ms : zMS} {cnt : Nat} (h : mTV ms 0 cnt) {s f r c : Int32} : ∀ k, mfind ms 0 s f r c = some k → k < 2 ^ 31 := by
  intro k e
  unfold mfind at e
  rw [h.1, nI_clamp (by have := h.2.1; omega)] at e
  have := zfst_some e
  have := h.2.1
  omega
theorem l_Mod_repetitions (X : zX) (d : Nat) (g : zH) (ms : zMS) (cnt : Nat) (hT : mTV ms 0 cnt) (hR : ∀ s : Nat, mfind ms 0 (nI s) 2 (nI 222) 1 = none) (s : Nat) : ∀ (k n : Nat), n + k = 221 → zR X (d + 1) 129 2 [some (.ref 129), some (.int (nI s)), some (.int (nI n))] [] (mset g ms) (some (.int (nI (repL (mV ms) (nI s) n k))), mset g ms) := by
  intro k
  induction k with
  | zero =>
    intro n hik
    refine zr_aload_n i_Mod_repetitions_2 rfl ?_
    refine zn_iconst 0 i_Mod_repetitions_3 (by decide) ?_
    refine zr_iload_n i_Mod_repetitions_4 rfl ?_
    refine zr_iconst i_Mod_repetitions_5 (v := 2) (by decide) ?_
    refine zr_iload_n i_Mod_repetitions_6 rfl ?_
    refine zn_iconst 1 i_Mod_repetitions_7 (by decide) ?_
    refine zn_iadd i_Mod_repetitions_8 ?_
    refine zr_iconst i_Mod_repetitions_9 (v := 1) (by decide) ?_
    refine zr_cv5 i_Mod_repetitions_10 rfl (by decide) rfl (Nat.le_of_ble_eq_true rfl) (Nat.le_of_ble_eq_true rfl) (e_Mod_find X _ g ms 0 cnt _ _ _ _ (by decide) hT.1 hT.2.1) ?_
    refine zT_if_lt 22 i_Mod_repetitions_13 (by decide) (mfind_lt hT) (fun _ => ?_) (fun q => absurd q (by rw [show n = 221 by omega, hR]; decide))
    refine zr_iload_n i_Mod_repetitions_22 rfl ?_
    exact zR.retE i_Mod_repetitions_23 rfl rfl
  | succ k ih =>
    intro n hik
    refine zr_aload_n i_Mod_repetitions_2 rfl ?_
    refine zn_iconst 0 i_Mod_repetitions_3 (by decide) ?_
    refine zr_iload_n i_Mod_repetitions_4 rfl ?_
    refine zr_iconst i_Mod_repetitions_5 (v := 2) (by decide) ?_
    refine zr_iload_n i_Mod_repetitions_6 rfl ?_
    refine zn_iconst 1 i_Mod_repetitions_7 (by decide) ?_
    refine zn_iadd i_Mod_repetitions_8 ?_
    refine zr_iconst i_Mod_repetitions_9 (v := 1) (by decide) ?_
    refine zr_cv5 i_Mod_repetitions_10 rfl (by decide) rfl (Nat.le_of_ble_eq_true rfl) (Nat.le_of_ble_eq_true rfl) (e_Mod_find X _ g ms 0 cnt _ _ _ _ (by decide) hT.1 hT.2.1) ?_
    refine zT_if_lt 22 i_Mod_repetitions_13 (by decide) (mfind_lt hT) (fun c_13 => ?_) (fun c_13 => ?_)
    · skip
      refine zr_iload_n i_Mod_repetitions_22 rfl ?_
      exact zR.retE i_Mod_repetitions_23 rfl (by rw [repL, if_pos (show mV ms (nI s) 2 (nI (n + 1)) 1 = none from mtx_none.mpr c_13)])
    · skip
      refine zn_iinc i_Mod_repetitions_16 rfl rfl ?_
      refine zr_goto 2 i_Mod_repetitions_19 (by decide) ?_
      (rw [repL, if_neg (fun q => by rw [mtx_none.mp q] at c_13; cases c_13)]; exact ih (n + 1) (by omega))
theorem e_Mod_repetitions (X : zX) (d : Nat) (g : zH) (ms : zMS) (cnt : Nat) (hT : mTV ms 0 cnt) (hR : ∀ s : Nat, mfind ms 0 (nI s) 2 (nI 222) 1 = none) (s : Nat) : zR X (d + 1) 129 0 (zent 3 [.ref 129, .int (nI s)]) [] (mset g ms) (some (.int (nI (repF (mV ms) s))), mset g ms) := by
  refine zn_iconst 1 i_Mod_repetitions_0 (by decide) ?_
  refine zr_istore_n i_Mod_repetitions_1 rfl ?_
  exact l_Mod_repetitions X d g ms cnt hT hR s 220 1 rfl
