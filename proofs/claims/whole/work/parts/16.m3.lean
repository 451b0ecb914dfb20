/-! THE REFERENCE: texts -/
/-- a place in a table, or none: -1 -/
def tI (o : Option Nat) : Int32 := match o with
  | some k => nI k
  | none => -1
def moff (k : Nat) : Nat := if k < 220 then 0 else 200
/-- text k has ln letters, from b on in its half of the row of letters -/
def mtxt (ms : zMS) (k ln b : Nat) : Prop := k < 440 ∧ ms.2 11 k = nI ln ∧ ms.2 10 k = nI b ∧ moff k + b + ln ≤ 400 ∧ ∀ i, i < ln → narrow .char (.int (ms.2 12 (moff k + b + i))) = .int (ms.2 12 (moff k + b + i))
def mto (ms : zMS) (o : Option Nat) : Prop := match o with
  | none => True
  | some k => ∃ ln b, mtxt ms k ln b
def msz (ms : zMS) (o : Option Nat) : Nat := match o with
  | none => 0
  | some k => (ms.2 11 k).toNatClampNeg
def mch (ms : zMS) (o : Option Nat) (m : Nat) : Int32 := match o with
  | none => 0
  | some k => if m < (ms.2 11 k).toNatClampNeg then ms.2 12 (moff k + (ms.2 10 k).toNatClampNeg + m) else 0
theorem tI_neg : tI none < 0 := by decide
theorem msz_lt {ms : zMS} {o : Option Nat} (h : mto ms o) : msz ms o ≤ 400 := by
  cases o with
  | none => exact Nat.zero_le _
  | some k =>
    obtain ⟨ln, b, h1, h2, h3, h4, h5⟩ := h
    show (ms.2 11 k).toNatClampNeg ≤ 400
    rw [h2, nI_clamp (by omega)]
    omega
theorem i_Mod_sizeOf_0 : zins 116 0 = some (.iload_n 1) := by decide +kernel
theorem i_Mod_sizeOf_1 : zins 116 1 = some (.ifCond .ge 7) := by decide +kernel
theorem i_Mod_sizeOf_4 : zins 116 4 = some (.iconst 0) := by decide +kernel
theorem i_Mod_sizeOf_5 : zins 116 5 = some (.goto 9) := by decide +kernel
theorem i_Mod_sizeOf_8 : zins 116 8 = some (.aload_n 0) := by decide +kernel
theorem i_Mod_sizeOf_9 : zins 116 9 = some (.getfield 41) := by decide +kernel
theorem i_Mod_sizeOf_12 : zins 116 12 = some (.iload_n 1) := by decide +kernel
theorem i_Mod_sizeOf_13 : zins 116 13 = some (.iaload) := by decide +kernel
theorem i_Mod_sizeOf_14 : zins 116 14 = some (.ireturn) := by decide +kernel
theorem e_Mod_sizeOf (X : zX) (d : Nat) (g : zH) (ms : zMS) (o : Option Nat) (ho : mto ms o) : zR X d 116 0 (zent 2 [.ref 129, .int (tI o)]) [] (mset g ms) (some (.int (nI (msz ms o))), mset g ms) := by
  refine zr_iload_n i_Mod_sizeOf_0 rfl ?_
  cases o with
  | none =>
    refine zr_if_ge 8 i_Mod_sizeOf_1 (by decide) (fun q => absurd q (by decide)) (fun _ => ?_)
    refine zr_iconst i_Mod_sizeOf_4 (v := 0) (by decide) ?_
    refine zr_goto 14 i_Mod_sizeOf_5 (by decide) ?_
    exact zR.retE i_Mod_sizeOf_14 rfl rfl
  | some k =>
    obtain ⟨ln, b, h1, h2, h3, h4, h5⟩ := ho
    refine zr_if_ge 8 i_Mod_sizeOf_1 (by decide) (fun _ => ?_) (fun q => absurd (nI_pos' (show k < 2 ^ 31 by omega)) q)
    refine zr_aload_n i_Mod_sizeOf_8 rfl ?_
    refine zr_getf i_Mod_sizeOf_9 rfl rfl rfl ?_
    refine zr_iload_n i_Mod_sizeOf_12 rfl ?_
    refine zn_iaload (k := k) i_Mod_sizeOf_13 rfl h1 (by decide) ?_
    refine zR.retE i_Mod_sizeOf_14 rfl ?_
    show (some (Value.int (nI (ms.2 11 k).toNatClampNeg)), mset g ms) = (some (Value.int (ms.2 11 k)), mset g ms)
    rw [h2, nI_clamp (by omega)]
theorem i_Mod_charOf_0 : zins 117 0 = some (.iload_n 2) := by decide +kernel
theorem i_Mod_charOf_1 : zins 117 1 = some (.ifCond .lt 12) := by decide +kernel
theorem i_Mod_charOf_4 : zins 117 4 = some (.iload_n 2) := by decide +kernel
theorem i_Mod_charOf_5 : zins 117 5 = some (.aload_n 0) := by decide +kernel
theorem i_Mod_charOf_6 : zins 117 6 = some (.iload_n 1) := by decide +kernel
theorem i_Mod_charOf_7 : zins 117 7 = some (.invokevirtual 145) := by decide +kernel
theorem i_Mod_charOf_10 : zins 117 10 = some (.if_icmp .lt 5) := by decide +kernel
theorem i_Mod_charOf_13 : zins 117 13 = some (.iconst 0) := by decide +kernel
theorem i_Mod_charOf_14 : zins 117 14 = some (.ireturn) := by decide +kernel
theorem i_Mod_charOf_15 : zins 117 15 = some (.aload_n 0) := by decide +kernel
theorem i_Mod_charOf_16 : zins 117 16 = some (.getfield 44) := by decide +kernel
theorem i_Mod_charOf_19 : zins 117 19 = some (.iload_n 1) := by decide +kernel
theorem i_Mod_charOf_20 : zins 117 20 = some (.sipush 220) := by decide +kernel
theorem i_Mod_charOf_23 : zins 117 23 = some (.if_icmp .ge 7) := by decide +kernel
theorem i_Mod_charOf_26 : zins 117 26 = some (.iconst 0) := by decide +kernel
theorem i_Mod_charOf_27 : zins 117 27 = some (.goto 6) := by decide +kernel
theorem i_Mod_charOf_30 : zins 117 30 = some (.sipush 200) := by decide +kernel
theorem i_Mod_charOf_33 : zins 117 33 = some (.aload_n 0) := by decide +kernel
theorem i_Mod_charOf_34 : zins 117 34 = some (.getfield 38) := by decide +kernel
theorem i_Mod_charOf_37 : zins 117 37 = some (.iload_n 1) := by decide +kernel
theorem i_Mod_charOf_38 : zins 117 38 = some (.iaload) := by decide +kernel
theorem i_Mod_charOf_39 : zins 117 39 = some (.iadd) := by decide +kernel
theorem i_Mod_charOf_40 : zins 117 40 = some (.iload_n 2) := by decide +kernel
theorem i_Mod_charOf_41 : zins 117 41 = some (.iadd) := by decide +kernel
theorem i_Mod_charOf_42 : zins 117 42 = some (.caload) := by decide +kernel
theorem i_Mod_charOf_43 : zins 117 43 = some (.ireturn) := by decide +kernel
theorem e_Mod_charOf (X : zX) (d : Nat) (g : zH) (ms : zMS) (o : Option Nat) (ho : mto ms o) (m : Nat) (hm : m < 2 ^ 30) : zR X (d + 1) 117 0 (zent 3 [.ref 129, .int (tI o), .int (nI m)]) [] (mset g ms) (some (.int (mch ms o m)), mset g ms) := by
  have hz := msz_lt ho
  refine zr_iload_n i_Mod_charOf_0 rfl ?_
  refine zr_if_lt 13 i_Mod_charOf_1 (by decide) (fun q => absurd q (nI_pos (by omega))) (fun _ => ?_)
  refine zr_iload_n i_Mod_charOf_4 rfl ?_
  refine zr_aload_n i_Mod_charOf_5 rfl ?_
  refine zr_iload_n i_Mod_charOf_6 rfl ?_
  refine zr_cv1 i_Mod_charOf_7 rfl (by decide) rfl (Nat.le_of_ble_eq_true rfl) (Nat.le_of_ble_eq_true rfl) (e_Mod_sizeOf X d g ms o ho) ?_
  refine zn_icmp_lt 15 i_Mod_charOf_10 (by decide) (by omega) (by omega) (fun c_10 => ?_) (fun c_10 => ?_)
  · cases o with
    | none => exact absurd c_10 (Nat.not_lt_zero m)
    | some k =>
      obtain ⟨ln, b, h1, h2, h3, h4, h5⟩ := ho
      have hs : (ms.2 11 k).toNatClampNeg = ln := by rw [h2, nI_clamp (by omega)]
      have hb : (ms.2 10 k).toNatClampNeg = b := by rw [h3, nI_clamp (by omega)]
      have hml : m < ln := by rw [← hs]; exact c_10
      have hmo : moff k ≤ 200 := by unfold moff; split <;> omega
      refine zr_aload_n i_Mod_charOf_15 rfl ?_
      refine zr_getf i_Mod_charOf_16 rfl rfl rfl ?_
      refine zr_iload_n i_Mod_charOf_19 rfl ?_
      refine zn_sipush 220 i_Mod_charOf_20 (by decide) ?_
      have key : ∀ q : Nat, q = moff k → zR X (d + 1) 117 33 (zent 3 [.ref 129, .int (nI k), .int (nI m)]) [.int (nI q), .ref 141] (mset g ms) (some (.int (mch ms (some k) m)), mset g ms) := by
        intro q hq
        refine zr_aload_n i_Mod_charOf_33 rfl ?_
        refine zr_getf i_Mod_charOf_34 rfl rfl rfl ?_
        refine zr_iload_n i_Mod_charOf_37 rfl ?_
        refine zn_iaload (k := k) i_Mod_charOf_38 rfl h1 (by decide) ?_
        refine zr_top (y := nI b) h3 ?_
        refine zn_iadd i_Mod_charOf_39 ?_
        refine zr_iload_n i_Mod_charOf_40 rfl ?_
        refine zn_iadd i_Mod_charOf_41 ?_
        refine zn_caload (k := q + b + m) i_Mod_charOf_42 rfl (by omega) (by decide) ?_
        subst hq
        refine zR.retE i_Mod_charOf_43 (zretC (h5 m hml)) ?_
        show (some (Value.int (if m < (ms.2 11 k).toNatClampNeg then ms.2 12 (moff k + (ms.2 10 k).toNatClampNeg + m) else 0)), mset g ms) = _
        rw [hs, hb, if_pos hml]
      refine zn_icmp_ge 30 i_Mod_charOf_23 (by decide) (by omega) (by omega) (fun c_23 => ?_) (fun c_23 => ?_)
      · refine zn_sipush 200 i_Mod_charOf_30 (by decide) ?_
        exact key 200 (by unfold moff; rw [if_neg (by omega)])
      · refine zn_iconst 0 i_Mod_charOf_26 (by decide) ?_
        refine zr_goto 33 i_Mod_charOf_27 (by decide) ?_
        exact key 0 (by unfold moff; rw [if_pos c_23])
  · refine zr_iconst i_Mod_charOf_13 (v := 0) (by decide) ?_
    refine zR.retE i_Mod_charOf_14 (zretC zch0) ?_
    cases o with
    | none => rfl
    | some k =>
      show (some (Value.int (if m < (ms.2 11 k).toNatClampNeg then ms.2 12 (moff k + (ms.2 10 k).toNatClampNeg + m) else 0)), mset g ms) = _
      rw [if_neg (show ¬ m < (ms.2 11 k).toNatClampNeg from Nat.not_lt.mpr c_10)]
def mis (ms : zMS) (o : Option Nat) (a b c : Int32) : Bool := decide (msz ms o = 3) && (decide (mch ms o 0 = a) && (decide (mch ms o 1 = b) && decide (mch ms o 2 = c)))
theorem i_Mod_is_0 : zins 120 0 = some (.aload_n 0) := by decide +kernel
theorem i_Mod_is_1 : zins 120 1 = some (.iload_n 1) := by decide +kernel
theorem i_Mod_is_2 : zins 120 2 = some (.invokevirtual 145) := by decide +kernel
theorem i_Mod_is_5 : zins 120 5 = some (.iconst 3) := by decide +kernel
theorem i_Mod_is_6 : zins 120 6 = some (.if_icmp .ne 38) := by decide +kernel
theorem i_Mod_is_9 : zins 120 9 = some (.aload_n 0) := by decide +kernel
theorem i_Mod_is_10 : zins 120 10 = some (.iload_n 1) := by decide +kernel
theorem i_Mod_is_11 : zins 120 11 = some (.iconst 0) := by decide +kernel
theorem i_Mod_is_12 : zins 120 12 = some (.invokevirtual 149) := by decide +kernel
theorem i_Mod_is_15 : zins 120 15 = some (.iload_n 2) := by decide +kernel
theorem i_Mod_is_16 : zins 120 16 = some (.if_icmp .ne 28) := by decide +kernel
theorem i_Mod_is_19 : zins 120 19 = some (.aload_n 0) := by decide +kernel
theorem i_Mod_is_20 : zins 120 20 = some (.iload_n 1) := by decide +kernel
theorem i_Mod_is_21 : zins 120 21 = some (.iconst 1) := by decide +kernel
theorem i_Mod_is_22 : zins 120 22 = some (.invokevirtual 149) := by decide +kernel
theorem i_Mod_is_25 : zins 120 25 = some (.iload_n 3) := by decide +kernel
theorem i_Mod_is_26 : zins 120 26 = some (.if_icmp .ne 18) := by decide +kernel
theorem i_Mod_is_29 : zins 120 29 = some (.aload_n 0) := by decide +kernel
theorem i_Mod_is_30 : zins 120 30 = some (.iload_n 1) := by decide +kernel
theorem i_Mod_is_31 : zins 120 31 = some (.iconst 2) := by decide +kernel
theorem i_Mod_is_32 : zins 120 32 = some (.invokevirtual 149) := by decide +kernel
theorem i_Mod_is_35 : zins 120 35 = some (.iload 4) := by decide +kernel
theorem i_Mod_is_37 : zins 120 37 = some (.if_icmp .ne 7) := by decide +kernel
theorem i_Mod_is_40 : zins 120 40 = some (.iconst 1) := by decide +kernel
theorem i_Mod_is_41 : zins 120 41 = some (.goto 4) := by decide +kernel
theorem i_Mod_is_44 : zins 120 44 = some (.iconst 0) := by decide +kernel
theorem i_Mod_is_45 : zins 120 45 = some (.ireturn) := by decide +kernel
theorem e_Mod_is (X : zX) (d : Nat) (g : zH) (ms : zMS) (o : Option Nat) (ho : mto ms o) (a b c : Int32) : zR X (d + 2) 120 0 (zent 5 [.ref 129, .int (tI o), .int a, .int b, .int c]) [] (mset g ms) (some (.int (zb (mis ms o a b c))), mset g ms) := by
  have hz := msz_lt ho
  refine zr_aload_n i_Mod_is_0 rfl ?_
  refine zr_iload_n i_Mod_is_1 rfl ?_
  refine zr_cv1 i_Mod_is_2 rfl (by decide) rfl (Nat.le_of_ble_eq_true rfl) (Nat.le_of_ble_eq_true rfl) (e_Mod_sizeOf X (d + 1) g ms o ho) ?_
  refine zn_iconst 3 i_Mod_is_5 (by decide) ?_
  refine zn_icmp_ne 44 i_Mod_is_6 (by decide) (by omega) (by omega) (fun c_6 => ?_) (fun c_6 => ?_)
  · skip
    refine zr_iconst i_Mod_is_44 (v := 0) (by decide) ?_
    exact zR.retE i_Mod_is_45 rfl (by simp [zb, mis, *])
  · skip
    refine zr_aload_n i_Mod_is_9 rfl ?_
    refine zr_iload_n i_Mod_is_10 rfl ?_
    refine zn_iconst 0 i_Mod_is_11 (by decide) ?_
    refine zr_cv2 i_Mod_is_12 rfl (by decide) rfl (Nat.le_of_ble_eq_true rfl) (Nat.le_of_ble_eq_true rfl) (e_Mod_charOf X d g ms o ho 0 (by decide)) ?_
    refine zr_iload_n i_Mod_is_15 rfl ?_
    refine zr_icmp_ne 44 i_Mod_is_16 (by decide) (fun c_16 => ?_) (fun c_16 => ?_)
    · skip
      refine zr_iconst i_Mod_is_44 (v := 0) (by decide) ?_
      exact zR.retE i_Mod_is_45 rfl (by simp [zb, mis, *])
    · skip
      refine zr_aload_n i_Mod_is_19 rfl ?_
      refine zr_iload_n i_Mod_is_20 rfl ?_
      refine zn_iconst 1 i_Mod_is_21 (by decide) ?_
      refine zr_cv2 i_Mod_is_22 rfl (by decide) rfl (Nat.le_of_ble_eq_true rfl) (Nat.le_of_ble_eq_true rfl) (e_Mod_charOf X d g ms o ho 1 (by decide)) ?_
      refine zr_iload_n i_Mod_is_25 rfl ?_
      refine zr_icmp_ne 44 i_Mod_is_26 (by decide) (fun c_26 => ?_) (fun c_26 => ?_)
      · skip
        refine zr_iconst i_Mod_is_44 (v := 0) (by decide) ?_
        exact zR.retE i_Mod_is_45 rfl (by simp [zb, mis, *])
      · skip
        refine zr_aload_n i_Mod_is_29 rfl ?_
        refine zr_iload_n i_Mod_is_30 rfl ?_
        refine zn_iconst 2 i_Mod_is_31 (by decide) ?_
        refine zr_cv2 i_Mod_is_32 rfl (by decide) rfl (Nat.le_of_ble_eq_true rfl) (Nat.le_of_ble_eq_true rfl) (e_Mod_charOf X d g ms o ho 2 (by decide)) ?_
        refine zr_iload i_Mod_is_35 rfl ?_
        refine zr_icmp_ne 44 i_Mod_is_37 (by decide) (fun c_37 => ?_) (fun c_37 => ?_)
        · skip
          refine zr_iconst i_Mod_is_44 (v := 0) (by decide) ?_
          exact zR.retE i_Mod_is_45 rfl (by simp [zb, mis, *])
        · skip
          refine zr_iconst i_Mod_is_40 (v := 1) (by decide) ?_
          refine zr_goto 45 i_Mod_is_41 (by decide) ?_
          exact zR.retE i_Mod_is_45 rfl (by simp [zb, mis, *])
def mnull (ms : zMS) (o : Option Nat) : Bool := decide (msz ms o = 2) && (decide (mch ms o 0 = 34) && decide (mch ms o 1 = 34))
theorem i_Mod_isNull_0 : zins 130 0 = some (.aload_n 0) := by decide +kernel
theorem i_Mod_isNull_1 : zins 130 1 = some (.iload_n 1) := by decide +kernel
theorem i_Mod_isNull_2 : zins 130 2 = some (.invokevirtual 145) := by decide +kernel
theorem i_Mod_isNull_5 : zins 130 5 = some (.iconst 2) := by decide +kernel
theorem i_Mod_isNull_6 : zins 130 6 = some (.if_icmp .ne 29) := by decide +kernel
theorem i_Mod_isNull_9 : zins 130 9 = some (.aload_n 0) := by decide +kernel
theorem i_Mod_isNull_10 : zins 130 10 = some (.iload_n 1) := by decide +kernel
theorem i_Mod_isNull_11 : zins 130 11 = some (.iconst 0) := by decide +kernel
theorem i_Mod_isNull_12 : zins 130 12 = some (.invokevirtual 149) := by decide +kernel
theorem i_Mod_isNull_15 : zins 130 15 = some (.bipush 34) := by decide +kernel
theorem i_Mod_isNull_17 : zins 130 17 = some (.if_icmp .ne 18) := by decide +kernel
theorem i_Mod_isNull_20 : zins 130 20 = some (.aload_n 0) := by decide +kernel
theorem i_Mod_isNull_21 : zins 130 21 = some (.iload_n 1) := by decide +kernel
theorem i_Mod_isNull_22 : zins 130 22 = some (.iconst 1) := by decide +kernel
theorem i_Mod_isNull_23 : zins 130 23 = some (.invokevirtual 149) := by decide +kernel
theorem i_Mod_isNull_26 : zins 130 26 = some (.bipush 34) := by decide +kernel
theorem i_Mod_isNull_28 : zins 130 28 = some (.if_icmp .ne 7) := by decide +kernel
theorem i_Mod_isNull_31 : zins 130 31 = some (.iconst 1) := by decide +kernel
theorem i_Mod_isNull_32 : zins 130 32 = some (.goto 4) := by decide +kernel
theorem i_Mod_isNull_35 : zins 130 35 = some (.iconst 0) := by decide +kernel
theorem i_Mod_isNull_36 : zins 130 36 = some (.ireturn) := by decide +kernel
theorem e_Mod_isNull (X : zX) (d : Nat) (g : zH) (ms : zMS) (o : Option Nat) (ho : mto ms o) : zR X (d + 2) 130 0 (zent 2 [.ref 129, .int (tI o)]) [] (mset g ms) (some (.int (zb (mnull ms o))), mset g ms) := by
  have hz := msz_lt ho
  refine zr_aload_n i_Mod_isNull_0 rfl ?_
  refine zr_iload_n i_Mod_isNull_1 rfl ?_
  refine zr_cv1 i_Mod_isNull_2 rfl (by decide) rfl (Nat.le_of_ble_eq_true rfl) (Nat.le_of_ble_eq_true rfl) (e_Mod_sizeOf X (d + 1) g ms o ho) ?_
  refine zn_iconst 2 i_Mod_isNull_5 (by decide) ?_
  refine zn_icmp_ne 35 i_Mod_isNull_6 (by decide) (by omega) (by omega) (fun c_6 => ?_) (fun c_6 => ?_)
  · skip
    refine zr_iconst i_Mod_isNull_35 (v := 0) (by decide) ?_
    exact zR.retE i_Mod_isNull_36 rfl (by simp [zb, mnull, *])
  · skip
    refine zr_aload_n i_Mod_isNull_9 rfl ?_
    refine zr_iload_n i_Mod_isNull_10 rfl ?_
    refine zn_iconst 0 i_Mod_isNull_11 (by decide) ?_
    refine zr_cv2 i_Mod_isNull_12 rfl (by decide) rfl (Nat.le_of_ble_eq_true rfl) (Nat.le_of_ble_eq_true rfl) (e_Mod_charOf X d g ms o ho 0 (by decide)) ?_
    refine zr_bipush i_Mod_isNull_15 (v := 34) (by decide) ?_
    refine zr_icmp_ne 35 i_Mod_isNull_17 (by decide) (fun c_17 => ?_) (fun c_17 => ?_)
    · skip
      refine zr_iconst i_Mod_isNull_35 (v := 0) (by decide) ?_
      exact zR.retE i_Mod_isNull_36 rfl (by simp [zb, mnull, *])
    · skip
      refine zr_aload_n i_Mod_isNull_20 rfl ?_
      refine zr_iload_n i_Mod_isNull_21 rfl ?_
      refine zn_iconst 1 i_Mod_isNull_22 (by decide) ?_
      refine zr_cv2 i_Mod_isNull_23 rfl (by decide) rfl (Nat.le_of_ble_eq_true rfl) (Nat.le_of_ble_eq_true rfl) (e_Mod_charOf X d g ms o ho 1 (by decide)) ?_
      refine zr_bipush i_Mod_isNull_26 (v := 34) (by decide) ?_
      refine zr_icmp_ne 35 i_Mod_isNull_28 (by decide) (fun c_28 => ?_) (fun c_28 => ?_)
      · skip
        refine zr_iconst i_Mod_isNull_35 (v := 0) (by decide) ?_
        exact zR.retE i_Mod_isNull_36 rfl (by simp [zb, mnull, *])
      · skip
        refine zr_iconst i_Mod_isNull_31 (v := 1) (by decide) ?_
        refine zr_goto 36 i_Mod_isNull_32 (by decide) ?_
        exact zR.retE i_Mod_isNull_36 rfl (by simp [zb, mnull, *])
theorem i_Mod_find_0 : zins 115 0 = some (.sipush 220) := by decide +kernel
theorem i_Mod_find_3 : zins 115 3 = some (.iload_n 1) := by decide +kernel
theorem i_Mod_find_4 : zins 115 4 = some (.imul) := by decide +kernel
theorem i_Mod_find_5 : zins 115 5 = some (.istore 6) := by decide +kernel
theorem i_Mod_find_7 : zins 115 7 = some (.iload 6) := by decide +kernel
theorem i_Mod_find_9 : zins 115 9 = some (.sipush 220) := by decide +kernel
theorem i_Mod_find_12 : zins 115 12 = some (.iload_n 1) := by decide +kernel
theorem i_Mod_find_13 : zins 115 13 = some (.imul) := by decide +kernel
theorem i_Mod_find_14 : zins 115 14 = some (.aload_n 0) := by decide +kernel
theorem i_Mod_find_15 : zins 115 15 = some (.getfield 17) := by decide +kernel
theorem i_Mod_find_18 : zins 115 18 = some (.iload_n 1) := by decide +kernel
theorem i_Mod_find_19 : zins 115 19 = some (.iaload) := by decide +kernel
theorem i_Mod_find_20 : zins 115 20 = some (.iadd) := by decide +kernel
theorem i_Mod_find_21 : zins 115 21 = some (.if_icmp .ge 69) := by decide +kernel
theorem i_Mod_find_24 : zins 115 24 = some (.aload_n 0) := by decide +kernel
theorem i_Mod_find_25 : zins 115 25 = some (.getfield 23) := by decide +kernel
theorem i_Mod_find_28 : zins 115 28 = some (.iload 6) := by decide +kernel
theorem i_Mod_find_30 : zins 115 30 = some (.iaload) := by decide +kernel
theorem i_Mod_find_31 : zins 115 31 = some (.iload_n 2) := by decide +kernel
theorem i_Mod_find_32 : zins 115 32 = some (.if_icmp .ne 52) := by decide +kernel
theorem i_Mod_find_35 : zins 115 35 = some (.aload_n 0) := by decide +kernel
theorem i_Mod_find_36 : zins 115 36 = some (.getfield 26) := by decide +kernel
theorem i_Mod_find_39 : zins 115 39 = some (.iload 6) := by decide +kernel
theorem i_Mod_find_41 : zins 115 41 = some (.iaload) := by decide +kernel
theorem i_Mod_find_42 : zins 115 42 = some (.iload_n 3) := by decide +kernel
theorem i_Mod_find_43 : zins 115 43 = some (.if_icmp .ne 41) := by decide +kernel
theorem i_Mod_find_46 : zins 115 46 = some (.aload_n 0) := by decide +kernel
theorem i_Mod_find_47 : zins 115 47 = some (.getfield 29) := by decide +kernel
theorem i_Mod_find_50 : zins 115 50 = some (.iload 6) := by decide +kernel
theorem i_Mod_find_52 : zins 115 52 = some (.iaload) := by decide +kernel
theorem i_Mod_find_53 : zins 115 53 = some (.iload 4) := by decide +kernel
theorem i_Mod_find_55 : zins 115 55 = some (.if_icmp .ne 29) := by decide +kernel
theorem i_Mod_find_58 : zins 115 58 = some (.aload_n 0) := by decide +kernel
theorem i_Mod_find_59 : zins 115 59 = some (.getfield 32) := by decide +kernel
theorem i_Mod_find_62 : zins 115 62 = some (.iload 6) := by decide +kernel
theorem i_Mod_find_64 : zins 115 64 = some (.iaload) := by decide +kernel
theorem i_Mod_find_65 : zins 115 65 = some (.iload 5) := by decide +kernel
theorem i_Mod_find_67 : zins 115 67 = some (.if_icmp .ne 17) := by decide +kernel
theorem i_Mod_find_70 : zins 115 70 = some (.aload_n 0) := by decide +kernel
theorem i_Mod_find_71 : zins 115 71 = some (.getfield 35) := by decide +kernel
theorem i_Mod_find_74 : zins 115 74 = some (.iload 6) := by decide +kernel
theorem i_Mod_find_76 : zins 115 76 = some (.iaload) := by decide +kernel
theorem i_Mod_find_77 : zins 115 77 = some (.iconst 1) := by decide +kernel
theorem i_Mod_find_78 : zins 115 78 = some (.if_icmp .ne 6) := by decide +kernel
theorem i_Mod_find_81 : zins 115 81 = some (.iload 6) := by decide +kernel
theorem i_Mod_find_83 : zins 115 83 = some (.ireturn) := by decide +kernel
theorem i_Mod_find_84 : zins 115 84 = some (.iinc 6 1) := by decide +kernel
theorem i_Mod_find_87 : zins 115 87 = some (.goto (-80)) := by decide +kernel
theorem i_Mod_find_90 : zins 115 90 = some (.iconst (-1)) := by decide +kernel
theorem i_Mod_find_91 : zins 115 91 = some (.ireturn) := by decide +kernel
/-- the first place from i on, among k, of which P says so -/
def zfst (P : Nat → Bool) (i k : Nat) : Option Nat := match k with
  | 0 => none
  | k + 1 => if P i = true then some i else zfst P (i + 1) k
def mat (ms : zMS) (s f r c : Int32) (t : Nat) : Bool := decide (ms.2 5 t = s) && (decide (ms.2 6 t = f) && (decide (ms.2 7 t = r) && (decide (ms.2 8 t = c) && decide (ms.2 9 t = 1))))
def mfind (ms : zMS) (g : Nat) (s f r c : Int32) : Option Nat := zfst (mat ms s f r c) (220 * g) ((ms.2 3 g).toNatClampNeg)
theorem l_Mod_find (X : zX) (d : Nat) (g : zH) (ms : zMS) (q cnt : Nat) (s f r c : Int32) (hq : q < 2) (hc : ms.2 3 q = nI cnt) (hcl : cnt ≤ 220) : ∀ (k i : Nat), i + k = 220 * q + cnt → zR X d 115 7 [some (.ref 129), some (.int (nI q)), some (.int s), some (.int f), some (.int r), some (.int c), some (.int (nI i))] [] (mset g ms) (some (.int (tI (zfst (mat ms s f r c) i k))), mset g ms) := by
  intro k
  induction k with
  | zero =>
    intro i hik
    refine zr_iload i_Mod_find_7 rfl ?_
    refine zn_sipush 220 i_Mod_find_9 (by decide) ?_
    refine zr_iload_n i_Mod_find_12 rfl ?_
    refine zn_imul i_Mod_find_13 ?_
    refine zr_aload_n i_Mod_find_14 rfl ?_
    refine zr_getf i_Mod_find_15 rfl rfl rfl ?_
    refine zr_iload_n i_Mod_find_18 rfl ?_
    refine zn_iaload (k := q) i_Mod_find_19 rfl (by omega) (by decide) ?_
    refine zr_top (y := nI cnt) hc ?_
    refine zn_iadd i_Mod_find_20 ?_
    refine zn_icmp_ge 90 i_Mod_find_21 (by decide) (by omega) (by omega) (fun c_21 => ?_) (fun c_21 => absurd c_21 (by omega))
    refine zr_iconst i_Mod_find_90 (v := (-1)) (by decide) ?_
    exact zR.retE i_Mod_find_91 rfl rfl
  | succ k ih =>
    intro i hik
    have hi4 : i < 440 := by omega
    refine zr_iload i_Mod_find_7 rfl ?_
    refine zn_sipush 220 i_Mod_find_9 (by decide) ?_
    refine zr_iload_n i_Mod_find_12 rfl ?_
    refine zn_imul i_Mod_find_13 ?_
    refine zr_aload_n i_Mod_find_14 rfl ?_
    refine zr_getf i_Mod_find_15 rfl rfl rfl ?_
    refine zr_iload_n i_Mod_find_18 rfl ?_
    refine zn_iaload (k := q) i_Mod_find_19 rfl (by omega) (by decide) ?_
    refine zr_top (y := nI cnt) hc ?_
    refine zn_iadd i_Mod_find_20 ?_
    refine zn_icmp_ge 90 i_Mod_find_21 (by decide) (by omega) (by omega) (fun c_21 => absurd c_21 (by omega)) (fun c_21 => ?_)
    refine zr_aload_n i_Mod_find_24 rfl ?_
    refine zr_getf i_Mod_find_25 rfl rfl rfl ?_
    refine zr_iload i_Mod_find_28 rfl ?_
    refine zn_iaload i_Mod_find_30 rfl hi4 (by decide) ?_
    refine zr_iload_n i_Mod_find_31 rfl ?_
    refine zr_icmp_ne 84 i_Mod_find_32 (by decide) (fun c_32 => ?_) (fun c_32 => ?_)
    · skip
      refine zn_iinc i_Mod_find_84 rfl rfl ?_
      refine zr_goto 7 i_Mod_find_87 (by decide) ?_
      (rw [zfst, if_neg (by simp [mat, *])]; exact ih (i + 1) (by omega))
    · skip
      refine zr_aload_n i_Mod_find_35 rfl ?_
      refine zr_getf i_Mod_find_36 rfl rfl rfl ?_
      refine zr_iload i_Mod_find_39 rfl ?_
      refine zn_iaload i_Mod_find_41 rfl hi4 (by decide) ?_
      refine zr_iload_n i_Mod_find_42 rfl ?_
      refine zr_icmp_ne 84 i_Mod_find_43 (by decide) (fun c_43 => ?_) (fun c_43 => ?_)
      · skip
        refine zn_iinc i_Mod_find_84 rfl rfl ?_
        refine zr_goto 7 i_Mod_find_87 (by decide) ?_
        (rw [zfst, if_neg (by simp [mat, *])]; exact ih (i + 1) (by omega))
      · skip
        refine zr_aload_n i_Mod_find_46 rfl ?_
        refine zr_getf i_Mod_find_47 rfl rfl rfl ?_
        refine zr_iload i_Mod_find_50 rfl ?_
        refine zn_iaload i_Mod_find_52 rfl hi4 (by decide) ?_
        refine zr_iload i_Mod_find_53 rfl ?_
        refine zr_icmp_ne 84 i_Mod_find_55 (by decide) (fun c_55 => ?_) (fun c_55 => ?_)
        · skip
          refine zn_iinc i_Mod_find_84 rfl rfl ?_
          refine zr_goto 7 i_Mod_find_87 (by decide) ?_
          (rw [zfst, if_neg (by simp [mat, *])]; exact ih (i + 1) (by omega))
        · skip
          refine zr_aload_n i_Mod_find_58 rfl ?_
          refine zr_getf i_Mod_find_59 rfl rfl rfl ?_
          refine zr_iload i_Mod_find_62 rfl ?_
          refine zn_iaload i_Mod_find_64 rfl hi4 (by decide) ?_
          refine zr_iload i_Mod_find_65 rfl ?_
          refine zr_icmp_ne 84 i_Mod_find_67 (by decide) (fun c_67 => ?_) (fun c_67 => ?_)
          · skip
            refine zn_iinc i_Mod_find_84 rfl rfl ?_
            refine zr_goto 7 i_Mod_find_87 (by decide) ?_
            (rw [zfst, if_neg (by simp [mat, *])]; exact ih (i + 1) (by omega))
          · skip
            refine zr_aload_n i_Mod_find_70 rfl ?_
            refine zr_getf i_Mod_find_71 rfl rfl rfl ?_
            refine zr_iload i_Mod_find_74 rfl ?_
            refine zn_iaload i_Mod_find_76 rfl hi4 (by decide) ?_
            refine zr_iconst i_Mod_find_77 (v := 1) (by decide) ?_
            refine zr_icmp_ne 84 i_Mod_find_78 (by decide) (fun c_78 => ?_) (fun c_78 => ?_)
            · skip
              refine zn_iinc i_Mod_find_84 rfl rfl ?_
              refine zr_goto 7 i_Mod_find_87 (by decide) ?_
              (rw [zfst, if_neg (by simp [mat, *])]; exact ih (i + 1) (by omega))
            · skip
              refine zr_iload i_Mod_find_81 rfl ?_
              exact zR.retE i_Mod_find_83 rfl (by rw [zfst, if_pos (by simp [mat, *])]; rfl)
theorem e_Mod_find (X : zX) (d : Nat) (g : zH) (ms : zMS) (q cnt : Nat) (s f r c : Int32) (hq : q < 2) (hc : ms.2 3 q = nI cnt) (hcl : cnt ≤ 220) : zR X d 115 0 (zent 7 [.ref 129, .int (nI q), .int s, .int f, .int r, .int c]) [] (mset g ms) (some (.int (tI (mfind ms q s f r c))), mset g ms) := by
  refine zn_sipush 220 i_Mod_find_0 (by decide) ?_
  refine zr_iload_n i_Mod_find_3 rfl ?_
  refine zn_imul i_Mod_find_4 ?_
  refine zr_istore i_Mod_find_5 rfl ?_
  unfold mfind
  rw [hc, nI_clamp (by omega)]
  exact l_Mod_find X d g ms q cnt s f r c hq hc hcl cnt (220 * q) rfl
