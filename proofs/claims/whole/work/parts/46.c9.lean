/-! THE CLASS: the beds -/
def ocC (oc : Nat → Int32) : zC := .inl (0, 32, .inl oc)
def ptC (pt : Nat → Option Nat) : zC := .inl (5, 100, .inr (.inr (.inr (.inr pt))))
def isHo (h : zH) (oc : Nat → Int32) (pt : Nat → Option Nat) : Prop := h.2.2 104 = some (.inr (3, [.ref 105, .ref 106, .ref 107])) ∧ h.2.2 105 = some (ocC oc) ∧ h.2.2 106 = some (ptC pt)
def paO (b : Nat) (bed : Int32) : zC := .inr (8, [.ref (b + 1), .ref (b + 3), .ref (b + 5), .int bed])
def fndP (pt : Nat → Option Nat) (p : Int32) : Option Nat := if zpat p = true then pt p.toNatClampNeg else none
def cntL (oc : Nat → Int32) (i m c : Nat) : Nat := match m with
  | 0 => c
  | m + 1 => cntL oc (i + 1) m (if oc i = 0 then c else c + 1)
theorem i_Hosp_find_0 : zins 50 0 = some (.iload_n 1) := by decide +kernel
theorem i_Hosp_find_1 : zins 50 1 = some (.iconst 1) := by decide +kernel
theorem i_Hosp_find_2 : zins 50 2 = some (.if_icmp .lt 9) := by decide +kernel
theorem i_Hosp_find_5 : zins 50 5 = some (.iload_n 1) := by decide +kernel
theorem i_Hosp_find_6 : zins 50 6 = some (.bipush 99) := by decide +kernel
theorem i_Hosp_find_8 : zins 50 8 = some (.if_icmp .le 7) := by decide +kernel
theorem i_Hosp_find_11 : zins 50 11 = some (.aconst_null) := by decide +kernel
theorem i_Hosp_find_12 : zins 50 12 = some (.goto 9) := by decide +kernel
theorem i_Hosp_find_15 : zins 50 15 = some (.aload_n 0) := by decide +kernel
theorem i_Hosp_find_16 : zins 50 16 = some (.getfield 17) := by decide +kernel
theorem i_Hosp_find_19 : zins 50 19 = some (.iload_n 1) := by decide +kernel
theorem i_Hosp_find_20 : zins 50 20 = some (.aaload) := by decide +kernel
theorem i_Hosp_find_21 : zins 50 21 = some (.areturn) := by decide +kernel
theorem e_Hosp_find (X : zX) (d : Nat) (h : zH) (oc : Nat → Int32) (pt : Nat → Option Nat) (hH : isHo h oc pt) (p : Int32) : zR X d 50 0 (zent 2 [.ref 104, .int p]) [] h (some (va_rf (fndP pt p)), h) := by
  unfold fndP
  cases hp : zpat p with
  | true =>
    obtain ⟨k, k1, k2, rfl⟩ := zpat_nI hp
    rw [if_pos rfl, nI_clamp (by omega)]
    cases e : pt k with
    | none =>
      refine zr_iload_n i_Hosp_find_0 rfl ?_
      refine zn_iconst 1 i_Hosp_find_1 (by decide) ?_
      refine zn_icmp_lt 11 i_Hosp_find_2 (by decide) (by omega) (by omega) (fun q => absurd q (by omega)) (fun c_2 => ?_)
      refine zr_iload_n i_Hosp_find_5 rfl ?_
      refine zn_bipush 99 i_Hosp_find_6 (by decide) ?_
      refine zn_icmp_le 15 i_Hosp_find_8 (by decide) (by omega) (by omega) (fun c_8 => ?_) (fun q => absurd q (by omega))
      refine zr_aload_n i_Hosp_find_15 rfl ?_
      refine zr_getf i_Hosp_find_16 hH.1 rfl rfl ?_
      refine zr_iload_n i_Hosp_find_19 rfl ?_
      refine zn_aaload i_Hosp_find_20 hH.2.2 (by omega) (by decide) ?_
      rw [e]
      exact zR.retE i_Hosp_find_21 rfl rfl
    | some b =>
      refine zr_iload_n i_Hosp_find_0 rfl ?_
      refine zn_iconst 1 i_Hosp_find_1 (by decide) ?_
      refine zn_icmp_lt 11 i_Hosp_find_2 (by decide) (by omega) (by omega) (fun q => absurd q (by omega)) (fun c_2 => ?_)
      refine zr_iload_n i_Hosp_find_5 rfl ?_
      refine zn_bipush 99 i_Hosp_find_6 (by decide) ?_
      refine zn_icmp_le 15 i_Hosp_find_8 (by decide) (by omega) (by omega) (fun c_8 => ?_) (fun q => absurd q (by omega))
      refine zr_aload_n i_Hosp_find_15 rfl ?_
      refine zr_getf i_Hosp_find_16 hH.1 rfl rfl ?_
      refine zr_iload_n i_Hosp_find_19 rfl ?_
      refine zn_aaload i_Hosp_find_20 hH.2.2 (by omega) (by decide) ?_
      rw [e]
      exact zR.retE i_Hosp_find_21 rfl rfl
  | false =>
    rw [if_neg (by decide)]
    have hp2 : p < 1 ∨ 99 < p := by
      by_cases h1 : p < 1
      · exact Or.inl h1
      · by_cases h2 : 99 < p
        · exact Or.inr h2
        · exfalso
          simp [zpat, h1, h2] at hp
    refine zr_iload_n i_Hosp_find_0 rfl ?_
    refine zr_iconst i_Hosp_find_1 (v := 1) (by decide) ?_
    refine zr_icmp_lt 11 i_Hosp_find_2 (by decide) (fun c_2 => ?_) (fun c_2 => ?_)
    · skip
      refine zr_anull i_Hosp_find_11 ?_
      refine zr_goto 21 i_Hosp_find_12 (by decide) ?_
      exact zR.retE i_Hosp_find_21 rfl rfl
    · skip
      refine zr_iload_n i_Hosp_find_5 rfl ?_
      refine zr_bipush i_Hosp_find_6 (v := 99) (by decide) ?_
      refine zr_icmp_le 15 i_Hosp_find_8 (by decide) (fun c_8 => ?_) (fun c_8 => ?_)
      · skip
        exact hp2.elim (fun q => absurd q c_2) (fun q => absurd q (Int32.not_lt.mpr c_8))
      · skip
        refine zr_anull i_Hosp_find_11 ?_
        refine zr_goto 21 i_Hosp_find_12 (by decide) ?_
        exact zR.retE i_Hosp_find_21 rfl rfl
theorem i_Hosp_patientIn_0 : zins 51 0 = some (.iload_n 1) := by decide +kernel
theorem i_Hosp_patientIn_1 : zins 51 1 = some (.ifCond .lt 12) := by decide +kernel
theorem i_Hosp_patientIn_4 : zins 51 4 = some (.iload_n 1) := by decide +kernel
theorem i_Hosp_patientIn_5 : zins 51 5 = some (.aload_n 0) := by decide +kernel
theorem i_Hosp_patientIn_6 : zins 51 6 = some (.getfield 9) := by decide +kernel
theorem i_Hosp_patientIn_9 : zins 51 9 = some (.arraylength) := by decide +kernel
theorem i_Hosp_patientIn_10 : zins 51 10 = some (.if_icmp .lt 7) := by decide +kernel
theorem i_Hosp_patientIn_13 : zins 51 13 = some (.iconst (-1)) := by decide +kernel
theorem i_Hosp_patientIn_14 : zins 51 14 = some (.goto 9) := by decide +kernel
theorem i_Hosp_patientIn_17 : zins 51 17 = some (.aload_n 0) := by decide +kernel
theorem i_Hosp_patientIn_18 : zins 51 18 = some (.getfield 9) := by decide +kernel
theorem i_Hosp_patientIn_21 : zins 51 21 = some (.iload_n 1) := by decide +kernel
theorem i_Hosp_patientIn_22 : zins 51 22 = some (.iaload) := by decide +kernel
theorem i_Hosp_patientIn_23 : zins 51 23 = some (.ireturn) := by decide +kernel
theorem e_Hosp_patientIn (X : zX) (d : Nat) (h : zH) (oc : Nat → Int32) (pt : Nat → Option Nat) (hH : isHo h oc pt) (i : Int32) : zR X d 51 0 (zent 2 [.ref 104, .int i]) [] h (some (.int (getF oc 32 i)), h) := by
  rcases pk_ix i (n := 32) (by omega) with q | q | ⟨j, hj, q⟩
  · rw [getF_neg q]
    refine zr_iload_n i_Hosp_patientIn_0 rfl ?_
    refine zr_if_lt 13 i_Hosp_patientIn_1 (by decide) (fun _ => ?_) (fun z => absurd q z)
    refine zr_iconst i_Hosp_patientIn_13 (v := (-1)) (by decide) ?_
    refine zr_goto 23 i_Hosp_patientIn_14 (by decide) ?_
    exact zR.retE i_Hosp_patientIn_23 rfl rfl
  · rw [getF_ge q]
    have h0 : ¬ i < 0 := fun z => absurd (Int32.lt_of_le_of_lt q z) (nI_pos (by omega))
    refine zr_iload_n i_Hosp_patientIn_0 rfl ?_
    refine zr_if_lt 13 i_Hosp_patientIn_1 (by decide) (fun q => absurd q h0) (fun _ => ?_)
    refine zr_iload_n i_Hosp_patientIn_4 rfl ?_
    refine zr_aload_n i_Hosp_patientIn_5 rfl ?_
    refine zr_getf i_Hosp_patientIn_6 hH.1 rfl rfl ?_
    refine zr_len i_Hosp_patientIn_9 hH.2.1 (by decide) (rfl : _ = nI 32) ?_
    refine zr_icmp_lt 17 i_Hosp_patientIn_10 (by decide) (fun z => absurd z (Int32.not_lt.mpr q)) (fun c_10 => ?_)
    refine zr_iconst i_Hosp_patientIn_13 (v := (-1)) (by decide) ?_
    refine zr_goto 23 i_Hosp_patientIn_14 (by decide) ?_
    exact zR.retE i_Hosp_patientIn_23 rfl rfl
  · rw [q, getF_in hj (by omega)]
    refine zr_iload_n i_Hosp_patientIn_0 rfl ?_
    refine zN_if_lt 13 i_Hosp_patientIn_1 (by decide) (by omega) ?_
    refine zr_iload_n i_Hosp_patientIn_4 rfl ?_
    refine zr_aload_n i_Hosp_patientIn_5 rfl ?_
    refine zr_getf i_Hosp_patientIn_6 hH.1 rfl rfl ?_
    refine zr_len i_Hosp_patientIn_9 hH.2.1 (by decide) (rfl : _ = nI 32) ?_
    refine zn_icmp_lt 17 i_Hosp_patientIn_10 (by decide) (by omega) (by omega) (fun c_10 => ?_) (fun q => absurd q (by omega))
    refine zr_aload_n i_Hosp_patientIn_17 rfl ?_
    refine zr_getf i_Hosp_patientIn_18 hH.1 rfl rfl ?_
    refine zr_iload_n i_Hosp_patientIn_21 rfl ?_
    refine zn_iaload i_Hosp_patientIn_22 hH.2.1 (by omega) (by decide) ?_
    exact zR.retE i_Hosp_patientIn_23 rfl rfl
theorem i_Hosp_countInBeds_0 : zins 62 0 = some (.iconst 0) := by decide +kernel
theorem i_Hosp_countInBeds_1 : zins 62 1 = some (.istore_n 1) := by decide +kernel
theorem i_Hosp_countInBeds_2 : zins 62 2 = some (.iconst 0) := by decide +kernel
theorem i_Hosp_countInBeds_3 : zins 62 3 = some (.istore_n 2) := by decide +kernel
theorem i_Hosp_countInBeds_4 : zins 62 4 = some (.iload_n 2) := by decide +kernel
theorem i_Hosp_countInBeds_5 : zins 62 5 = some (.aload_n 0) := by decide +kernel
theorem i_Hosp_countInBeds_6 : zins 62 6 = some (.getfield 9) := by decide +kernel
theorem i_Hosp_countInBeds_9 : zins 62 9 = some (.arraylength) := by decide +kernel
theorem i_Hosp_countInBeds_10 : zins 62 10 = some (.if_icmp .ge 21) := by decide +kernel
theorem i_Hosp_countInBeds_13 : zins 62 13 = some (.aload_n 0) := by decide +kernel
theorem i_Hosp_countInBeds_14 : zins 62 14 = some (.getfield 9) := by decide +kernel
theorem i_Hosp_countInBeds_17 : zins 62 17 = some (.iload_n 2) := by decide +kernel
theorem i_Hosp_countInBeds_18 : zins 62 18 = some (.iaload) := by decide +kernel
theorem i_Hosp_countInBeds_19 : zins 62 19 = some (.ifCond .eq 6) := by decide +kernel
theorem i_Hosp_countInBeds_22 : zins 62 22 = some (.iinc 1 1) := by decide +kernel
theorem i_Hosp_countInBeds_25 : zins 62 25 = some (.iinc 2 1) := by decide +kernel
theorem i_Hosp_countInBeds_28 : zins 62 28 = some (.goto (-24)) := by decide +kernel
theorem i_Hosp_countInBeds_31 : zins 62 31 = some (.iload_n 1) := by decide +kernel
theorem i_Hosp_countInBeds_32 : zins 62 32 = some (.ireturn) := by decide +kernel
theorem l_Hosp_countInBeds (X : zX) (d : Nat) (h : zH) (oc : Nat → Int32) (pt : Nat → Option Nat) (hH : isHo h oc pt) : ∀ (m i c : Nat), i + m = 32 → zR X d 62 4 [some (.ref 104), some (.int (nI c)), some (.int (nI i))] [] h (some (.int (nI (cntL oc i m c))), h) := by
  intro m
  induction m with
  | zero =>
    intro i c him
    refine zr_iload_n i_Hosp_countInBeds_4 rfl ?_
    refine zr_aload_n i_Hosp_countInBeds_5 rfl ?_
    refine zr_getf i_Hosp_countInBeds_6 hH.1 rfl rfl ?_
    refine zr_len i_Hosp_countInBeds_9 hH.2.1 (by decide) (rfl : _ = nI 32) ?_
    refine zn_icmp_ge 31 i_Hosp_countInBeds_10 (by decide) (by omega) (by omega) (fun c_10 => ?_) (fun q => absurd q (by omega))
    refine zr_iload_n i_Hosp_countInBeds_31 rfl ?_
    exact zR.retE i_Hosp_countInBeds_32 rfl rfl
  | succ m ih =>
    intro i c him
    rw [cntL]
    by_cases h0 : oc i = 0
    · rw [if_pos h0]
      refine zr_iload_n i_Hosp_countInBeds_4 rfl ?_
      refine zr_aload_n i_Hosp_countInBeds_5 rfl ?_
      refine zr_getf i_Hosp_countInBeds_6 hH.1 rfl rfl ?_
      refine zr_len i_Hosp_countInBeds_9 hH.2.1 (by decide) (rfl : _ = nI 32) ?_
      refine zn_icmp_ge 31 i_Hosp_countInBeds_10 (by decide) (by omega) (by omega) (fun q => absurd q (by omega)) (fun c_10 => ?_)
      refine zr_aload_n i_Hosp_countInBeds_13 rfl ?_
      refine zr_getf i_Hosp_countInBeds_14 hH.1 rfl rfl ?_
      refine zr_iload_n i_Hosp_countInBeds_17 rfl ?_
      refine zn_iaload i_Hosp_countInBeds_18 hH.2.1 (by omega) (by decide) ?_
      refine zr_if_eq 25 i_Hosp_countInBeds_19 (by decide) (fun _ => ?_) (fun q => absurd h0 q)
      refine zn_iinc i_Hosp_countInBeds_25 rfl rfl ?_
      refine zr_goto 4 i_Hosp_countInBeds_28 (by decide) ?_
      exact ih _ _ (by omega)
    · rw [if_neg h0]
      refine zr_iload_n i_Hosp_countInBeds_4 rfl ?_
      refine zr_aload_n i_Hosp_countInBeds_5 rfl ?_
      refine zr_getf i_Hosp_countInBeds_6 hH.1 rfl rfl ?_
      refine zr_len i_Hosp_countInBeds_9 hH.2.1 (by decide) (rfl : _ = nI 32) ?_
      refine zn_icmp_ge 31 i_Hosp_countInBeds_10 (by decide) (by omega) (by omega) (fun q => absurd q (by omega)) (fun c_10 => ?_)
      refine zr_aload_n i_Hosp_countInBeds_13 rfl ?_
      refine zr_getf i_Hosp_countInBeds_14 hH.1 rfl rfl ?_
      refine zr_iload_n i_Hosp_countInBeds_17 rfl ?_
      refine zn_iaload i_Hosp_countInBeds_18 hH.2.1 (by omega) (by decide) ?_
      refine zr_if_eq 25 i_Hosp_countInBeds_19 (by decide) (fun q => absurd q h0) (fun _ => ?_)
      refine zn_iinc i_Hosp_countInBeds_22 rfl rfl ?_
      refine zn_iinc i_Hosp_countInBeds_25 rfl rfl ?_
      refine zr_goto 4 i_Hosp_countInBeds_28 (by decide) ?_
      exact ih _ _ (by omega)
theorem e_Hosp_countInBeds (X : zX) (d : Nat) (h : zH) (oc : Nat → Int32) (pt : Nat → Option Nat) (hH : isHo h oc pt) : zR X d 62 0 (zent 3 [.ref 104]) [] h (some (.int (nI (cntL oc 0 32 0))), h) := by
  refine zn_iconst 0 i_Hosp_countInBeds_0 (by decide) ?_
  refine zr_istore_n i_Hosp_countInBeds_1 rfl ?_
  refine zn_iconst 0 i_Hosp_countInBeds_2 (by decide) ?_
  refine zr_istore_n i_Hosp_countInBeds_3 rfl ?_
  exact l_Hosp_countInBeds X d h oc pt hH 32 0 0 rfl
theorem i_Hosp_putInBed_0 : zins 52 0 = some (.iload_n 3) := by decide +kernel
theorem i_Hosp_putInBed_1 : zins 52 1 = some (.ifCond .lt 24) := by decide +kernel
theorem i_Hosp_putInBed_4 : zins 52 4 = some (.iload_n 3) := by decide +kernel
theorem i_Hosp_putInBed_5 : zins 52 5 = some (.aload_n 0) := by decide +kernel
theorem i_Hosp_putInBed_6 : zins 52 6 = some (.getfield 9) := by decide +kernel
theorem i_Hosp_putInBed_9 : zins 52 9 = some (.arraylength) := by decide +kernel
theorem i_Hosp_putInBed_10 : zins 52 10 = some (.if_icmp .ge 15) := by decide +kernel
theorem i_Hosp_putInBed_13 : zins 52 13 = some (.aload_n 0) := by decide +kernel
theorem i_Hosp_putInBed_14 : zins 52 14 = some (.getfield 9) := by decide +kernel
theorem i_Hosp_putInBed_17 : zins 52 17 = some (.iload_n 3) := by decide +kernel
theorem i_Hosp_putInBed_18 : zins 52 18 = some (.iload_n 1) := by decide +kernel
theorem i_Hosp_putInBed_19 : zins 52 19 = some (.iastore) := by decide +kernel
theorem i_Hosp_putInBed_20 : zins 52 20 = some (.aload_n 2) := by decide +kernel
theorem i_Hosp_putInBed_21 : zins 52 21 = some (.iload_n 3) := by decide +kernel
theorem i_Hosp_putInBed_22 : zins 52 22 = some (.putfield 82) := by decide +kernel
theorem i_Hosp_putInBed_25 : zins 52 25 = some (.return_) := by decide +kernel
theorem e_Hosp_putInBed (X : zX) (d : Nat) (h : zH) (oc : Nat → Int32) (pt : Nat → Option Nat) (hH : isHo h oc pt) (b : Nat) (bed : Int32) (hP : h.2.2 b = some (paO b bed)) (hb5 : b ≠ 105) (x : Int32) (k : Nat) (hk : k < 32) : zR X d 52 0 (zent 4 [.ref 104, .int x, .ref b, .int (nI k)]) [] h (none, zwr (zwr h 105 (ocC (upd oc k x))) b (paO b (nI k))) := by
  refine zr_iload_n i_Hosp_putInBed_0 rfl ?_
  refine zN_if_lt 25 i_Hosp_putInBed_1 (by decide) (by omega) ?_
  refine zr_iload_n i_Hosp_putInBed_4 rfl ?_
  refine zr_aload_n i_Hosp_putInBed_5 rfl ?_
  refine zr_getf i_Hosp_putInBed_6 hH.1 rfl rfl ?_
  refine zr_len i_Hosp_putInBed_9 hH.2.1 (by decide) (rfl : _ = nI 32) ?_
  refine zn_icmp_ge 25 i_Hosp_putInBed_10 (by decide) (by omega) (by omega) (fun q => absurd q (by omega)) (fun c_10 => ?_)
  refine zr_aload_n i_Hosp_putInBed_13 rfl ?_
  refine zr_getf i_Hosp_putInBed_14 hH.1 rfl rfl ?_
  refine zr_iload_n i_Hosp_putInBed_17 rfl ?_
  refine zr_iload_n i_Hosp_putInBed_18 rfl ?_
  refine zn_iastore i_Hosp_putInBed_19 hH.2.1 (by omega) (by decide) ?_
  refine zr_aload_n i_Hosp_putInBed_20 rfl ?_
  refine zr_iload_n i_Hosp_putInBed_21 rfl ?_
  refine zr_putf i_Hosp_putInBed_22 ((zwr_ne hb5).trans hP) rfl (Nat.le_of_ble_eq_true rfl) rfl (Or.inl rfl) ?_
  exact zR.retE i_Hosp_putInBed_25 rfl rfl
theorem i_Hosp_emptyBedOf_0 : zins 56 0 = some (.aload_n 1) := by decide +kernel
theorem i_Hosp_emptyBedOf_1 : zins 56 1 = some (.getfield 82) := by decide +kernel
theorem i_Hosp_emptyBedOf_4 : zins 56 4 = some (.ifCond .lt 25) := by decide +kernel
theorem i_Hosp_emptyBedOf_7 : zins 56 7 = some (.aload_n 1) := by decide +kernel
theorem i_Hosp_emptyBedOf_8 : zins 56 8 = some (.getfield 82) := by decide +kernel
theorem i_Hosp_emptyBedOf_11 : zins 56 11 = some (.aload_n 0) := by decide +kernel
theorem i_Hosp_emptyBedOf_12 : zins 56 12 = some (.getfield 9) := by decide +kernel
theorem i_Hosp_emptyBedOf_15 : zins 56 15 = some (.arraylength) := by decide +kernel
theorem i_Hosp_emptyBedOf_16 : zins 56 16 = some (.if_icmp .ge 13) := by decide +kernel
theorem i_Hosp_emptyBedOf_19 : zins 56 19 = some (.aload_n 0) := by decide +kernel
theorem i_Hosp_emptyBedOf_20 : zins 56 20 = some (.getfield 9) := by decide +kernel
theorem i_Hosp_emptyBedOf_23 : zins 56 23 = some (.aload_n 1) := by decide +kernel
theorem i_Hosp_emptyBedOf_24 : zins 56 24 = some (.getfield 82) := by decide +kernel
theorem i_Hosp_emptyBedOf_27 : zins 56 27 = some (.iconst 0) := by decide +kernel
theorem i_Hosp_emptyBedOf_28 : zins 56 28 = some (.iastore) := by decide +kernel
theorem i_Hosp_emptyBedOf_29 : zins 56 29 = some (.aload_n 1) := by decide +kernel
theorem i_Hosp_emptyBedOf_30 : zins 56 30 = some (.iconst (-1)) := by decide +kernel
theorem i_Hosp_emptyBedOf_31 : zins 56 31 = some (.putfield 82) := by decide +kernel
theorem i_Hosp_emptyBedOf_34 : zins 56 34 = some (.return_) := by decide +kernel
theorem e_Hosp_emptyBedOf (X : zX) (d : Nat) (h : zH) (oc : Nat → Int32) (pt : Nat → Option Nat) (hH : isHo h oc pt) (b k : Nat) (hk : k < 32) (hP : h.2.2 b = some (paO b (nI k))) (hb5 : b ≠ 105) : zR X d 56 0 (zent 2 [.ref 104, .ref b]) [] h (none, zwr (zwr h 105 (ocC (upd oc k 0))) b (paO b (-1))) := by
  refine zr_aload_n i_Hosp_emptyBedOf_0 rfl ?_
  refine zr_getf i_Hosp_emptyBedOf_1 hP rfl rfl ?_
  refine zN_if_lt 29 i_Hosp_emptyBedOf_4 (by decide) (by omega) ?_
  refine zr_aload_n i_Hosp_emptyBedOf_7 rfl ?_
  refine zr_getf i_Hosp_emptyBedOf_8 hP rfl rfl ?_
  refine zr_aload_n i_Hosp_emptyBedOf_11 rfl ?_
  refine zr_getf i_Hosp_emptyBedOf_12 hH.1 rfl rfl ?_
  refine zr_len i_Hosp_emptyBedOf_15 hH.2.1 (by decide) (rfl : _ = nI 32) ?_
  refine zn_icmp_ge 29 i_Hosp_emptyBedOf_16 (by decide) (by omega) (by omega) (fun q => absurd q (by omega)) (fun c_16 => ?_)
  refine zr_aload_n i_Hosp_emptyBedOf_19 rfl ?_
  refine zr_getf i_Hosp_emptyBedOf_20 hH.1 rfl rfl ?_
  refine zr_aload_n i_Hosp_emptyBedOf_23 rfl ?_
  refine zr_getf i_Hosp_emptyBedOf_24 hP rfl rfl ?_
  refine zr_iconst i_Hosp_emptyBedOf_27 (v := 0) (by decide) ?_
  refine zn_iastore i_Hosp_emptyBedOf_28 hH.2.1 (by omega) (by decide) ?_
  refine zr_aload_n i_Hosp_emptyBedOf_29 rfl ?_
  refine zr_iconst i_Hosp_emptyBedOf_30 (v := (-1)) (by decide) ?_
  refine zr_putf i_Hosp_emptyBedOf_31 ((zwr_ne hb5).trans hP) rfl (Nat.le_of_ble_eq_true rfl) rfl (Or.inl rfl) ?_
  exact zR.retE i_Hosp_emptyBedOf_34 rfl rfl
