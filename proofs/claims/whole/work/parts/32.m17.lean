/-! THE REFERENCE: what is asked of it -/
/-- the place i of a row of which n places are filled; -1 outside -/
def getF (f : Nat → Int32) (n : Nat) (i : Int32) : Int32 := if 0 ≤ i ∧ i < nI n then f i.toNatClampNeg else -1
theorem getF_neg {f : Nat → Int32} {n : Nat} {i : Int32} (h : i < 0) : getF f n i = -1 := if_neg (fun q => absurd h (Int32.not_lt.mpr q.1))
theorem getF_ge {f : Nat → Int32} {n : Nat} {i : Int32} (h : nI n ≤ i) : getF f n i = -1 := if_neg (fun q => absurd q.2 (Int32.not_lt.mpr h))
theorem getF_in {f : Nat → Int32} {n j : Nat} (h : j < n) (hn : n < 2 ^ 31) : getF f n (nI j) = f j := by
  unfold getF
  rw [if_pos ⟨nI_pos' (by omega), nI_lt h hn⟩, nI_clamp (by omega)]
theorem zpat_nI {p : Int32} (h : zpat p = true) : ∃ k, 1 ≤ k ∧ k ≤ 99 ∧ p = nI k := by
  unfold zpat at h
  simp only [Bool.and_eq_true, Bool.not_eq_true', decide_eq_false_iff_not] at h
  exact i32_rng (a := 1) (b := 99) (m := 1) (n := 99) rfl rfl (by decide) (by decide) h.1 h.2
theorem i_Mod_reason_0 : zins 144 0 = some (.aload_n 0) := by decide +kernel
theorem i_Mod_reason_1 : zins 144 1 = some (.getfield 237) := by decide +kernel
theorem i_Mod_reason_4 : zins 144 4 = some (.ifCond .eq 10) := by decide +kernel
theorem i_Mod_reason_7 : zins 144 7 = some (.aload_n 0) := by decide +kernel
theorem i_Mod_reason_8 : zins 144 8 = some (.getfield 248) := by decide +kernel
theorem i_Mod_reason_11 : zins 144 11 = some (.goto 4) := by decide +kernel
theorem i_Mod_reason_14 : zins 144 14 = some (.iconst (-1)) := by decide +kernel
theorem i_Mod_reason_15 : zins 144 15 = some (.ireturn) := by decide +kernel
theorem e_Mod_reason (X : zX) (d : Nat) (g : zH) (ms : zMS) : zR X (d + 2) 144 0 (zent 1 [.ref 129]) [] (mset g ms) (some (.int (if ms.1 2 = 0 then -1 else ms.1 3)), mset g ms) := by
  refine zr_aload_n i_Mod_reason_0 rfl ?_
  refine zr_getf i_Mod_reason_1 rfl rfl rfl ?_
  refine zr_if_eq 14 i_Mod_reason_4 (by decide) (fun c_4 => ?_) (fun c_4 => ?_)
  · skip
    refine zr_iconst i_Mod_reason_14 (v := (-1)) (by decide) ?_
    exact zR.retE i_Mod_reason_15 rfl (by simp [*])
  · skip
    refine zr_aload_n i_Mod_reason_7 rfl ?_
    refine zr_getf i_Mod_reason_8 rfl rfl rfl ?_
    refine zr_goto 15 i_Mod_reason_11 (by decide) ?_
    exact zR.retE i_Mod_reason_15 rfl (by simp [*])
theorem i_Mod_replayed_0 : zins 145 0 = some (.aload_n 0) := by decide +kernel
theorem i_Mod_replayed_1 : zins 145 1 = some (.getfield 241) := by decide +kernel
theorem i_Mod_replayed_4 : zins 145 4 = some (.ireturn) := by decide +kernel
theorem e_Mod_replayed (X : zX) (d : Nat) (g : zH) (ms : zMS) (b : Bool) (hb : ms.1 4 = zb b) : zR X (d + 2) 145 0 (zent 1 [.ref 129]) [] (mset g ms) (some (.int (zb b)), mset g ms) := by
  refine zr_aload_n i_Mod_replayed_0 rfl ?_
  refine zr_getf i_Mod_replayed_1 rfl rfl rfl ?_
  refine zr_top (y := zb b) hb ?_
  exact zR.retE i_Mod_replayed_4 (zretB _) rfl
theorem i_Mod_receiptLength_0 : zins 146 0 = some (.aload_n 0) := by decide +kernel
theorem i_Mod_receiptLength_1 : zins 146 1 = some (.getfield 224) := by decide +kernel
theorem i_Mod_receiptLength_4 : zins 146 4 = some (.ireturn) := by decide +kernel
theorem e_Mod_receiptLength (X : zX) (d : Nat) (g : zH) (ms : zMS) : zR X (d + 2) 146 0 (zent 1 [.ref 129]) [] (mset g ms) (some (.int (ms.1 5)), mset g ms) := by
  refine zr_aload_n i_Mod_receiptLength_0 rfl ?_
  refine zr_getf i_Mod_receiptLength_1 rfl rfl rfl ?_
  exact zR.retE i_Mod_receiptLength_4 rfl rfl
theorem i_Mod_segments_0 : zins 156 0 = some (.aload_n 0) := by decide +kernel
theorem i_Mod_segments_1 : zins 156 1 = some (.getfield 13) := by decide +kernel
theorem i_Mod_segments_4 : zins 156 4 = some (.iconst 1) := by decide +kernel
theorem i_Mod_segments_5 : zins 156 5 = some (.iaload) := by decide +kernel
theorem i_Mod_segments_6 : zins 156 6 = some (.ireturn) := by decide +kernel
theorem e_Mod_segments (X : zX) (d : Nat) (g : zH) (ms : zMS) : zR X (d + 2) 156 0 (zent 1 [.ref 129]) [] (mset g ms) (some (.int (ms.2 2 1)), mset g ms) := by
  refine zr_aload_n i_Mod_segments_0 rfl ?_
  refine zr_getf i_Mod_segments_1 rfl rfl rfl ?_
  refine zn_iconst 1 i_Mod_segments_4 (by decide) ?_
  refine zn_iaload i_Mod_segments_5 rfl (by omega) (by decide) ?_
  exact zR.retE i_Mod_segments_6 rfl rfl
theorem i_Mod_receipt_0 : zins 147 0 = some (.iload_n 1) := by decide +kernel
theorem i_Mod_receipt_1 : zins 147 1 = some (.ifCond .lt 11) := by decide +kernel
theorem i_Mod_receipt_4 : zins 147 4 = some (.iload_n 1) := by decide +kernel
theorem i_Mod_receipt_5 : zins 147 5 = some (.aload_n 0) := by decide +kernel
theorem i_Mod_receipt_6 : zins 147 6 = some (.getfield 224) := by decide +kernel
theorem i_Mod_receipt_9 : zins 147 9 = some (.if_icmp .lt 7) := by decide +kernel
theorem i_Mod_receipt_12 : zins 147 12 = some (.iconst (-1)) := by decide +kernel
theorem i_Mod_receipt_13 : zins 147 13 = some (.goto 9) := by decide +kernel
theorem i_Mod_receipt_16 : zins 147 16 = some (.aload_n 0) := by decide +kernel
theorem i_Mod_receipt_17 : zins 147 17 = some (.getfield 53) := by decide +kernel
theorem i_Mod_receipt_20 : zins 147 20 = some (.iload_n 1) := by decide +kernel
theorem i_Mod_receipt_21 : zins 147 21 = some (.caload) := by decide +kernel
theorem i_Mod_receipt_22 : zins 147 22 = some (.ireturn) := by decide +kernel
theorem e_Mod_receipt (X : zX) (d : Nat) (g : zH) (ms : zMS) (ln : Nat) (hl : ms.1 5 = nI ln) (hl2 : ln ≤ 64) (i : Int32) : zR X (d + 2) 147 0 (zent 2 [.ref 129, .int i]) [] (mset g ms) (some (.int (getF (ms.2 15) ln i)), mset g ms) := by
  rcases pk_ix i (n := ln) (by omega) with h | h | ⟨j, hj, h⟩
  · rw [getF_neg h]
    refine zr_iload_n i_Mod_receipt_0 rfl ?_
    refine zr_if_lt 12 i_Mod_receipt_1 (by decide) (fun _ => ?_) (fun q => absurd h q)
    refine zr_iconst i_Mod_receipt_12 (v := (-1)) (by decide) ?_
    refine zr_goto 22 i_Mod_receipt_13 (by decide) ?_
    exact zR.retE i_Mod_receipt_22 rfl rfl
  · rw [getF_ge h]
    have h0 : ¬ i < 0 := fun q => absurd (Int32.lt_of_le_of_lt h q) (nI_pos (by omega))
    refine zr_iload_n i_Mod_receipt_0 rfl ?_
    refine zr_if_lt 12 i_Mod_receipt_1 (by decide) (fun q => absurd q h0) (fun _ => ?_)
    refine zr_iload_n i_Mod_receipt_4 rfl ?_
    refine zr_aload_n i_Mod_receipt_5 rfl ?_
    refine zr_getf i_Mod_receipt_6 rfl rfl rfl ?_
    refine zr_top (y := nI ln) hl ?_
    refine zr_icmp_lt 16 i_Mod_receipt_9 (by decide) (fun q => absurd q (Int32.not_lt.mpr h)) (fun c_9 => ?_)
    refine zr_iconst i_Mod_receipt_12 (v := (-1)) (by decide) ?_
    refine zr_goto 22 i_Mod_receipt_13 (by decide) ?_
    exact zR.retE i_Mod_receipt_22 rfl rfl
  · rw [h, getF_in hj (by omega)]
    refine zr_iload_n i_Mod_receipt_0 rfl ?_
    refine zN_if_lt 12 i_Mod_receipt_1 (by decide) (by omega) ?_
    refine zr_iload_n i_Mod_receipt_4 rfl ?_
    refine zr_aload_n i_Mod_receipt_5 rfl ?_
    refine zr_getf i_Mod_receipt_6 rfl rfl rfl ?_
    refine zr_top (y := nI ln) hl ?_
    refine zn_icmp_lt 16 i_Mod_receipt_9 (by decide) (by omega) (by omega) (fun c_9 => ?_) (fun q => absurd q (by omega))
    refine zr_aload_n i_Mod_receipt_16 rfl ?_
    refine zr_getf i_Mod_receipt_17 rfl rfl rfl ?_
    refine zr_iload_n i_Mod_receipt_20 rfl ?_
    refine zn_caload i_Mod_receipt_21 rfl (by omega) (by decide) ?_
    exact zR.retE i_Mod_receipt_22 rfl rfl
theorem i_Mod_bedOf_0 : zins 149 0 = some (.iload_n 1) := by decide +kernel
theorem i_Mod_bedOf_1 : zins 149 1 = some (.invokestatic 276) := by decide +kernel
theorem i_Mod_bedOf_4 : zins 149 4 = some (.ifCond .eq 12) := by decide +kernel
theorem i_Mod_bedOf_7 : zins 149 7 = some (.aload_n 0) := by decide +kernel
theorem i_Mod_bedOf_8 : zins 149 8 = some (.getfield 66) := by decide +kernel
theorem i_Mod_bedOf_11 : zins 149 11 = some (.iload_n 1) := by decide +kernel
theorem i_Mod_bedOf_12 : zins 149 12 = some (.iaload) := by decide +kernel
theorem i_Mod_bedOf_13 : zins 149 13 = some (.goto 4) := by decide +kernel
theorem i_Mod_bedOf_16 : zins 149 16 = some (.iconst (-1)) := by decide +kernel
theorem i_Mod_bedOf_17 : zins 149 17 = some (.ireturn) := by decide +kernel
theorem e_Mod_bedOf (X : zX) (d : Nat) (g : zH) (ms : zMS) (p : Int32) : zR X (d + 2) 149 0 (zent 2 [.ref 129, .int p]) [] (mset g ms) (some (.int (if zpat p = true then ms.2 19 p.toNatClampNeg else -1)), mset g ms) := by
  cases hp : zpat p with
  | true =>
    obtain ⟨k, k1, k2, rfl⟩ := zpat_nI hp
    rw [if_pos rfl, nI_clamp (by omega)]
    refine zr_iload_n i_Mod_bedOf_0 rfl ?_
    refine zr_cs1 i_Mod_bedOf_1 rfl (by decide) (Nat.le_of_ble_eq_true rfl) (Nat.le_of_ble_eq_true rfl) (e_Mod_isPatient X _ _ _) ?_
    refine zB_if_eq 16 i_Mod_bedOf_4 (by decide) (fun q => absurd q (by rw [hp]; decide)) (fun _ => ?_)
    refine zr_aload_n i_Mod_bedOf_7 rfl ?_
    refine zr_getf i_Mod_bedOf_8 rfl rfl rfl ?_
    refine zr_iload_n i_Mod_bedOf_11 rfl ?_
    refine zn_iaload i_Mod_bedOf_12 rfl (by omega) (by decide) ?_
    refine zr_goto 17 i_Mod_bedOf_13 (by decide) ?_
    exact zR.retE i_Mod_bedOf_17 rfl rfl
  | false =>
    rw [if_neg (by decide)]
    refine zr_iload_n i_Mod_bedOf_0 rfl ?_
    refine zr_cs1 i_Mod_bedOf_1 rfl (by decide) (Nat.le_of_ble_eq_true rfl) (Nat.le_of_ble_eq_true rfl) (e_Mod_isPatient X _ _ _) ?_
    refine zB_if_eq 16 i_Mod_bedOf_4 (by decide) (fun _ => ?_) (fun q => absurd q (by rw [hp]; decide))
    refine zr_iconst i_Mod_bedOf_16 (v := (-1)) (by decide) ?_
    exact zR.retE i_Mod_bedOf_17 rfl rfl
theorem i_Mod_results_0 : zins 155 0 = some (.iload_n 1) := by decide +kernel
theorem i_Mod_results_1 : zins 155 1 = some (.invokestatic 276) := by decide +kernel
theorem i_Mod_results_4 : zins 155 4 = some (.ifCond .eq 12) := by decide +kernel
theorem i_Mod_results_7 : zins 155 7 = some (.aload_n 0) := by decide +kernel
theorem i_Mod_results_8 : zins 155 8 = some (.getfield 75) := by decide +kernel
theorem i_Mod_results_11 : zins 155 11 = some (.iload_n 1) := by decide +kernel
theorem i_Mod_results_12 : zins 155 12 = some (.iaload) := by decide +kernel
theorem i_Mod_results_13 : zins 155 13 = some (.goto 4) := by decide +kernel
theorem i_Mod_results_16 : zins 155 16 = some (.iconst 0) := by decide +kernel
theorem i_Mod_results_17 : zins 155 17 = some (.ireturn) := by decide +kernel
theorem e_Mod_results (X : zX) (d : Nat) (g : zH) (ms : zMS) (p : Int32) : zR X (d + 2) 155 0 (zent 2 [.ref 129, .int p]) [] (mset g ms) (some (.int (if zpat p = true then ms.2 22 p.toNatClampNeg else 0)), mset g ms) := by
  cases hp : zpat p with
  | true =>
    obtain ⟨k, k1, k2, rfl⟩ := zpat_nI hp
    rw [if_pos rfl, nI_clamp (by omega)]
    refine zr_iload_n i_Mod_results_0 rfl ?_
    refine zr_cs1 i_Mod_results_1 rfl (by decide) (Nat.le_of_ble_eq_true rfl) (Nat.le_of_ble_eq_true rfl) (e_Mod_isPatient X _ _ _) ?_
    refine zB_if_eq 16 i_Mod_results_4 (by decide) (fun q => absurd q (by rw [hp]; decide)) (fun _ => ?_)
    refine zr_aload_n i_Mod_results_7 rfl ?_
    refine zr_getf i_Mod_results_8 rfl rfl rfl ?_
    refine zr_iload_n i_Mod_results_11 rfl ?_
    refine zn_iaload i_Mod_results_12 rfl (by omega) (by decide) ?_
    refine zr_goto 17 i_Mod_results_13 (by decide) ?_
    exact zR.retE i_Mod_results_17 rfl rfl
  | false =>
    rw [if_neg (by decide)]
    refine zr_iload_n i_Mod_results_0 rfl ?_
    refine zr_cs1 i_Mod_results_1 rfl (by decide) (Nat.le_of_ble_eq_true rfl) (Nat.le_of_ble_eq_true rfl) (e_Mod_isPatient X _ _ _) ?_
    refine zB_if_eq 16 i_Mod_results_4 (by decide) (fun _ => ?_) (fun q => absurd q (by rw [hp]; decide))
    refine zr_iconst i_Mod_results_16 (v := 0) (by decide) ?_
    exact zR.retE i_Mod_results_17 rfl rfl
theorem i_Mod_known_0 : zins 152 0 = some (.iload_n 1) := by decide +kernel
theorem i_Mod_known_1 : zins 152 1 = some (.invokestatic 276) := by decide +kernel
theorem i_Mod_known_4 : zins 152 4 = some (.ifCond .eq 16) := by decide +kernel
theorem i_Mod_known_7 : zins 152 7 = some (.aload_n 0) := by decide +kernel
theorem i_Mod_known_8 : zins 152 8 = some (.getfield 62) := by decide +kernel
theorem i_Mod_known_11 : zins 152 11 = some (.iload_n 1) := by decide +kernel
theorem i_Mod_known_12 : zins 152 12 = some (.baload) := by decide +kernel
theorem i_Mod_known_13 : zins 152 13 = some (.ifCond .eq 7) := by decide +kernel
theorem i_Mod_known_16 : zins 152 16 = some (.iconst 1) := by decide +kernel
theorem i_Mod_known_17 : zins 152 17 = some (.goto 4) := by decide +kernel
theorem i_Mod_known_20 : zins 152 20 = some (.iconst 0) := by decide +kernel
theorem i_Mod_known_21 : zins 152 21 = some (.ireturn) := by decide +kernel
theorem e_Mod_known (X : zX) (d : Nat) (g : zH) (ms : zMS) (p : Int32) : zR X (d + 2) 152 0 (zent 2 [.ref 129, .int p]) [] (mset g ms) (some (.int (zb (zpat p && !decide (ms.2 18 p.toNatClampNeg = 0)))), mset g ms) := by
  cases hp : zpat p with
  | true =>
    obtain ⟨k, k1, k2, rfl⟩ := zpat_nI hp
    rw [nI_clamp (by omega)]
    refine zr_iload_n i_Mod_known_0 rfl ?_
    refine zr_cs1 i_Mod_known_1 rfl (by decide) (Nat.le_of_ble_eq_true rfl) (Nat.le_of_ble_eq_true rfl) (e_Mod_isPatient X _ _ _) ?_
    refine zB_if_eq 20 i_Mod_known_4 (by decide) (fun q => absurd q (by rw [hp]; decide)) (fun _ => ?_)
    refine zr_aload_n i_Mod_known_7 rfl ?_
    refine zr_getf i_Mod_known_8 rfl rfl rfl ?_
    refine zr_iload_n i_Mod_known_11 rfl ?_
    refine zn_baload i_Mod_known_12 rfl (by omega) (by decide) ?_
    refine zr_if_eq 20 i_Mod_known_13 (by decide) (fun c_13 => ?_) (fun c_13 => ?_)
    · skip
      refine zr_iconst i_Mod_known_20 (v := 0) (by decide) ?_
      exact zR.retE i_Mod_known_21 rfl (by simp [*, zb])
    · skip
      refine zr_iconst i_Mod_known_16 (v := 1) (by decide) ?_
      refine zr_goto 21 i_Mod_known_17 (by decide) ?_
      exact zR.retE i_Mod_known_21 rfl (by simp [*, zb])
  | false =>
    refine zr_iload_n i_Mod_known_0 rfl ?_
    refine zr_cs1 i_Mod_known_1 rfl (by decide) (Nat.le_of_ble_eq_true rfl) (Nat.le_of_ble_eq_true rfl) (e_Mod_isPatient X _ _ _) ?_
    refine zB_if_eq 20 i_Mod_known_4 (by decide) (fun _ => ?_) (fun q => absurd q (by rw [hp]; decide))
    refine zr_iconst i_Mod_known_20 (v := 0) (by decide) ?_
    exact zR.retE i_Mod_known_21 rfl rfl
theorem i_Mod_inBeds_0 : zins 151 0 = some (.iconst 0) := by decide +kernel
theorem i_Mod_inBeds_1 : zins 151 1 = some (.istore_n 1) := by decide +kernel
theorem i_Mod_inBeds_2 : zins 151 2 = some (.iconst 1) := by decide +kernel
theorem i_Mod_inBeds_3 : zins 151 3 = some (.istore_n 2) := by decide +kernel
theorem i_Mod_inBeds_4 : zins 151 4 = some (.iload_n 2) := by decide +kernel
theorem i_Mod_inBeds_5 : zins 151 5 = some (.bipush 100) := by decide +kernel
theorem i_Mod_inBeds_7 : zins 151 7 = some (.if_icmp .ge 26) := by decide +kernel
theorem i_Mod_inBeds_10 : zins 151 10 = some (.iload_n 1) := by decide +kernel
theorem i_Mod_inBeds_11 : zins 151 11 = some (.aload_n 0) := by decide +kernel
theorem i_Mod_inBeds_12 : zins 151 12 = some (.getfield 66) := by decide +kernel
theorem i_Mod_inBeds_15 : zins 151 15 = some (.iload_n 2) := by decide +kernel
theorem i_Mod_inBeds_16 : zins 151 16 = some (.iaload) := by decide +kernel
theorem i_Mod_inBeds_17 : zins 151 17 = some (.ifCond .lt 7) := by decide +kernel
theorem i_Mod_inBeds_20 : zins 151 20 = some (.iconst 1) := by decide +kernel
theorem i_Mod_inBeds_21 : zins 151 21 = some (.goto 4) := by decide +kernel
theorem i_Mod_inBeds_24 : zins 151 24 = some (.iconst 0) := by decide +kernel
theorem i_Mod_inBeds_25 : zins 151 25 = some (.iadd) := by decide +kernel
theorem i_Mod_inBeds_26 : zins 151 26 = some (.istore_n 1) := by decide +kernel
theorem i_Mod_inBeds_27 : zins 151 27 = some (.iinc 2 1) := by decide +kernel
theorem i_Mod_inBeds_30 : zins 151 30 = some (.goto (-26)) := by decide +kernel
theorem i_Mod_inBeds_33 : zins 151 33 = some (.iload_n 1) := by decide +kernel
theorem i_Mod_inBeds_34 : zins 151 34 = some (.ireturn) := by decide +kernel
def inL (b : Nat → Int32) (i k c : Nat) : Nat := match k with
  | 0 => c
  | k + 1 => inL b (i + 1) k (if b i < 0 then c else c + 1)
theorem l_Mod_inBeds (X : zX) (d : Nat) (g : zH) (ms : zMS) : ∀ (k i c : Nat), i + k = 100 → zR X d 151 4 [some (.ref 129), some (.int (nI c)), some (.int (nI i))] [] (mset g ms) (some (.int (nI (inL (ms.2 19) i k c))), mset g ms) := by
  intro k
  induction k with
  | zero =>
    intro i c hik
    refine zr_iload_n i_Mod_inBeds_4 rfl ?_
    refine zn_bipush 100 i_Mod_inBeds_5 (by decide) ?_
    refine zn_icmp_ge 33 i_Mod_inBeds_7 (by decide) (by omega) (by omega) (fun c_7 => ?_) (fun q => absurd q (by omega))
    refine zr_iload_n i_Mod_inBeds_33 rfl ?_
    exact zR.retE i_Mod_inBeds_34 rfl rfl
  | succ k ih =>
    intro i c hik
    refine zr_iload_n i_Mod_inBeds_4 rfl ?_
    refine zn_bipush 100 i_Mod_inBeds_5 (by decide) ?_
    refine zn_icmp_ge 33 i_Mod_inBeds_7 (by decide) (by omega) (by omega) (fun q => absurd q (by omega)) (fun c_7 => ?_)
    refine zr_iload_n i_Mod_inBeds_10 rfl ?_
    refine zr_aload_n i_Mod_inBeds_11 rfl ?_
    refine zr_getf i_Mod_inBeds_12 rfl rfl rfl ?_
    refine zr_iload_n i_Mod_inBeds_15 rfl ?_
    refine zn_iaload i_Mod_inBeds_16 rfl (by omega) (by decide) ?_
    refine zr_if_lt 24 i_Mod_inBeds_17 (by decide) (fun c_17 => ?_) (fun c_17 => ?_)
    · skip
      refine zn_iconst 0 i_Mod_inBeds_24 (by decide) ?_
      refine zn_iadd i_Mod_inBeds_25 ?_
      refine zr_istore_n i_Mod_inBeds_26 rfl ?_
      refine zn_iinc i_Mod_inBeds_27 rfl rfl ?_
      refine zr_goto 4 i_Mod_inBeds_30 (by decide) ?_
      (rw [inL]; first | (rw [if_pos (by assumption)]; exact ih (i + 1) _ (by omega)) | (rw [if_neg (by assumption)]; exact ih (i + 1) _ (by omega)))
    · skip
      refine zn_iconst 1 i_Mod_inBeds_20 (by decide) ?_
      refine zr_goto 25 i_Mod_inBeds_21 (by decide) ?_
      refine zn_iadd i_Mod_inBeds_25 ?_
      refine zr_istore_n i_Mod_inBeds_26 rfl ?_
      refine zn_iinc i_Mod_inBeds_27 rfl rfl ?_
      refine zr_goto 4 i_Mod_inBeds_30 (by decide) ?_
      (rw [inL]; first | (rw [if_pos (by assumption)]; exact ih (i + 1) _ (by omega)) | (rw [if_neg (by assumption)]; exact ih (i + 1) _ (by omega)))
theorem e_Mod_inBeds (X : zX) (d : Nat) (g : zH) (ms : zMS) : zR X (d + 2) 151 0 (zent 3 [.ref 129]) [] (mset g ms) (some (.int (nI (inL (ms.2 19) 1 99 0))), mset g ms) := by
  refine zn_iconst 0 i_Mod_inBeds_0 (by decide) ?_
  refine zr_istore_n i_Mod_inBeds_1 rfl ?_
  refine zn_iconst 1 i_Mod_inBeds_2 (by decide) ?_
  refine zr_istore_n i_Mod_inBeds_3 rfl ?_
  exact l_Mod_inBeds X _ g ms 99 1 0 rfl
theorem i_Mod_patient_0 : zins 148 0 = some (.iload_n 1) := by decide +kernel
theorem i_Mod_patient_1 : zins 148 1 = some (.ifCond .lt 18) := by decide +kernel
theorem i_Mod_patient_4 : zins 148 4 = some (.iload_n 1) := by decide +kernel
theorem i_Mod_patient_5 : zins 148 5 = some (.iconst 3) := by decide +kernel
theorem i_Mod_patient_6 : zins 148 6 = some (.if_icmp .gt 13) := by decide +kernel
theorem i_Mod_patient_9 : zins 148 9 = some (.iload_n 2) := by decide +kernel
theorem i_Mod_patient_10 : zins 148 10 = some (.ifCond .lt 9) := by decide +kernel
theorem i_Mod_patient_13 : zins 148 13 = some (.iload_n 2) := by decide +kernel
theorem i_Mod_patient_14 : zins 148 14 = some (.bipush 7) := by decide +kernel
theorem i_Mod_patient_16 : zins 148 16 = some (.if_icmp .le 7) := by decide +kernel
theorem i_Mod_patient_19 : zins 148 19 = some (.iconst (-1)) := by decide +kernel
theorem i_Mod_patient_20 : zins 148 20 = some (.goto 13) := by decide +kernel
theorem i_Mod_patient_23 : zins 148 23 = some (.aload_n 0) := by decide +kernel
theorem i_Mod_patient_24 : zins 148 24 = some (.bipush 8) := by decide +kernel
theorem i_Mod_patient_26 : zins 148 26 = some (.iload_n 1) := by decide +kernel
theorem i_Mod_patient_27 : zins 148 27 = some (.imul) := by decide +kernel
theorem i_Mod_patient_28 : zins 148 28 = some (.iload_n 2) := by decide +kernel
theorem i_Mod_patient_29 : zins 148 29 = some (.iadd) := by decide +kernel
theorem i_Mod_patient_30 : zins 148 30 = some (.invokevirtual 208) := by decide +kernel
theorem i_Mod_patient_33 : zins 148 33 = some (.ireturn) := by decide +kernel
def patQ (b : Nat → Int32) (w d : Int32) : Int32 := if (¬ w < 0 ∧ ¬ 3 < w) ∧ ¬ d < 0 ∧ d ≤ 7 then nI (whoF b (8 * w + d)) else -1
theorem e_Mod_patient (X : zX) (d : Nat) (g : zH) (ms : zMS) (w b : Int32) : zR X (d + 2) 148 0 (zent 3 [.ref 129, .int w, .int b]) [] (mset g ms) (some (.int (patQ (ms.2 19) w b)), mset g ms) := by
  refine zr_iload_n i_Mod_patient_0 rfl ?_
  refine zr_if_lt 19 i_Mod_patient_1 (by decide) (fun c_1 => ?_) (fun c_1 => ?_)
  · skip
    refine zr_iconst i_Mod_patient_19 (v := (-1)) (by decide) ?_
    refine zr_goto 33 i_Mod_patient_20 (by decide) ?_
    exact zR.retE i_Mod_patient_33 rfl (by unfold patQ; first | (rw [if_pos ⟨⟨by assumption, by assumption⟩, by assumption, by assumption⟩]; done) | (rw [if_neg (fun q => absurd c_1 q.1.1)]; done) | (rw [if_neg (fun q => absurd c_6 q.1.2)]; done) | (rw [if_neg (fun q => absurd c_10 q.2.1)]; done) | (rw [if_neg (fun q => absurd q.2.2 c_16)]; done))
  · skip
    refine zr_iload_n i_Mod_patient_4 rfl ?_
    refine zr_iconst i_Mod_patient_5 (v := 3) (by decide) ?_
    refine zr_icmp_gt 19 i_Mod_patient_6 (by decide) (fun c_6 => ?_) (fun c_6 => ?_)
    · skip
      refine zr_iconst i_Mod_patient_19 (v := (-1)) (by decide) ?_
      refine zr_goto 33 i_Mod_patient_20 (by decide) ?_
      exact zR.retE i_Mod_patient_33 rfl (by unfold patQ; first | (rw [if_pos ⟨⟨by assumption, by assumption⟩, by assumption, by assumption⟩]; done) | (rw [if_neg (fun q => absurd c_1 q.1.1)]; done) | (rw [if_neg (fun q => absurd c_6 q.1.2)]; done) | (rw [if_neg (fun q => absurd c_10 q.2.1)]; done) | (rw [if_neg (fun q => absurd q.2.2 c_16)]; done))
    · skip
      refine zr_iload_n i_Mod_patient_9 rfl ?_
      refine zr_if_lt 19 i_Mod_patient_10 (by decide) (fun c_10 => ?_) (fun c_10 => ?_)
      · skip
        refine zr_iconst i_Mod_patient_19 (v := (-1)) (by decide) ?_
        refine zr_goto 33 i_Mod_patient_20 (by decide) ?_
        exact zR.retE i_Mod_patient_33 rfl (by unfold patQ; first | (rw [if_pos ⟨⟨by assumption, by assumption⟩, by assumption, by assumption⟩]; done) | (rw [if_neg (fun q => absurd c_1 q.1.1)]; done) | (rw [if_neg (fun q => absurd c_6 q.1.2)]; done) | (rw [if_neg (fun q => absurd c_10 q.2.1)]; done) | (rw [if_neg (fun q => absurd q.2.2 c_16)]; done))
      · skip
        refine zr_iload_n i_Mod_patient_13 rfl ?_
        refine zr_bipush i_Mod_patient_14 (v := 7) (by decide) ?_
        refine zr_icmp_le 23 i_Mod_patient_16 (by decide) (fun c_16 => ?_) (fun c_16 => ?_)
        · skip
          refine zr_aload_n i_Mod_patient_23 rfl ?_
          refine zr_bipush i_Mod_patient_24 (v := 8) (by decide) ?_
          refine zr_iload_n i_Mod_patient_26 rfl ?_
          refine zr_imul i_Mod_patient_27 ?_
          refine zr_iload_n i_Mod_patient_28 rfl ?_
          refine zr_iadd i_Mod_patient_29 ?_
          refine zr_cv1 i_Mod_patient_30 rfl (by decide) rfl (Nat.le_of_ble_eq_true rfl) (Nat.le_of_ble_eq_true rfl) (e_Mod_whoIsIn X _ g ms _) ?_
          exact zR.retE i_Mod_patient_33 rfl (by unfold patQ; first | (rw [if_pos ⟨⟨by assumption, by assumption⟩, by assumption, by assumption⟩]; done) | (rw [if_neg (fun q => absurd c_1 q.1.1)]; done) | (rw [if_neg (fun q => absurd c_6 q.1.2)]; done) | (rw [if_neg (fun q => absurd c_10 q.2.1)]; done) | (rw [if_neg (fun q => absurd q.2.2 c_16)]; done))
        · skip
          refine zr_iconst i_Mod_patient_19 (v := (-1)) (by decide) ?_
          refine zr_goto 33 i_Mod_patient_20 (by decide) ?_
          exact zR.retE i_Mod_patient_33 rfl (by unfold patQ; first | (rw [if_pos ⟨⟨by assumption, by assumption⟩, by assumption, by assumption⟩]; done) | (rw [if_neg (fun q => absurd c_1 q.1.1)]; done) | (rw [if_neg (fun q => absurd c_6 q.1.2)]; done) | (rw [if_neg (fun q => absurd c_10 q.2.1)]; done) | (rw [if_neg (fun q => absurd q.2.2 c_16)]; done))
