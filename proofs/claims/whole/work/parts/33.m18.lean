/-! THE REFERENCE: names, results, texts asked for -/
theorem i_Mod_name_0 : zins 153 0 = some (.iload_n 1) := by decide +kernel
theorem i_Mod_name_1 : zins 153 1 = some (.invokestatic 276) := by decide +kernel
theorem i_Mod_name_4 : zins 153 4 = some (.ifCond .eq 33) := by decide +kernel
theorem i_Mod_name_7 : zins 153 7 = some (.iload_n 2) := by decide +kernel
theorem i_Mod_name_8 : zins 153 8 = some (.iconst 1) := by decide +kernel
theorem i_Mod_name_9 : zins 153 9 = some (.if_icmp .lt 28) := by decide +kernel
theorem i_Mod_name_12 : zins 153 12 = some (.iload_n 2) := by decide +kernel
theorem i_Mod_name_13 : zins 153 13 = some (.iconst 2) := by decide +kernel
theorem i_Mod_name_14 : zins 153 14 = some (.if_icmp .gt 23) := by decide +kernel
theorem i_Mod_name_17 : zins 153 17 = some (.iload_n 3) := by decide +kernel
theorem i_Mod_name_18 : zins 153 18 = some (.ifCond .lt 19) := by decide +kernel
theorem i_Mod_name_21 : zins 153 21 = some (.iload_n 3) := by decide +kernel
theorem i_Mod_name_22 : zins 153 22 = some (.aload_n 0) := by decide +kernel
theorem i_Mod_name_23 : zins 153 23 = some (.getfield 69) := by decide +kernel
theorem i_Mod_name_26 : zins 153 26 = some (.iconst 2) := by decide +kernel
theorem i_Mod_name_27 : zins 153 27 = some (.iload_n 1) := by decide +kernel
theorem i_Mod_name_28 : zins 153 28 = some (.imul) := by decide +kernel
theorem i_Mod_name_29 : zins 153 29 = some (.iload_n 2) := by decide +kernel
theorem i_Mod_name_30 : zins 153 30 = some (.iadd) := by decide +kernel
theorem i_Mod_name_31 : zins 153 31 = some (.iconst 1) := by decide +kernel
theorem i_Mod_name_32 : zins 153 32 = some (.isub) := by decide +kernel
theorem i_Mod_name_33 : zins 153 33 = some (.iaload) := by decide +kernel
theorem i_Mod_name_34 : zins 153 34 = some (.if_icmp .lt 5) := by decide +kernel
theorem i_Mod_name_37 : zins 153 37 = some (.iconst (-1)) := by decide +kernel
theorem i_Mod_name_38 : zins 153 38 = some (.ireturn) := by decide +kernel
theorem i_Mod_name_39 : zins 153 39 = some (.aload_n 0) := by decide +kernel
theorem i_Mod_name_40 : zins 153 40 = some (.getfield 72) := by decide +kernel
theorem i_Mod_name_43 : zins 153 43 = some (.bipush 24) := by decide +kernel
theorem i_Mod_name_45 : zins 153 45 = some (.iload_n 1) := by decide +kernel
theorem i_Mod_name_46 : zins 153 46 = some (.imul) := by decide +kernel
theorem i_Mod_name_47 : zins 153 47 = some (.bipush 12) := by decide +kernel
theorem i_Mod_name_49 : zins 153 49 = some (.iload_n 2) := by decide +kernel
theorem i_Mod_name_50 : zins 153 50 = some (.imul) := by decide +kernel
theorem i_Mod_name_51 : zins 153 51 = some (.iadd) := by decide +kernel
theorem i_Mod_name_52 : zins 153 52 = some (.bipush 12) := by decide +kernel
theorem i_Mod_name_54 : zins 153 54 = some (.isub) := by decide +kernel
theorem i_Mod_name_55 : zins 153 55 = some (.iload_n 3) := by decide +kernel
theorem i_Mod_name_56 : zins 153 56 = some (.iadd) := by decide +kernel
theorem i_Mod_name_57 : zins 153 57 = some (.caload) := by decide +kernel
theorem i_Mod_name_58 : zins 153 58 = some (.ireturn) := by decide +kernel
def nameQ (sz tx : Nat → Int32) (p part i : Int32) : Int32 := if zpat p = true ∧ ¬ part < 1 ∧ ¬ 2 < part then getF (fun j => tx (24 * p.toNatClampNeg + 12 * part.toNatClampNeg - 12 + j)) (sz (2 * p.toNatClampNeg + part.toNatClampNeg - 1)).toNatClampNeg i else -1
theorem e_Mod_name (X : zX) (d : Nat) (g : zH) (ms : zMS) (hz : ∀ j, j < 200 → ∃ s, s ≤ 12 ∧ ms.2 20 j = nI s) (p part i : Int32) : zR X (d + 2) 153 0 (zent 4 [.ref 129, .int p, .int part, .int i]) [] (mset g ms) (some (.int (nameQ (ms.2 20) (ms.2 21) p part i)), mset g ms) := by
  cases hp : zpat p with
  | false =>
    rw [nameQ, if_neg (fun q => by rw [hp] at q; exact absurd q.1 (by decide))]
    refine zr_iload_n i_Mod_name_0 rfl ?_
    refine zr_cs1 i_Mod_name_1 rfl (by decide) (Nat.le_of_ble_eq_true rfl) (Nat.le_of_ble_eq_true rfl) (e_Mod_isPatient X _ _ _) ?_
    refine zB_if_eq 37 i_Mod_name_4 (by decide) (fun _ => ?_) (fun q => absurd q (by rw [hp]; decide))
    refine zr_iconst i_Mod_name_37 (v := (-1)) (by decide) ?_
    exact zR.retE i_Mod_name_38 rfl rfl
  | true =>
    by_cases h1 : part < 1
    · rw [nameQ, if_neg (fun q => q.2.1 h1)]
      refine zr_iload_n i_Mod_name_0 rfl ?_
      refine zr_cs1 i_Mod_name_1 rfl (by decide) (Nat.le_of_ble_eq_true rfl) (Nat.le_of_ble_eq_true rfl) (e_Mod_isPatient X _ _ _) ?_
      refine zB_if_eq 37 i_Mod_name_4 (by decide) (fun q => absurd q (by rw [hp]; decide)) (fun _ => ?_)
      refine zr_iload_n i_Mod_name_7 rfl ?_
      refine zr_iconst i_Mod_name_8 (v := 1) (by decide) ?_
      refine zr_icmp_lt 37 i_Mod_name_9 (by decide) (fun c_9 => ?_) (fun q => absurd h1 q)
      refine zr_iconst i_Mod_name_37 (v := (-1)) (by decide) ?_
      exact zR.retE i_Mod_name_38 rfl rfl
    · by_cases h2 : 2 < part
      · rw [nameQ, if_neg (fun q => q.2.2 h2)]
        refine zr_iload_n i_Mod_name_0 rfl ?_
        refine zr_cs1 i_Mod_name_1 rfl (by decide) (Nat.le_of_ble_eq_true rfl) (Nat.le_of_ble_eq_true rfl) (e_Mod_isPatient X _ _ _) ?_
        refine zB_if_eq 37 i_Mod_name_4 (by decide) (fun q => absurd q (by rw [hp]; decide)) (fun _ => ?_)
        refine zr_iload_n i_Mod_name_7 rfl ?_
        refine zr_iconst i_Mod_name_8 (v := 1) (by decide) ?_
        refine zr_icmp_lt 37 i_Mod_name_9 (by decide) (fun q => absurd q h1) (fun c_9 => ?_)
        refine zr_iload_n i_Mod_name_12 rfl ?_
        refine zr_iconst i_Mod_name_13 (v := 2) (by decide) ?_
        refine zr_icmp_gt 37 i_Mod_name_14 (by decide) (fun c_14 => ?_) (fun q => absurd h2 q)
        refine zr_iconst i_Mod_name_37 (v := (-1)) (by decide) ?_
        exact zR.retE i_Mod_name_38 rfl rfl
      · rw [nameQ, if_pos ⟨hp, h1, h2⟩]
        obtain ⟨k, k1, k2, rfl⟩ := zpat_nI hp
        obtain ⟨q, q1, q2, rfl⟩ := i32_rng (a := 1) (b := 2) (m := 1) (n := 2) rfl rfl (by decide) (by decide) h1 h2
        obtain ⟨s, s1, s2⟩ := hz (2 * k + q - 1) (by omega)
        rw [nI_clamp (show k < 2 ^ 31 by omega), nI_clamp (show q < 2 ^ 31 by omega), s2, nI_clamp (show s < 2 ^ 31 by omega)]
        rcases pk_ix i (n := s) (by omega) with h | h | ⟨j, hj, h⟩
        · rw [getF_neg h]
          refine zr_iload_n i_Mod_name_0 rfl ?_
          refine zr_cs1 i_Mod_name_1 rfl (by decide) (Nat.le_of_ble_eq_true rfl) (Nat.le_of_ble_eq_true rfl) (e_Mod_isPatient X _ _ _) ?_
          refine zB_if_eq 37 i_Mod_name_4 (by decide) (fun q => absurd q (by rw [hp]; decide)) (fun _ => ?_)
          refine zr_iload_n i_Mod_name_7 rfl ?_
          refine zn_iconst 1 i_Mod_name_8 (by decide) ?_
          refine zn_icmp_lt 37 i_Mod_name_9 (by decide) (by omega) (by omega) (fun q => absurd q (by omega)) (fun c_9 => ?_)
          refine zr_iload_n i_Mod_name_12 rfl ?_
          refine zn_iconst 2 i_Mod_name_13 (by decide) ?_
          refine zn_icmp_gt 37 i_Mod_name_14 (by decide) (by omega) (by omega) (fun q => absurd q (by omega)) (fun c_14 => ?_)
          refine zr_iload_n i_Mod_name_17 rfl ?_
          refine zr_if_lt 37 i_Mod_name_18 (by decide) (fun _ => ?_) (fun q => absurd h q)
          refine zr_iconst i_Mod_name_37 (v := (-1)) (by decide) ?_
          exact zR.retE i_Mod_name_38 rfl rfl
        · rw [getF_ge h]
          have h0 : ¬ i < 0 := fun q => absurd (Int32.lt_of_le_of_lt h q) (nI_pos (by omega))
          refine zr_iload_n i_Mod_name_0 rfl ?_
          refine zr_cs1 i_Mod_name_1 rfl (by decide) (Nat.le_of_ble_eq_true rfl) (Nat.le_of_ble_eq_true rfl) (e_Mod_isPatient X _ _ _) ?_
          refine zB_if_eq 37 i_Mod_name_4 (by decide) (fun q => absurd q (by rw [hp]; decide)) (fun _ => ?_)
          refine zr_iload_n i_Mod_name_7 rfl ?_
          refine zn_iconst 1 i_Mod_name_8 (by decide) ?_
          refine zn_icmp_lt 37 i_Mod_name_9 (by decide) (by omega) (by omega) (fun q => absurd q (by omega)) (fun c_9 => ?_)
          refine zr_iload_n i_Mod_name_12 rfl ?_
          refine zn_iconst 2 i_Mod_name_13 (by decide) ?_
          refine zn_icmp_gt 37 i_Mod_name_14 (by decide) (by omega) (by omega) (fun q => absurd q (by omega)) (fun c_14 => ?_)
          refine zr_iload_n i_Mod_name_17 rfl ?_
          refine zr_if_lt 37 i_Mod_name_18 (by decide) (fun q => absurd q h0) (fun _ => ?_)
          refine zr_iload_n i_Mod_name_21 rfl ?_
          refine zr_aload_n i_Mod_name_22 rfl ?_
          refine zr_getf i_Mod_name_23 rfl rfl rfl ?_
          refine zn_iconst 2 i_Mod_name_26 (by decide) ?_
          refine zr_iload_n i_Mod_name_27 rfl ?_
          refine zn_imul i_Mod_name_28 ?_
          refine zr_iload_n i_Mod_name_29 rfl ?_
          refine zn_iadd i_Mod_name_30 ?_
          refine zn_iconst 1 i_Mod_name_31 (by decide) ?_
          refine zn_isub i_Mod_name_32 (by omega) ?_
          refine zn_iaload i_Mod_name_33 rfl (by omega) (by decide) ?_
          refine zr_top (y := nI s) s2 ?_
          refine zr_icmp_lt 39 i_Mod_name_34 (by decide) (fun q => absurd q (Int32.not_lt.mpr h)) (fun c_34 => ?_)
          refine zr_iconst i_Mod_name_37 (v := (-1)) (by decide) ?_
          exact zR.retE i_Mod_name_38 rfl rfl
        · rw [h, getF_in hj (by omega)]
          refine zr_iload_n i_Mod_name_0 rfl ?_
          refine zr_cs1 i_Mod_name_1 rfl (by decide) (Nat.le_of_ble_eq_true rfl) (Nat.le_of_ble_eq_true rfl) (e_Mod_isPatient X _ _ _) ?_
          refine zB_if_eq 37 i_Mod_name_4 (by decide) (fun q => absurd q (by rw [hp]; decide)) (fun _ => ?_)
          refine zr_iload_n i_Mod_name_7 rfl ?_
          refine zn_iconst 1 i_Mod_name_8 (by decide) ?_
          refine zn_icmp_lt 37 i_Mod_name_9 (by decide) (by omega) (by omega) (fun q => absurd q (by omega)) (fun c_9 => ?_)
          refine zr_iload_n i_Mod_name_12 rfl ?_
          refine zn_iconst 2 i_Mod_name_13 (by decide) ?_
          refine zn_icmp_gt 37 i_Mod_name_14 (by decide) (by omega) (by omega) (fun q => absurd q (by omega)) (fun c_14 => ?_)
          refine zr_iload_n i_Mod_name_17 rfl ?_
          refine zN_if_lt 37 i_Mod_name_18 (by decide) (by omega) ?_
          refine zr_iload_n i_Mod_name_21 rfl ?_
          refine zr_aload_n i_Mod_name_22 rfl ?_
          refine zr_getf i_Mod_name_23 rfl rfl rfl ?_
          refine zn_iconst 2 i_Mod_name_26 (by decide) ?_
          refine zr_iload_n i_Mod_name_27 rfl ?_
          refine zn_imul i_Mod_name_28 ?_
          refine zr_iload_n i_Mod_name_29 rfl ?_
          refine zn_iadd i_Mod_name_30 ?_
          refine zn_iconst 1 i_Mod_name_31 (by decide) ?_
          refine zn_isub i_Mod_name_32 (by omega) ?_
          refine zn_iaload i_Mod_name_33 rfl (by omega) (by decide) ?_
          refine zr_top (y := nI s) s2 ?_
          refine zn_icmp_lt 39 i_Mod_name_34 (by decide) (by omega) (by omega) (fun c_34 => ?_) (fun q => absurd q (by omega))
          refine zr_aload_n i_Mod_name_39 rfl ?_
          refine zr_getf i_Mod_name_40 rfl rfl rfl ?_
          refine zn_bipush 24 i_Mod_name_43 (by decide) ?_
          refine zr_iload_n i_Mod_name_45 rfl ?_
          refine zn_imul i_Mod_name_46 ?_
          refine zn_bipush 12 i_Mod_name_47 (by decide) ?_
          refine zr_iload_n i_Mod_name_49 rfl ?_
          refine zn_imul i_Mod_name_50 ?_
          refine zn_iadd i_Mod_name_51 ?_
          refine zn_bipush 12 i_Mod_name_52 (by decide) ?_
          refine zn_isub i_Mod_name_54 (by omega) ?_
          refine zr_iload_n i_Mod_name_55 rfl ?_
          refine zn_iadd i_Mod_name_56 ?_
          refine zn_caload i_Mod_name_57 rfl (by omega) (by decide) ?_
          exact zR.retE i_Mod_name_58 rfl rfl
theorem i_Mod_result_0 : zins 154 0 = some (.iload_n 1) := by decide +kernel
theorem i_Mod_result_1 : zins 154 1 = some (.invokestatic 276) := by decide +kernel
theorem i_Mod_result_4 : zins 154 4 = some (.ifCond .eq 17) := by decide +kernel
theorem i_Mod_result_7 : zins 154 7 = some (.iload_n 2) := by decide +kernel
theorem i_Mod_result_8 : zins 154 8 = some (.invokestatic 106) := by decide +kernel
theorem i_Mod_result_11 : zins 154 11 = some (.ifCond .eq 10) := by decide +kernel
theorem i_Mod_result_14 : zins 154 14 = some (.iload_n 3) := by decide +kernel
theorem i_Mod_result_15 : zins 154 15 = some (.invokestatic 106) := by decide +kernel
theorem i_Mod_result_18 : zins 154 18 = some (.ifCond .ne 5) := by decide +kernel
theorem i_Mod_result_21 : zins 154 21 = some (.iconst (-1)) := by decide +kernel
theorem i_Mod_result_22 : zins 154 22 = some (.ireturn) := by decide +kernel
theorem i_Mod_result_23 : zins 154 23 = some (.aload_n 0) := by decide +kernel
theorem i_Mod_result_24 : zins 154 24 = some (.iload_n 1) := by decide +kernel
theorem i_Mod_result_25 : zins 154 25 = some (.bipush 26) := by decide +kernel
theorem i_Mod_result_27 : zins 154 27 = some (.iload_n 2) := by decide +kernel
theorem i_Mod_result_28 : zins 154 28 = some (.bipush 97) := by decide +kernel
theorem i_Mod_result_30 : zins 154 30 = some (.isub) := by decide +kernel
theorem i_Mod_result_31 : zins 154 31 = some (.imul) := by decide +kernel
theorem i_Mod_result_32 : zins 154 32 = some (.iload_n 3) := by decide +kernel
theorem i_Mod_result_33 : zins 154 33 = some (.iadd) := by decide +kernel
theorem i_Mod_result_34 : zins 154 34 = some (.bipush 97) := by decide +kernel
theorem i_Mod_result_36 : zins 154 36 = some (.isub) := by decide +kernel
theorem i_Mod_result_37 : zins 154 37 = some (.invokevirtual 179) := by decide +kernel
theorem i_Mod_result_40 : zins 154 40 = some (.istore 4) := by decide +kernel
theorem i_Mod_result_42 : zins 154 42 = some (.iload 4) := by decide +kernel
theorem i_Mod_result_44 : zins 154 44 = some (.ifCond .ge 7) := by decide +kernel
theorem i_Mod_result_47 : zins 154 47 = some (.iconst (-1)) := by decide +kernel
theorem i_Mod_result_48 : zins 154 48 = some (.goto 10) := by decide +kernel
theorem i_Mod_result_51 : zins 154 51 = some (.aload_n 0) := by decide +kernel
theorem i_Mod_result_52 : zins 154 52 = some (.getfield 81) := by decide +kernel
theorem i_Mod_result_55 : zins 154 55 = some (.iload 4) := by decide +kernel
theorem i_Mod_result_57 : zins 154 57 = some (.iaload) := by decide +kernel
theorem i_Mod_result_58 : zins 154 58 = some (.ireturn) := by decide +kernel
def resQ (nr : Nat → Nat) (cd vl : Nat → Int32) (p a b : Int32) : Int32 := if zpat p = true ∧ zsml a = true ∧ zsml b = true then (match resI cd (26 * (a - 97) + b - 97) (12 * p.toNatClampNeg) (nr p.toNatClampNeg) with
    | none => -1
    | some i => vl i) else -1
theorem e_Mod_result (X : zX) (d : Nat) (g : zH) (ms : zMS) (nr : Nat → Nat) (hN : ∀ p, p ≤ 99 → ms.2 22 p = nI (nr p) ∧ nr p ≤ 12) (p a b : Int32) : zR X (d + 2) 154 0 (zent 5 [.ref 129, .int p, .int a, .int b]) [] (mset g ms) (some (.int (resQ nr (ms.2 23) (ms.2 24) p a b)), mset g ms) := by
  cases hp : zpat p with
  | false =>
    rw [resQ, if_neg (fun q => by rw [hp] at q; exact absurd q.1 (by decide))]
    refine zr_iload_n i_Mod_result_0 rfl ?_
    refine zr_cs1 i_Mod_result_1 rfl (by decide) (Nat.le_of_ble_eq_true rfl) (Nat.le_of_ble_eq_true rfl) (e_Mod_isPatient X _ _ _) ?_
    refine zB_if_eq 21 i_Mod_result_4 (by decide) (fun _ => ?_) (fun q => absurd q (by rw [hp]; decide))
    refine zr_iconst i_Mod_result_21 (v := (-1)) (by decide) ?_
    exact zR.retE i_Mod_result_22 rfl rfl
  | true =>
    cases ha : zsml a with
    | false =>
      rw [resQ, if_neg (fun q => by rw [ha] at q; exact absurd q.2.1 (by decide))]
      refine zr_iload_n i_Mod_result_0 rfl ?_
      refine zr_cs1 i_Mod_result_1 rfl (by decide) (Nat.le_of_ble_eq_true rfl) (Nat.le_of_ble_eq_true rfl) (e_Mod_isPatient X _ _ _) ?_
      refine zB_if_eq 21 i_Mod_result_4 (by decide) (fun q => absurd q (by rw [hp]; decide)) (fun _ => ?_)
      refine zr_iload_n i_Mod_result_7 rfl ?_
      refine zr_cs1 i_Mod_result_8 rfl (by decide) (Nat.le_of_ble_eq_true rfl) (Nat.le_of_ble_eq_true rfl) (e_Mod_small X _ _ _) ?_
      refine zB_if_eq 21 i_Mod_result_11 (by decide) (fun _ => ?_) (fun q => absurd q (by rw [ha]; decide))
      refine zr_iconst i_Mod_result_21 (v := (-1)) (by decide) ?_
      exact zR.retE i_Mod_result_22 rfl rfl
    | true =>
      cases hb : zsml b with
      | false =>
        rw [resQ, if_neg (fun q => by rw [hb] at q; exact absurd q.2.2 (by decide))]
        refine zr_iload_n i_Mod_result_0 rfl ?_
        refine zr_cs1 i_Mod_result_1 rfl (by decide) (Nat.le_of_ble_eq_true rfl) (Nat.le_of_ble_eq_true rfl) (e_Mod_isPatient X _ _ _) ?_
        refine zB_if_eq 21 i_Mod_result_4 (by decide) (fun q => absurd q (by rw [hp]; decide)) (fun _ => ?_)
        refine zr_iload_n i_Mod_result_7 rfl ?_
        refine zr_cs1 i_Mod_result_8 rfl (by decide) (Nat.le_of_ble_eq_true rfl) (Nat.le_of_ble_eq_true rfl) (e_Mod_small X _ _ _) ?_
        refine zB_if_eq 21 i_Mod_result_11 (by decide) (fun q => absurd q (by rw [ha]; decide)) (fun _ => ?_)
        refine zr_iload_n i_Mod_result_14 rfl ?_
        refine zr_cs1 i_Mod_result_15 rfl (by decide) (Nat.le_of_ble_eq_true rfl) (Nat.le_of_ble_eq_true rfl) (e_Mod_small X _ _ _) ?_
        refine zB_if_ne 23 i_Mod_result_18 (by decide) (fun q => absurd q (by rw [hb]; decide)) (fun _ => ?_)
        refine zr_iconst i_Mod_result_21 (v := (-1)) (by decide) ?_
        exact zR.retE i_Mod_result_22 rfl rfl
      | true =>
        rw [resQ, if_pos ⟨hp, ha, hb⟩]
        obtain ⟨k, k1, k2, rfl⟩ := zpat_nI hp
        obtain ⟨n1, n2⟩ := hN k k2
        rw [nI_clamp (show k < 2 ^ 31 by omega)]
        have hres := e_Mod_resultAt X (d + 1) g ms k (nr k) (26 * (a - 97) + b - 97) n1 n2 (by omega)
        cases e : resI (ms.2 23) (26 * (a - 97) + b - 97) (12 * k) (nr k) with
        | none =>
          rw [e] at hres
          refine zr_iload_n i_Mod_result_0 rfl ?_
          refine zr_cs1 i_Mod_result_1 rfl (by decide) (Nat.le_of_ble_eq_true rfl) (Nat.le_of_ble_eq_true rfl) (e_Mod_isPatient X _ _ _) ?_
          refine zB_if_eq 21 i_Mod_result_4 (by decide) (fun q => absurd q (by rw [hp]; decide)) (fun _ => ?_)
          refine zr_iload_n i_Mod_result_7 rfl ?_
          refine zr_cs1 i_Mod_result_8 rfl (by decide) (Nat.le_of_ble_eq_true rfl) (Nat.le_of_ble_eq_true rfl) (e_Mod_small X _ _ _) ?_
          refine zB_if_eq 21 i_Mod_result_11 (by decide) (fun q => absurd q (by rw [ha]; decide)) (fun _ => ?_)
          refine zr_iload_n i_Mod_result_14 rfl ?_
          refine zr_cs1 i_Mod_result_15 rfl (by decide) (Nat.le_of_ble_eq_true rfl) (Nat.le_of_ble_eq_true rfl) (e_Mod_small X _ _ _) ?_
          refine zB_if_ne 23 i_Mod_result_18 (by decide) (fun _ => ?_) (fun q => absurd q (by rw [hb]; decide))
          refine zr_aload_n i_Mod_result_23 rfl ?_
          refine zr_iload_n i_Mod_result_24 rfl ?_
          refine zr_bipush i_Mod_result_25 (v := 26) (by decide) ?_
          refine zr_iload_n i_Mod_result_27 rfl ?_
          refine zr_bipush i_Mod_result_28 (v := 97) (by decide) ?_
          refine zr_isub i_Mod_result_30 ?_
          refine zr_imul i_Mod_result_31 ?_
          refine zr_iload_n i_Mod_result_32 rfl ?_
          refine zr_iadd i_Mod_result_33 ?_
          refine zr_bipush i_Mod_result_34 (v := 97) (by decide) ?_
          refine zr_isub i_Mod_result_36 ?_
          refine zr_cv2 i_Mod_result_37 rfl (by decide) rfl (Nat.le_of_ble_eq_true rfl) (Nat.le_of_ble_eq_true rfl) (hres) ?_
          refine zr_istore i_Mod_result_40 rfl ?_
          refine zr_iload i_Mod_result_42 rfl ?_
          refine zr_if_ge 51 i_Mod_result_44 (by decide) (fun q => absurd q (by decide)) (fun _ => ?_)
          refine zr_iconst i_Mod_result_47 (v := (-1)) (by decide) ?_
          refine zr_goto 58 i_Mod_result_48 (by decide) ?_
          exact zR.retE i_Mod_result_58 rfl rfl
        | some z =>
          rw [e] at hres
          have hi := zfst_some (P := fun i => decide (ms.2 23 i = 26 * (a - 97) + b - 97)) e
          refine zr_iload_n i_Mod_result_0 rfl ?_
          refine zr_cs1 i_Mod_result_1 rfl (by decide) (Nat.le_of_ble_eq_true rfl) (Nat.le_of_ble_eq_true rfl) (e_Mod_isPatient X _ _ _) ?_
          refine zB_if_eq 21 i_Mod_result_4 (by decide) (fun q => absurd q (by rw [hp]; decide)) (fun _ => ?_)
          refine zr_iload_n i_Mod_result_7 rfl ?_
          refine zr_cs1 i_Mod_result_8 rfl (by decide) (Nat.le_of_ble_eq_true rfl) (Nat.le_of_ble_eq_true rfl) (e_Mod_small X _ _ _) ?_
          refine zB_if_eq 21 i_Mod_result_11 (by decide) (fun q => absurd q (by rw [ha]; decide)) (fun _ => ?_)
          refine zr_iload_n i_Mod_result_14 rfl ?_
          refine zr_cs1 i_Mod_result_15 rfl (by decide) (Nat.le_of_ble_eq_true rfl) (Nat.le_of_ble_eq_true rfl) (e_Mod_small X _ _ _) ?_
          refine zB_if_ne 23 i_Mod_result_18 (by decide) (fun _ => ?_) (fun q => absurd q (by rw [hb]; decide))
          refine zr_aload_n i_Mod_result_23 rfl ?_
          refine zr_iload_n i_Mod_result_24 rfl ?_
          refine zr_bipush i_Mod_result_25 (v := 26) (by decide) ?_
          refine zr_iload_n i_Mod_result_27 rfl ?_
          refine zr_bipush i_Mod_result_28 (v := 97) (by decide) ?_
          refine zr_isub i_Mod_result_30 ?_
          refine zr_imul i_Mod_result_31 ?_
          refine zr_iload_n i_Mod_result_32 rfl ?_
          refine zr_iadd i_Mod_result_33 ?_
          refine zr_bipush i_Mod_result_34 (v := 97) (by decide) ?_
          refine zr_isub i_Mod_result_36 ?_
          refine zr_cv2 i_Mod_result_37 rfl (by decide) rfl (Nat.le_of_ble_eq_true rfl) (Nat.le_of_ble_eq_true rfl) (hres) ?_
          refine zr_istore i_Mod_result_40 rfl ?_
          refine zr_iload i_Mod_result_42 rfl ?_
          refine zN_if_ge (a := z) 51 i_Mod_result_44 (by decide) (by omega) ?_
          refine zr_aload_n i_Mod_result_51 rfl ?_
          refine zr_getf i_Mod_result_52 rfl rfl rfl ?_
          refine zr_iload i_Mod_result_55 rfl ?_
          refine zn_iaload (k := z) i_Mod_result_57 rfl (by omega) (by decide) ?_
          exact zR.retE i_Mod_result_58 rfl rfl
theorem i_Mod_text_0 : zins 157 0 = some (.iload_n 1) := by decide +kernel
theorem i_Mod_text_1 : zins 157 1 = some (.iconst 1) := by decide +kernel
theorem i_Mod_text_2 : zins 157 2 = some (.if_icmp .lt 18) := by decide +kernel
theorem i_Mod_text_5 : zins 157 5 = some (.iload_n 1) := by decide +kernel
theorem i_Mod_text_6 : zins 157 6 = some (.aload_n 0) := by decide +kernel
theorem i_Mod_text_7 : zins 157 7 = some (.getfield 13) := by decide +kernel
theorem i_Mod_text_10 : zins 157 10 = some (.iconst 1) := by decide +kernel
theorem i_Mod_text_11 : zins 157 11 = some (.iaload) := by decide +kernel
theorem i_Mod_text_12 : zins 157 12 = some (.if_icmp .gt 8) := by decide +kernel
theorem i_Mod_text_15 : zins 157 15 = some (.iload 5) := by decide +kernel
theorem i_Mod_text_17 : zins 157 17 = some (.ifCond .ge 5) := by decide +kernel
theorem i_Mod_text_20 : zins 157 20 = some (.iconst (-1)) := by decide +kernel
theorem i_Mod_text_21 : zins 157 21 = some (.ireturn) := by decide +kernel
theorem i_Mod_text_22 : zins 157 22 = some (.iload_n 2) := by decide +kernel
theorem i_Mod_text_23 : zins 157 23 = some (.ifCond .ne 42) := by decide +kernel
theorem i_Mod_text_26 : zins 157 26 = some (.iload_n 3) := by decide +kernel
theorem i_Mod_text_27 : zins 157 27 = some (.iconst 1) := by decide +kernel
theorem i_Mod_text_28 : zins 157 28 = some (.if_icmp .ne 35) := by decide +kernel
theorem i_Mod_text_31 : zins 157 31 = some (.iload 4) := by decide +kernel
theorem i_Mod_text_33 : zins 157 33 = some (.iconst 1) := by decide +kernel
theorem i_Mod_text_34 : zins 157 34 = some (.if_icmp .ne 29) := by decide +kernel
theorem i_Mod_text_37 : zins 157 37 = some (.iload 5) := by decide +kernel
theorem i_Mod_text_39 : zins 157 39 = some (.iconst 3) := by decide +kernel
theorem i_Mod_text_40 : zins 157 40 = some (.if_icmp .ge 23) := by decide +kernel
theorem i_Mod_text_43 : zins 157 43 = some (.aload_n 0) := by decide +kernel
theorem i_Mod_text_44 : zins 157 44 = some (.getfield 47) := by decide +kernel
theorem i_Mod_text_47 : zins 157 47 = some (.sipush 600) := by decide +kernel
theorem i_Mod_text_50 : zins 157 50 = some (.iconst 3) := by decide +kernel
theorem i_Mod_text_51 : zins 157 51 = some (.iload_n 1) := by decide +kernel
theorem i_Mod_text_52 : zins 157 52 = some (.imul) := by decide +kernel
theorem i_Mod_text_53 : zins 157 53 = some (.iadd) := by decide +kernel
theorem i_Mod_text_54 : zins 157 54 = some (.iconst 3) := by decide +kernel
theorem i_Mod_text_55 : zins 157 55 = some (.isub) := by decide +kernel
theorem i_Mod_text_56 : zins 157 56 = some (.iload 5) := by decide +kernel
theorem i_Mod_text_58 : zins 157 58 = some (.iadd) := by decide +kernel
theorem i_Mod_text_59 : zins 157 59 = some (.caload) := by decide +kernel
theorem i_Mod_text_60 : zins 157 60 = some (.goto 4) := by decide +kernel
theorem i_Mod_text_63 : zins 157 63 = some (.iconst (-1)) := by decide +kernel
theorem i_Mod_text_64 : zins 157 64 = some (.ireturn) := by decide +kernel
theorem i_Mod_text_65 : zins 157 65 = some (.aload_n 0) := by decide +kernel
theorem i_Mod_text_66 : zins 157 66 = some (.iconst 1) := by decide +kernel
theorem i_Mod_text_67 : zins 157 67 = some (.iload_n 1) := by decide +kernel
theorem i_Mod_text_68 : zins 157 68 = some (.iload_n 2) := by decide +kernel
theorem i_Mod_text_69 : zins 157 69 = some (.iload_n 3) := by decide +kernel
theorem i_Mod_text_70 : zins 157 70 = some (.iload 4) := by decide +kernel
theorem i_Mod_text_72 : zins 157 72 = some (.invokevirtual 153) := by decide +kernel
theorem i_Mod_text_75 : zins 157 75 = some (.istore 6) := by decide +kernel
theorem i_Mod_text_77 : zins 157 77 = some (.iload 5) := by decide +kernel
theorem i_Mod_text_79 : zins 157 79 = some (.aload_n 0) := by decide +kernel
theorem i_Mod_text_80 : zins 157 80 = some (.iload 6) := by decide +kernel
theorem i_Mod_text_82 : zins 157 82 = some (.invokevirtual 145) := by decide +kernel
theorem i_Mod_text_85 : zins 157 85 = some (.if_icmp .ge 14) := by decide +kernel
theorem i_Mod_text_88 : zins 157 88 = some (.aload_n 0) := by decide +kernel
theorem i_Mod_text_89 : zins 157 89 = some (.iload 6) := by decide +kernel
theorem i_Mod_text_91 : zins 157 91 = some (.iload 5) := by decide +kernel
theorem i_Mod_text_93 : zins 157 93 = some (.invokevirtual 149) := by decide +kernel
theorem i_Mod_text_96 : zins 157 96 = some (.goto 4) := by decide +kernel
theorem i_Mod_text_99 : zins 157 99 = some (.iconst (-1)) := by decide +kernel
theorem i_Mod_text_100 : zins 157 100 = some (.ireturn) := by decide +kernel
/-- a text's letter: -1 outside -/
def tgt (t : zT) (i : Int32) : Int32 := getF (tc t) (tl t) i
def mV1 (ms : zMS) (s f r c : Int32) : zT := mtx ms (mfind ms 1 s f r c)
def textQ (sg : Nat) (nm : Nat → Int32) (V : zV) (s f r c i : Int32) : Int32 := if (¬ s < 1 ∧ ¬ nI sg < s) ∧ 0 ≤ i then (if f = 0 then (if (r = 1 ∧ c = 1) ∧ i < 3 then nm (3 * s.toNatClampNeg - 3 + i.toNatClampNeg) else -1) else tgt (V s f r c) i) else -1
theorem e_Mod_text (X : zX) (d : Nat) (g : zH) (ms : zMS) (cnt : Nat) (hT : mTV ms 1 cnt) (sg : Nat) (hs : ms.2 2 1 = nI sg) (hsl : sg ≤ 200) (s f r c i : Int32) : zR X (d + 2) 157 0 (zent 7 [.ref 129, .int s, .int f, .int r, .int c, .int i]) [] (mset g ms) (some (.int (textQ sg (fun j => ms.2 13 (600 + j)) (mV1 ms) s f r c i)), mset g ms) := by
  by_cases h1 : s < 1
  · rw [textQ, if_neg (fun q => q.1.1 h1)]
    refine zr_iload_n i_Mod_text_0 rfl ?_
    refine zr_iconst i_Mod_text_1 (v := 1) (by decide) ?_
    refine zr_icmp_lt 20 i_Mod_text_2 (by decide) (fun c_2 => ?_) (fun q => absurd h1 q)
    refine zr_iconst i_Mod_text_20 (v := (-1)) (by decide) ?_
    exact zR.retE i_Mod_text_21 rfl rfl
  · by_cases h2 : nI sg < s
    · rw [textQ, if_neg (fun q => q.1.2 h2)]
      refine zr_iload_n i_Mod_text_0 rfl ?_
      refine zr_iconst i_Mod_text_1 (v := 1) (by decide) ?_
      refine zr_icmp_lt 20 i_Mod_text_2 (by decide) (fun q => absurd q h1) (fun c_2 => ?_)
      refine zr_iload_n i_Mod_text_5 rfl ?_
      refine zr_aload_n i_Mod_text_6 rfl ?_
      refine zr_getf i_Mod_text_7 rfl rfl rfl ?_
      refine zn_iconst 1 i_Mod_text_10 (by decide) ?_
      refine zn_iaload i_Mod_text_11 rfl (by omega) (by decide) ?_
      refine zr_top (y := nI sg) hs ?_
      refine zr_icmp_gt 20 i_Mod_text_12 (by decide) (fun c_12 => ?_) (fun q => absurd h2 q)
      refine zr_iconst i_Mod_text_20 (v := (-1)) (by decide) ?_
      exact zR.retE i_Mod_text_21 rfl rfl
    · by_cases h3 : 0 ≤ i
      · rw [textQ, if_pos ⟨⟨h1, h2⟩, h3⟩]
        obtain ⟨s, s1, s2, rfl⟩ := i32_rng (a := 1) (b := nI sg) (m := 1) (n := sg) rfl rfl (by decide) (by omega) h1 h2
        obtain ⟨i, i1, rfl⟩ := nI_of (Int32.not_lt.mpr h3)
        have H3 := h3
        by_cases h4 : f = 0
        · rw [if_pos h4]
          by_cases h5 : r = 1
          · by_cases h6 : c = 1
            · by_cases h7 : i < 3
              · rw [if_pos ⟨⟨h5, h6⟩, (nI_ltI (b := 3) i1 (by decide)).mpr h7⟩, nI_clamp (show s < 2 ^ 31 by omega), nI_clamp i1]
                refine zr_iload_n i_Mod_text_0 rfl ?_
                refine zn_iconst 1 i_Mod_text_1 (by decide) ?_
                refine zn_icmp_lt 20 i_Mod_text_2 (by decide) (by omega) (by omega) (fun q => absurd q (by omega)) (fun c_2 => ?_)
                refine zr_iload_n i_Mod_text_5 rfl ?_
                refine zr_aload_n i_Mod_text_6 rfl ?_
                refine zr_getf i_Mod_text_7 rfl rfl rfl ?_
                refine zn_iconst 1 i_Mod_text_10 (by decide) ?_
                refine zn_iaload i_Mod_text_11 rfl (by omega) (by decide) ?_
                refine zr_top (y := nI sg) hs ?_
                refine zn_icmp_gt 20 i_Mod_text_12 (by decide) (by omega) (by omega) (fun q => absurd q (by omega)) (fun c_12 => ?_)
                refine zr_iload i_Mod_text_15 rfl ?_
                refine zN_if_ge 22 i_Mod_text_17 (by decide) (by omega) ?_
                refine zr_iload_n i_Mod_text_22 rfl ?_
                refine zr_if_ne 65 i_Mod_text_23 (by decide) (fun q => absurd h4 q) (fun _ => ?_)
                refine zr_iload_n i_Mod_text_26 rfl ?_
                refine zr_iconst i_Mod_text_27 (v := 1) (by decide) ?_
                refine zr_icmp_ne 63 i_Mod_text_28 (by decide) (fun q => absurd h5 q) (fun c_28 => ?_)
                refine zr_iload i_Mod_text_31 rfl ?_
                refine zr_iconst i_Mod_text_33 (v := 1) (by decide) ?_
                refine zr_icmp_ne 63 i_Mod_text_34 (by decide) (fun q => absurd h6 q) (fun c_34 => ?_)
                refine zr_iload i_Mod_text_37 rfl ?_
                refine zn_iconst 3 i_Mod_text_39 (by decide) ?_
                refine zn_icmp_ge 63 i_Mod_text_40 (by decide) (by omega) (by omega) (fun q => absurd q (by omega)) (fun c_40 => ?_)
                refine zr_aload_n i_Mod_text_43 rfl ?_
                refine zr_getf i_Mod_text_44 rfl rfl rfl ?_
                refine zn_sipush 600 i_Mod_text_47 (by decide) ?_
                refine zn_iconst 3 i_Mod_text_50 (by decide) ?_
                refine zr_iload_n i_Mod_text_51 rfl ?_
                refine zn_imul i_Mod_text_52 ?_
                refine zn_iadd i_Mod_text_53 ?_
                refine zn_iconst 3 i_Mod_text_54 (by decide) ?_
                refine zn_isub i_Mod_text_55 (by omega) ?_
                refine zr_iload i_Mod_text_56 rfl ?_
                refine zn_iadd i_Mod_text_58 ?_
                refine zn_caload i_Mod_text_59 rfl (by omega) (by decide) ?_
                refine zr_goto 64 i_Mod_text_60 (by decide) ?_
                exact zR.retE i_Mod_text_64 rfl (by rw [show 600 + 3 * s - 3 + i = 600 + (3 * s - 3 + i) by omega])
              · rw [if_neg (fun q => h7 ((nI_ltI (b := 3) i1 (by decide)).mp q.2))]
                refine zr_iload_n i_Mod_text_0 rfl ?_
                refine zn_iconst 1 i_Mod_text_1 (by decide) ?_
                refine zn_icmp_lt 20 i_Mod_text_2 (by decide) (by omega) (by omega) (fun q => absurd q (by omega)) (fun c_2 => ?_)
                refine zr_iload_n i_Mod_text_5 rfl ?_
                refine zr_aload_n i_Mod_text_6 rfl ?_
                refine zr_getf i_Mod_text_7 rfl rfl rfl ?_
                refine zn_iconst 1 i_Mod_text_10 (by decide) ?_
                refine zn_iaload i_Mod_text_11 rfl (by omega) (by decide) ?_
                refine zr_top (y := nI sg) hs ?_
                refine zn_icmp_gt 20 i_Mod_text_12 (by decide) (by omega) (by omega) (fun q => absurd q (by omega)) (fun c_12 => ?_)
                refine zr_iload i_Mod_text_15 rfl ?_
                refine zN_if_ge 22 i_Mod_text_17 (by decide) (by omega) ?_
                refine zr_iload_n i_Mod_text_22 rfl ?_
                refine zr_if_ne 65 i_Mod_text_23 (by decide) (fun q => absurd h4 q) (fun _ => ?_)
                refine zr_iload_n i_Mod_text_26 rfl ?_
                refine zr_iconst i_Mod_text_27 (v := 1) (by decide) ?_
                refine zr_icmp_ne 63 i_Mod_text_28 (by decide) (fun q => absurd h5 q) (fun c_28 => ?_)
                refine zr_iload i_Mod_text_31 rfl ?_
                refine zr_iconst i_Mod_text_33 (v := 1) (by decide) ?_
                refine zr_icmp_ne 63 i_Mod_text_34 (by decide) (fun q => absurd h6 q) (fun c_34 => ?_)
                refine zr_iload i_Mod_text_37 rfl ?_
                refine zn_iconst 3 i_Mod_text_39 (by decide) ?_
                refine zn_icmp_ge 63 i_Mod_text_40 (by decide) (by omega) (by omega) (fun c_40 => ?_) (fun q => absurd q (by omega))
                refine zr_iconst i_Mod_text_63 (v := (-1)) (by decide) ?_
                exact zR.retE i_Mod_text_64 rfl rfl
            · rw [if_neg (fun q => h6 q.1.2)]
              refine zr_iload_n i_Mod_text_0 rfl ?_
              refine zn_iconst 1 i_Mod_text_1 (by decide) ?_
              refine zn_icmp_lt 20 i_Mod_text_2 (by decide) (by omega) (by omega) (fun q => absurd q (by omega)) (fun c_2 => ?_)
              refine zr_iload_n i_Mod_text_5 rfl ?_
              refine zr_aload_n i_Mod_text_6 rfl ?_
              refine zr_getf i_Mod_text_7 rfl rfl rfl ?_
              refine zn_iconst 1 i_Mod_text_10 (by decide) ?_
              refine zn_iaload i_Mod_text_11 rfl (by omega) (by decide) ?_
              refine zr_top (y := nI sg) hs ?_
              refine zn_icmp_gt 20 i_Mod_text_12 (by decide) (by omega) (by omega) (fun q => absurd q (by omega)) (fun c_12 => ?_)
              refine zr_iload i_Mod_text_15 rfl ?_
              refine zN_if_ge 22 i_Mod_text_17 (by decide) (by omega) ?_
              refine zr_iload_n i_Mod_text_22 rfl ?_
              refine zr_if_ne 65 i_Mod_text_23 (by decide) (fun q => absurd h4 q) (fun _ => ?_)
              refine zr_iload_n i_Mod_text_26 rfl ?_
              refine zr_iconst i_Mod_text_27 (v := 1) (by decide) ?_
              refine zr_icmp_ne 63 i_Mod_text_28 (by decide) (fun q => absurd h5 q) (fun c_28 => ?_)
              refine zr_iload i_Mod_text_31 rfl ?_
              refine zr_iconst i_Mod_text_33 (v := 1) (by decide) ?_
              refine zr_icmp_ne 63 i_Mod_text_34 (by decide) (fun c_34 => ?_) (fun q => absurd q h6)
              refine zr_iconst i_Mod_text_63 (v := (-1)) (by decide) ?_
              exact zR.retE i_Mod_text_64 rfl rfl
          · rw [if_neg (fun q => h5 q.1.1)]
            refine zr_iload_n i_Mod_text_0 rfl ?_
            refine zn_iconst 1 i_Mod_text_1 (by decide) ?_
            refine zn_icmp_lt 20 i_Mod_text_2 (by decide) (by omega) (by omega) (fun q => absurd q (by omega)) (fun c_2 => ?_)
            refine zr_iload_n i_Mod_text_5 rfl ?_
            refine zr_aload_n i_Mod_text_6 rfl ?_
            refine zr_getf i_Mod_text_7 rfl rfl rfl ?_
            refine zn_iconst 1 i_Mod_text_10 (by decide) ?_
            refine zn_iaload i_Mod_text_11 rfl (by omega) (by decide) ?_
            refine zr_top (y := nI sg) hs ?_
            refine zn_icmp_gt 20 i_Mod_text_12 (by decide) (by omega) (by omega) (fun q => absurd q (by omega)) (fun c_12 => ?_)
            refine zr_iload i_Mod_text_15 rfl ?_
            refine zN_if_ge 22 i_Mod_text_17 (by decide) (by omega) ?_
            refine zr_iload_n i_Mod_text_22 rfl ?_
            refine zr_if_ne 65 i_Mod_text_23 (by decide) (fun q => absurd h4 q) (fun _ => ?_)
            refine zr_iload_n i_Mod_text_26 rfl ?_
            refine zr_iconst i_Mod_text_27 (v := 1) (by decide) ?_
            refine zr_icmp_ne 63 i_Mod_text_28 (by decide) (fun c_28 => ?_) (fun q => absurd q h5)
            refine zr_iconst i_Mod_text_63 (v := (-1)) (by decide) ?_
            exact zR.retE i_Mod_text_64 rfl rfl
        · rw [if_neg h4]
          have hz : tl (mtx ms (mfind ms 1 (nI s) f r c)) ≤ 400 := v_tl ms _ (mto_find hT _ _ _ _)
          by_cases h8 : i < tl (mtx ms (mfind ms 1 (nI s) f r c))
          · rw [tgt, show getF (tc (mV1 ms (nI s) f r c)) (tl (mV1 ms (nI s) f r c)) (nI i) = tc (mtx ms (mfind ms 1 (nI s) f r c)) i from getF_in h8 (show tl (mtx ms (mfind ms 1 (nI s) f r c)) < 2 ^ 31 by omega)]
            refine zr_iload_n i_Mod_text_0 rfl ?_
            refine zn_iconst 1 i_Mod_text_1 (by decide) ?_
            refine zn_icmp_lt 20 i_Mod_text_2 (by decide) (by omega) (by omega) (fun q => absurd q (by omega)) (fun c_2 => ?_)
            refine zr_iload_n i_Mod_text_5 rfl ?_
            refine zr_aload_n i_Mod_text_6 rfl ?_
            refine zr_getf i_Mod_text_7 rfl rfl rfl ?_
            refine zn_iconst 1 i_Mod_text_10 (by decide) ?_
            refine zn_iaload i_Mod_text_11 rfl (by omega) (by decide) ?_
            refine zr_top (y := nI sg) hs ?_
            refine zn_icmp_gt 20 i_Mod_text_12 (by decide) (by omega) (by omega) (fun q => absurd q (by omega)) (fun c_12 => ?_)
            refine zr_iload i_Mod_text_15 rfl ?_
            refine zN_if_ge 22 i_Mod_text_17 (by decide) (by omega) ?_
            refine zr_iload_n i_Mod_text_22 rfl ?_
            refine zr_if_ne 65 i_Mod_text_23 (by decide) (fun _ => ?_) (fun q => absurd q h4)
            refine zr_aload_n i_Mod_text_65 rfl ?_
            refine zn_iconst 1 i_Mod_text_66 (by decide) ?_
            refine zr_iload_n i_Mod_text_67 rfl ?_
            refine zr_iload_n i_Mod_text_68 rfl ?_
            refine zr_iload_n i_Mod_text_69 rfl ?_
            refine zr_iload i_Mod_text_70 rfl ?_
            refine zr_cv5 i_Mod_text_72 rfl (by decide) rfl (Nat.le_of_ble_eq_true rfl) (Nat.le_of_ble_eq_true rfl) (e_Mod_find X _ g ms 1 cnt _ _ _ _ (by decide) hT.1 hT.2.1) ?_
            refine zr_istore i_Mod_text_75 rfl ?_
            refine zr_iload i_Mod_text_77 rfl ?_
            refine zr_aload_n i_Mod_text_79 rfl ?_
            refine zr_iload i_Mod_text_80 rfl ?_
            refine zr_cv1 i_Mod_text_82 rfl (by decide) rfl (Nat.le_of_ble_eq_true rfl) (Nat.le_of_ble_eq_true rfl) (v_sizeOf X _ g ms _ (mto_find hT _ _ _ _)) ?_
            refine zn_icmp_ge 99 i_Mod_text_85 (by decide) (by omega) (by omega) (fun q => absurd q (by omega)) (fun c_85 => ?_)
            refine zr_aload_n i_Mod_text_88 rfl ?_
            refine zr_iload i_Mod_text_89 rfl ?_
            refine zr_iload i_Mod_text_91 rfl ?_
            refine zr_cv2 i_Mod_text_93 rfl (by decide) rfl (Nat.le_of_ble_eq_true rfl) (Nat.le_of_ble_eq_true rfl) (v_charOf X _ g ms _ (mto_find hT _ _ _ _) _ (by omega)) ?_
            refine zr_goto 100 i_Mod_text_96 (by decide) ?_
            exact zR.retE i_Mod_text_100 rfl rfl
          · rw [tgt, show getF (tc (mV1 ms (nI s) f r c)) (tl (mV1 ms (nI s) f r c)) (nI i) = -1 from getF_ge (nI_le (show tl (mtx ms (mfind ms 1 (nI s) f r c)) ≤ i by omega) i1)]
            refine zr_iload_n i_Mod_text_0 rfl ?_
            refine zn_iconst 1 i_Mod_text_1 (by decide) ?_
            refine zn_icmp_lt 20 i_Mod_text_2 (by decide) (by omega) (by omega) (fun q => absurd q (by omega)) (fun c_2 => ?_)
            refine zr_iload_n i_Mod_text_5 rfl ?_
            refine zr_aload_n i_Mod_text_6 rfl ?_
            refine zr_getf i_Mod_text_7 rfl rfl rfl ?_
            refine zn_iconst 1 i_Mod_text_10 (by decide) ?_
            refine zn_iaload i_Mod_text_11 rfl (by omega) (by decide) ?_
            refine zr_top (y := nI sg) hs ?_
            refine zn_icmp_gt 20 i_Mod_text_12 (by decide) (by omega) (by omega) (fun q => absurd q (by omega)) (fun c_12 => ?_)
            refine zr_iload i_Mod_text_15 rfl ?_
            refine zN_if_ge 22 i_Mod_text_17 (by decide) (by omega) ?_
            refine zr_iload_n i_Mod_text_22 rfl ?_
            refine zr_if_ne 65 i_Mod_text_23 (by decide) (fun _ => ?_) (fun q => absurd q h4)
            refine zr_aload_n i_Mod_text_65 rfl ?_
            refine zn_iconst 1 i_Mod_text_66 (by decide) ?_
            refine zr_iload_n i_Mod_text_67 rfl ?_
            refine zr_iload_n i_Mod_text_68 rfl ?_
            refine zr_iload_n i_Mod_text_69 rfl ?_
            refine zr_iload i_Mod_text_70 rfl ?_
            refine zr_cv5 i_Mod_text_72 rfl (by decide) rfl (Nat.le_of_ble_eq_true rfl) (Nat.le_of_ble_eq_true rfl) (e_Mod_find X _ g ms 1 cnt _ _ _ _ (by decide) hT.1 hT.2.1) ?_
            refine zr_istore i_Mod_text_75 rfl ?_
            refine zr_iload i_Mod_text_77 rfl ?_
            refine zr_aload_n i_Mod_text_79 rfl ?_
            refine zr_iload i_Mod_text_80 rfl ?_
            refine zr_cv1 i_Mod_text_82 rfl (by decide) rfl (Nat.le_of_ble_eq_true rfl) (Nat.le_of_ble_eq_true rfl) (v_sizeOf X _ g ms _ (mto_find hT _ _ _ _)) ?_
            refine zn_icmp_ge 99 i_Mod_text_85 (by decide) (by omega) (by omega) (fun c_85 => ?_) (fun q => absurd q (by omega))
            refine zr_iconst i_Mod_text_99 (v := (-1)) (by decide) ?_
            exact zR.retE i_Mod_text_100 rfl rfl
      · rw [textQ, if_neg (fun q => h3 q.2)]
        refine zr_iload_n i_Mod_text_0 rfl ?_
        refine zr_iconst i_Mod_text_1 (v := 1) (by decide) ?_
        refine zr_icmp_lt 20 i_Mod_text_2 (by decide) (fun q => absurd q h1) (fun c_2 => ?_)
        refine zr_iload_n i_Mod_text_5 rfl ?_
        refine zr_aload_n i_Mod_text_6 rfl ?_
        refine zr_getf i_Mod_text_7 rfl rfl rfl ?_
        refine zn_iconst 1 i_Mod_text_10 (by decide) ?_
        refine zn_iaload i_Mod_text_11 rfl (by omega) (by decide) ?_
        refine zr_top (y := nI sg) hs ?_
        refine zr_icmp_gt 20 i_Mod_text_12 (by decide) (fun q => absurd q h2) (fun c_12 => ?_)
        refine zr_iload i_Mod_text_15 rfl ?_
        refine zr_if_ge 22 i_Mod_text_17 (by decide) (fun q => absurd q h3) (fun _ => ?_)
        refine zr_iconst i_Mod_text_20 (v := (-1)) (by decide) ?_
        exact zR.retE i_Mod_text_21 rfl rfl
