/-! THE CLASS: the kind of a message; writing it -/
theorem i_Mess_kind_0 : zins 80 0 = some (.aload_n 0) := by decide +kernel
theorem i_Mess_kind_1 : zins 80 1 = some (.iconst 1) := by decide +kernel
theorem i_Mess_kind_2 : zins 80 2 = some (.iconst 3) := by decide +kernel
theorem i_Mess_kind_3 : zins 80 3 = some (.iconst 1) := by decide +kernel
theorem i_Mess_kind_4 : zins 80 4 = some (.iconst 1) := by decide +kernel
theorem i_Mess_kind_5 : zins 80 5 = some (.invokevirtual 64) := by decide +kernel
theorem i_Mess_kind_8 : zins 80 8 = some (.istore_n 1) := by decide +kernel
theorem i_Mess_kind_9 : zins 80 9 = some (.aload_n 0) := by decide +kernel
theorem i_Mess_kind_10 : zins 80 10 = some (.iconst 1) := by decide +kernel
theorem i_Mess_kind_11 : zins 80 11 = some (.iconst 3) := by decide +kernel
theorem i_Mess_kind_12 : zins 80 12 = some (.iconst 1) := by decide +kernel
theorem i_Mess_kind_13 : zins 80 13 = some (.iconst 2) := by decide +kernel
theorem i_Mess_kind_14 : zins 80 14 = some (.invokevirtual 64) := by decide +kernel
theorem i_Mess_kind_17 : zins 80 17 = some (.istore_n 2) := by decide +kernel
theorem i_Mess_kind_18 : zins 80 18 = some (.iconst 0) := by decide +kernel
theorem i_Mess_kind_19 : zins 80 19 = some (.istore_n 3) := by decide +kernel
theorem i_Mess_kind_20 : zins 80 20 = some (.iload_n 3) := by decide +kernel
theorem i_Mess_kind_21 : zins 80 21 = some (.getstatic 80) := by decide +kernel
theorem i_Mess_kind_24 : zins 80 24 = some (.arraylength) := by decide +kernel
theorem i_Mess_kind_25 : zins 80 25 = some (.if_icmp .ge 47) := by decide +kernel
theorem i_Mess_kind_28 : zins 80 28 = some (.aload_n 0) := by decide +kernel
theorem i_Mess_kind_29 : zins 80 29 = some (.iload_n 1) := by decide +kernel
theorem i_Mess_kind_30 : zins 80 30 = some (.getstatic 80) := by decide +kernel
theorem i_Mess_kind_33 : zins 80 33 = some (.iload_n 3) := by decide +kernel
theorem i_Mess_kind_34 : zins 80 34 = some (.aaload) := by decide +kernel
theorem i_Mess_kind_35 : zins 80 35 = some (.getfield 84) := by decide +kernel
theorem i_Mess_kind_38 : zins 80 38 = some (.invokevirtual 71) := by decide +kernel
theorem i_Mess_kind_41 : zins 80 41 = some (.ifCond .eq 25) := by decide +kernel
theorem i_Mess_kind_44 : zins 80 44 = some (.aload_n 0) := by decide +kernel
theorem i_Mess_kind_45 : zins 80 45 = some (.iload_n 2) := by decide +kernel
theorem i_Mess_kind_46 : zins 80 46 = some (.getstatic 80) := by decide +kernel
theorem i_Mess_kind_49 : zins 80 49 = some (.iload_n 3) := by decide +kernel
theorem i_Mess_kind_50 : zins 80 50 = some (.aaload) := by decide +kernel
theorem i_Mess_kind_51 : zins 80 51 = some (.getfield 90) := by decide +kernel
theorem i_Mess_kind_54 : zins 80 54 = some (.invokevirtual 71) := by decide +kernel
theorem i_Mess_kind_57 : zins 80 57 = some (.ifCond .eq 9) := by decide +kernel
theorem i_Mess_kind_60 : zins 80 60 = some (.getstatic 80) := by decide +kernel
theorem i_Mess_kind_63 : zins 80 63 = some (.iload_n 3) := by decide +kernel
theorem i_Mess_kind_64 : zins 80 64 = some (.aaload) := by decide +kernel
theorem i_Mess_kind_65 : zins 80 65 = some (.areturn) := by decide +kernel
theorem i_Mess_kind_66 : zins 80 66 = some (.iinc 3 1) := by decide +kernel
theorem i_Mess_kind_69 : zins 80 69 = some (.goto (-49)) := by decide +kernel
theorem i_Mess_kind_72 : zins 80 72 = some (.aconst_null) := by decide +kernel
theorem i_Mess_kind_73 : zins 80 73 = some (.areturn) := by decide +kernel
def kd5 (_t _u : zT) : Option Nat := none
def kd4 (t u : zT) : Option Nat := if sayF t (sT 20) = true ∧ sayF u (sT 21) = true then some 74 else kd5 t u
def kd3 (t u : zT) : Option Nat := if sayF t (sT 15) = true ∧ sayF u (sT 19) = true then some 73 else kd4 t u
def kd2 (t u : zT) : Option Nat := if sayF t (sT 15) = true ∧ sayF u (sT 18) = true then some 72 else kd3 t u
def kd1 (t u : zT) : Option Nat := if sayF t (sT 15) = true ∧ sayF u (sT 17) = true then some 71 else kd2 t u
def kd0 (t u : zT) : Option Nat := if sayF t (sT 15) = true ∧ sayF u (sT 16) = true then some 70 else kd1 t u
theorem kd5_Mess_kind (X : zX) (d : Nat) (hX : X.2.2.category = 1) (h : zH) (hz : zlow h) (a : Nat) (f : Nat → Int32) (n : Nat) (st : Nat → Int32) (cn : Nat) (hM : isM h a f n st cn) (hn : n ≤ 200) (o1 o2 : Option Nat) (ho1 : ∀ p, o1 = some p → p ≤ n) (ho2 : ∀ p, o2 = some p → p ≤ n) : zR X (d + 5) 80 20 [some (.ref a), some (.int (tI o1)), some (.int (tI o2)), some (.int (nI 5))] [] h (some (va_rf (kd5 (txo f n o1) (txo f n o2))), h) := by
  refine zr_iload_n i_Mess_kind_20 rfl ?_
  refine zr_gets i_Mess_kind_21 rfl ?_
  refine zr_lenK i_Mess_kind_24 (hz 75 (by decide)) rfl (rfl : _ = nI 5) ?_
  refine zn_icmp_ge 72 i_Mess_kind_25 (by decide) (by omega) (by omega) (fun c_25 => ?_) (fun q => absurd q (by decide))
  refine zr_anull i_Mess_kind_72 ?_
  exact zR.retE i_Mess_kind_73 rfl rfl
theorem kd4_Mess_kind (X : zX) (d : Nat) (hX : X.2.2.category = 1) (h : zH) (hz : zlow h) (a : Nat) (f : Nat → Int32) (n : Nat) (st : Nat → Int32) (cn : Nat) (hM : isM h a f n st cn) (hn : n ≤ 200) (o1 o2 : Option Nat) (ho1 : ∀ p, o1 = some p → p ≤ n) (ho2 : ∀ p, o2 = some p → p ≤ n) : zR X (d + 5) 80 20 [some (.ref a), some (.int (tI o1)), some (.int (tI o2)), some (.int (nI 4))] [] h (some (va_rf (kd4 (txo f n o1) (txo f n o2))), h) := by
  have s1 := e_Mess_says X d hX h hz a f n st cn hM hn 20 ⟨by decide, by decide⟩ (by decide) o1 ho1
  have s2 := e_Mess_says X d hX h hz a f n st cn hM hn 21 ⟨by decide, by decide⟩ (by decide) o2 ho2
  have K := kd5_Mess_kind X d hX h hz a f n st cn hM hn o1 o2 ho1 ho2
  unfold kd4
  cases h1 : sayF (txo f n o1) (sT 20) with
  | false =>
    rw [h1] at s1
    rw [if_neg (fun z => absurd z.1 (by decide))]
    refine zr_iload_n i_Mess_kind_20 rfl ?_
    refine zr_gets i_Mess_kind_21 rfl ?_
    refine zr_lenK i_Mess_kind_24 (hz 75 (by decide)) rfl (rfl : _ = nI 5) ?_
    refine zn_icmp_ge 72 i_Mess_kind_25 (by decide) (by omega) (by omega) (fun q => absurd q (by decide)) (fun c_25 => ?_)
    refine zr_aload_n i_Mess_kind_28 rfl ?_
    refine zr_iload_n i_Mess_kind_29 rfl ?_
    refine zr_gets i_Mess_kind_30 rfl ?_
    refine zr_iload_n i_Mess_kind_33 rfl ?_
    refine zr_aaloadK i_Mess_kind_34 (hz 75 (by decide)) rfl (by decide) ?_
    refine zr_getk i_Mess_kind_35 (hz _ (by decide)) rfl ?_
    refine zr_cv2 i_Mess_kind_38 rfl (by decide) (zrcv_of hM.1) (Nat.le_of_ble_eq_true rfl) (Nat.le_of_ble_eq_true rfl) (s1) ?_
    refine zB_if_eq 66 i_Mess_kind_41 (by decide) (fun _ => ?_) (fun q => absurd q (by decide))
    refine zn_iinc i_Mess_kind_66 rfl rfl ?_
    refine zr_goto 20 i_Mess_kind_69 (by decide) ?_
    exact K
  | true =>
    rw [h1] at s1
    cases h2 : sayF (txo f n o2) (sT 21) with
    | false =>
      rw [h2] at s2
      rw [if_neg (fun z => absurd z.2 (by decide))]
      refine zr_iload_n i_Mess_kind_20 rfl ?_
      refine zr_gets i_Mess_kind_21 rfl ?_
      refine zr_lenK i_Mess_kind_24 (hz 75 (by decide)) rfl (rfl : _ = nI 5) ?_
      refine zn_icmp_ge 72 i_Mess_kind_25 (by decide) (by omega) (by omega) (fun q => absurd q (by decide)) (fun c_25 => ?_)
      refine zr_aload_n i_Mess_kind_28 rfl ?_
      refine zr_iload_n i_Mess_kind_29 rfl ?_
      refine zr_gets i_Mess_kind_30 rfl ?_
      refine zr_iload_n i_Mess_kind_33 rfl ?_
      refine zr_aaloadK i_Mess_kind_34 (hz 75 (by decide)) rfl (by decide) ?_
      refine zr_getk i_Mess_kind_35 (hz _ (by decide)) rfl ?_
      refine zr_cv2 i_Mess_kind_38 rfl (by decide) (zrcv_of hM.1) (Nat.le_of_ble_eq_true rfl) (Nat.le_of_ble_eq_true rfl) (s1) ?_
      refine zB_if_eq 66 i_Mess_kind_41 (by decide) (fun q => absurd q (by decide)) (fun _ => ?_)
      refine zr_aload_n i_Mess_kind_44 rfl ?_
      refine zr_iload_n i_Mess_kind_45 rfl ?_
      refine zr_gets i_Mess_kind_46 rfl ?_
      refine zr_iload_n i_Mess_kind_49 rfl ?_
      refine zr_aaloadK i_Mess_kind_50 (hz 75 (by decide)) rfl (by decide) ?_
      refine zr_getk i_Mess_kind_51 (hz _ (by decide)) rfl ?_
      refine zr_cv2 i_Mess_kind_54 rfl (by decide) (zrcv_of hM.1) (Nat.le_of_ble_eq_true rfl) (Nat.le_of_ble_eq_true rfl) (s2) ?_
      refine zB_if_eq 66 i_Mess_kind_57 (by decide) (fun _ => ?_) (fun q => absurd q (by decide))
      refine zn_iinc i_Mess_kind_66 rfl rfl ?_
      refine zr_goto 20 i_Mess_kind_69 (by decide) ?_
      exact K
    | true =>
      rw [h2] at s2
      rw [if_pos ⟨rfl, rfl⟩]
      refine zr_iload_n i_Mess_kind_20 rfl ?_
      refine zr_gets i_Mess_kind_21 rfl ?_
      refine zr_lenK i_Mess_kind_24 (hz 75 (by decide)) rfl (rfl : _ = nI 5) ?_
      refine zn_icmp_ge 72 i_Mess_kind_25 (by decide) (by omega) (by omega) (fun q => absurd q (by decide)) (fun c_25 => ?_)
      refine zr_aload_n i_Mess_kind_28 rfl ?_
      refine zr_iload_n i_Mess_kind_29 rfl ?_
      refine zr_gets i_Mess_kind_30 rfl ?_
      refine zr_iload_n i_Mess_kind_33 rfl ?_
      refine zr_aaloadK i_Mess_kind_34 (hz 75 (by decide)) rfl (by decide) ?_
      refine zr_getk i_Mess_kind_35 (hz _ (by decide)) rfl ?_
      refine zr_cv2 i_Mess_kind_38 rfl (by decide) (zrcv_of hM.1) (Nat.le_of_ble_eq_true rfl) (Nat.le_of_ble_eq_true rfl) (s1) ?_
      refine zB_if_eq 66 i_Mess_kind_41 (by decide) (fun q => absurd q (by decide)) (fun _ => ?_)
      refine zr_aload_n i_Mess_kind_44 rfl ?_
      refine zr_iload_n i_Mess_kind_45 rfl ?_
      refine zr_gets i_Mess_kind_46 rfl ?_
      refine zr_iload_n i_Mess_kind_49 rfl ?_
      refine zr_aaloadK i_Mess_kind_50 (hz 75 (by decide)) rfl (by decide) ?_
      refine zr_getk i_Mess_kind_51 (hz _ (by decide)) rfl ?_
      refine zr_cv2 i_Mess_kind_54 rfl (by decide) (zrcv_of hM.1) (Nat.le_of_ble_eq_true rfl) (Nat.le_of_ble_eq_true rfl) (s2) ?_
      refine zB_if_eq 66 i_Mess_kind_57 (by decide) (fun q => absurd q (by decide)) (fun _ => ?_)
      refine zr_gets i_Mess_kind_60 rfl ?_
      refine zr_iload_n i_Mess_kind_63 rfl ?_
      refine zr_aaloadK i_Mess_kind_64 (hz 75 (by decide)) rfl (by decide) ?_
      exact zR.retE i_Mess_kind_65 rfl rfl
theorem kd3_Mess_kind (X : zX) (d : Nat) (hX : X.2.2.category = 1) (h : zH) (hz : zlow h) (a : Nat) (f : Nat → Int32) (n : Nat) (st : Nat → Int32) (cn : Nat) (hM : isM h a f n st cn) (hn : n ≤ 200) (o1 o2 : Option Nat) (ho1 : ∀ p, o1 = some p → p ≤ n) (ho2 : ∀ p, o2 = some p → p ≤ n) : zR X (d + 5) 80 20 [some (.ref a), some (.int (tI o1)), some (.int (tI o2)), some (.int (nI 3))] [] h (some (va_rf (kd3 (txo f n o1) (txo f n o2))), h) := by
  have s1 := e_Mess_says X d hX h hz a f n st cn hM hn 15 ⟨by decide, by decide⟩ (by decide) o1 ho1
  have s2 := e_Mess_says X d hX h hz a f n st cn hM hn 19 ⟨by decide, by decide⟩ (by decide) o2 ho2
  have K := kd4_Mess_kind X d hX h hz a f n st cn hM hn o1 o2 ho1 ho2
  unfold kd3
  cases h1 : sayF (txo f n o1) (sT 15) with
  | false =>
    rw [h1] at s1
    rw [if_neg (fun z => absurd z.1 (by decide))]
    refine zr_iload_n i_Mess_kind_20 rfl ?_
    refine zr_gets i_Mess_kind_21 rfl ?_
    refine zr_lenK i_Mess_kind_24 (hz 75 (by decide)) rfl (rfl : _ = nI 5) ?_
    refine zn_icmp_ge 72 i_Mess_kind_25 (by decide) (by omega) (by omega) (fun q => absurd q (by decide)) (fun c_25 => ?_)
    refine zr_aload_n i_Mess_kind_28 rfl ?_
    refine zr_iload_n i_Mess_kind_29 rfl ?_
    refine zr_gets i_Mess_kind_30 rfl ?_
    refine zr_iload_n i_Mess_kind_33 rfl ?_
    refine zr_aaloadK i_Mess_kind_34 (hz 75 (by decide)) rfl (by decide) ?_
    refine zr_getk i_Mess_kind_35 (hz _ (by decide)) rfl ?_
    refine zr_cv2 i_Mess_kind_38 rfl (by decide) (zrcv_of hM.1) (Nat.le_of_ble_eq_true rfl) (Nat.le_of_ble_eq_true rfl) (s1) ?_
    refine zB_if_eq 66 i_Mess_kind_41 (by decide) (fun _ => ?_) (fun q => absurd q (by decide))
    refine zn_iinc i_Mess_kind_66 rfl rfl ?_
    refine zr_goto 20 i_Mess_kind_69 (by decide) ?_
    exact K
  | true =>
    rw [h1] at s1
    cases h2 : sayF (txo f n o2) (sT 19) with
    | false =>
      rw [h2] at s2
      rw [if_neg (fun z => absurd z.2 (by decide))]
      refine zr_iload_n i_Mess_kind_20 rfl ?_
      refine zr_gets i_Mess_kind_21 rfl ?_
      refine zr_lenK i_Mess_kind_24 (hz 75 (by decide)) rfl (rfl : _ = nI 5) ?_
      refine zn_icmp_ge 72 i_Mess_kind_25 (by decide) (by omega) (by omega) (fun q => absurd q (by decide)) (fun c_25 => ?_)
      refine zr_aload_n i_Mess_kind_28 rfl ?_
      refine zr_iload_n i_Mess_kind_29 rfl ?_
      refine zr_gets i_Mess_kind_30 rfl ?_
      refine zr_iload_n i_Mess_kind_33 rfl ?_
      refine zr_aaloadK i_Mess_kind_34 (hz 75 (by decide)) rfl (by decide) ?_
      refine zr_getk i_Mess_kind_35 (hz _ (by decide)) rfl ?_
      refine zr_cv2 i_Mess_kind_38 rfl (by decide) (zrcv_of hM.1) (Nat.le_of_ble_eq_true rfl) (Nat.le_of_ble_eq_true rfl) (s1) ?_
      refine zB_if_eq 66 i_Mess_kind_41 (by decide) (fun q => absurd q (by decide)) (fun _ => ?_)
      refine zr_aload_n i_Mess_kind_44 rfl ?_
      refine zr_iload_n i_Mess_kind_45 rfl ?_
      refine zr_gets i_Mess_kind_46 rfl ?_
      refine zr_iload_n i_Mess_kind_49 rfl ?_
      refine zr_aaloadK i_Mess_kind_50 (hz 75 (by decide)) rfl (by decide) ?_
      refine zr_getk i_Mess_kind_51 (hz _ (by decide)) rfl ?_
      refine zr_cv2 i_Mess_kind_54 rfl (by decide) (zrcv_of hM.1) (Nat.le_of_ble_eq_true rfl) (Nat.le_of_ble_eq_true rfl) (s2) ?_
      refine zB_if_eq 66 i_Mess_kind_57 (by decide) (fun _ => ?_) (fun q => absurd q (by decide))
      refine zn_iinc i_Mess_kind_66 rfl rfl ?_
      refine zr_goto 20 i_Mess_kind_69 (by decide) ?_
      exact K
    | true =>
      rw [h2] at s2
      rw [if_pos ⟨rfl, rfl⟩]
      refine zr_iload_n i_Mess_kind_20 rfl ?_
      refine zr_gets i_Mess_kind_21 rfl ?_
      refine zr_lenK i_Mess_kind_24 (hz 75 (by decide)) rfl (rfl : _ = nI 5) ?_
      refine zn_icmp_ge 72 i_Mess_kind_25 (by decide) (by omega) (by omega) (fun q => absurd q (by decide)) (fun c_25 => ?_)
      refine zr_aload_n i_Mess_kind_28 rfl ?_
      refine zr_iload_n i_Mess_kind_29 rfl ?_
      refine zr_gets i_Mess_kind_30 rfl ?_
      refine zr_iload_n i_Mess_kind_33 rfl ?_
      refine zr_aaloadK i_Mess_kind_34 (hz 75 (by decide)) rfl (by decide) ?_
      refine zr_getk i_Mess_kind_35 (hz _ (by decide)) rfl ?_
      refine zr_cv2 i_Mess_kind_38 rfl (by decide) (zrcv_of hM.1) (Nat.le_of_ble_eq_true rfl) (Nat.le_of_ble_eq_true rfl) (s1) ?_
      refine zB_if_eq 66 i_Mess_kind_41 (by decide) (fun q => absurd q (by decide)) (fun _ => ?_)
      refine zr_aload_n i_Mess_kind_44 rfl ?_
      refine zr_iload_n i_Mess_kind_45 rfl ?_
      refine zr_gets i_Mess_kind_46 rfl ?_
      refine zr_iload_n i_Mess_kind_49 rfl ?_
      refine zr_aaloadK i_Mess_kind_50 (hz 75 (by decide)) rfl (by decide) ?_
      refine zr_getk i_Mess_kind_51 (hz _ (by decide)) rfl ?_
      refine zr_cv2 i_Mess_kind_54 rfl (by decide) (zrcv_of hM.1) (Nat.le_of_ble_eq_true rfl) (Nat.le_of_ble_eq_true rfl) (s2) ?_
      refine zB_if_eq 66 i_Mess_kind_57 (by decide) (fun q => absurd q (by decide)) (fun _ => ?_)
      refine zr_gets i_Mess_kind_60 rfl ?_
      refine zr_iload_n i_Mess_kind_63 rfl ?_
      refine zr_aaloadK i_Mess_kind_64 (hz 75 (by decide)) rfl (by decide) ?_
      exact zR.retE i_Mess_kind_65 rfl rfl
theorem kd2_Mess_kind (X : zX) (d : Nat) (hX : X.2.2.category = 1) (h : zH) (hz : zlow h) (a : Nat) (f : Nat → Int32) (n : Nat) (st : Nat → Int32) (cn : Nat) (hM : isM h a f n st cn) (hn : n ≤ 200) (o1 o2 : Option Nat) (ho1 : ∀ p, o1 = some p → p ≤ n) (ho2 : ∀ p, o2 = some p → p ≤ n) : zR X (d + 5) 80 20 [some (.ref a), some (.int (tI o1)), some (.int (tI o2)), some (.int (nI 2))] [] h (some (va_rf (kd2 (txo f n o1) (txo f n o2))), h) := by
  have s1 := e_Mess_says X d hX h hz a f n st cn hM hn 15 ⟨by decide, by decide⟩ (by decide) o1 ho1
  have s2 := e_Mess_says X d hX h hz a f n st cn hM hn 18 ⟨by decide, by decide⟩ (by decide) o2 ho2
  have K := kd3_Mess_kind X d hX h hz a f n st cn hM hn o1 o2 ho1 ho2
  unfold kd2
  cases h1 : sayF (txo f n o1) (sT 15) with
  | false =>
    rw [h1] at s1
    rw [if_neg (fun z => absurd z.1 (by decide))]
    refine zr_iload_n i_Mess_kind_20 rfl ?_
    refine zr_gets i_Mess_kind_21 rfl ?_
    refine zr_lenK i_Mess_kind_24 (hz 75 (by decide)) rfl (rfl : _ = nI 5) ?_
    refine zn_icmp_ge 72 i_Mess_kind_25 (by decide) (by omega) (by omega) (fun q => absurd q (by decide)) (fun c_25 => ?_)
    refine zr_aload_n i_Mess_kind_28 rfl ?_
    refine zr_iload_n i_Mess_kind_29 rfl ?_
    refine zr_gets i_Mess_kind_30 rfl ?_
    refine zr_iload_n i_Mess_kind_33 rfl ?_
    refine zr_aaloadK i_Mess_kind_34 (hz 75 (by decide)) rfl (by decide) ?_
    refine zr_getk i_Mess_kind_35 (hz _ (by decide)) rfl ?_
    refine zr_cv2 i_Mess_kind_38 rfl (by decide) (zrcv_of hM.1) (Nat.le_of_ble_eq_true rfl) (Nat.le_of_ble_eq_true rfl) (s1) ?_
    refine zB_if_eq 66 i_Mess_kind_41 (by decide) (fun _ => ?_) (fun q => absurd q (by decide))
    refine zn_iinc i_Mess_kind_66 rfl rfl ?_
    refine zr_goto 20 i_Mess_kind_69 (by decide) ?_
    exact K
  | true =>
    rw [h1] at s1
    cases h2 : sayF (txo f n o2) (sT 18) with
    | false =>
      rw [h2] at s2
      rw [if_neg (fun z => absurd z.2 (by decide))]
      refine zr_iload_n i_Mess_kind_20 rfl ?_
      refine zr_gets i_Mess_kind_21 rfl ?_
      refine zr_lenK i_Mess_kind_24 (hz 75 (by decide)) rfl (rfl : _ = nI 5) ?_
      refine zn_icmp_ge 72 i_Mess_kind_25 (by decide) (by omega) (by omega) (fun q => absurd q (by decide)) (fun c_25 => ?_)
      refine zr_aload_n i_Mess_kind_28 rfl ?_
      refine zr_iload_n i_Mess_kind_29 rfl ?_
      refine zr_gets i_Mess_kind_30 rfl ?_
      refine zr_iload_n i_Mess_kind_33 rfl ?_
      refine zr_aaloadK i_Mess_kind_34 (hz 75 (by decide)) rfl (by decide) ?_
      refine zr_getk i_Mess_kind_35 (hz _ (by decide)) rfl ?_
      refine zr_cv2 i_Mess_kind_38 rfl (by decide) (zrcv_of hM.1) (Nat.le_of_ble_eq_true rfl) (Nat.le_of_ble_eq_true rfl) (s1) ?_
      refine zB_if_eq 66 i_Mess_kind_41 (by decide) (fun q => absurd q (by decide)) (fun _ => ?_)
      refine zr_aload_n i_Mess_kind_44 rfl ?_
      refine zr_iload_n i_Mess_kind_45 rfl ?_
      refine zr_gets i_Mess_kind_46 rfl ?_
      refine zr_iload_n i_Mess_kind_49 rfl ?_
      refine zr_aaloadK i_Mess_kind_50 (hz 75 (by decide)) rfl (by decide) ?_
      refine zr_getk i_Mess_kind_51 (hz _ (by decide)) rfl ?_
      refine zr_cv2 i_Mess_kind_54 rfl (by decide) (zrcv_of hM.1) (Nat.le_of_ble_eq_true rfl) (Nat.le_of_ble_eq_true rfl) (s2) ?_
      refine zB_if_eq 66 i_Mess_kind_57 (by decide) (fun _ => ?_) (fun q => absurd q (by decide))
      refine zn_iinc i_Mess_kind_66 rfl rfl ?_
      refine zr_goto 20 i_Mess_kind_69 (by decide) ?_
      exact K
    | true =>
      rw [h2] at s2
      rw [if_pos ⟨rfl, rfl⟩]
      refine zr_iload_n i_Mess_kind_20 rfl ?_
      refine zr_gets i_Mess_kind_21 rfl ?_
      refine zr_lenK i_Mess_kind_24 (hz 75 (by decide)) rfl (rfl : _ = nI 5) ?_
      refine zn_icmp_ge 72 i_Mess_kind_25 (by decide) (by omega) (by omega) (fun q => absurd q (by decide)) (fun c_25 => ?_)
      refine zr_aload_n i_Mess_kind_28 rfl ?_
      refine zr_iload_n i_Mess_kind_29 rfl ?_
      refine zr_gets i_Mess_kind_30 rfl ?_
      refine zr_iload_n i_Mess_kind_33 rfl ?_
      refine zr_aaloadK i_Mess_kind_34 (hz 75 (by decide)) rfl (by decide) ?_
      refine zr_getk i_Mess_kind_35 (hz _ (by decide)) rfl ?_
      refine zr_cv2 i_Mess_kind_38 rfl (by decide) (zrcv_of hM.1) (Nat.le_of_ble_eq_true rfl) (Nat.le_of_ble_eq_true rfl) (s1) ?_
      refine zB_if_eq 66 i_Mess_kind_41 (by decide) (fun q => absurd q (by decide)) (fun _ => ?_)
      refine zr_aload_n i_Mess_kind_44 rfl ?_
      refine zr_iload_n i_Mess_kind_45 rfl ?_
      refine zr_gets i_Mess_kind_46 rfl ?_
      refine zr_iload_n i_Mess_kind_49 rfl ?_
      refine zr_aaloadK i_Mess_kind_50 (hz 75 (by decide)) rfl (by decide) ?_
      refine zr_getk i_Mess_kind_51 (hz _ (by decide)) rfl ?_
      refine zr_cv2 i_Mess_kind_54 rfl (by decide) (zrcv_of hM.1) (Nat.le_of_ble_eq_true rfl) (Nat.le_of_ble_eq_true rfl) (s2) ?_
      refine zB_if_eq 66 i_Mess_kind_57 (by decide) (fun q => absurd q (by decide)) (fun _ => ?_)
      refine zr_gets i_Mess_kind_60 rfl ?_
      refine zr_iload_n i_Mess_kind_63 rfl ?_
      refine zr_aaloadK i_Mess_kind_64 (hz 75 (by decide)) rfl (by decide) ?_
      exact zR.retE i_Mess_kind_65 rfl rfl
theorem kd1_Mess_kind (X : zX) (d : Nat) (hX : X.2.2.category = 1) (h : zH) (hz : zlow h) (a : Nat) (f : Nat → Int32) (n : Nat) (st : Nat → Int32) (cn : Nat) (hM : isM h a f n st cn) (hn : n ≤ 200) (o1 o2 : Option Nat) (ho1 : ∀ p, o1 = some p → p ≤ n) (ho2 : ∀ p, o2 = some p → p ≤ n) : zR X (d + 5) 80 20 [some (.ref a), some (.int (tI o1)), some (.int (tI o2)), some (.int (nI 1))] [] h (some (va_rf (kd1 (txo f n o1) (txo f n o2))), h) := by
  have s1 := e_Mess_says X d hX h hz a f n st cn hM hn 15 ⟨by decide, by decide⟩ (by decide) o1 ho1
  have s2 := e_Mess_says X d hX h hz a f n st cn hM hn 17 ⟨by decide, by decide⟩ (by decide) o2 ho2
  have K := kd2_Mess_kind X d hX h hz a f n st cn hM hn o1 o2 ho1 ho2
  unfold kd1
  cases h1 : sayF (txo f n o1) (sT 15) with
  | false =>
    rw [h1] at s1
    rw [if_neg (fun z => absurd z.1 (by decide))]
    refine zr_iload_n i_Mess_kind_20 rfl ?_
    refine zr_gets i_Mess_kind_21 rfl ?_
    refine zr_lenK i_Mess_kind_24 (hz 75 (by decide)) rfl (rfl : _ = nI 5) ?_
    refine zn_icmp_ge 72 i_Mess_kind_25 (by decide) (by omega) (by omega) (fun q => absurd q (by decide)) (fun c_25 => ?_)
    refine zr_aload_n i_Mess_kind_28 rfl ?_
    refine zr_iload_n i_Mess_kind_29 rfl ?_
    refine zr_gets i_Mess_kind_30 rfl ?_
    refine zr_iload_n i_Mess_kind_33 rfl ?_
    refine zr_aaloadK i_Mess_kind_34 (hz 75 (by decide)) rfl (by decide) ?_
    refine zr_getk i_Mess_kind_35 (hz _ (by decide)) rfl ?_
    refine zr_cv2 i_Mess_kind_38 rfl (by decide) (zrcv_of hM.1) (Nat.le_of_ble_eq_true rfl) (Nat.le_of_ble_eq_true rfl) (s1) ?_
    refine zB_if_eq 66 i_Mess_kind_41 (by decide) (fun _ => ?_) (fun q => absurd q (by decide))
    refine zn_iinc i_Mess_kind_66 rfl rfl ?_
    refine zr_goto 20 i_Mess_kind_69 (by decide) ?_
    exact K
  | true =>
    rw [h1] at s1
    cases h2 : sayF (txo f n o2) (sT 17) with
    | false =>
      rw [h2] at s2
      rw [if_neg (fun z => absurd z.2 (by decide))]
      refine zr_iload_n i_Mess_kind_20 rfl ?_
      refine zr_gets i_Mess_kind_21 rfl ?_
      refine zr_lenK i_Mess_kind_24 (hz 75 (by decide)) rfl (rfl : _ = nI 5) ?_
      refine zn_icmp_ge 72 i_Mess_kind_25 (by decide) (by omega) (by omega) (fun q => absurd q (by decide)) (fun c_25 => ?_)
      refine zr_aload_n i_Mess_kind_28 rfl ?_
      refine zr_iload_n i_Mess_kind_29 rfl ?_
      refine zr_gets i_Mess_kind_30 rfl ?_
      refine zr_iload_n i_Mess_kind_33 rfl ?_
      refine zr_aaloadK i_Mess_kind_34 (hz 75 (by decide)) rfl (by decide) ?_
      refine zr_getk i_Mess_kind_35 (hz _ (by decide)) rfl ?_
      refine zr_cv2 i_Mess_kind_38 rfl (by decide) (zrcv_of hM.1) (Nat.le_of_ble_eq_true rfl) (Nat.le_of_ble_eq_true rfl) (s1) ?_
      refine zB_if_eq 66 i_Mess_kind_41 (by decide) (fun q => absurd q (by decide)) (fun _ => ?_)
      refine zr_aload_n i_Mess_kind_44 rfl ?_
      refine zr_iload_n i_Mess_kind_45 rfl ?_
      refine zr_gets i_Mess_kind_46 rfl ?_
      refine zr_iload_n i_Mess_kind_49 rfl ?_
      refine zr_aaloadK i_Mess_kind_50 (hz 75 (by decide)) rfl (by decide) ?_
      refine zr_getk i_Mess_kind_51 (hz _ (by decide)) rfl ?_
      refine zr_cv2 i_Mess_kind_54 rfl (by decide) (zrcv_of hM.1) (Nat.le_of_ble_eq_true rfl) (Nat.le_of_ble_eq_true rfl) (s2) ?_
      refine zB_if_eq 66 i_Mess_kind_57 (by decide) (fun _ => ?_) (fun q => absurd q (by decide))
      refine zn_iinc i_Mess_kind_66 rfl rfl ?_
      refine zr_goto 20 i_Mess_kind_69 (by decide) ?_
      exact K
    | true =>
      rw [h2] at s2
      rw [if_pos ⟨rfl, rfl⟩]
      refine zr_iload_n i_Mess_kind_20 rfl ?_
      refine zr_gets i_Mess_kind_21 rfl ?_
      refine zr_lenK i_Mess_kind_24 (hz 75 (by decide)) rfl (rfl : _ = nI 5) ?_
      refine zn_icmp_ge 72 i_Mess_kind_25 (by decide) (by omega) (by omega) (fun q => absurd q (by decide)) (fun c_25 => ?_)
      refine zr_aload_n i_Mess_kind_28 rfl ?_
      refine zr_iload_n i_Mess_kind_29 rfl ?_
      refine zr_gets i_Mess_kind_30 rfl ?_
      refine zr_iload_n i_Mess_kind_33 rfl ?_
      refine zr_aaloadK i_Mess_kind_34 (hz 75 (by decide)) rfl (by decide) ?_
      refine zr_getk i_Mess_kind_35 (hz _ (by decide)) rfl ?_
      refine zr_cv2 i_Mess_kind_38 rfl (by decide) (zrcv_of hM.1) (Nat.le_of_ble_eq_true rfl) (Nat.le_of_ble_eq_true rfl) (s1) ?_
      refine zB_if_eq 66 i_Mess_kind_41 (by decide) (fun q => absurd q (by decide)) (fun _ => ?_)
      refine zr_aload_n i_Mess_kind_44 rfl ?_
      refine zr_iload_n i_Mess_kind_45 rfl ?_
      refine zr_gets i_Mess_kind_46 rfl ?_
      refine zr_iload_n i_Mess_kind_49 rfl ?_
      refine zr_aaloadK i_Mess_kind_50 (hz 75 (by decide)) rfl (by decide) ?_
      refine zr_getk i_Mess_kind_51 (hz _ (by decide)) rfl ?_
      refine zr_cv2 i_Mess_kind_54 rfl (by decide) (zrcv_of hM.1) (Nat.le_of_ble_eq_true rfl) (Nat.le_of_ble_eq_true rfl) (s2) ?_
      refine zB_if_eq 66 i_Mess_kind_57 (by decide) (fun q => absurd q (by decide)) (fun _ => ?_)
      refine zr_gets i_Mess_kind_60 rfl ?_
      refine zr_iload_n i_Mess_kind_63 rfl ?_
      refine zr_aaloadK i_Mess_kind_64 (hz 75 (by decide)) rfl (by decide) ?_
      exact zR.retE i_Mess_kind_65 rfl rfl
theorem kd0_Mess_kind (X : zX) (d : Nat) (hX : X.2.2.category = 1) (h : zH) (hz : zlow h) (a : Nat) (f : Nat → Int32) (n : Nat) (st : Nat → Int32) (cn : Nat) (hM : isM h a f n st cn) (hn : n ≤ 200) (o1 o2 : Option Nat) (ho1 : ∀ p, o1 = some p → p ≤ n) (ho2 : ∀ p, o2 = some p → p ≤ n) : zR X (d + 5) 80 20 [some (.ref a), some (.int (tI o1)), some (.int (tI o2)), some (.int (nI 0))] [] h (some (va_rf (kd0 (txo f n o1) (txo f n o2))), h) := by
  have s1 := e_Mess_says X d hX h hz a f n st cn hM hn 15 ⟨by decide, by decide⟩ (by decide) o1 ho1
  have s2 := e_Mess_says X d hX h hz a f n st cn hM hn 16 ⟨by decide, by decide⟩ (by decide) o2 ho2
  have K := kd1_Mess_kind X d hX h hz a f n st cn hM hn o1 o2 ho1 ho2
  unfold kd0
  cases h1 : sayF (txo f n o1) (sT 15) with
  | false =>
    rw [h1] at s1
    rw [if_neg (fun z => absurd z.1 (by decide))]
    refine zr_iload_n i_Mess_kind_20 rfl ?_
    refine zr_gets i_Mess_kind_21 rfl ?_
    refine zr_lenK i_Mess_kind_24 (hz 75 (by decide)) rfl (rfl : _ = nI 5) ?_
    refine zn_icmp_ge 72 i_Mess_kind_25 (by decide) (by omega) (by omega) (fun q => absurd q (by decide)) (fun c_25 => ?_)
    refine zr_aload_n i_Mess_kind_28 rfl ?_
    refine zr_iload_n i_Mess_kind_29 rfl ?_
    refine zr_gets i_Mess_kind_30 rfl ?_
    refine zr_iload_n i_Mess_kind_33 rfl ?_
    refine zr_aaloadK i_Mess_kind_34 (hz 75 (by decide)) rfl (by decide) ?_
    refine zr_getk i_Mess_kind_35 (hz _ (by decide)) rfl ?_
    refine zr_cv2 i_Mess_kind_38 rfl (by decide) (zrcv_of hM.1) (Nat.le_of_ble_eq_true rfl) (Nat.le_of_ble_eq_true rfl) (s1) ?_
    refine zB_if_eq 66 i_Mess_kind_41 (by decide) (fun _ => ?_) (fun q => absurd q (by decide))
    refine zn_iinc i_Mess_kind_66 rfl rfl ?_
    refine zr_goto 20 i_Mess_kind_69 (by decide) ?_
    exact K
  | true =>
    rw [h1] at s1
    cases h2 : sayF (txo f n o2) (sT 16) with
    | false =>
      rw [h2] at s2
      rw [if_neg (fun z => absurd z.2 (by decide))]
      refine zr_iload_n i_Mess_kind_20 rfl ?_
      refine zr_gets i_Mess_kind_21 rfl ?_
      refine zr_lenK i_Mess_kind_24 (hz 75 (by decide)) rfl (rfl : _ = nI 5) ?_
      refine zn_icmp_ge 72 i_Mess_kind_25 (by decide) (by omega) (by omega) (fun q => absurd q (by decide)) (fun c_25 => ?_)
      refine zr_aload_n i_Mess_kind_28 rfl ?_
      refine zr_iload_n i_Mess_kind_29 rfl ?_
      refine zr_gets i_Mess_kind_30 rfl ?_
      refine zr_iload_n i_Mess_kind_33 rfl ?_
      refine zr_aaloadK i_Mess_kind_34 (hz 75 (by decide)) rfl (by decide) ?_
      refine zr_getk i_Mess_kind_35 (hz _ (by decide)) rfl ?_
      refine zr_cv2 i_Mess_kind_38 rfl (by decide) (zrcv_of hM.1) (Nat.le_of_ble_eq_true rfl) (Nat.le_of_ble_eq_true rfl) (s1) ?_
      refine zB_if_eq 66 i_Mess_kind_41 (by decide) (fun q => absurd q (by decide)) (fun _ => ?_)
      refine zr_aload_n i_Mess_kind_44 rfl ?_
      refine zr_iload_n i_Mess_kind_45 rfl ?_
      refine zr_gets i_Mess_kind_46 rfl ?_
      refine zr_iload_n i_Mess_kind_49 rfl ?_
      refine zr_aaloadK i_Mess_kind_50 (hz 75 (by decide)) rfl (by decide) ?_
      refine zr_getk i_Mess_kind_51 (hz _ (by decide)) rfl ?_
      refine zr_cv2 i_Mess_kind_54 rfl (by decide) (zrcv_of hM.1) (Nat.le_of_ble_eq_true rfl) (Nat.le_of_ble_eq_true rfl) (s2) ?_
      refine zB_if_eq 66 i_Mess_kind_57 (by decide) (fun _ => ?_) (fun q => absurd q (by decide))
      refine zn_iinc i_Mess_kind_66 rfl rfl ?_
      refine zr_goto 20 i_Mess_kind_69 (by decide) ?_
      exact K
    | true =>
      rw [h2] at s2
      rw [if_pos ⟨rfl, rfl⟩]
      refine zr_iload_n i_Mess_kind_20 rfl ?_
      refine zr_gets i_Mess_kind_21 rfl ?_
      refine zr_lenK i_Mess_kind_24 (hz 75 (by decide)) rfl (rfl : _ = nI 5) ?_
      refine zn_icmp_ge 72 i_Mess_kind_25 (by decide) (by omega) (by omega) (fun q => absurd q (by decide)) (fun c_25 => ?_)
      refine zr_aload_n i_Mess_kind_28 rfl ?_
      refine zr_iload_n i_Mess_kind_29 rfl ?_
      refine zr_gets i_Mess_kind_30 rfl ?_
      refine zr_iload_n i_Mess_kind_33 rfl ?_
      refine zr_aaloadK i_Mess_kind_34 (hz 75 (by decide)) rfl (by decide) ?_
      refine zr_getk i_Mess_kind_35 (hz _ (by decide)) rfl ?_
      refine zr_cv2 i_Mess_kind_38 rfl (by decide) (zrcv_of hM.1) (Nat.le_of_ble_eq_true rfl) (Nat.le_of_ble_eq_true rfl) (s1) ?_
      refine zB_if_eq 66 i_Mess_kind_41 (by decide) (fun q => absurd q (by decide)) (fun _ => ?_)
      refine zr_aload_n i_Mess_kind_44 rfl ?_
      refine zr_iload_n i_Mess_kind_45 rfl ?_
      refine zr_gets i_Mess_kind_46 rfl ?_
      refine zr_iload_n i_Mess_kind_49 rfl ?_
      refine zr_aaloadK i_Mess_kind_50 (hz 75 (by decide)) rfl (by decide) ?_
      refine zr_getk i_Mess_kind_51 (hz _ (by decide)) rfl ?_
      refine zr_cv2 i_Mess_kind_54 rfl (by decide) (zrcv_of hM.1) (Nat.le_of_ble_eq_true rfl) (Nat.le_of_ble_eq_true rfl) (s2) ?_
      refine zB_if_eq 66 i_Mess_kind_57 (by decide) (fun q => absurd q (by decide)) (fun _ => ?_)
      refine zr_gets i_Mess_kind_60 rfl ?_
      refine zr_iload_n i_Mess_kind_63 rfl ?_
      refine zr_aaloadK i_Mess_kind_64 (hz 75 (by decide)) rfl (by decide) ?_
      exact zR.retE i_Mess_kind_65 rfl rfl
theorem e_Mess_kind (X : zX) (d : Nat) (hX : X.2.2.category = 1) (h : zH) (hz : zlow h) (a : Nat) (f : Nat → Int32) (n : Nat) (st : Nat → Int32) (cn : Nat) (hM : isM h a f n st cn) (hn : n ≤ 200) (o1 o2 : Option Nat) (ho1 : ∀ p, o1 = some p → p ≤ n) (ho2 : ∀ p, o2 = some p → p ≤ n) (hf1 : zR X (d + 4) 78 0 (zent 10 [.ref a, .int 1, .int 3, .int 1, .int 1]) [] h (some (.int (tI o1)), h)) (hf2 : zR X (d + 4) 78 0 (zent 10 [.ref a, .int 1, .int 3, .int 1, .int 2]) [] h (some (.int (tI o2)), h)) : zR X (d + 5) 80 0 (zent 4 [.ref a]) [] h (some (va_rf (kd0 (txo f n o1) (txo f n o2))), h) := by
  refine zr_aload_n i_Mess_kind_0 rfl ?_
  refine zr_iconst i_Mess_kind_1 (v := 1) (by decide) ?_
  refine zr_iconst i_Mess_kind_2 (v := 3) (by decide) ?_
  refine zr_iconst i_Mess_kind_3 (v := 1) (by decide) ?_
  refine zr_iconst i_Mess_kind_4 (v := 1) (by decide) ?_
  refine zr_cv4 i_Mess_kind_5 rfl (by decide) (zrcv_of hM.1) (Nat.le_of_ble_eq_true rfl) (Nat.le_of_ble_eq_true rfl) (hf1) ?_
  refine zr_istore_n i_Mess_kind_8 rfl ?_
  refine zr_aload_n i_Mess_kind_9 rfl ?_
  refine zr_iconst i_Mess_kind_10 (v := 1) (by decide) ?_
  refine zr_iconst i_Mess_kind_11 (v := 3) (by decide) ?_
  refine zr_iconst i_Mess_kind_12 (v := 1) (by decide) ?_
  refine zr_iconst i_Mess_kind_13 (v := 2) (by decide) ?_
  refine zr_cv4 i_Mess_kind_14 rfl (by decide) (zrcv_of hM.1) (Nat.le_of_ble_eq_true rfl) (Nat.le_of_ble_eq_true rfl) (hf2) ?_
  refine zr_istore_n i_Mess_kind_17 rfl ?_
  refine zn_iconst 0 i_Mess_kind_18 (by decide) ?_
  refine zr_istore_n i_Mess_kind_19 rfl ?_
  exact kd0_Mess_kind X d hX h hz a f n st cn hM hn o1 o2 ho1 ho2
theorem i_Seps_putTextCharacter_0 : zins 72 0 = some (.aload_n 0) := by decide +kernel
theorem i_Seps_putTextCharacter_1 : zins 72 1 = some (.iload_n 1) := by decide +kernel
theorem i_Seps_putTextCharacter_2 : zins 72 2 = some (.invokevirtual 15) := by decide +kernel
theorem i_Seps_putTextCharacter_5 : zins 72 5 = some (.istore_n 3) := by decide +kernel
theorem i_Seps_putTextCharacter_6 : zins 72 6 = some (.iload_n 3) := by decide +kernel
theorem i_Seps_putTextCharacter_7 : zins 72 7 = some (.iconst (-1)) := by decide +kernel
theorem i_Seps_putTextCharacter_8 : zins 72 8 = some (.if_icmp .ne 9) := by decide +kernel
theorem i_Seps_putTextCharacter_11 : zins 72 11 = some (.aload_n 2) := by decide +kernel
theorem i_Seps_putTextCharacter_12 : zins 72 12 = some (.iload_n 1) := by decide +kernel
theorem i_Seps_putTextCharacter_13 : zins 72 13 = some (.invokevirtual 27) := by decide +kernel
theorem i_Seps_putTextCharacter_16 : zins 72 16 = some (.return_) := by decide +kernel
theorem i_Seps_putTextCharacter_17 : zins 72 17 = some (.aload_n 2) := by decide +kernel
theorem i_Seps_putTextCharacter_18 : zins 72 18 = some (.aload_n 0) := by decide +kernel
theorem i_Seps_putTextCharacter_19 : zins 72 19 = some (.getfield 9) := by decide +kernel
theorem i_Seps_putTextCharacter_22 : zins 72 22 = some (.iconst 3) := by decide +kernel
theorem i_Seps_putTextCharacter_23 : zins 72 23 = some (.iaload) := by decide +kernel
theorem i_Seps_putTextCharacter_24 : zins 72 24 = some (.invokevirtual 27) := by decide +kernel
theorem i_Seps_putTextCharacter_27 : zins 72 27 = some (.aload_n 2) := by decide +kernel
theorem i_Seps_putTextCharacter_28 : zins 72 28 = some (.ldc 33) := by decide +kernel
theorem i_Seps_putTextCharacter_30 : zins 72 30 = some (.iload_n 3) := by decide +kernel
theorem i_Seps_putTextCharacter_31 : zins 72 31 = some (.invokevirtual 35) := by decide +kernel
theorem i_Seps_putTextCharacter_34 : zins 72 34 = some (.invokevirtual 27) := by decide +kernel
theorem i_Seps_putTextCharacter_37 : zins 72 37 = some (.aload_n 2) := by decide +kernel
theorem i_Seps_putTextCharacter_38 : zins 72 38 = some (.aload_n 0) := by decide +kernel
theorem i_Seps_putTextCharacter_39 : zins 72 39 = some (.getfield 9) := by decide +kernel
theorem i_Seps_putTextCharacter_42 : zins 72 42 = some (.iconst 3) := by decide +kernel
theorem i_Seps_putTextCharacter_43 : zins 72 43 = some (.iaload) := by decide +kernel
theorem i_Seps_putTextCharacter_44 : zins 72 44 = some (.invokevirtual 27) := by decide +kernel
theorem i_Seps_putTextCharacter_47 : zins 72 47 = some (.return_) := by decide +kernel
def putC (S : Nat → Int32) (c : Int32) : List Int32 := match plF S c with
  | none => [c]
  | some w => [S 3, (sT 2).getD w 0, S 3]
theorem e_Seps_putTextCharacter (X : zX) (d : Nat) (hX : X.2.2.category = 1) (h : zH) (hz : zlow h) (b : Nat) (S : Nat → Int32) (a N : Nat) (ha : 100 ≤ a) (l : List Int32) (g : Nat → Int32) (hN : N ≤ 700) (hS : isSp h b S) (hd1 : b ≠ a) (hd2 : b ≠ a + 1) (hd3 : b + 1 ≠ a) (hzS : ∀ k, k < 5 → zch (S k)) (c : Int32) (hc : zch c) : zR X (d + 4) 72 0 (zent 4 [.ref b, .int c, .ref a]) [] (chL h a N l g) (none, chL h a N (l ++ putC S c) g) := by
  have hSH : isSp (chL h a N l g) b S := ⟨(chS_ne hd1 hd2).trans hS.1, (chS_ne hd3 (by omega)).trans hS.2⟩
  have hpl := e_Seps_placeOf X (d + 3) (chL h a N l g) b S hSH c
  unfold putC
  cases hp : plF S c with
  | none =>
    rw [hp] at hpl
    refine zr_aload_n i_Seps_putTextCharacter_0 rfl ?_
    refine zr_iload_n i_Seps_putTextCharacter_1 rfl ?_
    refine zr_cv1 i_Seps_putTextCharacter_2 rfl (by decide) (zrcv_of ((chS_ne hd1 hd2).trans hS.1)) (Nat.le_of_ble_eq_true rfl) (Nat.le_of_ble_eq_true rfl) (hpl) ?_
    refine zr_istore_n i_Seps_putTextCharacter_5 rfl ?_
    refine zr_iload_n i_Seps_putTextCharacter_6 rfl ?_
    refine zr_iconst i_Seps_putTextCharacter_7 (v := (-1)) (by decide) ?_
    refine zr_icmp_ne 17 i_Seps_putTextCharacter_8 (by decide) (fun q => absurd rfl q) (fun c_8 => ?_)
    refine zr_aload_n i_Seps_putTextCharacter_11 rfl ?_
    refine zr_iload_n i_Seps_putTextCharacter_12 rfl ?_
    refine zr_cv10 i_Seps_putTextCharacter_13 rfl (by decide) (zrcv_of chS_o) (Nat.le_of_ble_eq_true rfl) (Nat.le_of_ble_eq_true rfl) (e1_Chars_put X _ h a N l g hN c hc) ?_
    exact zR.retE i_Seps_putTextCharacter_16 rfl rfl
  | some w =>
    rw [hp] at hpl
    have hw := (plF_lt hp).1
    have hw2 : w < (sT 2).length := by show w < 5; exact hw
    have hzz : zlow (chL h a N (l ++ [S 3]) g) := chS_low hz ha
    refine zr_aload_n i_Seps_putTextCharacter_0 rfl ?_
    refine zr_iload_n i_Seps_putTextCharacter_1 rfl ?_
    refine zr_cv1 i_Seps_putTextCharacter_2 rfl (by decide) (zrcv_of ((chS_ne hd1 hd2).trans hS.1)) (Nat.le_of_ble_eq_true rfl) (Nat.le_of_ble_eq_true rfl) (hpl) ?_
    refine zr_top (y := nI w) rfl ?_
    refine zr_istore_n i_Seps_putTextCharacter_5 rfl ?_
    refine zr_iload_n i_Seps_putTextCharacter_6 rfl ?_
    refine zr_iconst i_Seps_putTextCharacter_7 (v := (-1)) (by decide) ?_
    refine zr_icmp_ne 17 i_Seps_putTextCharacter_8 (by decide) (fun c_8 => ?_) (fun q => absurd q (nI_neg1 (by omega)))
    refine zr_aload_n i_Seps_putTextCharacter_17 rfl ?_
    refine zr_aload_n i_Seps_putTextCharacter_18 rfl ?_
    refine zr_getf i_Seps_putTextCharacter_19 ((chS_ne hd1 hd2).trans hS.1) rfl rfl ?_
    refine zn_iconst 3 i_Seps_putTextCharacter_22 (by decide) ?_
    refine zn_iaload i_Seps_putTextCharacter_23 ((chS_ne hd3 (by omega)).trans hS.2) (by omega) (by decide) ?_
    refine zr_cv10 i_Seps_putTextCharacter_24 rfl (by decide) (zrcv_of chS_o) (Nat.le_of_ble_eq_true rfl) (Nat.le_of_ble_eq_true rfl) (e1_Chars_put X _ h a N l g hN (S 3) (hzS 3 (by decide))) ?_
    refine zr_aload_n i_Seps_putTextCharacter_27 rfl ?_
    refine zr_ldc i_Seps_putTextCharacter_28 rfl ?_
    refine zr_iload_n i_Seps_putTextCharacter_30 rfl ?_
    refine zr_cv1 i_Seps_putTextCharacter_31 rfl (by decide) (zrcv_s hzz ⟨by decide, by decide⟩) (Nat.le_of_ble_eq_true rfl) (Nat.le_of_ble_eq_true rfl) (e_Str_charAt X _ hX (chL h a N (l ++ [S 3]) g) hzz 2 ⟨by decide, by decide⟩ w hw2) ?_
    refine zr_cv10 i_Seps_putTextCharacter_34 rfl (by decide) (zrcv_of chS_o) (Nat.le_of_ble_eq_true rfl) (Nat.le_of_ble_eq_true rfl) (e1_Chars_put X _ h a N (l ++ [S 3]) g hN _ (s_zch ⟨by decide, by decide⟩ hw2)) ?_
    refine zr_aload_n i_Seps_putTextCharacter_37 rfl ?_
    refine zr_aload_n i_Seps_putTextCharacter_38 rfl ?_
    refine zr_getf i_Seps_putTextCharacter_39 ((chS_ne hd1 hd2).trans hS.1) rfl rfl ?_
    refine zn_iconst 3 i_Seps_putTextCharacter_42 (by decide) ?_
    refine zn_iaload i_Seps_putTextCharacter_43 ((chS_ne hd3 (by omega)).trans hS.2) (by omega) (by decide) ?_
    refine zr_cv10 i_Seps_putTextCharacter_44 rfl (by decide) (zrcv_of chS_o) (Nat.le_of_ble_eq_true rfl) (Nat.le_of_ble_eq_true rfl) (e1_Chars_put X _ h a N ((l ++ [S 3]) ++ [(sT 2).getD w 0]) g hN (S 3) (hzS 3 (by decide))) ?_
    exact zR.retE i_Seps_putTextCharacter_47 rfl (by simp)
theorem i_Mess_writeTo_0 : zins 88 0 = some (.aload_n 1) := by decide +kernel
theorem i_Mess_writeTo_1 : zins 88 1 = some (.ldc 93) := by decide +kernel
theorem i_Mess_writeTo_3 : zins 88 3 = some (.invokevirtual 95) := by decide +kernel
theorem i_Mess_writeTo_6 : zins 88 6 = some (.aload_n 2) := by decide +kernel
theorem i_Mess_writeTo_7 : zins 88 7 = some (.aload_n 1) := by decide +kernel
theorem i_Mess_writeTo_8 : zins 88 8 = some (.invokevirtual 99) := by decide +kernel
theorem i_Mess_writeTo_11 : zins 88 11 = some (.ldc 93) := by decide +kernel
theorem i_Mess_writeTo_13 : zins 88 13 = some (.invokevirtual 46) := by decide +kernel
theorem i_Mess_writeTo_16 : zins 88 16 = some (.istore_n 3) := by decide +kernel
theorem i_Mess_writeTo_17 : zins 88 17 = some (.iload_n 3) := by decide +kernel
theorem i_Mess_writeTo_18 : zins 88 18 = some (.aload_n 0) := by decide +kernel
theorem i_Mess_writeTo_19 : zins 88 19 = some (.getfield 25) := by decide +kernel
theorem i_Mess_writeTo_22 : zins 88 22 = some (.if_icmp .ge 62) := by decide +kernel
theorem i_Mess_writeTo_25 : zins 88 25 = some (.aload_n 0) := by decide +kernel
theorem i_Mess_writeTo_26 : zins 88 26 = some (.getfield 18) := by decide +kernel
theorem i_Mess_writeTo_29 : zins 88 29 = some (.iload_n 3) := by decide +kernel
theorem i_Mess_writeTo_30 : zins 88 30 = some (.iaload) := by decide +kernel
theorem i_Mess_writeTo_31 : zins 88 31 = some (.istore 4) := by decide +kernel
theorem i_Mess_writeTo_33 : zins 88 33 = some (.iload 4) := by decide +kernel
theorem i_Mess_writeTo_35 : zins 88 35 = some (.sipush 256) := by decide +kernel
theorem i_Mess_writeTo_38 : zins 88 38 = some (.if_icmp .ge 13) := by decide +kernel
theorem i_Mess_writeTo_41 : zins 88 41 = some (.aload_n 2) := by decide +kernel
theorem i_Mess_writeTo_42 : zins 88 42 = some (.iload 4) := by decide +kernel
theorem i_Mess_writeTo_44 : zins 88 44 = some (.aload_n 1) := by decide +kernel
theorem i_Mess_writeTo_45 : zins 88 45 = some (.invokevirtual 103) := by decide +kernel
theorem i_Mess_writeTo_48 : zins 88 48 = some (.goto 30) := by decide +kernel
theorem i_Mess_writeTo_51 : zins 88 51 = some (.aload_n 1) := by decide +kernel
theorem i_Mess_writeTo_52 : zins 88 52 = some (.iload 4) := by decide +kernel
theorem i_Mess_writeTo_54 : zins 88 54 = some (.sipush 261) := by decide +kernel
theorem i_Mess_writeTo_57 : zins 88 57 = some (.if_icmp .ne 8) := by decide +kernel
theorem i_Mess_writeTo_60 : zins 88 60 = some (.bipush 13) := by decide +kernel
theorem i_Mess_writeTo_62 : zins 88 62 = some (.goto 13) := by decide +kernel
theorem i_Mess_writeTo_65 : zins 88 65 = some (.aload_n 2) := by decide +kernel
theorem i_Mess_writeTo_66 : zins 88 66 = some (.iload 4) := by decide +kernel
theorem i_Mess_writeTo_68 : zins 88 68 = some (.sipush 256) := by decide +kernel
theorem i_Mess_writeTo_71 : zins 88 71 = some (.isub) := by decide +kernel
theorem i_Mess_writeTo_72 : zins 88 72 = some (.invokevirtual 107) := by decide +kernel
theorem i_Mess_writeTo_75 : zins 88 75 = some (.invokevirtual 55) := by decide +kernel
theorem i_Mess_writeTo_78 : zins 88 78 = some (.iinc 3 1) := by decide +kernel
theorem i_Mess_writeTo_81 : zins 88 81 = some (.goto (-64)) := by decide +kernel
theorem i_Mess_writeTo_84 : zins 88 84 = some (.return_) := by decide +kernel
def wtS (S : Nat → Int32) (x : Int32) : List Int32 := if x < 256 then putC S x else [if x = 261 then 13 else getF S 5 (x - 256)]
def wtL (f S : Nat → Int32) (p q : Nat) : List Int32 := match q with
  | 0 => []
  | q + 1 => wtS S (f p) ++ wtL f S (p + 1) q
theorem nI_sub256 {w : Nat} : nI (256 + w) - 256 = nI w := by
  rw [show (256 : Int32) = nI 256 from rfl, pk_sub (by omega), Nat.add_sub_cancel_left]
theorem l_Mess_writeTo (X : zX) (d : Nat) (hX : X.2.2.category = 1) (h : zH) (hz : zlow h) (m : Nat) (f : Nat → Int32) (n : Nat) (st : Nat → Int32) (cn : Nat) (hM : isM h m f n st cn) (hn : n ≤ 200) (b : Nat) (S : Nat → Int32) (a N : Nat) (ha : 100 ≤ a) (g : Nat → Int32) (hN : N ≤ 700) (hS : isSp h b S) (hd1 : b ≠ a) (hd2 : b ≠ a + 1) (hd3 : b + 1 ≠ a) (hzS : ∀ k, k < 5 → zch (S k)) (hd : m ≠ a ∧ m ≠ a + 1 ∧ m + 3 ≠ a ∧ m + 3 ≠ a + 1) (hg : ∀ i, i < n → (f i < 256 ∧ zch (f i)) ∨ (¬ f i < 256 ∧ (f i = 261 ∨ ∃ w, w < 5 ∧ f i = nI (256 + w)))) : ∀ (q p : Nat) (l : List Int32) (x : Option Value), p + q = n → zR X (d + 5) 88 17 [some (.ref m), some (.ref a), some (.ref b), some (.int (nI p)), x] [] (chL h a N l g) (none, chL h a N (l ++ wtL f S p q) g) := by
  intro q
  induction q with
  | zero =>
    intro p l x hpq
    rw [wtL, List.append_nil]
    refine zr_iload_n i_Mess_writeTo_17 rfl ?_
    refine zr_aload_n i_Mess_writeTo_18 rfl ?_
    refine zr_getf i_Mess_writeTo_19 ((chS_ne hd.1 hd.2.1).trans hM.1) rfl rfl ?_
    refine zn_icmp_ge 84 i_Mess_writeTo_22 (by decide) (by omega) (by omega) (fun c_22 => ?_) (fun q => absurd q (by omega))
    exact zR.retE i_Mess_writeTo_84 rfl rfl
  | succ q ih =>
    intro p l x hpq
    rw [wtL, ← List.append_assoc]
    unfold wtS
    rcases hg p (by omega) with ⟨h1, h2⟩ | ⟨h1, h2⟩
    · rw [if_pos h1]
      refine zr_iload_n i_Mess_writeTo_17 rfl ?_
      refine zr_aload_n i_Mess_writeTo_18 rfl ?_
      refine zr_getf i_Mess_writeTo_19 ((chS_ne hd.1 hd.2.1).trans hM.1) rfl rfl ?_
      refine zn_icmp_ge 84 i_Mess_writeTo_22 (by decide) (by omega) (by omega) (fun q => absurd q (by omega)) (fun c_22 => ?_)
      refine zr_aload_n i_Mess_writeTo_25 rfl ?_
      refine zr_getf i_Mess_writeTo_26 ((chS_ne hd.1 hd.2.1).trans hM.1) rfl rfl ?_
      refine zr_iload_n i_Mess_writeTo_29 rfl ?_
      refine zn_iaload i_Mess_writeTo_30 ((chS_ne hd.2.2.1 hd.2.2.2).trans hM.2.1) (by omega) (by decide) ?_
      refine zr_istore i_Mess_writeTo_31 rfl ?_
      refine zr_iload i_Mess_writeTo_33 rfl ?_
      refine zr_sipush i_Mess_writeTo_35 (v := 256) (by decide) ?_
      refine zr_icmp_ge 51 i_Mess_writeTo_38 (by decide) (fun q => absurd q (Int32.not_le.mpr h1)) (fun c_38 => ?_)
      refine zr_aload_n i_Mess_writeTo_41 rfl ?_
      refine zr_iload i_Mess_writeTo_42 rfl ?_
      refine zr_aload_n i_Mess_writeTo_44 rfl ?_
      refine zr_cv20 i_Mess_writeTo_45 rfl (by decide) (zrcv_of ((chS_ne hd1 hd2).trans hS.1)) (Nat.le_of_ble_eq_true rfl) (Nat.le_of_ble_eq_true rfl) (e_Seps_putTextCharacter X _ hX h hz b S a N ha l g hN hS hd1 hd2 hd3 hzS (f p) h2) ?_
      refine zr_goto 78 i_Mess_writeTo_48 (by decide) ?_
      refine zn_iinc i_Mess_writeTo_78 rfl rfl ?_
      refine zr_goto 17 i_Mess_writeTo_81 (by decide) ?_
      exact ih (p + 1) _ _ (by omega)
    · rw [if_neg h1]
      rcases h2 with h2 | ⟨w, hw, h2⟩
      · rw [if_pos h2]
        refine zr_iload_n i_Mess_writeTo_17 rfl ?_
        refine zr_aload_n i_Mess_writeTo_18 rfl ?_
        refine zr_getf i_Mess_writeTo_19 ((chS_ne hd.1 hd.2.1).trans hM.1) rfl rfl ?_
        refine zn_icmp_ge 84 i_Mess_writeTo_22 (by decide) (by omega) (by omega) (fun q => absurd q (by omega)) (fun c_22 => ?_)
        refine zr_aload_n i_Mess_writeTo_25 rfl ?_
        refine zr_getf i_Mess_writeTo_26 ((chS_ne hd.1 hd.2.1).trans hM.1) rfl rfl ?_
        refine zr_iload_n i_Mess_writeTo_29 rfl ?_
        refine zn_iaload i_Mess_writeTo_30 ((chS_ne hd.2.2.1 hd.2.2.2).trans hM.2.1) (by omega) (by decide) ?_
        refine zr_istore i_Mess_writeTo_31 rfl ?_
        refine zr_iload i_Mess_writeTo_33 rfl ?_
        refine zr_sipush i_Mess_writeTo_35 (v := 256) (by decide) ?_
        refine zr_icmp_ge 51 i_Mess_writeTo_38 (by decide) (fun c_38 => ?_) (fun q => absurd (Int32.not_lt.mp h1) q)
        refine zr_aload_n i_Mess_writeTo_51 rfl ?_
        refine zr_iload i_Mess_writeTo_52 rfl ?_
        refine zr_sipush i_Mess_writeTo_54 (v := 261) (by decide) ?_
        refine zr_icmp_ne 65 i_Mess_writeTo_57 (by decide) (fun q => absurd h2 q) (fun c_57 => ?_)
        refine zr_bipush i_Mess_writeTo_60 (v := 13) (by decide) ?_
        refine zr_goto 75 i_Mess_writeTo_62 (by decide) ?_
        refine zr_cv10 i_Mess_writeTo_75 rfl (by decide) (zrcv_of chS_o) (Nat.le_of_ble_eq_true rfl) (Nat.le_of_ble_eq_true rfl) (e1_Chars_put X _ h a N l g hN 13 (by unfold zch; decide)) ?_
        refine zn_iinc i_Mess_writeTo_78 rfl rfl ?_
        refine zr_goto 17 i_Mess_writeTo_81 (by decide) ?_
        exact ih (p + 1) _ _ (by omega)
      · have h261 : ¬ f p = 261 := by
          rw [h2]
          intro z
          have := (nI_eq (a := 256 + w) (b := 261) (by omega) (by decide)).mp z
          omega
        have hat : zR X (d + 4) 70 0 (zent 2 [.ref b, .int (f p - 256)]) [] (chL h a N l g) (some (.int (getF S 5 (f p - 256))), chL h a N l g) := e_Seps_at X _ (chL h a N l g) b S ⟨(chS_ne hd1 hd2).trans hS.1, (chS_ne hd3 (by omega)).trans hS.2⟩ _
        have hzc : zch (getF S 5 (f p - 256)) := by
          rw [h2, nI_sub256, getF_in hw (by decide)]
          exact hzS w hw
        rw [if_neg h261]
        refine zr_iload_n i_Mess_writeTo_17 rfl ?_
        refine zr_aload_n i_Mess_writeTo_18 rfl ?_
        refine zr_getf i_Mess_writeTo_19 ((chS_ne hd.1 hd.2.1).trans hM.1) rfl rfl ?_
        refine zn_icmp_ge 84 i_Mess_writeTo_22 (by decide) (by omega) (by omega) (fun q => absurd q (by omega)) (fun c_22 => ?_)
        refine zr_aload_n i_Mess_writeTo_25 rfl ?_
        refine zr_getf i_Mess_writeTo_26 ((chS_ne hd.1 hd.2.1).trans hM.1) rfl rfl ?_
        refine zr_iload_n i_Mess_writeTo_29 rfl ?_
        refine zn_iaload i_Mess_writeTo_30 ((chS_ne hd.2.2.1 hd.2.2.2).trans hM.2.1) (by omega) (by decide) ?_
        refine zr_istore i_Mess_writeTo_31 rfl ?_
        refine zr_iload i_Mess_writeTo_33 rfl ?_
        refine zr_sipush i_Mess_writeTo_35 (v := 256) (by decide) ?_
        refine zr_icmp_ge 51 i_Mess_writeTo_38 (by decide) (fun c_38 => ?_) (fun q => absurd (Int32.not_lt.mp h1) q)
        refine zr_aload_n i_Mess_writeTo_51 rfl ?_
        refine zr_iload i_Mess_writeTo_52 rfl ?_
        refine zr_sipush i_Mess_writeTo_54 (v := 261) (by decide) ?_
        refine zr_icmp_ne 65 i_Mess_writeTo_57 (by decide) (fun c_57 => ?_) (fun q => absurd q h261)
        refine zr_aload_n i_Mess_writeTo_65 rfl ?_
        refine zr_iload i_Mess_writeTo_66 rfl ?_
        refine zr_sipush i_Mess_writeTo_68 (v := 256) (by decide) ?_
        refine zr_isub i_Mess_writeTo_71 ?_
        refine zr_cv1 i_Mess_writeTo_72 rfl (by decide) (zrcv_of ((chS_ne hd1 hd2).trans hS.1)) (Nat.le_of_ble_eq_true rfl) (Nat.le_of_ble_eq_true rfl) (hat) ?_
        refine zr_cv10 i_Mess_writeTo_75 rfl (by decide) (zrcv_of chS_o) (Nat.le_of_ble_eq_true rfl) (Nat.le_of_ble_eq_true rfl) (e1_Chars_put X _ h a N l g hN _ hzc) ?_
        refine zn_iinc i_Mess_writeTo_78 rfl rfl ?_
        refine zr_goto 17 i_Mess_writeTo_81 (by decide) ?_
        exact ih (p + 1) _ _ (by omega)
theorem e_Mess_writeTo (X : zX) (d : Nat) (hX : X.2.2.category = 1) (h : zH) (hz : zlow h) (m : Nat) (f : Nat → Int32) (n : Nat) (st : Nat → Int32) (cn : Nat) (hM : isM h m f n st cn) (hn : n ≤ 200) (b : Nat) (S : Nat → Int32) (a N : Nat) (ha : 100 ≤ a) (g : Nat → Int32) (hN : N ≤ 700) (hS : isSp h b S) (hd1 : b ≠ a) (hd2 : b ≠ a + 1) (hd3 : b + 1 ≠ a) (hzS : ∀ k, k < 5 → zch (S k)) (hd : m ≠ a ∧ m ≠ a + 1 ∧ m + 3 ≠ a ∧ m + 3 ≠ a + 1) (hg : ∀ i, i < n → (f i < 256 ∧ zch (f i)) ∨ (¬ f i < 256 ∧ (f i = 261 ∨ ∃ w, w < 5 ∧ f i = nI (256 + w)))) (h3 : 3 ≤ n) : zR X (d + 5) 88 0 (zent 5 [.ref m, .ref a, .ref b]) [] (chL h a N [] g) (none, chL h a N (sT 1 ++ [S 0, S 1, S 2, S 3, S 4] ++ wtL f S 3 (n - 3)) g) := by
  have hk1 : zsk 1 := ⟨by decide, by decide⟩
  have hl := l_Mess_writeTo X d hX h hz m f n st cn hM hn b S a N ha g hN hS hd1 hd2 hd3 hzS hd hg (n - 3) 3 (sT 1 ++ [S 0, S 1, S 2, S 3, S 4]) none (by omega)
  have hpa := e_Chars_putAll X d hX h hz a N ha hN [] g 1 hk1
  rw [List.nil_append] at hpa
  have hps := e_Seps_putAllTo X (d + 3) h b S a N (sT 1) g hN hS hd1 hd2 hd3 hzS
  have hzz : zlow (chL h a N (sT 1 ++ [S 0, S 1, S 2, S 3, S 4]) g) := chS_low hz ha
  refine zr_aload_n i_Mess_writeTo_0 rfl ?_
  refine zr_ldc i_Mess_writeTo_1 rfl ?_
  refine zr_cv10 i_Mess_writeTo_3 rfl (by decide) (zrcv_of chS_o) (Nat.le_of_ble_eq_true rfl) (Nat.le_of_ble_eq_true rfl) (hpa) ?_
  refine zr_aload_n i_Mess_writeTo_6 rfl ?_
  refine zr_aload_n i_Mess_writeTo_7 rfl ?_
  refine zr_cv10 i_Mess_writeTo_8 rfl (by decide) (zrcv_of ((chS_ne hd1 hd2).trans hS.1)) (Nat.le_of_ble_eq_true rfl) (Nat.le_of_ble_eq_true rfl) (hps) ?_
  refine zr_ldc i_Mess_writeTo_11 rfl ?_
  refine zr_cv0 i_Mess_writeTo_13 rfl (by decide) (zrcv_s hzz hk1) (Nat.le_of_ble_eq_true rfl) (Nat.le_of_ble_eq_true rfl) (e_Str_length X _ (chL h a N (sT 1 ++ [S 0, S 1, S 2, S 3, S 4]) g) hzz 1 hk1) ?_
  refine zr_istore_n i_Mess_writeTo_16 rfl ?_
  exact hl
