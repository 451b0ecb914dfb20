/-! THE CLASS: what the hospital reads in a message -/
/-- where a text of a segment begins -/
def fdo (f : Nat → Int32) (n : Nat) (P : Nat → Nat) (o : Option Nat) (F R C : Int32) : Option Nat := o.bind (fun s => fdL f F R C (P s) (n - P s) 0 1 1)
def pnF (t : zT) : Int32 := if zbtw (vnum t 2) 1 99 = true ∧ ¬ tgt t 0 = 48 then vnum t 2 else -1
def baF (t u : zT) : Int32 := if tl t = 1 ∧ zbtw (tgt t 0) 65 68 = true ∧ zbtw (vnum u 1) 0 7 = true then 8 * (tgt t 0 - 65) + vnum u 1 else -1
def avL (f : Nat → Int32) (n q : Nat) (o : Option Nat) : Bool := match q with
  | 0 => true
  | q + 1 => match o with
    | none => true
    | some p => if vnum (txo f n (some p)) 4 = -1 ∧ sayF (txo f n (some p)) (sT 6) = false then false else avL f n q (nxL f p (n - p))
def avF (f : Nat → Int32) (n : Nat) (o : Option Nat) : Bool := o.isSome && avL f n 200 o
def tvL (f : Nat → Int32) (n : Nat) (code : Int32) (q : Nat) (o : Option Nat) (z : zMe) : zMe × Bool := match q with
  | 0 => (z, true)
  | q + 1 => match o with
    | none => (z, true)
    | some p => if sayF (txo f n (some p)) (sT 6) = true then tvL f n code q (nxL f p (n - p)) (remR z code) else if (setR z code (vnum (txo f n (some p)) 4)).2 = true then tvL f n code q (nxL f p (n - p)) (setR z code (vnum (txo f n (some p)) 4)).1 else ((setR z code (vnum (txo f n (some p)) 4)).1, false)
theorem remR_le {z : zMe} {code : Int32} (h : z.1 ≤ 12) : (remR z code).1 ≤ 12 := by
  unfold remR
  split
  · exact h
  · show z.1 - 1 ≤ 12; omega
theorem setR_le {z : zMe} {code x : Int32} (h : z.1 ≤ 12) : (setR z code x).1.1 ≤ 12 := by
  unfold setR
  split
  · split
    · exact h
    · show z.1 + 1 ≤ 12; omega
  · exact h
theorem isM_me {h : zH} {a : Nat} {f : Nat → Int32} {n : Nat} {st : Nat → Int32} {k : Nat} {b : Nat} {q : zMe} (hM : isM h a f n st k) (hd : ∀ i, i < 5 → a + i ≠ b ∧ a + i ≠ b + 1 ∧ a + i ≠ b + 2) : isM (meS h b q) a f n st k := ⟨(meS_ne (hd 0 (by decide)).1 (hd 0 (by decide)).2.1 (hd 0 (by decide)).2.2).trans hM.1, (meS_ne (hd 3 (by decide)).1 (hd 3 (by decide)).2.1 (hd 3 (by decide)).2.2).trans hM.2.1, (meS_ne (hd 4 (by decide)).1 (hd 4 (by decide)).2.1 (hd 4 (by decide)).2.2).trans hM.2.2⟩
theorem e1_Mess_find (X : zX) (d : Nat) (h : zH) (a : Nat) (f : Nat → Int32) (n : Nat) (st : Nat → Int32) (cn : Nat) (hM : isM h a f n st cn) (hn : n ≤ 200) (P : Nat → Nat) (hP : ∀ s, 1 ≤ s → s ≤ cn → st (s - 1) = nI (P s) ∧ P s ≤ n) (hcn : cn ≤ 8) (o : Option Nat) (ho : ∀ s, o = some s → 1 ≤ s ∧ s ≤ cn) (F R C : Int32) : zR X d 78 0 (zent 10 [.ref a, .int (tI o), .int F, .int R, .int C]) [] h (some (.int (tI (fdo f n P o F R C))), h) := by
  cases o with
  | none => exact e0_Mess_find X d h a f n st cn hM hn (-1) F R C (Or.inl (by decide))
  | some s =>
    obtain ⟨h1, h2⟩ := ho s rfl
    obtain ⟨h3, h4⟩ := hP s h1 h2
    exact e_Mess_find X d h a f n st cn hM hn s h1 h2 (by omega) (by omega) (P s) h4 h3 F R C
theorem fdo_le {f : Nat → Int32} {n : Nat} {P : Nat → Nat} {o : Option Nat} {F R C : Int32} (hP : ∀ s, o = some s → P s ≤ n) : ∀ p, fdo f n P o F R C = some p → p ≤ n := by
  intro p hp
  cases o with
  | none => cases hp
  | some s =>
    have h1 := hP s rfl
    have h2 := fdL_le (show fdL f F R C (P s) (n - P s) 0 1 1 = some p from hp)
    omega
theorem i_Hosp_patientNumber_0 : zins 47 0 = some (.aload_n 0) := by decide +kernel
theorem i_Hosp_patientNumber_1 : zins 47 1 = some (.iload_n 1) := by decide +kernel
theorem i_Hosp_patientNumber_2 : zins 47 2 = some (.iconst 1) := by decide +kernel
theorem i_Hosp_patientNumber_3 : zins 47 3 = some (.iconst 1) := by decide +kernel
theorem i_Hosp_patientNumber_4 : zins 47 4 = some (.iconst 1) := by decide +kernel
theorem i_Hosp_patientNumber_5 : zins 47 5 = some (.invokevirtual 114) := by decide +kernel
theorem i_Hosp_patientNumber_8 : zins 47 8 = some (.istore_n 2) := by decide +kernel
theorem i_Hosp_patientNumber_9 : zins 47 9 = some (.aload_n 0) := by decide +kernel
theorem i_Hosp_patientNumber_10 : zins 47 10 = some (.iload_n 2) := by decide +kernel
theorem i_Hosp_patientNumber_11 : zins 47 11 = some (.iconst 2) := by decide +kernel
theorem i_Hosp_patientNumber_12 : zins 47 12 = some (.invokevirtual 125) := by decide +kernel
theorem i_Hosp_patientNumber_15 : zins 47 15 = some (.istore_n 3) := by decide +kernel
theorem i_Hosp_patientNumber_16 : zins 47 16 = some (.iload_n 3) := by decide +kernel
theorem i_Hosp_patientNumber_17 : zins 47 17 = some (.iconst 1) := by decide +kernel
theorem i_Hosp_patientNumber_18 : zins 47 18 = some (.bipush 99) := by decide +kernel
theorem i_Hosp_patientNumber_20 : zins 47 20 = some (.invokestatic 128) := by decide +kernel
theorem i_Hosp_patientNumber_23 : zins 47 23 = some (.ifCond .eq 18) := by decide +kernel
theorem i_Hosp_patientNumber_26 : zins 47 26 = some (.aload_n 0) := by decide +kernel
theorem i_Hosp_patientNumber_27 : zins 47 27 = some (.iload_n 2) := by decide +kernel
theorem i_Hosp_patientNumber_28 : zins 47 28 = some (.iconst 0) := by decide +kernel
theorem i_Hosp_patientNumber_29 : zins 47 29 = some (.invokevirtual 132) := by decide +kernel
theorem i_Hosp_patientNumber_32 : zins 47 32 = some (.bipush 48) := by decide +kernel
theorem i_Hosp_patientNumber_34 : zins 47 34 = some (.if_icmp .eq 7) := by decide +kernel
theorem i_Hosp_patientNumber_37 : zins 47 37 = some (.iconst 1) := by decide +kernel
theorem i_Hosp_patientNumber_38 : zins 47 38 = some (.goto 4) := by decide +kernel
theorem i_Hosp_patientNumber_41 : zins 47 41 = some (.iconst 0) := by decide +kernel
theorem i_Hosp_patientNumber_42 : zins 47 42 = some (.istore 4) := by decide +kernel
theorem i_Hosp_patientNumber_44 : zins 47 44 = some (.iload 4) := by decide +kernel
theorem i_Hosp_patientNumber_46 : zins 47 46 = some (.ifCond .eq 7) := by decide +kernel
theorem i_Hosp_patientNumber_49 : zins 47 49 = some (.iload_n 3) := by decide +kernel
theorem i_Hosp_patientNumber_50 : zins 47 50 = some (.goto 4) := by decide +kernel
theorem i_Hosp_patientNumber_53 : zins 47 53 = some (.iconst (-1)) := by decide +kernel
theorem i_Hosp_patientNumber_54 : zins 47 54 = some (.ireturn) := by decide +kernel
theorem e_Hosp_patientNumber (X : zX) (d : Nat) (h : zH) (a : Nat) (f : Nat → Int32) (n : Nat) (st : Nat → Int32) (cn : Nat) (hM : isM h a f n st cn) (hn : n ≤ 200) (P : Nat → Nat) (hP : ∀ s, 1 ≤ s → s ≤ cn → st (s - 1) = nI (P s) ∧ P s ≤ n) (hcn : cn ≤ 8) (o : Option Nat) (ho : ∀ s, o = some s → 1 ≤ s ∧ s ≤ cn) : zR X (d + 2) 47 0 (zent 5 [.ref a, .int (tI o)]) [] h (some (.int (pnF (txo f n (fdo f n P o 1 1 1)))), h) := by
  have hop : ∀ s, o = some s → P s ≤ n := fun s hs => (hP s (ho s hs).1 (ho s hs).2).2
  have hf := e1_Mess_find X (d + 1) h a f n st cn hM hn P hP hcn o ho 1 1 1
  have hle := fdo_le (f := f) (F := 1) (R := 1) (C := 1) hop
  have hnu := e_Mess_number X d h a f n st cn hM hn (fdo f n P o 1 1 1) hle 2 (by decide)
  have hch := e_Mess_character X d h a f n st cn hM hn (fdo f n P o 1 1 1) hle 0
  unfold pnF
  generalize txo f n (fdo f n P o 1 1 1) = t at *
  cases hb : zbtw (vnum t 2) 1 99 with
  | false =>
    rw [if_neg (fun z => absurd z.1 (by decide))]
    refine zr_aload_n i_Hosp_patientNumber_0 rfl ?_
    refine zr_iload_n i_Hosp_patientNumber_1 rfl ?_
    refine zr_iconst i_Hosp_patientNumber_2 (v := 1) (by decide) ?_
    refine zr_iconst i_Hosp_patientNumber_3 (v := 1) (by decide) ?_
    refine zr_iconst i_Hosp_patientNumber_4 (v := 1) (by decide) ?_
    refine zr_cv4 i_Hosp_patientNumber_5 rfl (by decide) (zrcv_of hM.1) (Nat.le_of_ble_eq_true rfl) (Nat.le_of_ble_eq_true rfl) (hf) ?_
    refine zr_istore_n i_Hosp_patientNumber_8 rfl ?_
    refine zr_aload_n i_Hosp_patientNumber_9 rfl ?_
    refine zr_iload_n i_Hosp_patientNumber_10 rfl ?_
    refine zr_iconst i_Hosp_patientNumber_11 (v := 2) (by decide) ?_
    refine zr_cv2 i_Hosp_patientNumber_12 rfl (by decide) (zrcv_of hM.1) (Nat.le_of_ble_eq_true rfl) (Nat.le_of_ble_eq_true rfl) (hnu) ?_
    refine zr_istore_n i_Hosp_patientNumber_15 rfl ?_
    refine zr_iload_n i_Hosp_patientNumber_16 rfl ?_
    refine zr_iconst i_Hosp_patientNumber_17 (v := 1) (by decide) ?_
    refine zr_bipush i_Hosp_patientNumber_18 (v := 99) (by decide) ?_
    refine zr_cs3 i_Hosp_patientNumber_20 rfl (by decide) (Nat.le_of_ble_eq_true rfl) (Nat.le_of_ble_eq_true rfl) (e_B_isBetween X _ _ _ _ _) ?_
    refine zB_if_eq 41 i_Hosp_patientNumber_23 (by decide) (fun _ => ?_) (fun q => absurd q (by rw [hb]; decide))
    refine zn_iconst 0 i_Hosp_patientNumber_41 (by decide) ?_
    refine zr_istore i_Hosp_patientNumber_42 rfl ?_
    refine zr_iload i_Hosp_patientNumber_44 rfl ?_
    refine zr_if_eq 53 i_Hosp_patientNumber_46 (by decide) (fun _ => ?_) (fun q => absurd q (by decide))
    refine zr_iconst i_Hosp_patientNumber_53 (v := (-1)) (by decide) ?_
    exact zR.retE i_Hosp_patientNumber_54 rfl rfl
  | true =>
    by_cases h48 : tgt t 0 = 48
    · rw [if_neg (fun z => z.2 h48)]
      refine zr_aload_n i_Hosp_patientNumber_0 rfl ?_
      refine zr_iload_n i_Hosp_patientNumber_1 rfl ?_
      refine zr_iconst i_Hosp_patientNumber_2 (v := 1) (by decide) ?_
      refine zr_iconst i_Hosp_patientNumber_3 (v := 1) (by decide) ?_
      refine zr_iconst i_Hosp_patientNumber_4 (v := 1) (by decide) ?_
      refine zr_cv4 i_Hosp_patientNumber_5 rfl (by decide) (zrcv_of hM.1) (Nat.le_of_ble_eq_true rfl) (Nat.le_of_ble_eq_true rfl) (hf) ?_
      refine zr_istore_n i_Hosp_patientNumber_8 rfl ?_
      refine zr_aload_n i_Hosp_patientNumber_9 rfl ?_
      refine zr_iload_n i_Hosp_patientNumber_10 rfl ?_
      refine zr_iconst i_Hosp_patientNumber_11 (v := 2) (by decide) ?_
      refine zr_cv2 i_Hosp_patientNumber_12 rfl (by decide) (zrcv_of hM.1) (Nat.le_of_ble_eq_true rfl) (Nat.le_of_ble_eq_true rfl) (hnu) ?_
      refine zr_istore_n i_Hosp_patientNumber_15 rfl ?_
      refine zr_iload_n i_Hosp_patientNumber_16 rfl ?_
      refine zr_iconst i_Hosp_patientNumber_17 (v := 1) (by decide) ?_
      refine zr_bipush i_Hosp_patientNumber_18 (v := 99) (by decide) ?_
      refine zr_cs3 i_Hosp_patientNumber_20 rfl (by decide) (Nat.le_of_ble_eq_true rfl) (Nat.le_of_ble_eq_true rfl) (e_B_isBetween X _ _ _ _ _) ?_
      refine zB_if_eq 41 i_Hosp_patientNumber_23 (by decide) (fun q => absurd q (by rw [hb]; decide)) (fun _ => ?_)
      refine zr_aload_n i_Hosp_patientNumber_26 rfl ?_
      refine zr_iload_n i_Hosp_patientNumber_27 rfl ?_
      refine zr_iconst i_Hosp_patientNumber_28 (v := 0) (by decide) ?_
      refine zr_cv2 i_Hosp_patientNumber_29 rfl (by decide) (zrcv_of hM.1) (Nat.le_of_ble_eq_true rfl) (Nat.le_of_ble_eq_true rfl) (hch) ?_
      refine zr_bipush i_Hosp_patientNumber_32 (v := 48) (by decide) ?_
      refine zr_icmp_eq 41 i_Hosp_patientNumber_34 (by decide) (fun c_34 => ?_) (fun q => absurd h48 q)
      refine zn_iconst 0 i_Hosp_patientNumber_41 (by decide) ?_
      refine zr_istore i_Hosp_patientNumber_42 rfl ?_
      refine zr_iload i_Hosp_patientNumber_44 rfl ?_
      refine zr_if_eq 53 i_Hosp_patientNumber_46 (by decide) (fun _ => ?_) (fun q => absurd q (by decide))
      refine zr_iconst i_Hosp_patientNumber_53 (v := (-1)) (by decide) ?_
      exact zR.retE i_Hosp_patientNumber_54 rfl rfl
    · rw [if_pos ⟨rfl, h48⟩]
      refine zr_aload_n i_Hosp_patientNumber_0 rfl ?_
      refine zr_iload_n i_Hosp_patientNumber_1 rfl ?_
      refine zr_iconst i_Hosp_patientNumber_2 (v := 1) (by decide) ?_
      refine zr_iconst i_Hosp_patientNumber_3 (v := 1) (by decide) ?_
      refine zr_iconst i_Hosp_patientNumber_4 (v := 1) (by decide) ?_
      refine zr_cv4 i_Hosp_patientNumber_5 rfl (by decide) (zrcv_of hM.1) (Nat.le_of_ble_eq_true rfl) (Nat.le_of_ble_eq_true rfl) (hf) ?_
      refine zr_istore_n i_Hosp_patientNumber_8 rfl ?_
      refine zr_aload_n i_Hosp_patientNumber_9 rfl ?_
      refine zr_iload_n i_Hosp_patientNumber_10 rfl ?_
      refine zr_iconst i_Hosp_patientNumber_11 (v := 2) (by decide) ?_
      refine zr_cv2 i_Hosp_patientNumber_12 rfl (by decide) (zrcv_of hM.1) (Nat.le_of_ble_eq_true rfl) (Nat.le_of_ble_eq_true rfl) (hnu) ?_
      refine zr_istore_n i_Hosp_patientNumber_15 rfl ?_
      refine zr_iload_n i_Hosp_patientNumber_16 rfl ?_
      refine zr_iconst i_Hosp_patientNumber_17 (v := 1) (by decide) ?_
      refine zr_bipush i_Hosp_patientNumber_18 (v := 99) (by decide) ?_
      refine zr_cs3 i_Hosp_patientNumber_20 rfl (by decide) (Nat.le_of_ble_eq_true rfl) (Nat.le_of_ble_eq_true rfl) (e_B_isBetween X _ _ _ _ _) ?_
      refine zB_if_eq 41 i_Hosp_patientNumber_23 (by decide) (fun q => absurd q (by rw [hb]; decide)) (fun _ => ?_)
      refine zr_aload_n i_Hosp_patientNumber_26 rfl ?_
      refine zr_iload_n i_Hosp_patientNumber_27 rfl ?_
      refine zr_iconst i_Hosp_patientNumber_28 (v := 0) (by decide) ?_
      refine zr_cv2 i_Hosp_patientNumber_29 rfl (by decide) (zrcv_of hM.1) (Nat.le_of_ble_eq_true rfl) (Nat.le_of_ble_eq_true rfl) (hch) ?_
      refine zr_bipush i_Hosp_patientNumber_32 (v := 48) (by decide) ?_
      refine zr_icmp_eq 41 i_Hosp_patientNumber_34 (by decide) (fun q => absurd q h48) (fun c_34 => ?_)
      refine zn_iconst 1 i_Hosp_patientNumber_37 (by decide) ?_
      refine zr_goto 42 i_Hosp_patientNumber_38 (by decide) ?_
      refine zr_istore i_Hosp_patientNumber_42 rfl ?_
      refine zr_iload i_Hosp_patientNumber_44 rfl ?_
      refine zr_if_eq 53 i_Hosp_patientNumber_46 (by decide) (fun q => absurd q (by decide)) (fun _ => ?_)
      refine zr_iload_n i_Hosp_patientNumber_49 rfl ?_
      refine zr_goto 54 i_Hosp_patientNumber_50 (by decide) ?_
      exact zR.retE i_Hosp_patientNumber_54 rfl rfl
theorem i_Hosp_bedAsked_0 : zins 48 0 = some (.aload_n 0) := by decide +kernel
theorem i_Hosp_bedAsked_1 : zins 48 1 = some (.ldc 135) := by decide +kernel
theorem i_Hosp_bedAsked_3 : zins 48 3 = some (.iconst 1) := by decide +kernel
theorem i_Hosp_bedAsked_4 : zins 48 4 = some (.invokevirtual 36) := by decide +kernel
theorem i_Hosp_bedAsked_7 : zins 48 7 = some (.istore_n 1) := by decide +kernel
theorem i_Hosp_bedAsked_8 : zins 48 8 = some (.aload_n 0) := by decide +kernel
theorem i_Hosp_bedAsked_9 : zins 48 9 = some (.iload_n 1) := by decide +kernel
theorem i_Hosp_bedAsked_10 : zins 48 10 = some (.iconst 1) := by decide +kernel
theorem i_Hosp_bedAsked_11 : zins 48 11 = some (.iconst 1) := by decide +kernel
theorem i_Hosp_bedAsked_12 : zins 48 12 = some (.iconst 1) := by decide +kernel
theorem i_Hosp_bedAsked_13 : zins 48 13 = some (.invokevirtual 114) := by decide +kernel
theorem i_Hosp_bedAsked_16 : zins 48 16 = some (.istore_n 2) := by decide +kernel
theorem i_Hosp_bedAsked_17 : zins 48 17 = some (.aload_n 0) := by decide +kernel
theorem i_Hosp_bedAsked_18 : zins 48 18 = some (.iload_n 1) := by decide +kernel
theorem i_Hosp_bedAsked_19 : zins 48 19 = some (.iconst 1) := by decide +kernel
theorem i_Hosp_bedAsked_20 : zins 48 20 = some (.iconst 1) := by decide +kernel
theorem i_Hosp_bedAsked_21 : zins 48 21 = some (.iconst 2) := by decide +kernel
theorem i_Hosp_bedAsked_22 : zins 48 22 = some (.invokevirtual 114) := by decide +kernel
theorem i_Hosp_bedAsked_25 : zins 48 25 = some (.istore_n 3) := by decide +kernel
theorem i_Hosp_bedAsked_26 : zins 48 26 = some (.aload_n 0) := by decide +kernel
theorem i_Hosp_bedAsked_27 : zins 48 27 = some (.iload_n 2) := by decide +kernel
theorem i_Hosp_bedAsked_28 : zins 48 28 = some (.iconst 0) := by decide +kernel
theorem i_Hosp_bedAsked_29 : zins 48 29 = some (.invokevirtual 132) := by decide +kernel
theorem i_Hosp_bedAsked_32 : zins 48 32 = some (.istore 4) := by decide +kernel
theorem i_Hosp_bedAsked_34 : zins 48 34 = some (.aload_n 0) := by decide +kernel
theorem i_Hosp_bedAsked_35 : zins 48 35 = some (.iload_n 3) := by decide +kernel
theorem i_Hosp_bedAsked_36 : zins 48 36 = some (.iconst 1) := by decide +kernel
theorem i_Hosp_bedAsked_37 : zins 48 37 = some (.invokevirtual 125) := by decide +kernel
theorem i_Hosp_bedAsked_40 : zins 48 40 = some (.istore 5) := by decide +kernel
theorem i_Hosp_bedAsked_42 : zins 48 42 = some (.aload_n 0) := by decide +kernel
theorem i_Hosp_bedAsked_43 : zins 48 43 = some (.iload_n 2) := by decide +kernel
theorem i_Hosp_bedAsked_44 : zins 48 44 = some (.invokevirtual 137) := by decide +kernel
theorem i_Hosp_bedAsked_47 : zins 48 47 = some (.iconst 1) := by decide +kernel
theorem i_Hosp_bedAsked_48 : zins 48 48 = some (.if_icmp .ne 26) := by decide +kernel
theorem i_Hosp_bedAsked_51 : zins 48 51 = some (.iload 4) := by decide +kernel
theorem i_Hosp_bedAsked_53 : zins 48 53 = some (.bipush 65) := by decide +kernel
theorem i_Hosp_bedAsked_55 : zins 48 55 = some (.bipush 68) := by decide +kernel
theorem i_Hosp_bedAsked_57 : zins 48 57 = some (.invokestatic 128) := by decide +kernel
theorem i_Hosp_bedAsked_60 : zins 48 60 = some (.ifCond .eq 14) := by decide +kernel
theorem i_Hosp_bedAsked_63 : zins 48 63 = some (.iload 5) := by decide +kernel
theorem i_Hosp_bedAsked_65 : zins 48 65 = some (.iconst 0) := by decide +kernel
theorem i_Hosp_bedAsked_66 : zins 48 66 = some (.bipush 7) := by decide +kernel
theorem i_Hosp_bedAsked_68 : zins 48 68 = some (.invokestatic 128) := by decide +kernel
theorem i_Hosp_bedAsked_71 : zins 48 71 = some (.ifCond .ne 5) := by decide +kernel
theorem i_Hosp_bedAsked_74 : zins 48 74 = some (.iconst (-1)) := by decide +kernel
theorem i_Hosp_bedAsked_75 : zins 48 75 = some (.ireturn) := by decide +kernel
theorem i_Hosp_bedAsked_76 : zins 48 76 = some (.bipush 8) := by decide +kernel
theorem i_Hosp_bedAsked_78 : zins 48 78 = some (.iload 4) := by decide +kernel
theorem i_Hosp_bedAsked_80 : zins 48 80 = some (.bipush 65) := by decide +kernel
theorem i_Hosp_bedAsked_82 : zins 48 82 = some (.isub) := by decide +kernel
theorem i_Hosp_bedAsked_83 : zins 48 83 = some (.imul) := by decide +kernel
theorem i_Hosp_bedAsked_84 : zins 48 84 = some (.iload 5) := by decide +kernel
theorem i_Hosp_bedAsked_86 : zins 48 86 = some (.iadd) := by decide +kernel
theorem i_Hosp_bedAsked_87 : zins 48 87 = some (.ireturn) := by decide +kernel
theorem nnF_b {f : Nat → Int32} {n : Nat} {P : Nat → Nat} {w : List Int32} {s m : Nat} : ∀ k, nnF f n P w s m = some k → s ≤ k ∧ k < s + m := by
  intro k hk
  obtain ⟨h1, h2, -⟩ := zfst_some hk
  exact ⟨h1, h2⟩
theorem e_Hosp_bedAsked (X : zX) (d : Nat) (hX : X.2.2.category = 1) (h : zH) (a : Nat) (f : Nat → Int32) (n : Nat) (st : Nat → Int32) (cn : Nat) (hM : isM h a f n st cn) (hn : n ≤ 200) (P : Nat → Nat) (hP : ∀ s, 1 ≤ s → s ≤ cn → st (s - 1) = nI (P s) ∧ P s ≤ n) (hcn : cn ≤ 8) (hz : zlow h) : zR X (d + 6) 48 0 (zent 6 [.ref a]) [] h (some (.int (baF (txo f n (fdo f n P (nnF f n P (sT 5) 1 cn) 1 1 1)) (txo f n (fdo f n P (nnF f n P (sT 5) 1 cn) 1 1 2)))), h) := by
  have hnx := e_Mess_nextNamed X d hX h hz a f n st cn hM hn P hP hcn 5 ⟨by decide, by decide⟩ (by decide) 1 (by decide) (by omega)
  rw [Nat.add_sub_cancel] at hnx
  have ho : ∀ s, (nnF f n P (sT 5) 1 cn) = some s → 1 ≤ s ∧ s ≤ cn := fun s hs => by
    have := nnF_b s hs
    omega
  have hop : ∀ s, (nnF f n P (sT 5) 1 cn) = some s → P s ≤ n := fun s hs => (hP s (ho s hs).1 (ho s hs).2).2
  have hf1 := e1_Mess_find X (d + 5) h a f n st cn hM hn P hP hcn (nnF f n P (sT 5) 1 cn) ho 1 1 1
  have hf2 := e1_Mess_find X (d + 5) h a f n st cn hM hn P hP hcn (nnF f n P (sT 5) 1 cn) ho 1 1 2
  have hl1 := fdo_le (f := f) (F := 1) (R := 1) (C := 1) hop
  have hl2 := fdo_le (f := f) (F := 1) (R := 1) (C := 2) hop
  have htl := e_Mess_textLength X (d + 5) h a f n st cn hM hn (fdo f n P (nnF f n P (sT 5) 1 cn) 1 1 1) hl1
  have hch := e_Mess_character X (d + 4) h a f n st cn hM hn (fdo f n P (nnF f n P (sT 5) 1 cn) 1 1 1) hl1 0
  have hnu := e_Mess_number X (d + 4) h a f n st cn hM hn (fdo f n P (nnF f n P (sT 5) 1 cn) 1 1 2) hl2 1 (by decide)
  have hll := tl_txo f n (fdo f n P (nnF f n P (sT 5) 1 cn) 1 1 1)
  unfold baF
  generalize txo f n (fdo f n P (nnF f n P (sT 5) 1 cn) 1 1 1) = t at *
  generalize txo f n (fdo f n P (nnF f n P (sT 5) 1 cn) 1 1 2) = u at *
  by_cases h1 : tl t = 1
  · cases h2 : zbtw (tgt t 0) 65 68 with
    | false =>
      rw [if_neg (fun z => absurd z.2.1 (by decide))]
      refine zr_aload_n i_Hosp_bedAsked_0 rfl ?_
      refine zr_ldc i_Hosp_bedAsked_1 rfl ?_
      refine zn_iconst 1 i_Hosp_bedAsked_3 (by decide) ?_
      refine zr_cv2 i_Hosp_bedAsked_4 rfl (by decide) (zrcv_of hM.1) (Nat.le_of_ble_eq_true rfl) (Nat.le_of_ble_eq_true rfl) (hnx) ?_
      refine zr_istore_n i_Hosp_bedAsked_7 rfl ?_
      refine zr_aload_n i_Hosp_bedAsked_8 rfl ?_
      refine zr_iload_n i_Hosp_bedAsked_9 rfl ?_
      refine zr_iconst i_Hosp_bedAsked_10 (v := 1) (by decide) ?_
      refine zr_iconst i_Hosp_bedAsked_11 (v := 1) (by decide) ?_
      refine zr_iconst i_Hosp_bedAsked_12 (v := 1) (by decide) ?_
      refine zr_cv4 i_Hosp_bedAsked_13 rfl (by decide) (zrcv_of hM.1) (Nat.le_of_ble_eq_true rfl) (Nat.le_of_ble_eq_true rfl) (hf1) ?_
      refine zr_istore_n i_Hosp_bedAsked_16 rfl ?_
      refine zr_aload_n i_Hosp_bedAsked_17 rfl ?_
      refine zr_iload_n i_Hosp_bedAsked_18 rfl ?_
      refine zr_iconst i_Hosp_bedAsked_19 (v := 1) (by decide) ?_
      refine zr_iconst i_Hosp_bedAsked_20 (v := 1) (by decide) ?_
      refine zr_iconst i_Hosp_bedAsked_21 (v := 2) (by decide) ?_
      refine zr_cv4 i_Hosp_bedAsked_22 rfl (by decide) (zrcv_of hM.1) (Nat.le_of_ble_eq_true rfl) (Nat.le_of_ble_eq_true rfl) (hf2) ?_
      refine zr_istore_n i_Hosp_bedAsked_25 rfl ?_
      refine zr_aload_n i_Hosp_bedAsked_26 rfl ?_
      refine zr_iload_n i_Hosp_bedAsked_27 rfl ?_
      refine zr_iconst i_Hosp_bedAsked_28 (v := 0) (by decide) ?_
      refine zr_cv2 i_Hosp_bedAsked_29 rfl (by decide) (zrcv_of hM.1) (Nat.le_of_ble_eq_true rfl) (Nat.le_of_ble_eq_true rfl) (hch) ?_
      refine zr_istore i_Hosp_bedAsked_32 rfl ?_
      refine zr_aload_n i_Hosp_bedAsked_34 rfl ?_
      refine zr_iload_n i_Hosp_bedAsked_35 rfl ?_
      refine zn_iconst 1 i_Hosp_bedAsked_36 (by decide) ?_
      refine zr_cv2 i_Hosp_bedAsked_37 rfl (by decide) (zrcv_of hM.1) (Nat.le_of_ble_eq_true rfl) (Nat.le_of_ble_eq_true rfl) (hnu) ?_
      refine zr_istore i_Hosp_bedAsked_40 rfl ?_
      refine zr_aload_n i_Hosp_bedAsked_42 rfl ?_
      refine zr_iload_n i_Hosp_bedAsked_43 rfl ?_
      refine zr_cv1 i_Hosp_bedAsked_44 rfl (by decide) (zrcv_of hM.1) (Nat.le_of_ble_eq_true rfl) (Nat.le_of_ble_eq_true rfl) (htl) ?_
      refine zn_iconst 1 i_Hosp_bedAsked_47 (by decide) ?_
      refine zn_icmp_ne 74 i_Hosp_bedAsked_48 (by decide) (by omega) (by omega) (fun q => absurd q (by omega)) (fun c_48 => ?_)
      refine zr_iload i_Hosp_bedAsked_51 rfl ?_
      refine zr_bipush i_Hosp_bedAsked_53 (v := 65) (by decide) ?_
      refine zr_bipush i_Hosp_bedAsked_55 (v := 68) (by decide) ?_
      refine zr_cs3 i_Hosp_bedAsked_57 rfl (by decide) (Nat.le_of_ble_eq_true rfl) (Nat.le_of_ble_eq_true rfl) (e_B_isBetween X _ _ _ _ _) ?_
      refine zB_if_eq 74 i_Hosp_bedAsked_60 (by decide) (fun _ => ?_) (fun q => absurd q (by rw [h2]; decide))
      refine zr_iconst i_Hosp_bedAsked_74 (v := (-1)) (by decide) ?_
      exact zR.retE i_Hosp_bedAsked_75 rfl rfl
    | true =>
      cases h3 : zbtw (vnum u 1) 0 7 with
      | false =>
        rw [if_neg (fun z => absurd z.2.2 (by decide))]
        refine zr_aload_n i_Hosp_bedAsked_0 rfl ?_
        refine zr_ldc i_Hosp_bedAsked_1 rfl ?_
        refine zn_iconst 1 i_Hosp_bedAsked_3 (by decide) ?_
        refine zr_cv2 i_Hosp_bedAsked_4 rfl (by decide) (zrcv_of hM.1) (Nat.le_of_ble_eq_true rfl) (Nat.le_of_ble_eq_true rfl) (hnx) ?_
        refine zr_istore_n i_Hosp_bedAsked_7 rfl ?_
        refine zr_aload_n i_Hosp_bedAsked_8 rfl ?_
        refine zr_iload_n i_Hosp_bedAsked_9 rfl ?_
        refine zr_iconst i_Hosp_bedAsked_10 (v := 1) (by decide) ?_
        refine zr_iconst i_Hosp_bedAsked_11 (v := 1) (by decide) ?_
        refine zr_iconst i_Hosp_bedAsked_12 (v := 1) (by decide) ?_
        refine zr_cv4 i_Hosp_bedAsked_13 rfl (by decide) (zrcv_of hM.1) (Nat.le_of_ble_eq_true rfl) (Nat.le_of_ble_eq_true rfl) (hf1) ?_
        refine zr_istore_n i_Hosp_bedAsked_16 rfl ?_
        refine zr_aload_n i_Hosp_bedAsked_17 rfl ?_
        refine zr_iload_n i_Hosp_bedAsked_18 rfl ?_
        refine zr_iconst i_Hosp_bedAsked_19 (v := 1) (by decide) ?_
        refine zr_iconst i_Hosp_bedAsked_20 (v := 1) (by decide) ?_
        refine zr_iconst i_Hosp_bedAsked_21 (v := 2) (by decide) ?_
        refine zr_cv4 i_Hosp_bedAsked_22 rfl (by decide) (zrcv_of hM.1) (Nat.le_of_ble_eq_true rfl) (Nat.le_of_ble_eq_true rfl) (hf2) ?_
        refine zr_istore_n i_Hosp_bedAsked_25 rfl ?_
        refine zr_aload_n i_Hosp_bedAsked_26 rfl ?_
        refine zr_iload_n i_Hosp_bedAsked_27 rfl ?_
        refine zr_iconst i_Hosp_bedAsked_28 (v := 0) (by decide) ?_
        refine zr_cv2 i_Hosp_bedAsked_29 rfl (by decide) (zrcv_of hM.1) (Nat.le_of_ble_eq_true rfl) (Nat.le_of_ble_eq_true rfl) (hch) ?_
        refine zr_istore i_Hosp_bedAsked_32 rfl ?_
        refine zr_aload_n i_Hosp_bedAsked_34 rfl ?_
        refine zr_iload_n i_Hosp_bedAsked_35 rfl ?_
        refine zn_iconst 1 i_Hosp_bedAsked_36 (by decide) ?_
        refine zr_cv2 i_Hosp_bedAsked_37 rfl (by decide) (zrcv_of hM.1) (Nat.le_of_ble_eq_true rfl) (Nat.le_of_ble_eq_true rfl) (hnu) ?_
        refine zr_istore i_Hosp_bedAsked_40 rfl ?_
        refine zr_aload_n i_Hosp_bedAsked_42 rfl ?_
        refine zr_iload_n i_Hosp_bedAsked_43 rfl ?_
        refine zr_cv1 i_Hosp_bedAsked_44 rfl (by decide) (zrcv_of hM.1) (Nat.le_of_ble_eq_true rfl) (Nat.le_of_ble_eq_true rfl) (htl) ?_
        refine zn_iconst 1 i_Hosp_bedAsked_47 (by decide) ?_
        refine zn_icmp_ne 74 i_Hosp_bedAsked_48 (by decide) (by omega) (by omega) (fun q => absurd q (by omega)) (fun c_48 => ?_)
        refine zr_iload i_Hosp_bedAsked_51 rfl ?_
        refine zr_bipush i_Hosp_bedAsked_53 (v := 65) (by decide) ?_
        refine zr_bipush i_Hosp_bedAsked_55 (v := 68) (by decide) ?_
        refine zr_cs3 i_Hosp_bedAsked_57 rfl (by decide) (Nat.le_of_ble_eq_true rfl) (Nat.le_of_ble_eq_true rfl) (e_B_isBetween X _ _ _ _ _) ?_
        refine zB_if_eq 74 i_Hosp_bedAsked_60 (by decide) (fun q => absurd q (by rw [h2]; decide)) (fun _ => ?_)
        refine zr_iload i_Hosp_bedAsked_63 rfl ?_
        refine zr_iconst i_Hosp_bedAsked_65 (v := 0) (by decide) ?_
        refine zr_bipush i_Hosp_bedAsked_66 (v := 7) (by decide) ?_
        refine zr_cs3 i_Hosp_bedAsked_68 rfl (by decide) (Nat.le_of_ble_eq_true rfl) (Nat.le_of_ble_eq_true rfl) (e_B_isBetween X _ _ _ _ _) ?_
        refine zB_if_ne 76 i_Hosp_bedAsked_71 (by decide) (fun q => absurd q (by rw [h3]; decide)) (fun _ => ?_)
        refine zr_iconst i_Hosp_bedAsked_74 (v := (-1)) (by decide) ?_
        exact zR.retE i_Hosp_bedAsked_75 rfl rfl
      | true =>
        rw [if_pos ⟨h1, rfl, rfl⟩]
        refine zr_aload_n i_Hosp_bedAsked_0 rfl ?_
        refine zr_ldc i_Hosp_bedAsked_1 rfl ?_
        refine zn_iconst 1 i_Hosp_bedAsked_3 (by decide) ?_
        refine zr_cv2 i_Hosp_bedAsked_4 rfl (by decide) (zrcv_of hM.1) (Nat.le_of_ble_eq_true rfl) (Nat.le_of_ble_eq_true rfl) (hnx) ?_
        refine zr_istore_n i_Hosp_bedAsked_7 rfl ?_
        refine zr_aload_n i_Hosp_bedAsked_8 rfl ?_
        refine zr_iload_n i_Hosp_bedAsked_9 rfl ?_
        refine zr_iconst i_Hosp_bedAsked_10 (v := 1) (by decide) ?_
        refine zr_iconst i_Hosp_bedAsked_11 (v := 1) (by decide) ?_
        refine zr_iconst i_Hosp_bedAsked_12 (v := 1) (by decide) ?_
        refine zr_cv4 i_Hosp_bedAsked_13 rfl (by decide) (zrcv_of hM.1) (Nat.le_of_ble_eq_true rfl) (Nat.le_of_ble_eq_true rfl) (hf1) ?_
        refine zr_istore_n i_Hosp_bedAsked_16 rfl ?_
        refine zr_aload_n i_Hosp_bedAsked_17 rfl ?_
        refine zr_iload_n i_Hosp_bedAsked_18 rfl ?_
        refine zr_iconst i_Hosp_bedAsked_19 (v := 1) (by decide) ?_
        refine zr_iconst i_Hosp_bedAsked_20 (v := 1) (by decide) ?_
        refine zr_iconst i_Hosp_bedAsked_21 (v := 2) (by decide) ?_
        refine zr_cv4 i_Hosp_bedAsked_22 rfl (by decide) (zrcv_of hM.1) (Nat.le_of_ble_eq_true rfl) (Nat.le_of_ble_eq_true rfl) (hf2) ?_
        refine zr_istore_n i_Hosp_bedAsked_25 rfl ?_
        refine zr_aload_n i_Hosp_bedAsked_26 rfl ?_
        refine zr_iload_n i_Hosp_bedAsked_27 rfl ?_
        refine zr_iconst i_Hosp_bedAsked_28 (v := 0) (by decide) ?_
        refine zr_cv2 i_Hosp_bedAsked_29 rfl (by decide) (zrcv_of hM.1) (Nat.le_of_ble_eq_true rfl) (Nat.le_of_ble_eq_true rfl) (hch) ?_
        refine zr_istore i_Hosp_bedAsked_32 rfl ?_
        refine zr_aload_n i_Hosp_bedAsked_34 rfl ?_
        refine zr_iload_n i_Hosp_bedAsked_35 rfl ?_
        refine zn_iconst 1 i_Hosp_bedAsked_36 (by decide) ?_
        refine zr_cv2 i_Hosp_bedAsked_37 rfl (by decide) (zrcv_of hM.1) (Nat.le_of_ble_eq_true rfl) (Nat.le_of_ble_eq_true rfl) (hnu) ?_
        refine zr_istore i_Hosp_bedAsked_40 rfl ?_
        refine zr_aload_n i_Hosp_bedAsked_42 rfl ?_
        refine zr_iload_n i_Hosp_bedAsked_43 rfl ?_
        refine zr_cv1 i_Hosp_bedAsked_44 rfl (by decide) (zrcv_of hM.1) (Nat.le_of_ble_eq_true rfl) (Nat.le_of_ble_eq_true rfl) (htl) ?_
        refine zn_iconst 1 i_Hosp_bedAsked_47 (by decide) ?_
        refine zn_icmp_ne 74 i_Hosp_bedAsked_48 (by decide) (by omega) (by omega) (fun q => absurd q (by omega)) (fun c_48 => ?_)
        refine zr_iload i_Hosp_bedAsked_51 rfl ?_
        refine zr_bipush i_Hosp_bedAsked_53 (v := 65) (by decide) ?_
        refine zr_bipush i_Hosp_bedAsked_55 (v := 68) (by decide) ?_
        refine zr_cs3 i_Hosp_bedAsked_57 rfl (by decide) (Nat.le_of_ble_eq_true rfl) (Nat.le_of_ble_eq_true rfl) (e_B_isBetween X _ _ _ _ _) ?_
        refine zB_if_eq 74 i_Hosp_bedAsked_60 (by decide) (fun q => absurd q (by rw [h2]; decide)) (fun _ => ?_)
        refine zr_iload i_Hosp_bedAsked_63 rfl ?_
        refine zr_iconst i_Hosp_bedAsked_65 (v := 0) (by decide) ?_
        refine zr_bipush i_Hosp_bedAsked_66 (v := 7) (by decide) ?_
        refine zr_cs3 i_Hosp_bedAsked_68 rfl (by decide) (Nat.le_of_ble_eq_true rfl) (Nat.le_of_ble_eq_true rfl) (e_B_isBetween X _ _ _ _ _) ?_
        refine zB_if_ne 76 i_Hosp_bedAsked_71 (by decide) (fun _ => ?_) (fun q => absurd q (by rw [h3]; decide))
        refine zr_bipush i_Hosp_bedAsked_76 (v := 8) (by decide) ?_
        refine zr_iload i_Hosp_bedAsked_78 rfl ?_
        refine zr_bipush i_Hosp_bedAsked_80 (v := 65) (by decide) ?_
        refine zr_isub i_Hosp_bedAsked_82 ?_
        refine zr_imul i_Hosp_bedAsked_83 ?_
        refine zr_iload i_Hosp_bedAsked_84 rfl ?_
        refine zr_iadd i_Hosp_bedAsked_86 ?_
        exact zR.retE i_Hosp_bedAsked_87 rfl rfl
  · rw [if_neg (fun z => h1 z.1)]
    refine zr_aload_n i_Hosp_bedAsked_0 rfl ?_
    refine zr_ldc i_Hosp_bedAsked_1 rfl ?_
    refine zn_iconst 1 i_Hosp_bedAsked_3 (by decide) ?_
    refine zr_cv2 i_Hosp_bedAsked_4 rfl (by decide) (zrcv_of hM.1) (Nat.le_of_ble_eq_true rfl) (Nat.le_of_ble_eq_true rfl) (hnx) ?_
    refine zr_istore_n i_Hosp_bedAsked_7 rfl ?_
    refine zr_aload_n i_Hosp_bedAsked_8 rfl ?_
    refine zr_iload_n i_Hosp_bedAsked_9 rfl ?_
    refine zr_iconst i_Hosp_bedAsked_10 (v := 1) (by decide) ?_
    refine zr_iconst i_Hosp_bedAsked_11 (v := 1) (by decide) ?_
    refine zr_iconst i_Hosp_bedAsked_12 (v := 1) (by decide) ?_
    refine zr_cv4 i_Hosp_bedAsked_13 rfl (by decide) (zrcv_of hM.1) (Nat.le_of_ble_eq_true rfl) (Nat.le_of_ble_eq_true rfl) (hf1) ?_
    refine zr_istore_n i_Hosp_bedAsked_16 rfl ?_
    refine zr_aload_n i_Hosp_bedAsked_17 rfl ?_
    refine zr_iload_n i_Hosp_bedAsked_18 rfl ?_
    refine zr_iconst i_Hosp_bedAsked_19 (v := 1) (by decide) ?_
    refine zr_iconst i_Hosp_bedAsked_20 (v := 1) (by decide) ?_
    refine zr_iconst i_Hosp_bedAsked_21 (v := 2) (by decide) ?_
    refine zr_cv4 i_Hosp_bedAsked_22 rfl (by decide) (zrcv_of hM.1) (Nat.le_of_ble_eq_true rfl) (Nat.le_of_ble_eq_true rfl) (hf2) ?_
    refine zr_istore_n i_Hosp_bedAsked_25 rfl ?_
    refine zr_aload_n i_Hosp_bedAsked_26 rfl ?_
    refine zr_iload_n i_Hosp_bedAsked_27 rfl ?_
    refine zr_iconst i_Hosp_bedAsked_28 (v := 0) (by decide) ?_
    refine zr_cv2 i_Hosp_bedAsked_29 rfl (by decide) (zrcv_of hM.1) (Nat.le_of_ble_eq_true rfl) (Nat.le_of_ble_eq_true rfl) (hch) ?_
    refine zr_istore i_Hosp_bedAsked_32 rfl ?_
    refine zr_aload_n i_Hosp_bedAsked_34 rfl ?_
    refine zr_iload_n i_Hosp_bedAsked_35 rfl ?_
    refine zn_iconst 1 i_Hosp_bedAsked_36 (by decide) ?_
    refine zr_cv2 i_Hosp_bedAsked_37 rfl (by decide) (zrcv_of hM.1) (Nat.le_of_ble_eq_true rfl) (Nat.le_of_ble_eq_true rfl) (hnu) ?_
    refine zr_istore i_Hosp_bedAsked_40 rfl ?_
    refine zr_aload_n i_Hosp_bedAsked_42 rfl ?_
    refine zr_iload_n i_Hosp_bedAsked_43 rfl ?_
    refine zr_cv1 i_Hosp_bedAsked_44 rfl (by decide) (zrcv_of hM.1) (Nat.le_of_ble_eq_true rfl) (Nat.le_of_ble_eq_true rfl) (htl) ?_
    refine zn_iconst 1 i_Hosp_bedAsked_47 (by decide) ?_
    refine zn_icmp_ne 74 i_Hosp_bedAsked_48 (by decide) (by omega) (by omega) (fun c_48 => ?_) (fun q => absurd q h1)
    refine zr_iconst i_Hosp_bedAsked_74 (v := (-1)) (by decide) ?_
    exact zR.retE i_Hosp_bedAsked_75 rfl rfl
theorem i_Hosp_takeName_0 : zins 54 0 = some (.aload_n 0) := by decide +kernel
theorem i_Hosp_takeName_1 : zins 54 1 = some (.iload_n 1) := by decide +kernel
theorem i_Hosp_takeName_2 : zins 54 2 = some (.invokevirtual 137) := by decide +kernel
theorem i_Hosp_takeName_5 : zins 54 5 = some (.ifCond .ne 4) := by decide +kernel
theorem i_Hosp_takeName_8 : zins 54 8 = some (.return_) := by decide +kernel
theorem i_Hosp_takeName_9 : zins 54 9 = some (.aload_n 2) := by decide +kernel
theorem i_Hosp_takeName_10 : zins 54 10 = some (.invokevirtual 151) := by decide +kernel
theorem i_Hosp_takeName_13 : zins 54 13 = some (.aload_n 0) := by decide +kernel
theorem i_Hosp_takeName_14 : zins 54 14 = some (.iload_n 1) := by decide +kernel
theorem i_Hosp_takeName_15 : zins 54 15 = some (.ldc 156) := by decide +kernel
theorem i_Hosp_takeName_17 : zins 54 17 = some (.invokevirtual 158) := by decide +kernel
theorem i_Hosp_takeName_20 : zins 54 20 = some (.ifCond .ne 9) := by decide +kernel
theorem i_Hosp_takeName_23 : zins 54 23 = some (.aload_n 0) := by decide +kernel
theorem i_Hosp_takeName_24 : zins 54 24 = some (.iload_n 1) := by decide +kernel
theorem i_Hosp_takeName_25 : zins 54 25 = some (.aload_n 2) := by decide +kernel
theorem i_Hosp_takeName_26 : zins 54 26 = some (.invokevirtual 162) := by decide +kernel
theorem i_Hosp_takeName_29 : zins 54 29 = some (.return_) := by decide +kernel
/-- a name after a further text -/
def nmL (l : List Int32) (t : zT) : List Int32 := if tl t = 0 then l else if sayF t (sT 6) = true then [] else t.getD []
theorem isM_ch {h : zH} {a c N n0 : Nat} {g f : Nat → Int32} {n : Nat} {st : Nat → Int32} {k : Nat} (hM : isM h a f n st k) (hd : a ≠ c ∧ a ≠ c + 1 ∧ a + 3 ≠ c ∧ a + 3 ≠ c + 1 ∧ a + 4 ≠ c ∧ a + 4 ≠ c + 1) : isM (chS h c N n0 g) a f n st k := ⟨(chS_ne hd.1 hd.2.1).trans hM.1, (chS_ne hd.2.2.1 hd.2.2.2.1).trans hM.2.1, (chS_ne hd.2.2.2.2.1 hd.2.2.2.2.2).trans hM.2.2⟩
theorem e_Hosp_takeName (X : zX) (d : Nat) (hX : X.2.2.category = 1) (h : zH) (hz : zlow h) (a : Nat) (f : Nat → Int32) (n : Nat) (st : Nat → Int32) (cn : Nat) (hM : isM h a f n st cn) (hn : n ≤ 200) (c : Nat) (hc : 100 ≤ c) (hd : a ≠ c ∧ a ≠ c + 1 ∧ a + 3 ≠ c ∧ a + 3 ≠ c + 1 ∧ a + 4 ≠ c ∧ a + 4 ≠ c + 1) (hz2 : ∀ i, i < n → f i < 256 → zch (f i)) (l : List Int32) (g : Nat → Int32) (o : Option Nat) (ho : ∀ p, o = some p → p ≤ n) : ∃ g', zR X (d + 5) 54 0 (zent 3 [.ref a, .int (tI o), .ref c]) [] (chL h c 12 l g) (none, chL h c 12 (nmL l (txo f n o)) g') := by
  have hM2 : isM (chL h c 12 l g) a f n st cn := isM_ch hM hd
  have htl := e_Mess_textLength X (d + 4) (chL h c 12 l g) a f n st cn hM2 hn o ho
  have hll := tl_txo f n o
  unfold nmL
  by_cases h0 : tl (txo f n o) = 0
  · rw [if_pos h0]
    refine ⟨g, ?_⟩
    refine zr_aload_n i_Hosp_takeName_0 rfl ?_
    refine zr_iload_n i_Hosp_takeName_1 rfl ?_
    refine zr_cv1 i_Hosp_takeName_2 rfl (by decide) (zrcv_of hM2.1) (Nat.le_of_ble_eq_true rfl) (Nat.le_of_ble_eq_true rfl) (htl) ?_
    refine zN_if_ne 9 i_Hosp_takeName_5 (by decide) (by omega) (fun q => absurd h0 q) (fun _ => ?_)
    exact zR.retE i_Hosp_takeName_8 rfl rfl
  · rw [if_neg h0]
    refine ⟨lrow g (l.take 12), ?_⟩
    have hcl := e_Chars_clear X (d + 4) h c 12 (l.take 12).length (lrow g (l.take 12))
    have hnil : chS h c 12 0 (lrow g (l.take 12)) = chL h c 12 [] (lrow g (l.take 12)) := rfl
    rw [hnil] at hcl
    have hM3 : isM (chL h c 12 [] (lrow g (l.take 12))) a f n st cn := isM_ch hM hd
    have hzz : zlow (chL h c 12 [] (lrow g (l.take 12))) := chS_low hz hc
    have hsa := e_Mess_says X d hX (chL h c 12 [] (lrow g (l.take 12))) hzz a f n st cn hM3 hn 6 ⟨by decide, by decide⟩ (by decide) o ho
    have hco := e_Mess_copyText X (d + 3) h a f n st cn hM hn c 12 (by decide) hd hz2 [] (lrow g (l.take 12)) o ho
    rw [List.nil_append] at hco
    cases hs : sayF (txo f n o) (sT 6) with
    | true =>
      rw [hs] at hsa
      rw [if_pos rfl]
      refine zr_aload_n i_Hosp_takeName_0 rfl ?_
      refine zr_iload_n i_Hosp_takeName_1 rfl ?_
      refine zr_cv1 i_Hosp_takeName_2 rfl (by decide) (zrcv_of hM2.1) (Nat.le_of_ble_eq_true rfl) (Nat.le_of_ble_eq_true rfl) (htl) ?_
      refine zN_if_ne 9 i_Hosp_takeName_5 (by decide) (by omega) (fun _ => ?_) (fun q => absurd q h0)
      refine zr_aload_n i_Hosp_takeName_9 rfl ?_
      refine zr_cv00 i_Hosp_takeName_10 rfl (by decide) (zrcv_of chS_o) (Nat.le_of_ble_eq_true rfl) (Nat.le_of_ble_eq_true rfl) (hcl) ?_
      refine zr_aload_n i_Hosp_takeName_13 rfl ?_
      refine zr_iload_n i_Hosp_takeName_14 rfl ?_
      refine zr_ldc i_Hosp_takeName_15 rfl ?_
      refine zr_cv2 i_Hosp_takeName_17 rfl (by decide) (zrcv_of hM3.1) (Nat.le_of_ble_eq_true rfl) (Nat.le_of_ble_eq_true rfl) hsa ?_
      refine zB_if_ne 29 i_Hosp_takeName_20 (by decide) (fun _ => ?_) (fun q => absurd q (by decide))
      exact zR.retE i_Hosp_takeName_29 rfl rfl
    | false =>
      rw [hs] at hsa
      rw [if_neg (by decide)]
      refine zr_aload_n i_Hosp_takeName_0 rfl ?_
      refine zr_iload_n i_Hosp_takeName_1 rfl ?_
      refine zr_cv1 i_Hosp_takeName_2 rfl (by decide) (zrcv_of hM2.1) (Nat.le_of_ble_eq_true rfl) (Nat.le_of_ble_eq_true rfl) (htl) ?_
      refine zN_if_ne 9 i_Hosp_takeName_5 (by decide) (by omega) (fun _ => ?_) (fun q => absurd q h0)
      refine zr_aload_n i_Hosp_takeName_9 rfl ?_
      refine zr_cv00 i_Hosp_takeName_10 rfl (by decide) (zrcv_of chS_o) (Nat.le_of_ble_eq_true rfl) (Nat.le_of_ble_eq_true rfl) (hcl) ?_
      refine zr_aload_n i_Hosp_takeName_13 rfl ?_
      refine zr_iload_n i_Hosp_takeName_14 rfl ?_
      refine zr_ldc i_Hosp_takeName_15 rfl ?_
      refine zr_cv2 i_Hosp_takeName_17 rfl (by decide) (zrcv_of hM3.1) (Nat.le_of_ble_eq_true rfl) (Nat.le_of_ble_eq_true rfl) hsa ?_
      refine zB_if_ne 29 i_Hosp_takeName_20 (by decide) (fun q => absurd q (by decide)) (fun _ => ?_)
      refine zr_aload_n i_Hosp_takeName_23 rfl ?_
      refine zr_iload_n i_Hosp_takeName_24 rfl ?_
      refine zr_aload_n i_Hosp_takeName_25 rfl ?_
      refine zr_cv20 i_Hosp_takeName_26 rfl (by decide) (zrcv_of hM3.1) (Nat.le_of_ble_eq_true rfl) (Nat.le_of_ble_eq_true rfl) hco ?_
      exact zR.retE i_Hosp_takeName_29 rfl rfl
theorem i_Hosp_areValues_0 : zins 60 0 = some (.iload_n 1) := by decide +kernel
theorem i_Hosp_areValues_1 : zins 60 1 = some (.iconst (-1)) := by decide +kernel
theorem i_Hosp_areValues_2 : zins 60 2 = some (.if_icmp .eq 7) := by decide +kernel
theorem i_Hosp_areValues_5 : zins 60 5 = some (.iconst 1) := by decide +kernel
theorem i_Hosp_areValues_6 : zins 60 6 = some (.goto 4) := by decide +kernel
theorem i_Hosp_areValues_9 : zins 60 9 = some (.iconst 0) := by decide +kernel
theorem i_Hosp_areValues_10 : zins 60 10 = some (.istore_n 2) := by decide +kernel
theorem i_Hosp_areValues_11 : zins 60 11 = some (.iload_n 1) := by decide +kernel
theorem i_Hosp_areValues_12 : zins 60 12 = some (.istore_n 3) := by decide +kernel
theorem i_Hosp_areValues_13 : zins 60 13 = some (.iconst 0) := by decide +kernel
theorem i_Hosp_areValues_14 : zins 60 14 = some (.istore 4) := by decide +kernel
theorem i_Hosp_areValues_16 : zins 60 16 = some (.iload 4) := by decide +kernel
theorem i_Hosp_areValues_18 : zins 60 18 = some (.sipush 200) := by decide +kernel
theorem i_Hosp_areValues_21 : zins 60 21 = some (.if_icmp .ge 42) := by decide +kernel
theorem i_Hosp_areValues_24 : zins 60 24 = some (.iload_n 3) := by decide +kernel
theorem i_Hosp_areValues_25 : zins 60 25 = some (.iconst (-1)) := by decide +kernel
theorem i_Hosp_areValues_26 : zins 60 26 = some (.if_icmp .eq 37) := by decide +kernel
theorem i_Hosp_areValues_29 : zins 60 29 = some (.aload_n 0) := by decide +kernel
theorem i_Hosp_areValues_30 : zins 60 30 = some (.iload_n 3) := by decide +kernel
theorem i_Hosp_areValues_31 : zins 60 31 = some (.iconst 4) := by decide +kernel
theorem i_Hosp_areValues_32 : zins 60 32 = some (.invokevirtual 125) := by decide +kernel
theorem i_Hosp_areValues_35 : zins 60 35 = some (.iconst (-1)) := by decide +kernel
theorem i_Hosp_areValues_36 : zins 60 36 = some (.if_icmp .ne 15) := by decide +kernel
theorem i_Hosp_areValues_39 : zins 60 39 = some (.aload_n 0) := by decide +kernel
theorem i_Hosp_areValues_40 : zins 60 40 = some (.iload_n 3) := by decide +kernel
theorem i_Hosp_areValues_41 : zins 60 41 = some (.ldc 156) := by decide +kernel
theorem i_Hosp_areValues_43 : zins 60 43 = some (.invokevirtual 158) := by decide +kernel
theorem i_Hosp_areValues_46 : zins 60 46 = some (.ifCond .ne 5) := by decide +kernel
theorem i_Hosp_areValues_49 : zins 60 49 = some (.iconst 0) := by decide +kernel
theorem i_Hosp_areValues_50 : zins 60 50 = some (.ireturn) := by decide +kernel
theorem i_Hosp_areValues_51 : zins 60 51 = some (.aload_n 0) := by decide +kernel
theorem i_Hosp_areValues_52 : zins 60 52 = some (.iload_n 3) := by decide +kernel
theorem i_Hosp_areValues_53 : zins 60 53 = some (.invokevirtual 166) := by decide +kernel
theorem i_Hosp_areValues_56 : zins 60 56 = some (.istore_n 3) := by decide +kernel
theorem i_Hosp_areValues_57 : zins 60 57 = some (.iinc 4 1) := by decide +kernel
theorem i_Hosp_areValues_60 : zins 60 60 = some (.goto (-44)) := by decide +kernel
theorem i_Hosp_areValues_63 : zins 60 63 = some (.iload_n 2) := by decide +kernel
theorem i_Hosp_areValues_64 : zins 60 64 = some (.ireturn) := by decide +kernel
theorem l_Hosp_areValues (X : zX) (d : Nat) (hX : X.2.2.category = 1) (h : zH) (hz : zlow h) (a : Nat) (f : Nat → Int32) (n : Nat) (st : Nat → Int32) (cn : Nat) (hM : isM h a f n st cn) (hn : n ≤ 200) (x : Int32) (b : Bool) : ∀ (q k : Nat) (o : Option Nat), k + q = 200 → (∀ p, o = some p → p ≤ n) → zR X (d + 5) 60 16 [some (.ref a), some (.int x), some (.int (zb b)), some (.int (tI o)), some (.int (nI k))] [] h (some (.int (zb (avL f n q o && b))), h) := by
  intro q
  induction q with
  | zero =>
    intro k o hkq ho
    rw [avL, Bool.true_and]
    refine zr_iload i_Hosp_areValues_16 rfl ?_
    refine zn_sipush 200 i_Hosp_areValues_18 (by decide) ?_
    refine zn_icmp_ge 63 i_Hosp_areValues_21 (by decide) (by omega) (by omega) (fun c_21 => ?_) (fun q => absurd q (by omega))
    refine zr_iload_n i_Hosp_areValues_63 rfl ?_
    exact zR.retE i_Hosp_areValues_64 (zretB _) rfl
  | succ q ih =>
    intro k o hkq ho
    cases o with
    | none =>
      rw [avL, Bool.true_and]
      refine zr_iload i_Hosp_areValues_16 rfl ?_
      refine zn_sipush 200 i_Hosp_areValues_18 (by decide) ?_
      refine zn_icmp_ge 63 i_Hosp_areValues_21 (by decide) (by omega) (by omega) (fun q => absurd q (by omega)) (fun c_21 => ?_)
      refine zr_iload_n i_Hosp_areValues_24 rfl ?_
      refine zr_iconst i_Hosp_areValues_25 (v := (-1)) (by decide) ?_
      refine zr_icmp_eq 63 i_Hosp_areValues_26 (by decide) (fun c_26 => ?_) (fun q => absurd rfl q)
      refine zr_iload_n i_Hosp_areValues_63 rfl ?_
      exact zR.retE i_Hosp_areValues_64 (zretB _) rfl
    | some p =>
      have hp := ho p rfl
      have hne : ¬ tI (some p) = -1 := nI_neg1 (by omega)
      have hnu := e_Mess_number X (d + 3) h a f n st cn hM hn (some p) ho 4 (by decide)
      have hsa := e_Mess_says X d hX h hz a f n st cn hM hn 6 ⟨by decide, by decide⟩ (by decide) (some p) ho
      have hnx := e_Mess_nextRepetition X (d + 3) h a f n st cn hM hn p hp
      have hn2 := ih (k + 1) (nxL f p (n - p)) (by omega) (fun q hq => by have := nxL_le hq; omega)
      rw [avL]
      by_cases h4 : vnum (txo f n (some p)) 4 = -1
      · cases hs : sayF (txo f n (some p)) (sT 6) with
        | false =>
          rw [hs] at hsa
          rw [if_pos ⟨h4, rfl⟩, Bool.false_and]
          refine zr_iload i_Hosp_areValues_16 rfl ?_
          refine zn_sipush 200 i_Hosp_areValues_18 (by decide) ?_
          refine zn_icmp_ge 63 i_Hosp_areValues_21 (by decide) (by omega) (by omega) (fun q => absurd q (by omega)) (fun c_21 => ?_)
          refine zr_iload_n i_Hosp_areValues_24 rfl ?_
          refine zr_iconst i_Hosp_areValues_25 (v := (-1)) (by decide) ?_
          refine zr_icmp_eq 63 i_Hosp_areValues_26 (by decide) (fun q => absurd q hne) (fun c_26 => ?_)
          refine zr_aload_n i_Hosp_areValues_29 rfl ?_
          refine zr_iload_n i_Hosp_areValues_30 rfl ?_
          refine zn_iconst 4 i_Hosp_areValues_31 (by decide) ?_
          refine zr_cv2 i_Hosp_areValues_32 rfl (by decide) (zrcv_of hM.1) (Nat.le_of_ble_eq_true rfl) (Nat.le_of_ble_eq_true rfl) (hnu) ?_
          refine zr_iconst i_Hosp_areValues_35 (v := (-1)) (by decide) ?_
          refine zr_icmp_ne 51 i_Hosp_areValues_36 (by decide) (fun q => absurd h4 q) (fun c_36 => ?_)
          refine zr_aload_n i_Hosp_areValues_39 rfl ?_
          refine zr_iload_n i_Hosp_areValues_40 rfl ?_
          refine zr_ldc i_Hosp_areValues_41 rfl ?_
          refine zr_cv2 i_Hosp_areValues_43 rfl (by decide) (zrcv_of hM.1) (Nat.le_of_ble_eq_true rfl) (Nat.le_of_ble_eq_true rfl) hsa ?_
          refine zB_if_ne 51 i_Hosp_areValues_46 (by decide) (fun q => absurd q (by decide)) (fun _ => ?_)
          refine zr_iconst i_Hosp_areValues_49 (v := 0) (by decide) ?_
          exact zR.retE i_Hosp_areValues_50 rfl rfl
        | true =>
          rw [hs] at hsa
          rw [if_neg (fun z => absurd z.2 (by decide))]
          refine zr_iload i_Hosp_areValues_16 rfl ?_
          refine zn_sipush 200 i_Hosp_areValues_18 (by decide) ?_
          refine zn_icmp_ge 63 i_Hosp_areValues_21 (by decide) (by omega) (by omega) (fun q => absurd q (by omega)) (fun c_21 => ?_)
          refine zr_iload_n i_Hosp_areValues_24 rfl ?_
          refine zr_iconst i_Hosp_areValues_25 (v := (-1)) (by decide) ?_
          refine zr_icmp_eq 63 i_Hosp_areValues_26 (by decide) (fun q => absurd q hne) (fun c_26 => ?_)
          refine zr_aload_n i_Hosp_areValues_29 rfl ?_
          refine zr_iload_n i_Hosp_areValues_30 rfl ?_
          refine zn_iconst 4 i_Hosp_areValues_31 (by decide) ?_
          refine zr_cv2 i_Hosp_areValues_32 rfl (by decide) (zrcv_of hM.1) (Nat.le_of_ble_eq_true rfl) (Nat.le_of_ble_eq_true rfl) (hnu) ?_
          refine zr_iconst i_Hosp_areValues_35 (v := (-1)) (by decide) ?_
          refine zr_icmp_ne 51 i_Hosp_areValues_36 (by decide) (fun q => absurd h4 q) (fun c_36 => ?_)
          refine zr_aload_n i_Hosp_areValues_39 rfl ?_
          refine zr_iload_n i_Hosp_areValues_40 rfl ?_
          refine zr_ldc i_Hosp_areValues_41 rfl ?_
          refine zr_cv2 i_Hosp_areValues_43 rfl (by decide) (zrcv_of hM.1) (Nat.le_of_ble_eq_true rfl) (Nat.le_of_ble_eq_true rfl) hsa ?_
          refine zB_if_ne 51 i_Hosp_areValues_46 (by decide) (fun _ => ?_) (fun q => absurd q (by decide))
          refine zr_aload_n i_Hosp_areValues_51 rfl ?_
          refine zr_iload_n i_Hosp_areValues_52 rfl ?_
          refine zr_cv1 i_Hosp_areValues_53 rfl (by decide) (zrcv_of hM.1) (Nat.le_of_ble_eq_true rfl) (Nat.le_of_ble_eq_true rfl) (hnx) ?_
          refine zr_istore_n i_Hosp_areValues_56 rfl ?_
          refine zn_iinc i_Hosp_areValues_57 rfl rfl ?_
          refine zr_goto 16 i_Hosp_areValues_60 (by decide) ?_
          exact hn2
      · rw [if_neg (fun z => h4 z.1)]
        refine zr_iload i_Hosp_areValues_16 rfl ?_
        refine zn_sipush 200 i_Hosp_areValues_18 (by decide) ?_
        refine zn_icmp_ge 63 i_Hosp_areValues_21 (by decide) (by omega) (by omega) (fun q => absurd q (by omega)) (fun c_21 => ?_)
        refine zr_iload_n i_Hosp_areValues_24 rfl ?_
        refine zr_iconst i_Hosp_areValues_25 (v := (-1)) (by decide) ?_
        refine zr_icmp_eq 63 i_Hosp_areValues_26 (by decide) (fun q => absurd q hne) (fun c_26 => ?_)
        refine zr_aload_n i_Hosp_areValues_29 rfl ?_
        refine zr_iload_n i_Hosp_areValues_30 rfl ?_
        refine zn_iconst 4 i_Hosp_areValues_31 (by decide) ?_
        refine zr_cv2 i_Hosp_areValues_32 rfl (by decide) (zrcv_of hM.1) (Nat.le_of_ble_eq_true rfl) (Nat.le_of_ble_eq_true rfl) (hnu) ?_
        refine zr_iconst i_Hosp_areValues_35 (v := (-1)) (by decide) ?_
        refine zr_icmp_ne 51 i_Hosp_areValues_36 (by decide) (fun c_36 => ?_) (fun q => absurd q h4)
        refine zr_aload_n i_Hosp_areValues_51 rfl ?_
        refine zr_iload_n i_Hosp_areValues_52 rfl ?_
        refine zr_cv1 i_Hosp_areValues_53 rfl (by decide) (zrcv_of hM.1) (Nat.le_of_ble_eq_true rfl) (Nat.le_of_ble_eq_true rfl) (hnx) ?_
        refine zr_istore_n i_Hosp_areValues_56 rfl ?_
        refine zn_iinc i_Hosp_areValues_57 rfl rfl ?_
        refine zr_goto 16 i_Hosp_areValues_60 (by decide) ?_
        exact hn2
theorem e_Hosp_areValues (X : zX) (d : Nat) (hX : X.2.2.category = 1) (h : zH) (hz : zlow h) (a : Nat) (f : Nat → Int32) (n : Nat) (st : Nat → Int32) (cn : Nat) (hM : isM h a f n st cn) (hn : n ≤ 200) (o : Option Nat) (ho : ∀ p, o = some p → p ≤ n) : zR X (d + 5) 60 0 (zent 5 [.ref a, .int (tI o)]) [] h (some (.int (zb (avF f n o))), h) := by
  unfold avF
  rw [Bool.and_comm]
  cases o with
  | none =>
    have hl := l_Hosp_areValues X d hX h hz a f n st cn hM hn (tI none) false 200 0 none (by omega) ho
    refine zr_iload_n i_Hosp_areValues_0 rfl ?_
    refine zr_iconst i_Hosp_areValues_1 (v := (-1)) (by decide) ?_
    refine zr_icmp_eq 9 i_Hosp_areValues_2 (by decide) (fun c_2 => ?_) (fun q => absurd rfl q)
    refine zr_iconst i_Hosp_areValues_9 (v := 0) (by decide) ?_
    refine zr_istore_n i_Hosp_areValues_10 rfl ?_
    refine zr_iload_n i_Hosp_areValues_11 rfl ?_
    refine zr_istore_n i_Hosp_areValues_12 rfl ?_
    refine zn_iconst 0 i_Hosp_areValues_13 (by decide) ?_
    refine zr_istore i_Hosp_areValues_14 rfl ?_
    exact hl
  | some p =>
    have hp := ho p rfl
    have hl := l_Hosp_areValues X d hX h hz a f n st cn hM hn (tI (some p)) true 200 0 (some p) (by omega) ho
    refine zr_iload_n i_Hosp_areValues_0 rfl ?_
    refine zr_iconst i_Hosp_areValues_1 (v := (-1)) (by decide) ?_
    refine zr_icmp_eq 9 i_Hosp_areValues_2 (by decide) (fun q => absurd q (nI_neg1 (w := p) (by omega))) (fun c_2 => ?_)
    refine zr_iconst i_Hosp_areValues_5 (v := 1) (by decide) ?_
    refine zr_goto 10 i_Hosp_areValues_6 (by decide) ?_
    refine zr_istore_n i_Hosp_areValues_10 rfl ?_
    refine zr_iload_n i_Hosp_areValues_11 rfl ?_
    refine zr_istore_n i_Hosp_areValues_12 rfl ?_
    refine zn_iconst 0 i_Hosp_areValues_13 (by decide) ?_
    refine zr_istore i_Hosp_areValues_14 rfl ?_
    exact hl
theorem i_Hosp_tryValues_0 : zins 61 0 = some (.iload_n 3) := by decide +kernel
theorem i_Hosp_tryValues_1 : zins 61 1 = some (.istore 4) := by decide +kernel
theorem i_Hosp_tryValues_3 : zins 61 3 = some (.iconst 0) := by decide +kernel
theorem i_Hosp_tryValues_4 : zins 61 4 = some (.istore 5) := by decide +kernel
theorem i_Hosp_tryValues_6 : zins 61 6 = some (.iload 5) := by decide +kernel
theorem i_Hosp_tryValues_8 : zins 61 8 = some (.sipush 200) := by decide +kernel
theorem i_Hosp_tryValues_11 : zins 61 11 = some (.if_icmp .ge 65) := by decide +kernel
theorem i_Hosp_tryValues_14 : zins 61 14 = some (.iload 4) := by decide +kernel
theorem i_Hosp_tryValues_16 : zins 61 16 = some (.iconst (-1)) := by decide +kernel
theorem i_Hosp_tryValues_17 : zins 61 17 = some (.if_icmp .eq 59) := by decide +kernel
theorem i_Hosp_tryValues_20 : zins 61 20 = some (.aload_n 1) := by decide +kernel
theorem i_Hosp_tryValues_21 : zins 61 21 = some (.iload 4) := by decide +kernel
theorem i_Hosp_tryValues_23 : zins 61 23 = some (.ldc 156) := by decide +kernel
theorem i_Hosp_tryValues_25 : zins 61 25 = some (.invokevirtual 158) := by decide +kernel
theorem i_Hosp_tryValues_28 : zins 61 28 = some (.ifCond .eq 14) := by decide +kernel
theorem i_Hosp_tryValues_31 : zins 61 31 = some (.aload_n 0) := by decide +kernel
theorem i_Hosp_tryValues_32 : zins 61 32 = some (.getfield 24) := by decide +kernel
theorem i_Hosp_tryValues_35 : zins 61 35 = some (.iload_n 2) := by decide +kernel
theorem i_Hosp_tryValues_36 : zins 61 36 = some (.invokevirtual 169) := by decide +kernel
theorem i_Hosp_tryValues_39 : zins 61 39 = some (.goto 23) := by decide +kernel
theorem i_Hosp_tryValues_42 : zins 61 42 = some (.aload_n 0) := by decide +kernel
theorem i_Hosp_tryValues_43 : zins 61 43 = some (.getfield 24) := by decide +kernel
theorem i_Hosp_tryValues_46 : zins 61 46 = some (.iload_n 2) := by decide +kernel
theorem i_Hosp_tryValues_47 : zins 61 47 = some (.aload_n 1) := by decide +kernel
theorem i_Hosp_tryValues_48 : zins 61 48 = some (.iload 4) := by decide +kernel
theorem i_Hosp_tryValues_50 : zins 61 50 = some (.iconst 4) := by decide +kernel
theorem i_Hosp_tryValues_51 : zins 61 51 = some (.invokevirtual 125) := by decide +kernel
theorem i_Hosp_tryValues_54 : zins 61 54 = some (.invokevirtual 173) := by decide +kernel
theorem i_Hosp_tryValues_57 : zins 61 57 = some (.ifCond .ne 5) := by decide +kernel
theorem i_Hosp_tryValues_60 : zins 61 60 = some (.iconst 0) := by decide +kernel
theorem i_Hosp_tryValues_61 : zins 61 61 = some (.ireturn) := by decide +kernel
theorem i_Hosp_tryValues_62 : zins 61 62 = some (.aload_n 1) := by decide +kernel
theorem i_Hosp_tryValues_63 : zins 61 63 = some (.iload 4) := by decide +kernel
theorem i_Hosp_tryValues_65 : zins 61 65 = some (.invokevirtual 166) := by decide +kernel
theorem i_Hosp_tryValues_68 : zins 61 68 = some (.istore 4) := by decide +kernel
theorem i_Hosp_tryValues_70 : zins 61 70 = some (.iinc 5 1) := by decide +kernel
theorem i_Hosp_tryValues_73 : zins 61 73 = some (.goto (-67)) := by decide +kernel
theorem i_Hosp_tryValues_76 : zins 61 76 = some (.iconst 1) := by decide +kernel
theorem i_Hosp_tryValues_77 : zins 61 77 = some (.ireturn) := by decide +kernel
theorem l_Hosp_tryValues (X : zX) (d : Nat) (hX : X.2.2.category = 1) (h : zH) (hz : zlow h) (a : Nat) (f : Nat → Int32) (n : Nat) (st : Nat → Int32) (cn : Nat) (hM : isM h a f n st cn) (hn : n ≤ 200) (ha : 110 ≤ a) (hH : h.2.2 104 = some (.inr (3, [.ref 105, .ref 106, .ref 107]))) (code x : Int32) : ∀ (q k : Nat) (o : Option Nat) (z : zMe), k + q = 200 → (∀ p, o = some p → p ≤ n) → z.1 ≤ 12 → zR X (d + 5) 61 6 [some (.ref 104), some (.ref a), some (.int code), some (.int x), some (.int (tI o)), some (.int (nI k))] [] (meS h 107 z) (some (.int (zb (tvL f n code q o z).2)), (meS h 107 (tvL f n code q o z).1)) := by
  intro q
  induction q with
  | zero =>
    intro k o z hkq ho hz12
    rw [tvL]
    refine zr_iload i_Hosp_tryValues_6 rfl ?_
    refine zn_sipush 200 i_Hosp_tryValues_8 (by decide) ?_
    refine zn_icmp_ge 76 i_Hosp_tryValues_11 (by decide) (by omega) (by omega) (fun c_11 => ?_) (fun q => absurd q (by omega))
    refine zr_iconst i_Hosp_tryValues_76 (v := 1) (by decide) ?_
    exact zR.retE i_Hosp_tryValues_77 rfl rfl
  | succ q ih =>
    intro k o z hkq ho hz12
    cases o with
    | none =>
      rw [tvL]
      refine zr_iload i_Hosp_tryValues_6 rfl ?_
      refine zn_sipush 200 i_Hosp_tryValues_8 (by decide) ?_
      refine zn_icmp_ge 76 i_Hosp_tryValues_11 (by decide) (by omega) (by omega) (fun q => absurd q (by omega)) (fun c_11 => ?_)
      refine zr_iload i_Hosp_tryValues_14 rfl ?_
      refine zr_iconst i_Hosp_tryValues_16 (v := (-1)) (by decide) ?_
      refine zr_icmp_eq 76 i_Hosp_tryValues_17 (by decide) (fun c_17 => ?_) (fun q => absurd rfl q)
      refine zr_iconst i_Hosp_tryValues_76 (v := 1) (by decide) ?_
      exact zR.retE i_Hosp_tryValues_77 rfl rfl
    | some p =>
      have hp := ho p rfl
      have hne : ¬ tI (some p) = -1 := nI_neg1 (by omega)
      have hM2 : isM (meS h 107 z) a f n st cn := isM_me hM (fun i hi => by omega)
      have hzz : zlow (meS h 107 z) := meS_low hz (by decide)
      have hnu := e_Mess_number X (d + 3) (meS h 107 z) a f n st cn hM2 hn (some p) ho 4 (by decide)
      have hsa := e_Mess_says X d hX (meS h 107 z) hzz a f n st cn hM2 hn 6 ⟨by decide, by decide⟩ (by decide) (some p) ho
      have hnl : ∀ w, nxL f p (n - p) = some w → w ≤ n := fun w hw => by have := nxL_le hw; omega
      rw [tvL]
      cases hs : sayF (txo f n (some p)) (sT 6) with
      | true =>
        rw [hs] at hsa
        rw [if_pos rfl]
        have hre := e_Meas_remove X (d + 3) h 107 z.1 z.2.1 z.2.2 hz12 code
        have hnx := e_Mess_nextRepetition X (d + 3) (meS h 107 (remR z code)) a f n st cn (isM_me hM (fun i hi => by omega)) hn p hp
        have hn2 := ih (k + 1) (nxL f p (n - p)) (remR z code) (by omega) hnl (remR_le hz12)
        refine zr_iload i_Hosp_tryValues_6 rfl ?_
        refine zn_sipush 200 i_Hosp_tryValues_8 (by decide) ?_
        refine zn_icmp_ge 76 i_Hosp_tryValues_11 (by decide) (by omega) (by omega) (fun q => absurd q (by omega)) (fun c_11 => ?_)
        refine zr_iload i_Hosp_tryValues_14 rfl ?_
        refine zr_iconst i_Hosp_tryValues_16 (v := (-1)) (by decide) ?_
        refine zr_icmp_eq 76 i_Hosp_tryValues_17 (by decide) (fun q => absurd q hne) (fun c_17 => ?_)
        refine zr_aload_n i_Hosp_tryValues_20 rfl ?_
        refine zr_iload i_Hosp_tryValues_21 rfl ?_
        refine zr_ldc i_Hosp_tryValues_23 rfl ?_
        refine zr_cv2 i_Hosp_tryValues_25 rfl (by decide) (zrcv_of hM2.1) (Nat.le_of_ble_eq_true rfl) (Nat.le_of_ble_eq_true rfl) hsa ?_
        refine zB_if_eq 42 i_Hosp_tryValues_28 (by decide) (fun q => absurd q (by decide)) (fun _ => ?_)
        refine zr_aload_n i_Hosp_tryValues_31 rfl ?_
        refine zr_getf i_Hosp_tryValues_32 ((meS_ne (by decide) (by decide) (by decide)).trans hH) rfl rfl ?_
        refine zr_iload_n i_Hosp_tryValues_35 rfl ?_
        refine zr_cv10 i_Hosp_tryValues_36 rfl (by decide) (zrcv_of meS_o) (Nat.le_of_ble_eq_true rfl) (Nat.le_of_ble_eq_true rfl) (hre) ?_
        refine zr_goto 62 i_Hosp_tryValues_39 (by decide) ?_
        refine zr_aload_n i_Hosp_tryValues_62 rfl ?_
        refine zr_iload i_Hosp_tryValues_63 rfl ?_
        refine zr_cv1 i_Hosp_tryValues_65 rfl (by decide) (zrcv_of (isM_me hM (fun i hi => by omega)).1) (Nat.le_of_ble_eq_true rfl) (Nat.le_of_ble_eq_true rfl) hnx ?_
        refine zr_istore i_Hosp_tryValues_68 rfl ?_
        refine zn_iinc i_Hosp_tryValues_70 rfl rfl ?_
        refine zr_goto 6 i_Hosp_tryValues_73 (by decide) ?_
        exact hn2
      | false =>
        rw [hs] at hsa
        rw [if_neg (by decide)]
        have hse := e_Meas_set X (d + 3) h 107 z.1 z.2.1 z.2.2 hz12 code (vnum (txo f n (some p)) 4)
        cases hr : (setR z code (vnum (txo f n (some p)) 4)).2 with
        | true =>
          rw [show (setR (z.1, z.2.1, z.2.2) code (vnum (txo f n (some p)) 4)).2 = true from hr] at hse
          rw [if_pos rfl]
          have hnx := e_Mess_nextRepetition X (d + 3) (meS h 107 (setR z code (vnum (txo f n (some p)) 4)).1) a f n st cn (isM_me hM (fun i hi => by omega)) hn p hp
          have hn2 := ih (k + 1) (nxL f p (n - p)) (setR z code (vnum (txo f n (some p)) 4)).1 (by omega) hnl (setR_le hz12)
          refine zr_iload i_Hosp_tryValues_6 rfl ?_
          refine zn_sipush 200 i_Hosp_tryValues_8 (by decide) ?_
          refine zn_icmp_ge 76 i_Hosp_tryValues_11 (by decide) (by omega) (by omega) (fun q => absurd q (by omega)) (fun c_11 => ?_)
          refine zr_iload i_Hosp_tryValues_14 rfl ?_
          refine zr_iconst i_Hosp_tryValues_16 (v := (-1)) (by decide) ?_
          refine zr_icmp_eq 76 i_Hosp_tryValues_17 (by decide) (fun q => absurd q hne) (fun c_17 => ?_)
          refine zr_aload_n i_Hosp_tryValues_20 rfl ?_
          refine zr_iload i_Hosp_tryValues_21 rfl ?_
          refine zr_ldc i_Hosp_tryValues_23 rfl ?_
          refine zr_cv2 i_Hosp_tryValues_25 rfl (by decide) (zrcv_of hM2.1) (Nat.le_of_ble_eq_true rfl) (Nat.le_of_ble_eq_true rfl) hsa ?_
          refine zB_if_eq 42 i_Hosp_tryValues_28 (by decide) (fun _ => ?_) (fun q => absurd q (by decide))
          refine zr_aload_n i_Hosp_tryValues_42 rfl ?_
          refine zr_getf i_Hosp_tryValues_43 ((meS_ne (by decide) (by decide) (by decide)).trans hH) rfl rfl ?_
          refine zr_iload_n i_Hosp_tryValues_46 rfl ?_
          refine zr_aload_n i_Hosp_tryValues_47 rfl ?_
          refine zr_iload i_Hosp_tryValues_48 rfl ?_
          refine zn_iconst 4 i_Hosp_tryValues_50 (by decide) ?_
          refine zr_cv2 i_Hosp_tryValues_51 rfl (by decide) (zrcv_of hM2.1) (Nat.le_of_ble_eq_true rfl) (Nat.le_of_ble_eq_true rfl) (hnu) ?_
          refine zr_cv2 i_Hosp_tryValues_54 rfl (by decide) (zrcv_of meS_o) (Nat.le_of_ble_eq_true rfl) (Nat.le_of_ble_eq_true rfl) (hse) ?_
          refine zB_if_ne 62 i_Hosp_tryValues_57 (by decide) (fun _ => ?_) (fun q => absurd q (by decide))
          refine zr_aload_n i_Hosp_tryValues_62 rfl ?_
          refine zr_iload i_Hosp_tryValues_63 rfl ?_
          refine zr_cv1 i_Hosp_tryValues_65 rfl (by decide) (zrcv_of (isM_me hM (fun i hi => by omega)).1) (Nat.le_of_ble_eq_true rfl) (Nat.le_of_ble_eq_true rfl) hnx ?_
          refine zr_istore i_Hosp_tryValues_68 rfl ?_
          refine zn_iinc i_Hosp_tryValues_70 rfl rfl ?_
          refine zr_goto 6 i_Hosp_tryValues_73 (by decide) ?_
          exact hn2
        | false =>
          rw [show (setR (z.1, z.2.1, z.2.2) code (vnum (txo f n (some p)) 4)).2 = false from hr] at hse
          rw [if_neg (by decide)]
          refine zr_iload i_Hosp_tryValues_6 rfl ?_
          refine zn_sipush 200 i_Hosp_tryValues_8 (by decide) ?_
          refine zn_icmp_ge 76 i_Hosp_tryValues_11 (by decide) (by omega) (by omega) (fun q => absurd q (by omega)) (fun c_11 => ?_)
          refine zr_iload i_Hosp_tryValues_14 rfl ?_
          refine zr_iconst i_Hosp_tryValues_16 (v := (-1)) (by decide) ?_
          refine zr_icmp_eq 76 i_Hosp_tryValues_17 (by decide) (fun q => absurd q hne) (fun c_17 => ?_)
          refine zr_aload_n i_Hosp_tryValues_20 rfl ?_
          refine zr_iload i_Hosp_tryValues_21 rfl ?_
          refine zr_ldc i_Hosp_tryValues_23 rfl ?_
          refine zr_cv2 i_Hosp_tryValues_25 rfl (by decide) (zrcv_of hM2.1) (Nat.le_of_ble_eq_true rfl) (Nat.le_of_ble_eq_true rfl) hsa ?_
          refine zB_if_eq 42 i_Hosp_tryValues_28 (by decide) (fun _ => ?_) (fun q => absurd q (by decide))
          refine zr_aload_n i_Hosp_tryValues_42 rfl ?_
          refine zr_getf i_Hosp_tryValues_43 ((meS_ne (by decide) (by decide) (by decide)).trans hH) rfl rfl ?_
          refine zr_iload_n i_Hosp_tryValues_46 rfl ?_
          refine zr_aload_n i_Hosp_tryValues_47 rfl ?_
          refine zr_iload i_Hosp_tryValues_48 rfl ?_
          refine zn_iconst 4 i_Hosp_tryValues_50 (by decide) ?_
          refine zr_cv2 i_Hosp_tryValues_51 rfl (by decide) (zrcv_of hM2.1) (Nat.le_of_ble_eq_true rfl) (Nat.le_of_ble_eq_true rfl) (hnu) ?_
          refine zr_cv2 i_Hosp_tryValues_54 rfl (by decide) (zrcv_of meS_o) (Nat.le_of_ble_eq_true rfl) (Nat.le_of_ble_eq_true rfl) (hse) ?_
          refine zB_if_ne 62 i_Hosp_tryValues_57 (by decide) (fun q => absurd q (by decide)) (fun _ => ?_)
          refine zr_iconst i_Hosp_tryValues_60 (v := 0) (by decide) ?_
          exact zR.retE i_Hosp_tryValues_61 rfl rfl
theorem e_Hosp_tryValues (X : zX) (d : Nat) (hX : X.2.2.category = 1) (h : zH) (hz : zlow h) (a : Nat) (f : Nat → Int32) (n : Nat) (st : Nat → Int32) (cn : Nat) (hM : isM h a f n st cn) (hn : n ≤ 200) (ha : 110 ≤ a) (hH : h.2.2 104 = some (.inr (3, [.ref 105, .ref 106, .ref 107]))) (code : Int32) (o : Option Nat) (ho : ∀ p, o = some p → p ≤ n) (z : zMe) (hz12 : z.1 ≤ 12) : zR X (d + 5) 61 0 (zent 6 [.ref 104, .ref a, .int code, .int (tI o)]) [] (meS h 107 z) (some (.int (zb (tvL f n code 200 o z).2)), (meS h 107 (tvL f n code 200 o z).1)) := by
  have hl := l_Hosp_tryValues X d hX h hz a f n st cn hM hn ha hH code (tI o) 200 0 o z (by omega) ho hz12
  refine zr_iload_n i_Hosp_tryValues_0 rfl ?_
  refine zr_istore i_Hosp_tryValues_1 rfl ?_
  refine zn_iconst 0 i_Hosp_tryValues_3 (by decide) ?_
  refine zr_istore i_Hosp_tryValues_4 rfl ?_
  exact hl
