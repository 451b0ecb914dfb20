/-! THE CLASS: what it makes -/
/-- further cells -/
def alloc (H : zH) (l : List zC) (s : Nat) : zH := (H.1 + l.length, H.2.1 + s, fun a => if 100 + H.1 ≤ a ∧ a < 100 + H.1 + l.length then l[a - (100 + H.1)]? else H.2.2 a)
theorem alloc_in {H : zH} {l : List zC} {s i : Nat} (hi : i < l.length) : (alloc H l s).2.2 (100 + H.1 + i) = l[i]? := by
  show (if 100 + H.1 ≤ 100 + H.1 + i ∧ 100 + H.1 + i < 100 + H.1 + l.length then l[100 + H.1 + i - (100 + H.1)]? else _) = _
  rw [if_pos (by omega), Nat.add_sub_cancel_left]
theorem alloc_ne {H : zH} {l : List zC} {s a : Nat} (ha : a < 100 + H.1) : (alloc H l s).2.2 a = H.2.2 a := by
  show (if 100 + H.1 ≤ a ∧ a < 100 + H.1 + l.length then l[a - (100 + H.1)]? else _) = _
  rw [if_neg (by omega)]
theorem cell_or (b a k : Nat) : (∃ i, i < k ∧ a = b + i) ∨ (a < b ∨ b + k ≤ a) := by
  rcases Nat.lt_or_ge a b with q | q
  · exact Or.inr (Or.inl q)
  · rcases Nat.lt_or_ge a (b + k) with w | w
    · exact Or.inl ⟨a - b, by omega, by omega⟩
    · exact Or.inr (Or.inr w)
def z0 : Nat → Int32 := fun _ => 0
theorem i_Chars_init_0 : zins 31 0 = some (.aload_n 0) := by decide +kernel
theorem i_Chars_init_1 : zins 31 1 = some (.invokespecial 3) := by decide +kernel
theorem i_Chars_init_4 : zins 31 4 = some (.aload_n 0) := by decide +kernel
theorem i_Chars_init_5 : zins 31 5 = some (.iconst 0) := by decide +kernel
theorem i_Chars_init_6 : zins 31 6 = some (.putfield 9) := by decide +kernel
theorem i_Chars_init_9 : zins 31 9 = some (.aload_n 0) := by decide +kernel
theorem i_Chars_init_10 : zins 31 10 = some (.iload_n 1) := by decide +kernel
theorem i_Chars_init_11 : zins 31 11 = some (.newarray .char) := by decide +kernel
theorem i_Chars_init_13 : zins 31 13 = some (.putfield 15) := by decide +kernel
theorem i_Chars_init_16 : zins 31 16 = some (.return_) := by decide +kernel
theorem e_Chars_init (X : zX) (d : Nat) (H : zH) (N : Nat) (hN : N ≤ 700) : zR X (d + 1) 31 0 (zent 2 [.ref (100 + H.1), .int (nI N)]) [] (znew H 2 (.inr (1, [.null, .int 0]))) (none, alloc H [chO (100 + H.1) 0, chR N z0] (2 + N)) := by
  have hr : alloc H [chO (100 + H.1) 0, chR N z0] (2 + N) = zwr (znew (zwr (znew H 2 (.inr (1, [.null, .int 0]))) (100 + H.1) (.inr (1, [.null, .int 0]))) N (.inl (1, (N, .inl (fun _ => 0))))) (100 + H.1) (.inr (1, [.ref ((100 + H.1) + 1), .int 0])) := by
    refine zH_ext rfl ?_ (fun a => ?_)
    · show H.2.1 + (2 + N) = H.2.1 + 2 + N; omega
    · rcases cell_or (100 + H.1) a 2 with ⟨i, hi, rfl⟩ | q
      · rcases (show i = 0 ∨ i = 1 by omega) with rfl | rfl
        · rw [alloc_in (Nat.le_of_ble_eq_true rfl)]
          exact (zwr_at _ _ _).symm
        · rw [alloc_in (Nat.le_of_ble_eq_true rfl), zwr_ne (by omega)]
          exact (up_at (i := (100 + H.1) + 1)).symm
      · rw [zwr_ne (by omega)]
        show (if _ then _ else _) = va_up _ (100 + (H.1 + 1)) _ a
        rw [if_neg (by show ¬ ((100 + H.1) ≤ a ∧ a < (100 + H.1) + 2); omega), va_up_ne _ _ (by omega), zwr_ne (by omega)]
        show _ = va_up _ (100 + H.1) _ a
        rw [va_up_ne _ _ (by omega)]
  rw [hr]
  have a0 : (znew H 2 (.inr (1, [.null, .int 0]))).2.2 (100 + H.1) = some (.inr (1, [.null, .int 0])) := up_at (f := H.2.2)
  refine zr_aload_n i_Chars_init_0 rfl ?_
  refine zr_obj i_Chars_init_1 rfl (Nat.le_of_ble_eq_true rfl) ?_
  refine zr_aload_n i_Chars_init_4 rfl ?_
  refine zr_iconst i_Chars_init_5 (v := 0) (by decide) ?_
  refine zr_putf i_Chars_init_6 a0 rfl (Nat.le_of_ble_eq_true rfl) rfl (Or.inl rfl) ?_
  refine zr_aload_n i_Chars_init_9 rfl ?_
  refine zr_iload_n i_Chars_init_10 rfl ?_
  refine zr_newa_char (N := N) i_Chars_init_11 (nI_clamp (by omega)) (by rw [nI_toInt (by omega)]; omega) ?_
  refine zr_putf i_Chars_init_13 (fs := [.null, .int 0]) ((va_up_ne _ _ (show (100 + H.1) ≠ 100 + (H.1 + 1) by omega)).trans (zwr_at _ _ _)) rfl (Nat.le_of_ble_eq_true rfl) rfl (by decide) ?_
  exact zR.retE i_Chars_init_16 rfl rfl
theorem i_Meas_init_0 : zins 89 0 = some (.aload_n 0) := by decide +kernel
theorem i_Meas_init_1 : zins 89 1 = some (.invokespecial 3) := by decide +kernel
theorem i_Meas_init_4 : zins 89 4 = some (.aload_n 0) := by decide +kernel
theorem i_Meas_init_5 : zins 89 5 = some (.bipush 12) := by decide +kernel
theorem i_Meas_init_7 : zins 89 7 = some (.newarray .int) := by decide +kernel
theorem i_Meas_init_9 : zins 89 9 = some (.putfield 9) := by decide +kernel
theorem i_Meas_init_12 : zins 89 12 = some (.aload_n 0) := by decide +kernel
theorem i_Meas_init_13 : zins 89 13 = some (.bipush 12) := by decide +kernel
theorem i_Meas_init_15 : zins 89 15 = some (.newarray .int) := by decide +kernel
theorem i_Meas_init_17 : zins 89 17 = some (.putfield 15) := by decide +kernel
theorem i_Meas_init_20 : zins 89 20 = some (.aload_n 0) := by decide +kernel
theorem i_Meas_init_21 : zins 89 21 = some (.iconst 0) := by decide +kernel
theorem i_Meas_init_22 : zins 89 22 = some (.putfield 18) := by decide +kernel
theorem i_Meas_init_25 : zins 89 25 = some (.return_) := by decide +kernel
theorem e_Meas_init (X : zX) (d : Nat) (H : zH) : zR X (d + 1) 89 0 (zent 1 [.ref (100 + H.1)]) [] (znew H 3 (.inr (7, [.null, .null, .int 0]))) (none, alloc H [meO (100 + H.1) 0, meR z0, meR z0] 27) := by
  have hr : alloc H [meO (100 + H.1) 0, meR z0, meR z0] 27 = zwr (zwr (znew (zwr (znew (znew H 3 (.inr (7, [.null, .null, .int 0]))) 12 (.inl (0, (12, .inl (fun _ => 0))))) (100 + H.1) (.inr (7, [.ref ((100 + H.1) + 1), .null, .int 0]))) 12 (.inl (0, (12, .inl (fun _ => 0))))) (100 + H.1) (.inr (7, [.ref ((100 + H.1) + 1), .ref ((100 + H.1) + 2), .int 0]))) (100 + H.1) (.inr (7, [.ref ((100 + H.1) + 1), .ref ((100 + H.1) + 2), .int 0])) := by
    refine zH_ext rfl ?_ (fun a => ?_)
    · show H.2.1 + 27 = H.2.1 + 3 + 12 + 12; omega
    · rcases cell_or (100 + H.1) a 3 with ⟨i, hi, rfl⟩ | q
      · rcases (show i = 0 ∨ i = 1 ∨ i = 2 by omega) with rfl | rfl | rfl
        · rw [alloc_in (Nat.le_of_ble_eq_true rfl)]
          exact (zwr_at _ _ _).symm
        · rw [alloc_in (Nat.le_of_ble_eq_true rfl), zwr_ne (by omega), zwr_ne (by omega)]
          show _ = va_up _ (100 + (H.1 + 1 + 1)) _ _
          rw [va_up_ne _ _ (by omega), zwr_ne (by omega)]
          exact (up_at (i := (100 + H.1) + 1)).symm
        · rw [alloc_in (Nat.le_of_ble_eq_true rfl), zwr_ne (by omega), zwr_ne (by omega)]
          exact (up_at (i := (100 + H.1) + 2)).symm
      · rw [zwr_ne (by omega), zwr_ne (by omega)]
        show (if _ then _ else _) = va_up _ (100 + (H.1 + 1 + 1)) _ a
        rw [if_neg (by show ¬ ((100 + H.1) ≤ a ∧ a < (100 + H.1) + 3); omega), va_up_ne _ _ (by omega), zwr_ne (by omega)]
        show _ = va_up _ (100 + (H.1 + 1)) _ a
        rw [va_up_ne _ _ (by omega)]
        show _ = va_up _ (100 + H.1) _ a
        rw [va_up_ne _ _ (by omega)]
  rw [hr]
  have a0 : (znew H 3 (.inr (7, [.null, .null, .int 0]))).2.2 (100 + H.1) = some (.inr (7, [.null, .null, .int 0])) := up_at (f := H.2.2)
  refine zr_aload_n i_Meas_init_0 rfl ?_
  refine zr_obj i_Meas_init_1 rfl (Nat.le_of_ble_eq_true rfl) ?_
  refine zr_aload_n i_Meas_init_4 rfl ?_
  refine zr_bipush i_Meas_init_5 (v := 12) (by decide) ?_
  refine zr_newa_int (N := 12) i_Meas_init_7 (by decide) (by decide) ?_
  refine zr_putf i_Meas_init_9 (fs := [.null, .null, .int 0]) ((va_up_ne _ _ (show (100 + H.1) ≠ 100 + (H.1 + 1) by omega)).trans a0) rfl (Nat.le_of_ble_eq_true rfl) rfl (by decide) ?_
  refine zr_aload_n i_Meas_init_12 rfl ?_
  refine zr_bipush i_Meas_init_13 (v := 12) (by decide) ?_
  refine zr_newa_int (N := 12) i_Meas_init_15 (by decide) (by decide) ?_
  refine zr_putf i_Meas_init_17 (fs := [.ref ((100 + H.1) + 1), .null, .int 0]) ((va_up_ne _ _ (show (100 + H.1) ≠ 100 + (H.1 + 1 + 1) by omega)).trans (zwr_at _ _ _)) rfl (Nat.le_of_ble_eq_true rfl) rfl (by decide) ?_
  refine zr_aload_n i_Meas_init_20 rfl ?_
  refine zr_iconst i_Meas_init_21 (v := 0) (by decide) ?_
  refine zr_putf i_Meas_init_22 (fs := [.ref ((100 + H.1) + 1), .ref ((100 + H.1) + 2), .int 0]) (zwr_at _ _ _) rfl (Nat.le_of_ble_eq_true rfl) rfl (by decide) ?_
  exact zR.retE i_Meas_init_25 rfl rfl
theorem i_Pat_init_0 : zins 95 0 = some (.aload_n 0) := by decide +kernel
theorem i_Pat_init_1 : zins 95 1 = some (.invokespecial 3) := by decide +kernel
theorem i_Pat_init_4 : zins 95 4 = some (.aload_n 0) := by decide +kernel
theorem i_Pat_init_5 : zins 95 5 = some (.new 9) := by decide +kernel
theorem i_Pat_init_8 : zins 95 8 = some (.dup) := by decide +kernel
theorem i_Pat_init_9 : zins 95 9 = some (.bipush 12) := by decide +kernel
theorem i_Pat_init_11 : zins 95 11 = some (.invokespecial 11) := by decide +kernel
theorem i_Pat_init_14 : zins 95 14 = some (.putfield 14) := by decide +kernel
theorem i_Pat_init_17 : zins 95 17 = some (.aload_n 0) := by decide +kernel
theorem i_Pat_init_18 : zins 95 18 = some (.new 9) := by decide +kernel
theorem i_Pat_init_21 : zins 95 21 = some (.dup) := by decide +kernel
theorem i_Pat_init_22 : zins 95 22 = some (.bipush 12) := by decide +kernel
theorem i_Pat_init_24 : zins 95 24 = some (.invokespecial 11) := by decide +kernel
theorem i_Pat_init_27 : zins 95 27 = some (.putfield 20) := by decide +kernel
theorem i_Pat_init_30 : zins 95 30 = some (.aload_n 0) := by decide +kernel
theorem i_Pat_init_31 : zins 95 31 = some (.new 23) := by decide +kernel
theorem i_Pat_init_34 : zins 95 34 = some (.dup) := by decide +kernel
theorem i_Pat_init_35 : zins 95 35 = some (.invokespecial 25) := by decide +kernel
theorem i_Pat_init_38 : zins 95 38 = some (.putfield 26) := by decide +kernel
theorem i_Pat_init_41 : zins 95 41 = some (.aload_n 0) := by decide +kernel
theorem i_Pat_init_42 : zins 95 42 = some (.iconst (-1)) := by decide +kernel
theorem i_Pat_init_43 : zins 95 43 = some (.putfield 30) := by decide +kernel
theorem i_Pat_init_46 : zins 95 46 = some (.return_) := by decide +kernel
theorem pat_heap (H : zH) : alloc H [paO (100 + H.1) (-1), chO ((100 + H.1) + 1) 0, chR 12 z0, chO ((100 + H.1) + 3) 0, chR 12 z0, meO ((100 + H.1) + 5) 0, meR z0, meR z0] 59 = (zwr (zwr (alloc (zwr (alloc (zwr (alloc (znew H 4 (.inr (8, [.null, .null, .null, .int 0]))) [chO ((100 + H.1) + 1) 0, chR 12 z0] 14) (100 + H.1) (.inr (8, [.ref ((100 + H.1) + 1), .null, .null, .int 0]))) [chO ((100 + H.1) + 3) 0, chR 12 z0] 14) (100 + H.1) (.inr (8, [.ref ((100 + H.1) + 1), .ref ((100 + H.1) + 3), .null, .int 0]))) [meO ((100 + H.1) + 5) 0, meR z0, meR z0] 27) (100 + H.1) (.inr (8, [.ref ((100 + H.1) + 1), .ref ((100 + H.1) + 3), .ref ((100 + H.1) + 5), .int 0]))) (100 + H.1) (paO (100 + H.1) (-1))) := by
  have n1 : ∀ a, ¬ ((100 + H.1) + 1 ≤ a ∧ a < (100 + H.1) + 3) → (alloc (znew H 4 (.inr (8, [.null, .null, .null, .int 0]))) [chO ((100 + H.1) + 1) 0, chR 12 z0] 14).2.2 a = (znew H 4 (.inr (8, [.null, .null, .null, .int 0]))).2.2 a := fun a ha => by
    show (if 100 + (H.1 + 1) ≤ a ∧ a < 100 + (H.1 + 1) + 2 then _ else _) = _
    rw [if_neg (by omega)]
  have n2 : ∀ a, ¬ ((100 + H.1) + 3 ≤ a ∧ a < (100 + H.1) + 5) → (alloc (zwr (alloc (znew H 4 (.inr (8, [.null, .null, .null, .int 0]))) [chO ((100 + H.1) + 1) 0, chR 12 z0] 14) (100 + H.1) (.inr (8, [.ref ((100 + H.1) + 1), .null, .null, .int 0]))) [chO ((100 + H.1) + 3) 0, chR 12 z0] 14).2.2 a = (zwr (alloc (znew H 4 (.inr (8, [.null, .null, .null, .int 0]))) [chO ((100 + H.1) + 1) 0, chR 12 z0] 14) (100 + H.1) (.inr (8, [.ref ((100 + H.1) + 1), .null, .null, .int 0]))).2.2 a := fun a ha => by
    show (if 100 + (H.1 + 1 + 2) ≤ a ∧ a < 100 + (H.1 + 1 + 2) + 2 then _ else _) = _
    rw [if_neg (by omega)]
  have n3 : ∀ a, ¬ ((100 + H.1) + 5 ≤ a ∧ a < (100 + H.1) + 8) → (alloc (zwr (alloc (zwr (alloc (znew H 4 (.inr (8, [.null, .null, .null, .int 0]))) [chO ((100 + H.1) + 1) 0, chR 12 z0] 14) (100 + H.1) (.inr (8, [.ref ((100 + H.1) + 1), .null, .null, .int 0]))) [chO ((100 + H.1) + 3) 0, chR 12 z0] 14) (100 + H.1) (.inr (8, [.ref ((100 + H.1) + 1), .ref ((100 + H.1) + 3), .null, .int 0]))) [meO ((100 + H.1) + 5) 0, meR z0, meR z0] 27).2.2 a = (zwr (alloc (zwr (alloc (znew H 4 (.inr (8, [.null, .null, .null, .int 0]))) [chO ((100 + H.1) + 1) 0, chR 12 z0] 14) (100 + H.1) (.inr (8, [.ref ((100 + H.1) + 1), .null, .null, .int 0]))) [chO ((100 + H.1) + 3) 0, chR 12 z0] 14) (100 + H.1) (.inr (8, [.ref ((100 + H.1) + 1), .ref ((100 + H.1) + 3), .null, .int 0]))).2.2 a := fun a ha => by
    show (if 100 + (H.1 + 1 + 2 + 2) ≤ a ∧ a < 100 + (H.1 + 1 + 2 + 2) + 3 then _ else _) = _
    rw [if_neg (by omega)]
  have i1 : ∀ i, i < 2 → (alloc (znew H 4 (.inr (8, [.null, .null, .null, .int 0]))) [chO ((100 + H.1) + 1) 0, chR 12 z0] 14).2.2 ((100 + H.1) + 1 + i) = ([chO ((100 + H.1) + 1) 0, chR 12 z0] : List zC)[i]? := fun i hi => alloc_in (H := (znew H 4 (.inr (8, [.null, .null, .null, .int 0])))) (i := i) hi
  have i2 : ∀ i, i < 2 → (alloc (zwr (alloc (znew H 4 (.inr (8, [.null, .null, .null, .int 0]))) [chO ((100 + H.1) + 1) 0, chR 12 z0] 14) (100 + H.1) (.inr (8, [.ref ((100 + H.1) + 1), .null, .null, .int 0]))) [chO ((100 + H.1) + 3) 0, chR 12 z0] 14).2.2 ((100 + H.1) + 3 + i) = ([chO ((100 + H.1) + 3) 0, chR 12 z0] : List zC)[i]? := fun i hi => alloc_in (H := (zwr (alloc (znew H 4 (.inr (8, [.null, .null, .null, .int 0]))) [chO ((100 + H.1) + 1) 0, chR 12 z0] 14) (100 + H.1) (.inr (8, [.ref ((100 + H.1) + 1), .null, .null, .int 0])))) (i := i) hi
  have i3 : ∀ i, i < 3 → (alloc (zwr (alloc (zwr (alloc (znew H 4 (.inr (8, [.null, .null, .null, .int 0]))) [chO ((100 + H.1) + 1) 0, chR 12 z0] 14) (100 + H.1) (.inr (8, [.ref ((100 + H.1) + 1), .null, .null, .int 0]))) [chO ((100 + H.1) + 3) 0, chR 12 z0] 14) (100 + H.1) (.inr (8, [.ref ((100 + H.1) + 1), .ref ((100 + H.1) + 3), .null, .int 0]))) [meO ((100 + H.1) + 5) 0, meR z0, meR z0] 27).2.2 ((100 + H.1) + 5 + i) = ([meO ((100 + H.1) + 5) 0, meR z0, meR z0] : List zC)[i]? := fun i hi => alloc_in (H := (zwr (alloc (zwr (alloc (znew H 4 (.inr (8, [.null, .null, .null, .int 0]))) [chO ((100 + H.1) + 1) 0, chR 12 z0] 14) (100 + H.1) (.inr (8, [.ref ((100 + H.1) + 1), .null, .null, .int 0]))) [chO ((100 + H.1) + 3) 0, chR 12 z0] 14) (100 + H.1) (.inr (8, [.ref ((100 + H.1) + 1), .ref ((100 + H.1) + 3), .null, .int 0])))) (i := i) hi
  refine zH_ext rfl ?_ (fun a => ?_)
  · show H.2.1 + 59 = H.2.1 + 4 + 14 + 14 + 27; omega
  · rcases cell_or (100 + H.1) a 8 with ⟨i, hi, rfl⟩ | q
    · rw [alloc_in (by show i < 8; exact hi)]
      rcases (show i = 0 ∨ (1 ≤ i ∧ i < 3) ∨ (3 ≤ i ∧ i < 5) ∨ (5 ≤ i ∧ i < 8) by omega) with rfl | w | w | w
      · exact (zwr_at _ _ _).symm
      · rw [zwr_ne (by omega), zwr_ne (by omega), n3 _ (by omega), zwr_ne (by omega), n2 _ (by omega), zwr_ne (by omega)]
        have := i1 (i - 1) (by omega)
        rw [show (100 + H.1) + 1 + (i - 1) = (100 + H.1) + i by omega] at this
        rw [this]
        rcases (show i = 1 ∨ i = 2 by omega) with rfl | rfl <;> rfl
      · rw [zwr_ne (by omega), zwr_ne (by omega), n3 _ (by omega), zwr_ne (by omega)]
        have := i2 (i - 3) (by omega)
        rw [show (100 + H.1) + 3 + (i - 3) = (100 + H.1) + i by omega] at this
        rw [this]
        rcases (show i = 3 ∨ i = 4 by omega) with rfl | rfl <;> rfl
      · rw [zwr_ne (by omega), zwr_ne (by omega)]
        have := i3 (i - 5) (by omega)
        rw [show (100 + H.1) + 5 + (i - 5) = (100 + H.1) + i by omega] at this
        rw [this]
        rcases (show i = 5 ∨ i = 6 ∨ i = 7 by omega) with rfl | rfl | rfl <;> rfl
    · rw [zwr_ne (by omega), zwr_ne (by omega), n3 _ (by omega), zwr_ne (by omega), n2 _ (by omega), zwr_ne (by omega), n1 _ (by omega)]
      show (if _ then _ else _) = va_up _ (100 + H.1) _ a
      rw [if_neg (by show ¬ ((100 + H.1) ≤ a ∧ a < (100 + H.1) + 8); omega), va_up_ne _ _ (by omega)]
theorem e_Pat_init (X : zX) (d : Nat) (H : zH) : zR X (d + 2) 95 0 (zent 1 [.ref (100 + H.1)]) [] (znew H 4 (.inr (8, [.null, .null, .null, .int 0]))) (none, alloc H [paO (100 + H.1) (-1), chO ((100 + H.1) + 1) 0, chR 12 z0, chO ((100 + H.1) + 3) 0, chR 12 z0, meO ((100 + H.1) + 5) 0, meR z0, meR z0] 59) := by
  rw [pat_heap]
  have a0 : (znew H 4 (.inr (8, [.null, .null, .null, .int 0]))).2.2 (100 + H.1) = some (.inr (8, [.null, .null, .null, .int 0])) := up_at (f := H.2.2)
  have a1 : (alloc (znew H 4 (.inr (8, [.null, .null, .null, .int 0]))) [chO ((100 + H.1) + 1) 0, chR 12 z0] 14).2.2 (100 + H.1) = some (.inr (8, [.null, .null, .null, .int 0])) := (alloc_ne (by show (100 + H.1) < 100 + (H.1 + 1); omega)).trans a0
  have a2 : (alloc (zwr (alloc (znew H 4 (.inr (8, [.null, .null, .null, .int 0]))) [chO ((100 + H.1) + 1) 0, chR 12 z0] 14) (100 + H.1) (.inr (8, [.ref ((100 + H.1) + 1), .null, .null, .int 0]))) [chO ((100 + H.1) + 3) 0, chR 12 z0] 14).2.2 (100 + H.1) = some (.inr (8, [.ref ((100 + H.1) + 1), .null, .null, .int 0])) := (alloc_ne (by show (100 + H.1) < 100 + (H.1 + 1 + 2); omega)).trans (zwr_at _ _ _)
  have a3 : (alloc (zwr (alloc (zwr (alloc (znew H 4 (.inr (8, [.null, .null, .null, .int 0]))) [chO ((100 + H.1) + 1) 0, chR 12 z0] 14) (100 + H.1) (.inr (8, [.ref ((100 + H.1) + 1), .null, .null, .int 0]))) [chO ((100 + H.1) + 3) 0, chR 12 z0] 14) (100 + H.1) (.inr (8, [.ref ((100 + H.1) + 1), .ref ((100 + H.1) + 3), .null, .int 0]))) [meO ((100 + H.1) + 5) 0, meR z0, meR z0] 27).2.2 (100 + H.1) = some (.inr (8, [.ref ((100 + H.1) + 1), .ref ((100 + H.1) + 3), .null, .int 0])) := (alloc_ne (by show (100 + H.1) < 100 + (H.1 + 1 + 2 + 2); omega)).trans (zwr_at _ _ _)
  refine zr_aload_n i_Pat_init_0 rfl ?_
  refine zr_obj i_Pat_init_1 rfl (Nat.le_of_ble_eq_true rfl) ?_
  refine zr_aload_n i_Pat_init_4 rfl ?_
  refine zr_new i_Pat_init_5 rfl rfl rfl ?_
  refine zr_dup i_Pat_init_8 rfl ?_
  refine zn_bipush 12 i_Pat_init_9 (by decide) ?_
  refine zr_ci10 i_Pat_init_11 rfl (by decide) (Nat.le_of_ble_eq_true rfl) (Nat.le_of_ble_eq_true rfl) (e_Chars_init X _ (znew H 4 (.inr (8, [.null, .null, .null, .int 0]))) 12 (by decide)) ?_
  refine zr_putf i_Pat_init_14 a1 rfl (Nat.le_of_ble_eq_true rfl) rfl (by decide) ?_
  refine zr_aload_n i_Pat_init_17 rfl ?_
  refine zr_new i_Pat_init_18 rfl rfl rfl ?_
  refine zr_dup i_Pat_init_21 rfl ?_
  refine zn_bipush 12 i_Pat_init_22 (by decide) ?_
  refine zr_ci10 i_Pat_init_24 rfl (by decide) (Nat.le_of_ble_eq_true rfl) (Nat.le_of_ble_eq_true rfl) (e_Chars_init X _ (zwr (alloc (znew H 4 (.inr (8, [.null, .null, .null, .int 0]))) [chO ((100 + H.1) + 1) 0, chR 12 z0] 14) (100 + H.1) (.inr (8, [.ref ((100 + H.1) + 1), .null, .null, .int 0]))) 12 (by decide)) ?_
  refine zr_putf i_Pat_init_27 a2 rfl (Nat.le_of_ble_eq_true rfl) rfl (by decide) ?_
  refine zr_aload_n i_Pat_init_30 rfl ?_
  refine zr_new i_Pat_init_31 rfl rfl rfl ?_
  refine zr_dup i_Pat_init_34 rfl ?_
  refine zr_ci00 i_Pat_init_35 rfl (by decide) (Nat.le_of_ble_eq_true rfl) (Nat.le_of_ble_eq_true rfl) (e_Meas_init X _ (zwr (alloc (zwr (alloc (znew H 4 (.inr (8, [.null, .null, .null, .int 0]))) [chO ((100 + H.1) + 1) 0, chR 12 z0] 14) (100 + H.1) (.inr (8, [.ref ((100 + H.1) + 1), .null, .null, .int 0]))) [chO ((100 + H.1) + 3) 0, chR 12 z0] 14) (100 + H.1) (.inr (8, [.ref ((100 + H.1) + 1), .ref ((100 + H.1) + 3), .null, .int 0])))) ?_
  refine zr_putf i_Pat_init_38 a3 rfl (Nat.le_of_ble_eq_true rfl) rfl (by decide) ?_
  refine zr_aload_n i_Pat_init_41 rfl ?_
  refine zr_iconst i_Pat_init_42 (v := (-1)) (by decide) ?_
  refine zr_putf i_Pat_init_43 (fs := [.ref ((100 + H.1) + 1), .ref ((100 + H.1) + 3), .ref ((100 + H.1) + 5), .int 0]) (zwr_at _ _ _) rfl (Nat.le_of_ble_eq_true rfl) rfl (by decide) ?_
  exact zR.retE i_Pat_init_46 rfl rfl
