/-! THE CLASS: separators -/
def spO (b : Nat) : zC := .inr (5, [.ref (b + 1)])
def spR (S : Nat → Int32) : zC := .inl (0, 5, .inl S)
def isSp (h : zH) (b : Nat) (S : Nat → Int32) : Prop := h.2.2 b = some (spO b) ∧ h.2.2 (b + 1) = some (spR S)
/-- the place of a separator -/
def plF (S : Nat → Int32) (c : Int32) : Option Nat := zfst (fun k => decide (S k = c)) 0 5
theorem plF_lt {S : Nat → Int32} {c : Int32} {k : Nat} (h : plF S c = some k) : k < 5 ∧ S k = c := by
  obtain ⟨-, h2, h3⟩ := zfst_some h
  exact ⟨by omega, of_decide_eq_true h3⟩
def prop2 (c : Int32) : Bool := zbtw c 33 126 && (!vlod c && !decide (c = 34))
def propL (S : Nat → Int32) (k m : Nat) : Bool := match m with
  | 0 => true
  | m + 1 => if plF S (S k) = some k ∧ prop2 (S k) = true then propL S (k + 1) m else false
theorem prop2_eq (c : Int32) : prop2 c = prop1 c := by
  unfold prop2 prop1 zbtw vlod
  cases decide (c < 33) <;> cases decide (126 < c) <;> cases zcap c <;> cases zsml c <;> cases zdig c <;> cases decide (c = 34) <;> rfl
theorem okL_of {f : Nat → Int32} {k : Nat} : ∀ (m i : Nat) (ok : Bool), ok = true → (∀ j, i ≤ j → j < i + m → ¬ f j = f k) → okL f k i m ok = true := by
  intro m
  induction m with
  | zero => intro i ok h _; exact h
  | succ m ih =>
    intro i ok h hd
    rw [okL]
    refine ih _ _ ?_ (fun j h1 h2 => hd j (by omega) (by omega))
    have := hd i (by omega) (by omega)
    simp [h, this]
theorem fitL_of {f : Nat → Int32} : ∀ (m k : Nat) (ok : Bool), ok = true → (∀ j, k ≤ j → j < k + m → prop1 (f j) = true ∧ ∀ i, i < j → ¬ f i = f j) → fitL f k m ok = true := by
  intro m
  induction m with
  | zero => intro k ok h _; exact h
  | succ m ih =>
    intro k ok h hd
    rw [fitL]
    refine ih _ _ ?_ (fun j h1 h2 => hd j (by omega) (by omega))
    obtain ⟨h1, h2⟩ := hd k (by omega) (by omega)
    exact okL_of _ _ _ (by simp [h, h1]) (fun j _ hj => h2 j (by omega))
theorem zfst_first {P : Nat → Bool} : ∀ {k i t : Nat}, zfst P i k = some t → ∀ j, i ≤ j → j < t → P j = false := by
  intro k
  induction k with
  | zero => intro i t h; cases h
  | succ k ih =>
    intro i t h j h1 h2
    rw [zfst] at h
    split at h
    · cases h; omega
    · rename_i hp
      by_cases hj : j = i
      · rw [hj]; simpa using hp
      · exact ih h j (by omega) h2
theorem zfst_is {P : Nat → Bool} : ∀ {k i t : Nat}, i ≤ t → t < i + k → P t = true → (∀ j, i ≤ j → j < t → P j = false) → zfst P i k = some t := by
  intro k
  induction k with
  | zero => intro i t h1 h2; omega
  | succ k ih =>
    intro i t h1 h2 hp hf
    rw [zfst]
    by_cases hit : i = t
    · subst hit; rw [if_pos hp]
    · rw [if_neg (by rw [hf i (Nat.le_refl _) (by omega)]; decide)]
      exact ih (by omega) (by omega) hp (fun j h3 h4 => hf j (by omega) h4)
theorem propL_true {S : Nat → Int32} : ∀ (m k : Nat), propL S k m = true ↔ ∀ j, k ≤ j → j < k + m → plF S (S j) = some j ∧ prop2 (S j) = true := by
  intro m
  induction m with
  | zero => intro k; exact ⟨fun _ j h1 h2 => by omega, fun _ => rfl⟩
  | succ m ih =>
    intro k
    rw [propL]
    constructor
    · intro h j h1 h2
      split at h
      · rename_i hk
        by_cases hj : j = k
        · rw [hj]; exact hk
        · exact (ih (k + 1)).mp h j (by omega) (by omega)
      · cases h
    · intro h
      rw [if_pos (h k (by omega) (by omega))]
      exact (ih (k + 1)).mpr (fun j h1 h2 => h j (by omega) (by omega))
/-- five separators are proper, told either way -/
theorem propL_fit (S : Nat → Int32) : propL S 0 5 = fitF S := by
  have iff : propL S 0 5 = true ↔ fitF S = true := by
    rw [propL_true]
    constructor
    · intro h
      refine fitL_of 5 0 true rfl (fun j _ hj => ?_)
      obtain ⟨h1, h2⟩ := h j (by omega) (by omega)
      refine ⟨by rw [← prop2_eq]; exact h2, fun i hi => ?_⟩
      have := zfst_first h1 i (by omega) hi
      exact of_decide_eq_false this
    · intro h j _ hj
      obtain ⟨h1, h2⟩ := fitF_true h j (by omega)
      refine ⟨zfst_is (by omega) (by omega) (decide_eq_true rfl) (fun i _ hi => decide_eq_false (h2 i hi)), by rw [prop2_eq]; exact h1⟩
  cases h1 : propL S 0 5 <;> cases h2 : fitF S
  · rfl
  · exact absurd (iff.mpr h2) (by rw [h1]; decide)
  · exact absurd (iff.mp h1) (by rw [h2]; decide)
  · rfl
def spS (h : zH) (b : Nat) (S : Nat → Int32) : zH := zwr h (b + 1) (spR S)
theorem spS_r {h : zH} {b : Nat} {S : Nat → Int32} : (spS h b S).2.2 (b + 1) = some (.inl (0, 5, .inl S)) := zwr_at _ _ _
theorem spS_ne {h : zH} {b c : Nat} {S : Nat → Int32} (hn : c ≠ b + 1) : (spS h b S).2.2 c = h.2.2 c := zwr_ne hn
theorem i_Seps_at_0 : zins 70 0 = some (.iload_n 1) := by decide +kernel
theorem i_Seps_at_1 : zins 70 1 = some (.ifCond .lt 8) := by decide +kernel
theorem i_Seps_at_4 : zins 70 4 = some (.iload_n 1) := by decide +kernel
theorem i_Seps_at_5 : zins 70 5 = some (.iconst 5) := by decide +kernel
theorem i_Seps_at_6 : zins 70 6 = some (.if_icmp .lt 7) := by decide +kernel
theorem i_Seps_at_9 : zins 70 9 = some (.iconst (-1)) := by decide +kernel
theorem i_Seps_at_10 : zins 70 10 = some (.goto 9) := by decide +kernel
theorem i_Seps_at_13 : zins 70 13 = some (.aload_n 0) := by decide +kernel
theorem i_Seps_at_14 : zins 70 14 = some (.getfield 9) := by decide +kernel
theorem i_Seps_at_17 : zins 70 17 = some (.iload_n 1) := by decide +kernel
theorem i_Seps_at_18 : zins 70 18 = some (.iaload) := by decide +kernel
theorem i_Seps_at_19 : zins 70 19 = some (.ireturn) := by decide +kernel
theorem e_Seps_at (X : zX) (d : Nat) (h : zH) (b : Nat) (S : Nat → Int32) (hS : isSp h b S) (i : Int32) : zR X d 70 0 (zent 2 [.ref b, .int i]) [] h (some (.int (getF S 5 i)), h) := by
  rcases pk_ix i (n := 5) (by omega) with q | q | ⟨j, hj, q⟩
  · rw [getF_neg q]
    refine zr_iload_n i_Seps_at_0 rfl ?_
    refine zr_if_lt 9 i_Seps_at_1 (by decide) (fun _ => ?_) (fun z => absurd q z)
    refine zr_iconst i_Seps_at_9 (v := (-1)) (by decide) ?_
    refine zr_goto 19 i_Seps_at_10 (by decide) ?_
    exact zR.retE i_Seps_at_19 rfl rfl
  · rw [getF_ge q]
    have h0 : ¬ i < 0 := fun z => absurd (Int32.lt_of_le_of_lt q z) (nI_pos (by omega))
    refine zr_iload_n i_Seps_at_0 rfl ?_
    refine zr_if_lt 9 i_Seps_at_1 (by decide) (fun q => absurd q h0) (fun _ => ?_)
    refine zr_iload_n i_Seps_at_4 rfl ?_
    refine zr_iconst i_Seps_at_5 (v := 5) (by decide) ?_
    refine zr_icmp_lt 13 i_Seps_at_6 (by decide) (fun z => absurd z (Int32.not_lt.mpr q)) (fun c_6 => ?_)
    refine zr_iconst i_Seps_at_9 (v := (-1)) (by decide) ?_
    refine zr_goto 19 i_Seps_at_10 (by decide) ?_
    exact zR.retE i_Seps_at_19 rfl rfl
  · rw [q, getF_in hj (by omega)]
    refine zr_iload_n i_Seps_at_0 rfl ?_
    refine zN_if_lt 9 i_Seps_at_1 (by decide) (by omega) ?_
    refine zr_iload_n i_Seps_at_4 rfl ?_
    refine zn_iconst 5 i_Seps_at_5 (by decide) ?_
    refine zn_icmp_lt 13 i_Seps_at_6 (by decide) (by omega) (by omega) (fun c_6 => ?_) (fun q => absurd q (by omega))
    refine zr_aload_n i_Seps_at_13 rfl ?_
    refine zr_getf i_Seps_at_14 hS.1 rfl rfl ?_
    refine zr_iload_n i_Seps_at_17 rfl ?_
    refine zn_iaload i_Seps_at_18 hS.2 (by omega) (by decide) ?_
    exact zR.retE i_Seps_at_19 rfl rfl
theorem i_Seps_set_0 : zins 67 0 = some (.iload_n 1) := by decide +kernel
theorem i_Seps_set_1 : zins 67 1 = some (.ifCond .lt 15) := by decide +kernel
theorem i_Seps_set_4 : zins 67 4 = some (.iload_n 1) := by decide +kernel
theorem i_Seps_set_5 : zins 67 5 = some (.iconst 5) := by decide +kernel
theorem i_Seps_set_6 : zins 67 6 = some (.if_icmp .ge 10) := by decide +kernel
theorem i_Seps_set_9 : zins 67 9 = some (.aload_n 0) := by decide +kernel
theorem i_Seps_set_10 : zins 67 10 = some (.getfield 9) := by decide +kernel
theorem i_Seps_set_13 : zins 67 13 = some (.iload_n 1) := by decide +kernel
theorem i_Seps_set_14 : zins 67 14 = some (.iload_n 2) := by decide +kernel
theorem i_Seps_set_15 : zins 67 15 = some (.iastore) := by decide +kernel
theorem i_Seps_set_16 : zins 67 16 = some (.return_) := by decide +kernel
theorem e_Seps_set (X : zX) (d : Nat) (h : zH) (b : Nat) (S : Nat → Int32) (hO : h.2.2 b = some (spO b)) (k : Nat) (hk : k < 5) (c : Int32) : zR X d 67 0 (zent 3 [.ref b, .int (nI k), .int c]) [] (spS h b S) (none, spS h b (upd S k c)) := by
  refine zr_iload_n i_Seps_set_0 rfl ?_
  refine zN_if_lt 16 i_Seps_set_1 (by decide) (by omega) ?_
  refine zr_iload_n i_Seps_set_4 rfl ?_
  refine zn_iconst 5 i_Seps_set_5 (by decide) ?_
  refine zn_icmp_ge 16 i_Seps_set_6 (by decide) (by omega) (by omega) (fun q => absurd q (by omega)) (fun c_6 => ?_)
  refine zr_aload_n i_Seps_set_9 rfl ?_
  refine zr_getf i_Seps_set_10 ((spS_ne (by omega)).trans hO) rfl rfl ?_
  refine zr_iload_n i_Seps_set_13 rfl ?_
  refine zr_iload_n i_Seps_set_14 rfl ?_
  refine zn_iastore i_Seps_set_15 spS_r (by omega) (by decide) ?_
  exact zR.retE i_Seps_set_16 rfl (by unfold spS; rw [zwr_zwr]; rfl)
theorem i_Seps_placeOf_0 : zins 69 0 = some (.iconst 0) := by decide +kernel
theorem i_Seps_placeOf_1 : zins 69 1 = some (.istore_n 2) := by decide +kernel
theorem i_Seps_placeOf_2 : zins 69 2 = some (.iload_n 2) := by decide +kernel
theorem i_Seps_placeOf_3 : zins 69 3 = some (.iconst 5) := by decide +kernel
theorem i_Seps_placeOf_4 : zins 69 4 = some (.if_icmp .ge 21) := by decide +kernel
theorem i_Seps_placeOf_7 : zins 69 7 = some (.aload_n 0) := by decide +kernel
theorem i_Seps_placeOf_8 : zins 69 8 = some (.getfield 9) := by decide +kernel
theorem i_Seps_placeOf_11 : zins 69 11 = some (.iload_n 2) := by decide +kernel
theorem i_Seps_placeOf_12 : zins 69 12 = some (.iaload) := by decide +kernel
theorem i_Seps_placeOf_13 : zins 69 13 = some (.iload_n 1) := by decide +kernel
theorem i_Seps_placeOf_14 : zins 69 14 = some (.if_icmp .ne 5) := by decide +kernel
theorem i_Seps_placeOf_17 : zins 69 17 = some (.iload_n 2) := by decide +kernel
theorem i_Seps_placeOf_18 : zins 69 18 = some (.ireturn) := by decide +kernel
theorem i_Seps_placeOf_19 : zins 69 19 = some (.iinc 2 1) := by decide +kernel
theorem i_Seps_placeOf_22 : zins 69 22 = some (.goto (-20)) := by decide +kernel
theorem i_Seps_placeOf_25 : zins 69 25 = some (.iconst (-1)) := by decide +kernel
theorem i_Seps_placeOf_26 : zins 69 26 = some (.ireturn) := by decide +kernel
theorem l_Seps_placeOf (X : zX) (d : Nat) (h : zH) (b : Nat) (S : Nat → Int32) (hS : isSp h b S) (c : Int32) : ∀ (m k : Nat), k + m = 5 → zR X d 69 2 [some (.ref b), some (.int c), some (.int (nI k))] [] h (some (.int (tI (zfst (fun k => decide (S k = c)) k m))), h) := by
  intro m
  induction m with
  | zero =>
    intro k hk
    refine zr_iload_n i_Seps_placeOf_2 rfl ?_
    refine zn_iconst 5 i_Seps_placeOf_3 (by decide) ?_
    refine zn_icmp_ge 25 i_Seps_placeOf_4 (by decide) (by omega) (by omega) (fun c_4 => ?_) (fun q => absurd q (by omega))
    refine zr_iconst i_Seps_placeOf_25 (v := (-1)) (by decide) ?_
    exact zR.retE i_Seps_placeOf_26 rfl rfl
  | succ m ih =>
    intro k hk
    rw [zfst]
    by_cases hc : S k = c
    · rw [if_pos (decide_eq_true hc)]
      refine zr_iload_n i_Seps_placeOf_2 rfl ?_
      refine zn_iconst 5 i_Seps_placeOf_3 (by decide) ?_
      refine zn_icmp_ge 25 i_Seps_placeOf_4 (by decide) (by omega) (by omega) (fun q => absurd q (by omega)) (fun c_4 => ?_)
      refine zr_aload_n i_Seps_placeOf_7 rfl ?_
      refine zr_getf i_Seps_placeOf_8 hS.1 rfl rfl ?_
      refine zr_iload_n i_Seps_placeOf_11 rfl ?_
      refine zn_iaload i_Seps_placeOf_12 hS.2 (by omega) (by decide) ?_
      refine zr_iload_n i_Seps_placeOf_13 rfl ?_
      refine zr_icmp_ne 19 i_Seps_placeOf_14 (by decide) (fun q => absurd q (fun z => z hc)) (fun c_14 => ?_)
      refine zr_iload_n i_Seps_placeOf_17 rfl ?_
      exact zR.retE i_Seps_placeOf_18 rfl rfl
    · rw [if_neg (fun z => hc (of_decide_eq_true z))]
      refine zr_iload_n i_Seps_placeOf_2 rfl ?_
      refine zn_iconst 5 i_Seps_placeOf_3 (by decide) ?_
      refine zn_icmp_ge 25 i_Seps_placeOf_4 (by decide) (by omega) (by omega) (fun q => absurd q (by omega)) (fun c_4 => ?_)
      refine zr_aload_n i_Seps_placeOf_7 rfl ?_
      refine zr_getf i_Seps_placeOf_8 hS.1 rfl rfl ?_
      refine zr_iload_n i_Seps_placeOf_11 rfl ?_
      refine zn_iaload i_Seps_placeOf_12 hS.2 (by omega) (by decide) ?_
      refine zr_iload_n i_Seps_placeOf_13 rfl ?_
      refine zr_icmp_ne 19 i_Seps_placeOf_14 (by decide) (fun c_14 => ?_) (fun q => absurd q hc)
      refine zn_iinc i_Seps_placeOf_19 rfl rfl ?_
      refine zr_goto 2 i_Seps_placeOf_22 (by decide) ?_
      exact ih (k + 1) (by omega)
theorem e_Seps_placeOf (X : zX) (d : Nat) (h : zH) (b : Nat) (S : Nat → Int32) (hS : isSp h b S) (c : Int32) : zR X d 69 0 (zent 3 [.ref b, .int c]) [] h (some (.int (tI (plF S c))), h) := by
  refine zn_iconst 0 i_Seps_placeOf_0 (by decide) ?_
  refine zr_istore_n i_Seps_placeOf_1 rfl ?_
  exact l_Seps_placeOf X d h b S hS c 5 0 rfl
theorem i_Seps_areProper_0 : zins 68 0 = some (.iconst 0) := by decide +kernel
theorem i_Seps_areProper_1 : zins 68 1 = some (.istore_n 1) := by decide +kernel
theorem i_Seps_areProper_2 : zins 68 2 = some (.iload_n 1) := by decide +kernel
theorem i_Seps_areProper_3 : zins 68 3 = some (.iconst 5) := by decide +kernel
theorem i_Seps_areProper_4 : zins 68 4 = some (.if_icmp .ge 61) := by decide +kernel
theorem i_Seps_areProper_7 : zins 68 7 = some (.aload_n 0) := by decide +kernel
theorem i_Seps_areProper_8 : zins 68 8 = some (.getfield 9) := by decide +kernel
theorem i_Seps_areProper_11 : zins 68 11 = some (.iload_n 1) := by decide +kernel
theorem i_Seps_areProper_12 : zins 68 12 = some (.iaload) := by decide +kernel
theorem i_Seps_areProper_13 : zins 68 13 = some (.istore_n 2) := by decide +kernel
theorem i_Seps_areProper_14 : zins 68 14 = some (.aload_n 0) := by decide +kernel
theorem i_Seps_areProper_15 : zins 68 15 = some (.iload_n 2) := by decide +kernel
theorem i_Seps_areProper_16 : zins 68 16 = some (.invokevirtual 15) := by decide +kernel
theorem i_Seps_areProper_19 : zins 68 19 = some (.iload_n 1) := by decide +kernel
theorem i_Seps_areProper_20 : zins 68 20 = some (.if_icmp .ne 7) := by decide +kernel
theorem i_Seps_areProper_23 : zins 68 23 = some (.iconst 1) := by decide +kernel
theorem i_Seps_areProper_24 : zins 68 24 = some (.goto 4) := by decide +kernel
theorem i_Seps_areProper_27 : zins 68 27 = some (.iconst 0) := by decide +kernel
theorem i_Seps_areProper_28 : zins 68 28 = some (.istore_n 3) := by decide +kernel
theorem i_Seps_areProper_29 : zins 68 29 = some (.iload_n 3) := by decide +kernel
theorem i_Seps_areProper_30 : zins 68 30 = some (.ifCond .eq 27) := by decide +kernel
theorem i_Seps_areProper_33 : zins 68 33 = some (.iload_n 2) := by decide +kernel
theorem i_Seps_areProper_34 : zins 68 34 = some (.bipush 33) := by decide +kernel
theorem i_Seps_areProper_36 : zins 68 36 = some (.bipush 126) := by decide +kernel
theorem i_Seps_areProper_38 : zins 68 38 = some (.invokestatic 19) := by decide +kernel
theorem i_Seps_areProper_41 : zins 68 41 = some (.ifCond .eq 16) := by decide +kernel
theorem i_Seps_areProper_44 : zins 68 44 = some (.iload_n 2) := by decide +kernel
theorem i_Seps_areProper_45 : zins 68 45 = some (.invokestatic 23) := by decide +kernel
theorem i_Seps_areProper_48 : zins 68 48 = some (.ifCond .ne 9) := by decide +kernel
theorem i_Seps_areProper_51 : zins 68 51 = some (.iload_n 2) := by decide +kernel
theorem i_Seps_areProper_52 : zins 68 52 = some (.bipush 34) := by decide +kernel
theorem i_Seps_areProper_54 : zins 68 54 = some (.if_icmp .ne 5) := by decide +kernel
theorem i_Seps_areProper_57 : zins 68 57 = some (.iconst 0) := by decide +kernel
theorem i_Seps_areProper_58 : zins 68 58 = some (.ireturn) := by decide +kernel
theorem i_Seps_areProper_59 : zins 68 59 = some (.iinc 1 1) := by decide +kernel
theorem i_Seps_areProper_62 : zins 68 62 = some (.goto (-60)) := by decide +kernel
theorem i_Seps_areProper_65 : zins 68 65 = some (.iconst 1) := by decide +kernel
theorem i_Seps_areProper_66 : zins 68 66 = some (.ireturn) := by decide +kernel
theorem l_Seps_areProper (X : zX) (d : Nat) (h : zH) (b : Nat) (S : Nat → Int32) (hS : isSp h b S) : ∀ (m k : Nat) (x y : Option Value), k + m = 5 → zR X (d + 3) 68 2 [some (.ref b), some (.int (nI k)), x, y] [] h (some (.int (zb (propL S k m))), h) := by
  intro m
  induction m with
  | zero =>
    intro k x y hk
    refine zr_iload_n i_Seps_areProper_2 rfl ?_
    refine zn_iconst 5 i_Seps_areProper_3 (by decide) ?_
    refine zn_icmp_ge 65 i_Seps_areProper_4 (by decide) (by omega) (by omega) (fun c_4 => ?_) (fun q => absurd q (by omega))
    refine zr_iconst i_Seps_areProper_65 (v := 1) (by decide) ?_
    exact zR.retE i_Seps_areProper_66 (zretB true) rfl
  | succ m ih =>
    intro k x y hk
    rw [propL]
    by_cases h1 : plF S (S k) = some k
    · cases h2 : zbtw (S k) 33 126 with
      | false =>
        rw [if_neg (fun z => by simp [prop2, h2] at z)]
        refine zr_iload_n i_Seps_areProper_2 rfl ?_
        refine zn_iconst 5 i_Seps_areProper_3 (by decide) ?_
        refine zn_icmp_ge 65 i_Seps_areProper_4 (by decide) (by omega) (by omega) (fun q => absurd q (by omega)) (fun c_4 => ?_)
        refine zr_aload_n i_Seps_areProper_7 rfl ?_
        refine zr_getf i_Seps_areProper_8 hS.1 rfl rfl ?_
        refine zr_iload_n i_Seps_areProper_11 rfl ?_
        refine zn_iaload i_Seps_areProper_12 hS.2 (by omega) (by decide) ?_
        refine zr_istore_n i_Seps_areProper_13 rfl ?_
        refine zr_aload_n i_Seps_areProper_14 rfl ?_
        refine zr_iload_n i_Seps_areProper_15 rfl ?_
        refine zr_cv1 i_Seps_areProper_16 rfl (by decide) (zrcv_of hS.1) (Nat.le_of_ble_eq_true rfl) (Nat.le_of_ble_eq_true rfl) (e_Seps_placeOf X _ h b S hS _) ?_
        refine zr_iload_n i_Seps_areProper_19 rfl ?_
        refine zr_icmp_ne 27 i_Seps_areProper_20 (by decide) (fun q => absurd q (fun z => z (by rw [h1]; rfl))) (fun c_20 => ?_)
        refine zn_iconst 1 i_Seps_areProper_23 (by decide) ?_
        refine zr_goto 28 i_Seps_areProper_24 (by decide) ?_
        refine zr_istore_n i_Seps_areProper_28 rfl ?_
        refine zr_iload_n i_Seps_areProper_29 rfl ?_
        refine zr_if_eq 57 i_Seps_areProper_30 (by decide) (fun q => absurd q (by decide)) (fun _ => ?_)
        refine zr_iload_n i_Seps_areProper_33 rfl ?_
        refine zr_bipush i_Seps_areProper_34 (v := 33) (by decide) ?_
        refine zr_bipush i_Seps_areProper_36 (v := 126) (by decide) ?_
        refine zr_cs3 i_Seps_areProper_38 rfl (by decide) (Nat.le_of_ble_eq_true rfl) (Nat.le_of_ble_eq_true rfl) (e_B_isBetween X _ _ _ _ _) ?_
        refine zB_if_eq 57 i_Seps_areProper_41 (by decide) (fun _ => ?_) (fun q => absurd q (by rw [h2]; decide))
        refine zr_iconst i_Seps_areProper_57 (v := 0) (by decide) ?_
        exact zR.retE i_Seps_areProper_58 rfl rfl
      | true =>
        cases h3 : vlod (S k) with
        | true =>
          rw [if_neg (fun z => by simp [prop2, h3] at z)]
          refine zr_iload_n i_Seps_areProper_2 rfl ?_
          refine zn_iconst 5 i_Seps_areProper_3 (by decide) ?_
          refine zn_icmp_ge 65 i_Seps_areProper_4 (by decide) (by omega) (by omega) (fun q => absurd q (by omega)) (fun c_4 => ?_)
          refine zr_aload_n i_Seps_areProper_7 rfl ?_
          refine zr_getf i_Seps_areProper_8 hS.1 rfl rfl ?_
          refine zr_iload_n i_Seps_areProper_11 rfl ?_
          refine zn_iaload i_Seps_areProper_12 hS.2 (by omega) (by decide) ?_
          refine zr_istore_n i_Seps_areProper_13 rfl ?_
          refine zr_aload_n i_Seps_areProper_14 rfl ?_
          refine zr_iload_n i_Seps_areProper_15 rfl ?_
          refine zr_cv1 i_Seps_areProper_16 rfl (by decide) (zrcv_of hS.1) (Nat.le_of_ble_eq_true rfl) (Nat.le_of_ble_eq_true rfl) (e_Seps_placeOf X _ h b S hS _) ?_
          refine zr_iload_n i_Seps_areProper_19 rfl ?_
          refine zr_icmp_ne 27 i_Seps_areProper_20 (by decide) (fun q => absurd q (fun z => z (by rw [h1]; rfl))) (fun c_20 => ?_)
          refine zn_iconst 1 i_Seps_areProper_23 (by decide) ?_
          refine zr_goto 28 i_Seps_areProper_24 (by decide) ?_
          refine zr_istore_n i_Seps_areProper_28 rfl ?_
          refine zr_iload_n i_Seps_areProper_29 rfl ?_
          refine zr_if_eq 57 i_Seps_areProper_30 (by decide) (fun q => absurd q (by decide)) (fun _ => ?_)
          refine zr_iload_n i_Seps_areProper_33 rfl ?_
          refine zr_bipush i_Seps_areProper_34 (v := 33) (by decide) ?_
          refine zr_bipush i_Seps_areProper_36 (v := 126) (by decide) ?_
          refine zr_cs3 i_Seps_areProper_38 rfl (by decide) (Nat.le_of_ble_eq_true rfl) (Nat.le_of_ble_eq_true rfl) (e_B_isBetween X _ _ _ _ _) ?_
          refine zB_if_eq 57 i_Seps_areProper_41 (by decide) (fun q => absurd q (by rw [h2]; decide)) (fun _ => ?_)
          refine zr_iload_n i_Seps_areProper_44 rfl ?_
          refine zr_cs1 i_Seps_areProper_45 rfl (by decide) (Nat.le_of_ble_eq_true rfl) (Nat.le_of_ble_eq_true rfl) (e_B_isLetterOrDigit X _ _ _) ?_
          refine zB_if_ne 57 i_Seps_areProper_48 (by decide) (fun _ => ?_) (fun q => absurd q (by rw [h3]; decide))
          refine zr_iconst i_Seps_areProper_57 (v := 0) (by decide) ?_
          exact zR.retE i_Seps_areProper_58 rfl rfl
        | false =>
          by_cases h4 : S k = 34
          · rw [if_neg (fun z => by simp [prop2, h4] at z)]
            refine zr_iload_n i_Seps_areProper_2 rfl ?_
            refine zn_iconst 5 i_Seps_areProper_3 (by decide) ?_
            refine zn_icmp_ge 65 i_Seps_areProper_4 (by decide) (by omega) (by omega) (fun q => absurd q (by omega)) (fun c_4 => ?_)
            refine zr_aload_n i_Seps_areProper_7 rfl ?_
            refine zr_getf i_Seps_areProper_8 hS.1 rfl rfl ?_
            refine zr_iload_n i_Seps_areProper_11 rfl ?_
            refine zn_iaload i_Seps_areProper_12 hS.2 (by omega) (by decide) ?_
            refine zr_istore_n i_Seps_areProper_13 rfl ?_
            refine zr_aload_n i_Seps_areProper_14 rfl ?_
            refine zr_iload_n i_Seps_areProper_15 rfl ?_
            refine zr_cv1 i_Seps_areProper_16 rfl (by decide) (zrcv_of hS.1) (Nat.le_of_ble_eq_true rfl) (Nat.le_of_ble_eq_true rfl) (e_Seps_placeOf X _ h b S hS _) ?_
            refine zr_iload_n i_Seps_areProper_19 rfl ?_
            refine zr_icmp_ne 27 i_Seps_areProper_20 (by decide) (fun q => absurd q (fun z => z (by rw [h1]; rfl))) (fun c_20 => ?_)
            refine zn_iconst 1 i_Seps_areProper_23 (by decide) ?_
            refine zr_goto 28 i_Seps_areProper_24 (by decide) ?_
            refine zr_istore_n i_Seps_areProper_28 rfl ?_
            refine zr_iload_n i_Seps_areProper_29 rfl ?_
            refine zr_if_eq 57 i_Seps_areProper_30 (by decide) (fun q => absurd q (by decide)) (fun _ => ?_)
            refine zr_iload_n i_Seps_areProper_33 rfl ?_
            refine zr_bipush i_Seps_areProper_34 (v := 33) (by decide) ?_
            refine zr_bipush i_Seps_areProper_36 (v := 126) (by decide) ?_
            refine zr_cs3 i_Seps_areProper_38 rfl (by decide) (Nat.le_of_ble_eq_true rfl) (Nat.le_of_ble_eq_true rfl) (e_B_isBetween X _ _ _ _ _) ?_
            refine zB_if_eq 57 i_Seps_areProper_41 (by decide) (fun q => absurd q (by rw [h2]; decide)) (fun _ => ?_)
            refine zr_iload_n i_Seps_areProper_44 rfl ?_
            refine zr_cs1 i_Seps_areProper_45 rfl (by decide) (Nat.le_of_ble_eq_true rfl) (Nat.le_of_ble_eq_true rfl) (e_B_isLetterOrDigit X _ _ _) ?_
            refine zB_if_ne 57 i_Seps_areProper_48 (by decide) (fun q => absurd q (by rw [h3]; decide)) (fun _ => ?_)
            refine zr_iload_n i_Seps_areProper_51 rfl ?_
            refine zr_bipush i_Seps_areProper_52 (v := 34) (by decide) ?_
            refine zr_icmp_ne 59 i_Seps_areProper_54 (by decide) (fun q => absurd q (fun z => z h4)) (fun c_54 => ?_)
            refine zr_iconst i_Seps_areProper_57 (v := 0) (by decide) ?_
            exact zR.retE i_Seps_areProper_58 rfl rfl
          · rw [if_pos ⟨h1, by simp [prop2, h2, h3, h4]⟩]
            refine zr_iload_n i_Seps_areProper_2 rfl ?_
            refine zn_iconst 5 i_Seps_areProper_3 (by decide) ?_
            refine zn_icmp_ge 65 i_Seps_areProper_4 (by decide) (by omega) (by omega) (fun q => absurd q (by omega)) (fun c_4 => ?_)
            refine zr_aload_n i_Seps_areProper_7 rfl ?_
            refine zr_getf i_Seps_areProper_8 hS.1 rfl rfl ?_
            refine zr_iload_n i_Seps_areProper_11 rfl ?_
            refine zn_iaload i_Seps_areProper_12 hS.2 (by omega) (by decide) ?_
            refine zr_istore_n i_Seps_areProper_13 rfl ?_
            refine zr_aload_n i_Seps_areProper_14 rfl ?_
            refine zr_iload_n i_Seps_areProper_15 rfl ?_
            refine zr_cv1 i_Seps_areProper_16 rfl (by decide) (zrcv_of hS.1) (Nat.le_of_ble_eq_true rfl) (Nat.le_of_ble_eq_true rfl) (e_Seps_placeOf X _ h b S hS _) ?_
            refine zr_iload_n i_Seps_areProper_19 rfl ?_
            refine zr_icmp_ne 27 i_Seps_areProper_20 (by decide) (fun q => absurd q (fun z => z (by rw [h1]; rfl))) (fun c_20 => ?_)
            refine zn_iconst 1 i_Seps_areProper_23 (by decide) ?_
            refine zr_goto 28 i_Seps_areProper_24 (by decide) ?_
            refine zr_istore_n i_Seps_areProper_28 rfl ?_
            refine zr_iload_n i_Seps_areProper_29 rfl ?_
            refine zr_if_eq 57 i_Seps_areProper_30 (by decide) (fun q => absurd q (by decide)) (fun _ => ?_)
            refine zr_iload_n i_Seps_areProper_33 rfl ?_
            refine zr_bipush i_Seps_areProper_34 (v := 33) (by decide) ?_
            refine zr_bipush i_Seps_areProper_36 (v := 126) (by decide) ?_
            refine zr_cs3 i_Seps_areProper_38 rfl (by decide) (Nat.le_of_ble_eq_true rfl) (Nat.le_of_ble_eq_true rfl) (e_B_isBetween X _ _ _ _ _) ?_
            refine zB_if_eq 57 i_Seps_areProper_41 (by decide) (fun q => absurd q (by rw [h2]; decide)) (fun _ => ?_)
            refine zr_iload_n i_Seps_areProper_44 rfl ?_
            refine zr_cs1 i_Seps_areProper_45 rfl (by decide) (Nat.le_of_ble_eq_true rfl) (Nat.le_of_ble_eq_true rfl) (e_B_isLetterOrDigit X _ _ _) ?_
            refine zB_if_ne 57 i_Seps_areProper_48 (by decide) (fun q => absurd q (by rw [h3]; decide)) (fun _ => ?_)
            refine zr_iload_n i_Seps_areProper_51 rfl ?_
            refine zr_bipush i_Seps_areProper_52 (v := 34) (by decide) ?_
            refine zr_icmp_ne 59 i_Seps_areProper_54 (by decide) (fun c_54 => ?_) (fun q => absurd q h4)
            refine zn_iinc i_Seps_areProper_59 rfl rfl ?_
            refine zr_goto 2 i_Seps_areProper_62 (by decide) ?_
            exact ih (k + 1) _ _ (by omega)
    · rw [if_neg (fun z => h1 z.1)]
      have hne : ¬ tI (plF S (S k)) = nI k := by
        cases hp : plF S (S k) with
        | none => exact fun z => absurd (show (nI k) < 0 by rw [← z]; decide) (nI_pos (by omega))
        | some t =>
          have := plF_lt hp
          exact fun z => h1 (by rw [hp, (nI_eq (a := t) (b := k) (by omega) (by omega)).mp z])
      refine zr_iload_n i_Seps_areProper_2 rfl ?_
      refine zn_iconst 5 i_Seps_areProper_3 (by decide) ?_
      refine zn_icmp_ge 65 i_Seps_areProper_4 (by decide) (by omega) (by omega) (fun q => absurd q (by omega)) (fun c_4 => ?_)
      refine zr_aload_n i_Seps_areProper_7 rfl ?_
      refine zr_getf i_Seps_areProper_8 hS.1 rfl rfl ?_
      refine zr_iload_n i_Seps_areProper_11 rfl ?_
      refine zn_iaload i_Seps_areProper_12 hS.2 (by omega) (by decide) ?_
      refine zr_istore_n i_Seps_areProper_13 rfl ?_
      refine zr_aload_n i_Seps_areProper_14 rfl ?_
      refine zr_iload_n i_Seps_areProper_15 rfl ?_
      refine zr_cv1 i_Seps_areProper_16 rfl (by decide) (zrcv_of hS.1) (Nat.le_of_ble_eq_true rfl) (Nat.le_of_ble_eq_true rfl) (e_Seps_placeOf X _ h b S hS _) ?_
      refine zr_iload_n i_Seps_areProper_19 rfl ?_
      refine zr_icmp_ne 27 i_Seps_areProper_20 (by decide) (fun c_20 => ?_) (fun q => absurd q hne)
      refine zn_iconst 0 i_Seps_areProper_27 (by decide) ?_
      refine zr_istore_n i_Seps_areProper_28 rfl ?_
      refine zr_iload_n i_Seps_areProper_29 rfl ?_
      refine zr_if_eq 57 i_Seps_areProper_30 (by decide) (fun _ => ?_) (fun q => absurd q (by decide))
      refine zr_iconst i_Seps_areProper_57 (v := 0) (by decide) ?_
      exact zR.retE i_Seps_areProper_58 rfl rfl
theorem e_Seps_areProper (X : zX) (d : Nat) (h : zH) (b : Nat) (S : Nat → Int32) (hS : isSp h b S) : zR X (d + 3) 68 0 (zent 4 [.ref b]) [] h (some (.int (zb (fitF S))), h) := by
  rw [← propL_fit]
  refine zn_iconst 0 i_Seps_areProper_0 (by decide) ?_
  refine zr_istore_n i_Seps_areProper_1 rfl ?_
  exact l_Seps_areProper X d h b S hS 5 0 none none rfl
theorem i_Seps_putAllTo_0 : zins 71 0 = some (.iconst 0) := by decide +kernel
theorem i_Seps_putAllTo_1 : zins 71 1 = some (.istore_n 2) := by decide +kernel
theorem i_Seps_putAllTo_2 : zins 71 2 = some (.iload_n 2) := by decide +kernel
theorem i_Seps_putAllTo_3 : zins 71 3 = some (.iconst 5) := by decide +kernel
theorem i_Seps_putAllTo_4 : zins 71 4 = some (.if_icmp .ge 19) := by decide +kernel
theorem i_Seps_putAllTo_7 : zins 71 7 = some (.aload_n 1) := by decide +kernel
theorem i_Seps_putAllTo_8 : zins 71 8 = some (.aload_n 0) := by decide +kernel
theorem i_Seps_putAllTo_9 : zins 71 9 = some (.getfield 9) := by decide +kernel
theorem i_Seps_putAllTo_12 : zins 71 12 = some (.iload_n 2) := by decide +kernel
theorem i_Seps_putAllTo_13 : zins 71 13 = some (.iaload) := by decide +kernel
theorem i_Seps_putAllTo_14 : zins 71 14 = some (.invokevirtual 27) := by decide +kernel
theorem i_Seps_putAllTo_17 : zins 71 17 = some (.iinc 2 1) := by decide +kernel
theorem i_Seps_putAllTo_20 : zins 71 20 = some (.goto (-18)) := by decide +kernel
theorem i_Seps_putAllTo_23 : zins 71 23 = some (.return_) := by decide +kernel
theorem e_Seps_putAllTo (X : zX) (d : Nat) (h : zH) (b : Nat) (S : Nat → Int32) (a N : Nat) (l : List Int32) (f : Nat → Int32) (hN : N ≤ 700) (hS : isSp h b S) (hd1 : b ≠ a) (hd2 : b ≠ a + 1) (hd3 : b + 1 ≠ a) (hz : ∀ k, k < 5 → zch (S k)) : zR X (d + 1) 71 0 (zent 3 [.ref b, .ref a]) [] (chL h a N l f) (none, chL h a N (l ++ [S 0, S 1, S 2, S 3, S 4]) f) := by
  refine zn_iconst 0 i_Seps_putAllTo_0 (by decide) ?_
  refine zr_istore_n i_Seps_putAllTo_1 rfl ?_
  refine zr_iload_n i_Seps_putAllTo_2 rfl ?_
  refine zn_iconst 5 i_Seps_putAllTo_3 (by decide) ?_
  refine zr_icmp_ge 23 i_Seps_putAllTo_4 (by decide) (fun q => absurd q (by decide)) (fun _ => ?_)
  refine zr_aload_n i_Seps_putAllTo_7 rfl ?_
  refine zr_aload_n i_Seps_putAllTo_8 rfl ?_
  refine zr_getf i_Seps_putAllTo_9 ((chS_ne hd1 hd2).trans hS.1) rfl rfl ?_
  refine zr_iload_n i_Seps_putAllTo_12 rfl ?_
  refine zn_iaload i_Seps_putAllTo_13 ((chS_ne hd3 (by omega)).trans hS.2) (by omega) (by decide) ?_
  refine zr_cv10 i_Seps_putAllTo_14 rfl (by decide) (zrcv_of chS_o) (Nat.le_of_ble_eq_true rfl) (Nat.le_of_ble_eq_true rfl) (e1_Chars_put X _ h a N l f hN (S 0) (hz 0 (by decide))) ?_
  refine zn_iinc i_Seps_putAllTo_17 rfl rfl ?_
  refine zr_goto 2 i_Seps_putAllTo_20 (by decide) ?_
  refine zr_iload_n i_Seps_putAllTo_2 rfl ?_
  refine zn_iconst 5 i_Seps_putAllTo_3 (by decide) ?_
  refine zr_icmp_ge 23 i_Seps_putAllTo_4 (by decide) (fun q => absurd q (by decide)) (fun _ => ?_)
  refine zr_aload_n i_Seps_putAllTo_7 rfl ?_
  refine zr_aload_n i_Seps_putAllTo_8 rfl ?_
  refine zr_getf i_Seps_putAllTo_9 ((chS_ne hd1 hd2).trans hS.1) rfl rfl ?_
  refine zr_iload_n i_Seps_putAllTo_12 rfl ?_
  refine zn_iaload i_Seps_putAllTo_13 ((chS_ne hd3 (by omega)).trans hS.2) (by omega) (by decide) ?_
  refine zr_cv10 i_Seps_putAllTo_14 rfl (by decide) (zrcv_of chS_o) (Nat.le_of_ble_eq_true rfl) (Nat.le_of_ble_eq_true rfl) (e1_Chars_put X _ h a N (l ++ [(S 0)]) f hN (S 1) (hz 1 (by decide))) ?_
  refine zn_iinc i_Seps_putAllTo_17 rfl rfl ?_
  refine zr_goto 2 i_Seps_putAllTo_20 (by decide) ?_
  refine zr_iload_n i_Seps_putAllTo_2 rfl ?_
  refine zn_iconst 5 i_Seps_putAllTo_3 (by decide) ?_
  refine zr_icmp_ge 23 i_Seps_putAllTo_4 (by decide) (fun q => absurd q (by decide)) (fun _ => ?_)
  refine zr_aload_n i_Seps_putAllTo_7 rfl ?_
  refine zr_aload_n i_Seps_putAllTo_8 rfl ?_
  refine zr_getf i_Seps_putAllTo_9 ((chS_ne hd1 hd2).trans hS.1) rfl rfl ?_
  refine zr_iload_n i_Seps_putAllTo_12 rfl ?_
  refine zn_iaload i_Seps_putAllTo_13 ((chS_ne hd3 (by omega)).trans hS.2) (by omega) (by decide) ?_
  refine zr_cv10 i_Seps_putAllTo_14 rfl (by decide) (zrcv_of chS_o) (Nat.le_of_ble_eq_true rfl) (Nat.le_of_ble_eq_true rfl) (e1_Chars_put X _ h a N ((l ++ [(S 0)]) ++ [(S 1)]) f hN (S 2) (hz 2 (by decide))) ?_
  refine zn_iinc i_Seps_putAllTo_17 rfl rfl ?_
  refine zr_goto 2 i_Seps_putAllTo_20 (by decide) ?_
  refine zr_iload_n i_Seps_putAllTo_2 rfl ?_
  refine zn_iconst 5 i_Seps_putAllTo_3 (by decide) ?_
  refine zr_icmp_ge 23 i_Seps_putAllTo_4 (by decide) (fun q => absurd q (by decide)) (fun _ => ?_)
  refine zr_aload_n i_Seps_putAllTo_7 rfl ?_
  refine zr_aload_n i_Seps_putAllTo_8 rfl ?_
  refine zr_getf i_Seps_putAllTo_9 ((chS_ne hd1 hd2).trans hS.1) rfl rfl ?_
  refine zr_iload_n i_Seps_putAllTo_12 rfl ?_
  refine zn_iaload i_Seps_putAllTo_13 ((chS_ne hd3 (by omega)).trans hS.2) (by omega) (by decide) ?_
  refine zr_cv10 i_Seps_putAllTo_14 rfl (by decide) (zrcv_of chS_o) (Nat.le_of_ble_eq_true rfl) (Nat.le_of_ble_eq_true rfl) (e1_Chars_put X _ h a N (((l ++ [(S 0)]) ++ [(S 1)]) ++ [(S 2)]) f hN (S 3) (hz 3 (by decide))) ?_
  refine zn_iinc i_Seps_putAllTo_17 rfl rfl ?_
  refine zr_goto 2 i_Seps_putAllTo_20 (by decide) ?_
  refine zr_iload_n i_Seps_putAllTo_2 rfl ?_
  refine zn_iconst 5 i_Seps_putAllTo_3 (by decide) ?_
  refine zr_icmp_ge 23 i_Seps_putAllTo_4 (by decide) (fun q => absurd q (by decide)) (fun _ => ?_)
  refine zr_aload_n i_Seps_putAllTo_7 rfl ?_
  refine zr_aload_n i_Seps_putAllTo_8 rfl ?_
  refine zr_getf i_Seps_putAllTo_9 ((chS_ne hd1 hd2).trans hS.1) rfl rfl ?_
  refine zr_iload_n i_Seps_putAllTo_12 rfl ?_
  refine zn_iaload i_Seps_putAllTo_13 ((chS_ne hd3 (by omega)).trans hS.2) (by omega) (by decide) ?_
  refine zr_cv10 i_Seps_putAllTo_14 rfl (by decide) (zrcv_of chS_o) (Nat.le_of_ble_eq_true rfl) (Nat.le_of_ble_eq_true rfl) (e1_Chars_put X _ h a N ((((l ++ [(S 0)]) ++ [(S 1)]) ++ [(S 2)]) ++ [(S 3)]) f hN (S 4) (hz 4 (by decide))) ?_
  refine zn_iinc i_Seps_putAllTo_17 rfl rfl ?_
  refine zr_goto 2 i_Seps_putAllTo_20 (by decide) ?_
  refine zr_iload_n i_Seps_putAllTo_2 rfl ?_
  refine zn_iconst 5 i_Seps_putAllTo_3 (by decide) ?_
  refine zr_icmp_ge 23 i_Seps_putAllTo_4 (by decide) (fun _ => ?_) (fun q => absurd q (by decide))
  exact zR.retE i_Seps_putAllTo_23 rfl (by simp)
