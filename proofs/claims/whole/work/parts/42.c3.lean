/-! THE CLASS: what a message holds -/
def msO (a n k : Nat) : zC := .inr (6, [.ref (a + 1), .ref (a + 3), .ref (a + 4), .int (nI n), .int (nI k)])
def msG (f : Nat → Int32) : zC := .inl (0, 200, .inl f)
def msT (st : Nat → Int32) : zC := .inl (0, 8, .inl st)
def isM (h : zH) (a : Nat) (f : Nat → Int32) (n : Nat) (st : Nat → Int32) (k : Nat) : Prop := h.2.2 a = some (msO a n k) ∧ h.2.2 (a + 3) = some (msG f) ∧ h.2.2 (a + 4) = some (msT st)
/-- the characters from a place on -/
def txL (f : Nat → Int32) (p m : Nat) : List Int32 := match m with
  | 0 => []
  | m + 1 => if f p < 256 then f p :: txL f (p + 1) m else []
def tx (f : Nat → Int32) (n p : Nat) : List Int32 := txL f p (n - p)
def txo (f : Nat → Int32) (n : Nat) (o : Option Nat) : zT := o.map (tx f n)
theorem txL_len (f : Nat → Int32) : ∀ m p, (txL f p m).length ≤ m := by
  intro m
  induction m with
  | zero => intro p; exact Nat.le_refl _
  | succ m ih =>
    intro p
    rw [txL]
    split
    · have := ih (p + 1); rw [List.length_cons]; omega
    · exact Nat.zero_le _
theorem txL_at (f : Nat → Int32) : ∀ m p i, i < (txL f p m).length → (txL f p m).getD i 0 = f (p + i) ∧ f (p + i) < 256 := by
  intro m
  induction m with
  | zero => intro p i h; cases h
  | succ m ih =>
    intro p i h
    rw [txL] at h ⊢
    split at h
    · rename_i hlt
      rw [if_pos hlt]
      cases i with
      | zero => exact ⟨rfl, hlt⟩
      | succ i =>
        have := ih (p + 1) i (by rw [List.length_cons] at h; omega)
        rw [show p + (i + 1) = p + 1 + i by omega]
        exact ⟨this.1, this.2⟩
    · cases h
theorem tx_len (f : Nat → Int32) (n p : Nat) : (tx f n p).length ≤ n - p := txL_len f _ _
theorem tc_tx {f : Nat → Int32} {n p i : Nat} (h : i < tl (txo f n (some p))) : tc (txo f n (some p)) i = f (p + i) ∧ f (p + i) < 256 ∧ p + i < n := by
  have h1 : i < (tx f n p).length := h
  have h2 := txL_at f (n - p) p i h1
  have h3 := tx_len f n p
  exact ⟨h2.1, h2.2, by omega⟩
theorem tl_txo (f : Nat → Int32) (n : Nat) (o : Option Nat) : tl (txo f n o) ≤ n := by
  cases o with
  | none => exact Nat.zero_le _
  | some p => have := tx_len f n p; show (tx f n p).length ≤ n; omega
theorem i_Mess_textLength_0 : zins 79 0 = some (.iconst 0) := by decide +kernel
theorem i_Mess_textLength_1 : zins 79 1 = some (.istore_n 2) := by decide +kernel
theorem i_Mess_textLength_2 : zins 79 2 = some (.iload_n 1) := by decide +kernel
theorem i_Mess_textLength_3 : zins 79 3 = some (.ifCond .lt 33) := by decide +kernel
theorem i_Mess_textLength_6 : zins 79 6 = some (.iload_n 1) := by decide +kernel
theorem i_Mess_textLength_7 : zins 79 7 = some (.iload_n 2) := by decide +kernel
theorem i_Mess_textLength_8 : zins 79 8 = some (.iadd) := by decide +kernel
theorem i_Mess_textLength_9 : zins 79 9 = some (.aload_n 0) := by decide +kernel
theorem i_Mess_textLength_10 : zins 79 10 = some (.getfield 25) := by decide +kernel
theorem i_Mess_textLength_13 : zins 79 13 = some (.if_icmp .ge 23) := by decide +kernel
theorem i_Mess_textLength_16 : zins 79 16 = some (.aload_n 0) := by decide +kernel
theorem i_Mess_textLength_17 : zins 79 17 = some (.getfield 18) := by decide +kernel
theorem i_Mess_textLength_20 : zins 79 20 = some (.iload_n 1) := by decide +kernel
theorem i_Mess_textLength_21 : zins 79 21 = some (.iload_n 2) := by decide +kernel
theorem i_Mess_textLength_22 : zins 79 22 = some (.iadd) := by decide +kernel
theorem i_Mess_textLength_23 : zins 79 23 = some (.iaload) := by decide +kernel
theorem i_Mess_textLength_24 : zins 79 24 = some (.sipush 256) := by decide +kernel
theorem i_Mess_textLength_27 : zins 79 27 = some (.if_icmp .ge 9) := by decide +kernel
theorem i_Mess_textLength_30 : zins 79 30 = some (.iinc 2 1) := by decide +kernel
theorem i_Mess_textLength_33 : zins 79 33 = some (.goto (-27)) := by decide +kernel
theorem i_Mess_textLength_36 : zins 79 36 = some (.iload_n 2) := by decide +kernel
theorem i_Mess_textLength_37 : zins 79 37 = some (.ireturn) := by decide +kernel
theorem l_Mess_textLength (X : zX) (d : Nat) (h : zH) (a : Nat) (f : Nat → Int32) (n : Nat) (st : Nat → Int32) (k : Nat) (hM : isM h a f n st k) (hn : n ≤ 200) (p : Nat) : ∀ (m c : Nat), p + c + m = n → zR X d 79 6 [some (.ref a), some (.int (nI p)), some (.int (nI c))] [] h (some (.int (nI (c + (txL f (p + c) m).length))), h) := by
  intro m
  induction m with
  | zero =>
    intro c hc
    refine zr_iload_n i_Mess_textLength_6 rfl ?_
    refine zr_iload_n i_Mess_textLength_7 rfl ?_
    refine zn_iadd i_Mess_textLength_8 ?_
    refine zr_aload_n i_Mess_textLength_9 rfl ?_
    refine zr_getf i_Mess_textLength_10 hM.1 rfl rfl ?_
    refine zn_icmp_ge 36 i_Mess_textLength_13 (by decide) (by omega) (by omega) (fun c_13 => ?_) (fun q => absurd q (by omega))
    refine zr_iload_n i_Mess_textLength_36 rfl ?_
    exact zR.retE i_Mess_textLength_37 rfl rfl
  | succ m ih =>
    intro c hcm
    rw [txL]
    by_cases hc : f (p + c) < 256
    · rw [if_pos hc]
      have hn2 := ih (c + 1) (by omega)
      rw [show c + 1 + (txL f (p + (c + 1)) m).length = c + (f (p + c) :: txL f (p + c + 1) m).length by rw [List.length_cons, Nat.add_assoc p c 1]; omega] at hn2
      refine zr_iload_n i_Mess_textLength_6 rfl ?_
      refine zr_iload_n i_Mess_textLength_7 rfl ?_
      refine zn_iadd i_Mess_textLength_8 ?_
      refine zr_aload_n i_Mess_textLength_9 rfl ?_
      refine zr_getf i_Mess_textLength_10 hM.1 rfl rfl ?_
      refine zn_icmp_ge 36 i_Mess_textLength_13 (by decide) (by omega) (by omega) (fun q => absurd q (by omega)) (fun c_13 => ?_)
      refine zr_aload_n i_Mess_textLength_16 rfl ?_
      refine zr_getf i_Mess_textLength_17 hM.1 rfl rfl ?_
      refine zr_iload_n i_Mess_textLength_20 rfl ?_
      refine zr_iload_n i_Mess_textLength_21 rfl ?_
      refine zn_iadd i_Mess_textLength_22 ?_
      refine zn_iaload i_Mess_textLength_23 hM.2.1 (by omega) (by decide) ?_
      refine zr_sipush i_Mess_textLength_24 (v := 256) (by decide) ?_
      refine zr_icmp_ge 36 i_Mess_textLength_27 (by decide) (fun q => absurd q (Int32.not_le.mpr hc)) (fun c_27 => ?_)
      refine zn_iinc i_Mess_textLength_30 rfl rfl ?_
      refine zr_goto 6 i_Mess_textLength_33 (by decide) ?_
      exact hn2
    · rw [if_neg hc]
      refine zr_iload_n i_Mess_textLength_6 rfl ?_
      refine zr_iload_n i_Mess_textLength_7 rfl ?_
      refine zn_iadd i_Mess_textLength_8 ?_
      refine zr_aload_n i_Mess_textLength_9 rfl ?_
      refine zr_getf i_Mess_textLength_10 hM.1 rfl rfl ?_
      refine zn_icmp_ge 36 i_Mess_textLength_13 (by decide) (by omega) (by omega) (fun q => absurd q (by omega)) (fun c_13 => ?_)
      refine zr_aload_n i_Mess_textLength_16 rfl ?_
      refine zr_getf i_Mess_textLength_17 hM.1 rfl rfl ?_
      refine zr_iload_n i_Mess_textLength_20 rfl ?_
      refine zr_iload_n i_Mess_textLength_21 rfl ?_
      refine zn_iadd i_Mess_textLength_22 ?_
      refine zn_iaload i_Mess_textLength_23 hM.2.1 (by omega) (by decide) ?_
      refine zr_sipush i_Mess_textLength_24 (v := 256) (by decide) ?_
      refine zr_icmp_ge 36 i_Mess_textLength_27 (by decide) (fun c_27 => ?_) (fun q => absurd (Int32.not_lt.mp hc) q)
      refine zr_iload_n i_Mess_textLength_36 rfl ?_
      exact zR.retE i_Mess_textLength_37 rfl rfl
theorem e_Mess_textLength (X : zX) (d : Nat) (h : zH) (a : Nat) (f : Nat → Int32) (n : Nat) (st : Nat → Int32) (k : Nat) (hM : isM h a f n st k) (hn : n ≤ 200) (o : Option Nat) (ho : ∀ p, o = some p → p ≤ n) : zR X d 79 0 (zent 3 [.ref a, .int (tI o)]) [] h (some (.int (nI (tl (txo f n o)))), h) := by
  cases o with
  | none =>
    refine zn_iconst 0 i_Mess_textLength_0 (by decide) ?_
    refine zr_istore_n i_Mess_textLength_1 rfl ?_
    refine zr_iload_n i_Mess_textLength_2 rfl ?_
    refine zr_if_lt 36 i_Mess_textLength_3 (by decide) (fun _ => ?_) (fun q => absurd tI_neg q)
    refine zr_iload_n i_Mess_textLength_36 rfl ?_
    exact zR.retE i_Mess_textLength_37 rfl rfl
  | some p =>
    have hp := ho p rfl
    have hl := l_Mess_textLength X d h a f n st k hM hn p (n - p) 0 (by omega)
    rw [Nat.zero_add] at hl
    show zR X d 79 0 (zent 3 [.ref a, .int (nI p)]) [] h _
    refine zn_iconst 0 i_Mess_textLength_0 (by decide) ?_
    refine zr_istore_n i_Mess_textLength_1 rfl ?_
    refine zr_iload_n i_Mess_textLength_2 rfl ?_
    refine zN_if_lt 36 i_Mess_textLength_3 (by decide) (by omega) ?_
    exact hl
theorem i_Mess_character_0 : zins 84 0 = some (.iload_n 2) := by decide +kernel
theorem i_Mess_character_1 : zins 84 1 = some (.ifCond .lt 12) := by decide +kernel
theorem i_Mess_character_4 : zins 84 4 = some (.iload_n 2) := by decide +kernel
theorem i_Mess_character_5 : zins 84 5 = some (.aload_n 0) := by decide +kernel
theorem i_Mess_character_6 : zins 84 6 = some (.iload_n 1) := by decide +kernel
theorem i_Mess_character_7 : zins 84 7 = some (.invokevirtual 42) := by decide +kernel
theorem i_Mess_character_10 : zins 84 10 = some (.if_icmp .lt 7) := by decide +kernel
theorem i_Mess_character_13 : zins 84 13 = some (.iconst (-1)) := by decide +kernel
theorem i_Mess_character_14 : zins 84 14 = some (.goto 11) := by decide +kernel
theorem i_Mess_character_17 : zins 84 17 = some (.aload_n 0) := by decide +kernel
theorem i_Mess_character_18 : zins 84 18 = some (.getfield 18) := by decide +kernel
theorem i_Mess_character_21 : zins 84 21 = some (.iload_n 1) := by decide +kernel
theorem i_Mess_character_22 : zins 84 22 = some (.iload_n 2) := by decide +kernel
theorem i_Mess_character_23 : zins 84 23 = some (.iadd) := by decide +kernel
theorem i_Mess_character_24 : zins 84 24 = some (.iaload) := by decide +kernel
theorem i_Mess_character_25 : zins 84 25 = some (.ireturn) := by decide +kernel
theorem e_Mess_character (X : zX) (d : Nat) (h : zH) (a : Nat) (f : Nat → Int32) (n : Nat) (st : Nat → Int32) (k : Nat) (hM : isM h a f n st k) (hn : n ≤ 200) (o : Option Nat) (ho : ∀ p, o = some p → p ≤ n) (i : Int32) : zR X (d + 1) 84 0 (zent 3 [.ref a, .int (tI o), .int i]) [] h (some (.int (tgt (txo f n o) i)), h) := by
  have htl := e_Mess_textLength X d h a f n st k hM hn o ho
  have hll := tl_txo f n o
  unfold tgt
  rcases pk_ix i (n := tl (txo f n o)) (by omega) with q | q | ⟨j, hj, q⟩
  · rw [getF_neg q]
    refine zr_iload_n i_Mess_character_0 rfl ?_
    refine zr_if_lt 13 i_Mess_character_1 (by decide) (fun _ => ?_) (fun z => absurd q z)
    refine zr_iconst i_Mess_character_13 (v := (-1)) (by decide) ?_
    refine zr_goto 25 i_Mess_character_14 (by decide) ?_
    exact zR.retE i_Mess_character_25 rfl rfl
  · rw [getF_ge q]
    have h0 : ¬ i < 0 := fun z => absurd (Int32.lt_of_le_of_lt q z) (nI_pos (by omega))
    refine zr_iload_n i_Mess_character_0 rfl ?_
    refine zr_if_lt 13 i_Mess_character_1 (by decide) (fun q => absurd q h0) (fun _ => ?_)
    refine zr_iload_n i_Mess_character_4 rfl ?_
    refine zr_aload_n i_Mess_character_5 rfl ?_
    refine zr_iload_n i_Mess_character_6 rfl ?_
    refine zr_cv1 i_Mess_character_7 rfl (by decide) (zrcv_of hM.1) (Nat.le_of_ble_eq_true rfl) (Nat.le_of_ble_eq_true rfl) (htl) ?_
    refine zr_icmp_lt 17 i_Mess_character_10 (by decide) (fun z => absurd z (Int32.not_lt.mpr q)) (fun c_10 => ?_)
    refine zr_iconst i_Mess_character_13 (v := (-1)) (by decide) ?_
    refine zr_goto 25 i_Mess_character_14 (by decide) ?_
    exact zR.retE i_Mess_character_25 rfl rfl
  · rw [q, getF_in hj (by omega)]
    cases o with
    | none => exact absurd hj (Nat.not_lt_zero _)
    | some p =>
      have htc := tc_tx hj
      show zR X (d + 1) 84 0 (zent 3 [.ref a, .int (nI p), .int (nI j)]) [] h _
      refine zr_iload_n i_Mess_character_0 rfl ?_
      refine zN_if_lt 13 i_Mess_character_1 (by decide) (by omega) ?_
      refine zr_iload_n i_Mess_character_4 rfl ?_
      refine zr_aload_n i_Mess_character_5 rfl ?_
      refine zr_iload_n i_Mess_character_6 rfl ?_
      refine zr_cv1 i_Mess_character_7 rfl (by decide) (zrcv_of hM.1) (Nat.le_of_ble_eq_true rfl) (Nat.le_of_ble_eq_true rfl) (htl) ?_
      refine zn_icmp_lt 17 i_Mess_character_10 (by decide) (by omega) (by omega) (fun c_10 => ?_) (fun q => absurd q (by omega))
      refine zr_aload_n i_Mess_character_17 rfl ?_
      refine zr_getf i_Mess_character_18 hM.1 rfl rfl ?_
      refine zr_iload_n i_Mess_character_21 rfl ?_
      refine zr_iload_n i_Mess_character_22 rfl ?_
      refine zn_iadd i_Mess_character_23 ?_
      refine zn_iaload i_Mess_character_24 hM.2.1 (by omega) (by decide) ?_
      exact zR.retE i_Mess_character_25 rfl (by rw [htc.1])
theorem i_Mess_copyText_0 : zins 85 0 = some (.aload_n 0) := by decide +kernel
theorem i_Mess_copyText_1 : zins 85 1 = some (.iload_n 1) := by decide +kernel
theorem i_Mess_copyText_2 : zins 85 2 = some (.invokevirtual 42) := by decide +kernel
theorem i_Mess_copyText_5 : zins 85 5 = some (.istore_n 3) := by decide +kernel
theorem i_Mess_copyText_6 : zins 85 6 = some (.iconst 0) := by decide +kernel
theorem i_Mess_copyText_7 : zins 85 7 = some (.istore 4) := by decide +kernel
theorem i_Mess_copyText_9 : zins 85 9 = some (.iload 4) := by decide +kernel
theorem i_Mess_copyText_11 : zins 85 11 = some (.iload_n 3) := by decide +kernel
theorem i_Mess_copyText_12 : zins 85 12 = some (.if_icmp .ge 22) := by decide +kernel
theorem i_Mess_copyText_15 : zins 85 15 = some (.aload_n 2) := by decide +kernel
theorem i_Mess_copyText_16 : zins 85 16 = some (.aload_n 0) := by decide +kernel
theorem i_Mess_copyText_17 : zins 85 17 = some (.getfield 18) := by decide +kernel
theorem i_Mess_copyText_20 : zins 85 20 = some (.iload_n 1) := by decide +kernel
theorem i_Mess_copyText_21 : zins 85 21 = some (.iload 4) := by decide +kernel
theorem i_Mess_copyText_23 : zins 85 23 = some (.iadd) := by decide +kernel
theorem i_Mess_copyText_24 : zins 85 24 = some (.iaload) := by decide +kernel
theorem i_Mess_copyText_25 : zins 85 25 = some (.invokevirtual 55) := by decide +kernel
theorem i_Mess_copyText_28 : zins 85 28 = some (.iinc 4 1) := by decide +kernel
theorem i_Mess_copyText_31 : zins 85 31 = some (.goto (-22)) := by decide +kernel
theorem i_Mess_copyText_34 : zins 85 34 = some (.return_) := by decide +kernel
theorem l_Mess_copyText (X : zX) (d : Nat) (h : zH) (a : Nat) (f : Nat → Int32) (n : Nat) (st : Nat → Int32) (k : Nat) (hM : isM h a f n st k) (hn : n ≤ 200) (c N : Nat) (hN : N ≤ 700) (hd : a ≠ c ∧ a ≠ c + 1 ∧ a + 3 ≠ c ∧ a + 3 ≠ c + 1 ∧ a + 4 ≠ c ∧ a + 4 ≠ c + 1) (hz : ∀ i, i < n → f i < 256 → zch (f i)) (l : List Int32) (g : Nat → Int32) (p : Nat) : ∀ (m i : Nat), i + m = (tx f n p).length → zR X (d + 1) 85 9 [some (.ref a), some (.int (nI p)), some (.ref c), some (.int (nI (tx f n p).length)), some (.int (nI i))] [] (chL h c N (l ++ (tx f n p).take i) g) (none, chL h c N (l ++ tx f n p) g) := by
  have hlen := tx_len f n p
  intro m
  induction m with
  | zero =>
    intro i him
    refine zr_iload i_Mess_copyText_9 rfl ?_
    refine zr_iload_n i_Mess_copyText_11 rfl ?_
    refine zn_icmp_ge 34 i_Mess_copyText_12 (by decide) (by omega) (by omega) (fun c_12 => ?_) (fun q => absurd q (by omega))
    exact zR.retE i_Mess_copyText_34 rfl (by rw [List.take_of_length_le (by omega)])
  | succ m ih =>
    intro i him
    have htc := tc_tx (f := f) (n := n) (p := p) (i := i) (by show i < (tx f n p).length; omega)
    have hn2 := ih (i + 1) (by omega)
    have ht : (tx f n p).take (i + 1) = (tx f n p).take i ++ [f (p + i)] := by
      rw [List.take_succ_eq_append_getElem (by omega)]
      have := htc.1
      rw [show tc (txo f n (some p)) i = (tx f n p).getD i 0 from rfl, List.getD_eq_getElem?_getD, List.getElem?_eq_getElem (by omega), Option.getD_some] at this
      rw [this]
    rw [ht, ← List.append_assoc] at hn2
    refine zr_iload i_Mess_copyText_9 rfl ?_
    refine zr_iload_n i_Mess_copyText_11 rfl ?_
    refine zn_icmp_ge 34 i_Mess_copyText_12 (by decide) (by omega) (by omega) (fun q => absurd q (by omega)) (fun c_12 => ?_)
    refine zr_aload_n i_Mess_copyText_15 rfl ?_
    refine zr_aload_n i_Mess_copyText_16 rfl ?_
    refine zr_getf i_Mess_copyText_17 ((chS_ne hd.1 hd.2.1).trans hM.1) rfl rfl ?_
    refine zr_iload_n i_Mess_copyText_20 rfl ?_
    refine zr_iload i_Mess_copyText_21 rfl ?_
    refine zn_iadd i_Mess_copyText_23 ?_
    refine zn_iaload i_Mess_copyText_24 ((chS_ne hd.2.2.1 hd.2.2.2.1).trans hM.2.1) (by omega) (by decide) ?_
    refine zr_cv10 i_Mess_copyText_25 rfl (by decide) (zrcv_of chS_o) (Nat.le_of_ble_eq_true rfl) (Nat.le_of_ble_eq_true rfl) (e1_Chars_put X _ h c N (l ++ (tx f n p).take i) g hN (f (p + i)) (hz _ htc.2.2 htc.2.1)) ?_
    refine zn_iinc i_Mess_copyText_28 rfl rfl ?_
    refine zr_goto 9 i_Mess_copyText_31 (by decide) ?_
    exact hn2
theorem e_Mess_copyText (X : zX) (d : Nat) (h : zH) (a : Nat) (f : Nat → Int32) (n : Nat) (st : Nat → Int32) (k : Nat) (hM : isM h a f n st k) (hn : n ≤ 200) (c N : Nat) (hN : N ≤ 700) (hd : a ≠ c ∧ a ≠ c + 1 ∧ a + 3 ≠ c ∧ a + 3 ≠ c + 1 ∧ a + 4 ≠ c ∧ a + 4 ≠ c + 1) (hz : ∀ i, i < n → f i < 256 → zch (f i)) (l : List Int32) (g : Nat → Int32) (o : Option Nat) (ho : ∀ p, o = some p → p ≤ n) : zR X (d + 1) 85 0 (zent 5 [.ref a, .int (tI o), .ref c]) [] (chL h c N l g) (none, chL h c N (l ++ (txo f n o).getD []) g) := by
  have hM2 : isM (chL h c N l g) a f n st k := ⟨(chS_ne hd.1 hd.2.1).trans hM.1, (chS_ne hd.2.2.1 hd.2.2.2.1).trans hM.2.1, (chS_ne hd.2.2.2.2.1 hd.2.2.2.2.2).trans hM.2.2⟩
  have htl := e_Mess_textLength X d (chL h c N l g) a f n st k hM2 hn o ho
  cases o with
  | none =>
    rw [show (txo f n none).getD [] = [] from rfl, List.append_nil]
    have hll : tl (txo f n none) = 0 := rfl
    refine zr_aload_n i_Mess_copyText_0 rfl ?_
    refine zr_iload_n i_Mess_copyText_1 rfl ?_
    refine zr_cv1 i_Mess_copyText_2 rfl (by decide) (zrcv_of ((chS_ne hd.1 hd.2.1).trans hM.1)) (Nat.le_of_ble_eq_true rfl) (Nat.le_of_ble_eq_true rfl) (htl) ?_
    refine zr_istore_n i_Mess_copyText_5 rfl ?_
    refine zn_iconst 0 i_Mess_copyText_6 (by decide) ?_
    refine zr_istore i_Mess_copyText_7 rfl ?_
    refine zr_iload i_Mess_copyText_9 rfl ?_
    refine zr_iload_n i_Mess_copyText_11 rfl ?_
    refine zn_icmp_ge 34 i_Mess_copyText_12 (by decide) (by omega) (by omega) (fun c_12 => ?_) (fun q => absurd q (fun z => absurd z (Nat.not_lt_zero _)))
    exact zR.retE i_Mess_copyText_34 rfl rfl
  | some p =>
    have hl := l_Mess_copyText X d h a f n st k hM hn c N hN hd hz l g p (tx f n p).length 0 (by omega)
    rw [List.take_zero, List.append_nil] at hl
    have htl2 : zR X d 79 0 (zent 3 [.ref a, .int (nI p)]) [] (chL h c N l g) (some (.int (nI (tx f n p).length)), chL h c N l g) := htl
    show zR X (d + 1) 85 0 (zent 5 [.ref a, .int (nI p), .ref c]) [] (chL h c N l g) (none, chL h c N (l ++ tx f n p) g)
    refine zr_aload_n i_Mess_copyText_0 rfl ?_
    refine zr_iload_n i_Mess_copyText_1 rfl ?_
    refine zr_cv1 i_Mess_copyText_2 rfl (by decide) (zrcv_of ((chS_ne hd.1 hd.2.1).trans hM.1)) (Nat.le_of_ble_eq_true rfl) (Nat.le_of_ble_eq_true rfl) (htl2) ?_
    refine zr_istore_n i_Mess_copyText_5 rfl ?_
    refine zn_iconst 0 i_Mess_copyText_6 (by decide) ?_
    refine zr_istore i_Mess_copyText_7 rfl ?_
    exact hl
theorem i_Mess_number_0 : zins 83 0 = some (.aload_n 0) := by decide +kernel
theorem i_Mess_number_1 : zins 83 1 = some (.iload_n 1) := by decide +kernel
theorem i_Mess_number_2 : zins 83 2 = some (.invokevirtual 42) := by decide +kernel
theorem i_Mess_number_5 : zins 83 5 = some (.istore_n 3) := by decide +kernel
theorem i_Mess_number_6 : zins 83 6 = some (.iload_n 3) := by decide +kernel
theorem i_Mess_number_7 : zins 83 7 = some (.iconst 1) := by decide +kernel
theorem i_Mess_number_8 : zins 83 8 = some (.if_icmp .lt 8) := by decide +kernel
theorem i_Mess_number_11 : zins 83 11 = some (.iload_n 3) := by decide +kernel
theorem i_Mess_number_12 : zins 83 12 = some (.iload_n 2) := by decide +kernel
theorem i_Mess_number_13 : zins 83 13 = some (.if_icmp .le 5) := by decide +kernel
theorem i_Mess_number_16 : zins 83 16 = some (.iconst (-1)) := by decide +kernel
theorem i_Mess_number_17 : zins 83 17 = some (.ireturn) := by decide +kernel
theorem i_Mess_number_18 : zins 83 18 = some (.iconst 0) := by decide +kernel
theorem i_Mess_number_19 : zins 83 19 = some (.istore 4) := by decide +kernel
theorem i_Mess_number_21 : zins 83 21 = some (.iconst 0) := by decide +kernel
theorem i_Mess_number_22 : zins 83 22 = some (.istore 5) := by decide +kernel
theorem i_Mess_number_24 : zins 83 24 = some (.iload 5) := by decide +kernel
theorem i_Mess_number_26 : zins 83 26 = some (.iload_n 3) := by decide +kernel
theorem i_Mess_number_27 : zins 83 27 = some (.if_icmp .ge 43) := by decide +kernel
theorem i_Mess_number_30 : zins 83 30 = some (.aload_n 0) := by decide +kernel
theorem i_Mess_number_31 : zins 83 31 = some (.getfield 18) := by decide +kernel
theorem i_Mess_number_34 : zins 83 34 = some (.iload_n 1) := by decide +kernel
theorem i_Mess_number_35 : zins 83 35 = some (.iload 5) := by decide +kernel
theorem i_Mess_number_37 : zins 83 37 = some (.iadd) := by decide +kernel
theorem i_Mess_number_38 : zins 83 38 = some (.iaload) := by decide +kernel
theorem i_Mess_number_39 : zins 83 39 = some (.istore 6) := by decide +kernel
theorem i_Mess_number_41 : zins 83 41 = some (.iload 6) := by decide +kernel
theorem i_Mess_number_43 : zins 83 43 = some (.invokestatic 60) := by decide +kernel
theorem i_Mess_number_46 : zins 83 46 = some (.ifCond .ne 5) := by decide +kernel
theorem i_Mess_number_49 : zins 83 49 = some (.iconst (-1)) := by decide +kernel
theorem i_Mess_number_50 : zins 83 50 = some (.ireturn) := by decide +kernel
theorem i_Mess_number_51 : zins 83 51 = some (.bipush 10) := by decide +kernel
theorem i_Mess_number_53 : zins 83 53 = some (.iload 4) := by decide +kernel
theorem i_Mess_number_55 : zins 83 55 = some (.imul) := by decide +kernel
theorem i_Mess_number_56 : zins 83 56 = some (.iload 6) := by decide +kernel
theorem i_Mess_number_58 : zins 83 58 = some (.iadd) := by decide +kernel
theorem i_Mess_number_59 : zins 83 59 = some (.bipush 48) := by decide +kernel
theorem i_Mess_number_61 : zins 83 61 = some (.isub) := by decide +kernel
theorem i_Mess_number_62 : zins 83 62 = some (.istore 4) := by decide +kernel
theorem i_Mess_number_64 : zins 83 64 = some (.iinc 5 1) := by decide +kernel
theorem i_Mess_number_67 : zins 83 67 = some (.goto (-43)) := by decide +kernel
theorem i_Mess_number_70 : zins 83 70 = some (.iload 4) := by decide +kernel
theorem i_Mess_number_72 : zins 83 72 = some (.ireturn) := by decide +kernel
theorem l_Mess_number (X : zX) (d : Nat) (h : zH) (a : Nat) (f : Nat → Int32) (n : Nat) (st : Nat → Int32) (k : Nat) (hM : isM h a f n st k) (hn : n ≤ 200) (p most : Nat) : ∀ (m i : Nat) (v : Int32) (x : Option Value), i + m = tl (txo f n (some p)) → zR X (d + 1) 83 24 [some (.ref a), some (.int (nI p)), some (.int (nI most)), some (.int (nI (tl (txo f n (some p))))), some (.int v), some (.int (nI i)), x] [] h (some (.int (vnumL (txo f n (some p)) i m v)), h) := by
  have hll := tl_txo f n (some p)
  intro m
  induction m with
  | zero =>
    intro i v x him
    refine zr_iload i_Mess_number_24 rfl ?_
    refine zr_iload_n i_Mess_number_26 rfl ?_
    refine zn_icmp_ge 70 i_Mess_number_27 (by decide) (by omega) (by omega) (fun c_27 => ?_) (fun q => absurd q (by omega))
    refine zr_iload i_Mess_number_70 rfl ?_
    exact zR.retE i_Mess_number_72 rfl (by rw [vnumL])
  | succ m ih =>
    intro i v x him
    have htc := tc_tx (f := f) (n := n) (p := p) (i := i) (by omega)
    rw [vnumL, htc.1]
    cases hdg : zdig (f (p + i)) with
    | true =>
      rw [if_pos rfl]
      refine zr_iload i_Mess_number_24 rfl ?_
      refine zr_iload_n i_Mess_number_26 rfl ?_
      refine zn_icmp_ge 70 i_Mess_number_27 (by decide) (by omega) (by omega) (fun q => absurd q (by omega)) (fun c_27 => ?_)
      refine zr_aload_n i_Mess_number_30 rfl ?_
      refine zr_getf i_Mess_number_31 hM.1 rfl rfl ?_
      refine zr_iload_n i_Mess_number_34 rfl ?_
      refine zr_iload i_Mess_number_35 rfl ?_
      refine zn_iadd i_Mess_number_37 ?_
      refine zn_iaload i_Mess_number_38 hM.2.1 (by omega) (by decide) ?_
      refine zr_istore i_Mess_number_39 rfl ?_
      refine zr_iload i_Mess_number_41 rfl ?_
      refine zr_cs1 i_Mess_number_43 rfl (by decide) (Nat.le_of_ble_eq_true rfl) (Nat.le_of_ble_eq_true rfl) (e1_B_isDigit X _ _ _) ?_
      refine zB_if_ne 51 i_Mess_number_46 (by decide) (fun _ => ?_) (fun q => absurd q (by rw [hdg]; decide))
      refine zr_bipush i_Mess_number_51 (v := 10) (by decide) ?_
      refine zr_iload i_Mess_number_53 rfl ?_
      refine zr_imul i_Mess_number_55 ?_
      refine zr_iload i_Mess_number_56 rfl ?_
      refine zr_iadd i_Mess_number_58 ?_
      refine zr_bipush i_Mess_number_59 (v := 48) (by decide) ?_
      refine zr_isub i_Mess_number_61 ?_
      refine zr_istore i_Mess_number_62 rfl ?_
      refine zn_iinc i_Mess_number_64 rfl rfl ?_
      refine zr_goto 24 i_Mess_number_67 (by decide) ?_
      exact ih (i + 1) _ _ (by omega)
    | false =>
      rw [if_neg (by decide)]
      refine zr_iload i_Mess_number_24 rfl ?_
      refine zr_iload_n i_Mess_number_26 rfl ?_
      refine zn_icmp_ge 70 i_Mess_number_27 (by decide) (by omega) (by omega) (fun q => absurd q (by omega)) (fun c_27 => ?_)
      refine zr_aload_n i_Mess_number_30 rfl ?_
      refine zr_getf i_Mess_number_31 hM.1 rfl rfl ?_
      refine zr_iload_n i_Mess_number_34 rfl ?_
      refine zr_iload i_Mess_number_35 rfl ?_
      refine zn_iadd i_Mess_number_37 ?_
      refine zn_iaload i_Mess_number_38 hM.2.1 (by omega) (by decide) ?_
      refine zr_istore i_Mess_number_39 rfl ?_
      refine zr_iload i_Mess_number_41 rfl ?_
      refine zr_cs1 i_Mess_number_43 rfl (by decide) (Nat.le_of_ble_eq_true rfl) (Nat.le_of_ble_eq_true rfl) (e1_B_isDigit X _ _ _) ?_
      refine zB_if_ne 51 i_Mess_number_46 (by decide) (fun q => absurd q (by rw [hdg]; decide)) (fun _ => ?_)
      refine zr_iconst i_Mess_number_49 (v := (-1)) (by decide) ?_
      exact zR.retE i_Mess_number_50 rfl rfl
theorem e_Mess_number (X : zX) (d : Nat) (h : zH) (a : Nat) (f : Nat → Int32) (n : Nat) (st : Nat → Int32) (k : Nat) (hM : isM h a f n st k) (hn : n ≤ 200) (o : Option Nat) (ho : ∀ p, o = some p → p ≤ n) (most : Nat) (hm : most < 100) : zR X (d + 1) 83 0 (zent 7 [.ref a, .int (tI o), .int (nI most)]) [] h (some (.int (vnum (txo f n o) most)), h) := by
  have htl := e_Mess_textLength X d h a f n st k hM hn o ho
  have hll := tl_txo f n o
  unfold vnum
  by_cases h1 : tl (txo f n o) < 1
  · rw [if_neg (by omega)]
    refine zr_aload_n i_Mess_number_0 rfl ?_
    refine zr_iload_n i_Mess_number_1 rfl ?_
    refine zr_cv1 i_Mess_number_2 rfl (by decide) (zrcv_of hM.1) (Nat.le_of_ble_eq_true rfl) (Nat.le_of_ble_eq_true rfl) (htl) ?_
    refine zr_istore_n i_Mess_number_5 rfl ?_
    refine zr_iload_n i_Mess_number_6 rfl ?_
    refine zn_iconst 1 i_Mess_number_7 (by decide) ?_
    refine zn_icmp_lt 16 i_Mess_number_8 (by decide) (by omega) (by omega) (fun c_8 => ?_) (fun q => absurd q (by omega))
    refine zr_iconst i_Mess_number_16 (v := (-1)) (by decide) ?_
    exact zR.retE i_Mess_number_17 rfl rfl
  · by_cases h2 : tl (txo f n o) ≤ most
    · rw [if_pos ⟨by omega, h2⟩]
      cases o with
      | none => exact absurd (Nat.zero_lt_one) h1
      | some p =>
        have hl := l_Mess_number X d h a f n st k hM hn p most (tl (txo f n (some p))) 0 0 none (by omega)
        show zR X (d + 1) 83 0 (zent 7 [.ref a, .int (nI p), .int (nI most)]) [] h _
        refine zr_aload_n i_Mess_number_0 rfl ?_
        refine zr_iload_n i_Mess_number_1 rfl ?_
        refine zr_cv1 i_Mess_number_2 rfl (by decide) (zrcv_of hM.1) (Nat.le_of_ble_eq_true rfl) (Nat.le_of_ble_eq_true rfl) (htl) ?_
        refine zr_istore_n i_Mess_number_5 rfl ?_
        refine zr_iload_n i_Mess_number_6 rfl ?_
        refine zn_iconst 1 i_Mess_number_7 (by decide) ?_
        refine zn_icmp_lt 16 i_Mess_number_8 (by decide) (by omega) (by omega) (fun q => absurd q (by omega)) (fun c_8 => ?_)
        refine zr_iload_n i_Mess_number_11 rfl ?_
        refine zr_iload_n i_Mess_number_12 rfl ?_
        refine zn_icmp_le 18 i_Mess_number_13 (by decide) (by omega) (by omega) (fun c_13 => ?_) (fun q => absurd q (by omega))
        refine zr_iconst i_Mess_number_18 (v := 0) (by decide) ?_
        refine zr_istore i_Mess_number_19 rfl ?_
        refine zn_iconst 0 i_Mess_number_21 (by decide) ?_
        refine zr_istore i_Mess_number_22 rfl ?_
        exact hl
    · rw [if_neg (by omega)]
      refine zr_aload_n i_Mess_number_0 rfl ?_
      refine zr_iload_n i_Mess_number_1 rfl ?_
      refine zr_cv1 i_Mess_number_2 rfl (by decide) (zrcv_of hM.1) (Nat.le_of_ble_eq_true rfl) (Nat.le_of_ble_eq_true rfl) (htl) ?_
      refine zr_istore_n i_Mess_number_5 rfl ?_
      refine zr_iload_n i_Mess_number_6 rfl ?_
      refine zn_iconst 1 i_Mess_number_7 (by decide) ?_
      refine zn_icmp_lt 16 i_Mess_number_8 (by decide) (by omega) (by omega) (fun q => absurd q (by omega)) (fun c_8 => ?_)
      refine zr_iload_n i_Mess_number_11 rfl ?_
      refine zr_iload_n i_Mess_number_12 rfl ?_
      refine zn_icmp_le 18 i_Mess_number_13 (by decide) (by omega) (by omega) (fun q => absurd q (by omega)) (fun c_13 => ?_)
      refine zr_iconst i_Mess_number_16 (v := (-1)) (by decide) ?_
      exact zR.retE i_Mess_number_17 rfl rfl
