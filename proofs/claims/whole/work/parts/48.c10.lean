/-! THE CLASS: words -/
def sayL (t : zT) (w : List Int32) (i m : Nat) : Bool := match m with
  | 0 => true
  | m + 1 => if tc t i = w.getD i 0 then sayL t w (i + 1) m else false
def sayF (t : zT) (w : List Int32) : Bool := if tl t = w.length then sayL t w 0 w.length else false
theorem say3 (t : zT) (a b c : Int32) : sayF t [a, b, c] = vis t a b c := by
  unfold sayF vis
  show (if tl t = 3 then sayL t [a, b, c] 0 3 else false) = _
  by_cases h : tl t = 3
  · rw [if_pos h, decide_eq_true h]
    simp only [sayL, Nat.zero_add, Nat.reduceAdd, Bool.true_and]
    by_cases h0 : tc t 0 = a <;> by_cases h1 : tc t 1 = b <;> by_cases h2 : tc t 2 = c <;> simp [h0, h1, h2]
  · rw [if_neg h, decide_eq_false h]; rfl
theorem say2 (t : zT) : sayF t [34, 34] = vnull t := by
  unfold sayF vnull
  show (if tl t = 2 then sayL t [34, 34] 0 2 else false) = _
  by_cases h : tl t = 2
  · rw [if_pos h, decide_eq_true h]
    simp only [sayL, Nat.zero_add, Nat.reduceAdd, Bool.true_and]
    by_cases h0 : tc t 0 = 34 <;> by_cases h1 : tc t 1 = 34 <;> simp [h0, h1]
  · rw [if_neg h, decide_eq_false h]; rfl
def bwL (F : Nat → Int32) (n : Nat) (w : List Int32) (i m : Nat) : Bool := match m with
  | 0 => true
  | m + 1 => if getF F n (nI i) = w.getD i 0 then bwL F n w (i + 1) m else false
theorem i_Chars_putAll_0 : zins 37 0 = some (.iconst 0) := by decide +kernel
theorem i_Chars_putAll_1 : zins 37 1 = some (.istore_n 2) := by decide +kernel
theorem i_Chars_putAll_2 : zins 37 2 = some (.iload_n 2) := by decide +kernel
theorem i_Chars_putAll_3 : zins 37 3 = some (.aload_n 1) := by decide +kernel
theorem i_Chars_putAll_4 : zins 37 4 = some (.invokevirtual 19) := by decide +kernel
theorem i_Chars_putAll_7 : zins 37 7 = some (.if_icmp .ge 18) := by decide +kernel
theorem i_Chars_putAll_10 : zins 37 10 = some (.aload_n 0) := by decide +kernel
theorem i_Chars_putAll_11 : zins 37 11 = some (.aload_n 1) := by decide +kernel
theorem i_Chars_putAll_12 : zins 37 12 = some (.iload_n 2) := by decide +kernel
theorem i_Chars_putAll_13 : zins 37 13 = some (.invokevirtual 24) := by decide +kernel
theorem i_Chars_putAll_16 : zins 37 16 = some (.invokevirtual 28) := by decide +kernel
theorem i_Chars_putAll_19 : zins 37 19 = some (.iinc 2 1) := by decide +kernel
theorem i_Chars_putAll_22 : zins 37 22 = some (.goto (-20)) := by decide +kernel
theorem i_Chars_putAll_25 : zins 37 25 = some (.return_) := by decide +kernel
theorem take_sT {w : List Int32} {i : Nat} (h : i < w.length) : w.take (i + 1) = w.take i ++ [w.getD i 0] := by
  rw [List.take_succ_eq_append_getElem h, List.getD_eq_getElem?_getD, List.getElem?_eq_getElem h]
  rfl
theorem l_Chars_putAll (X : zX) (d : Nat) (hX : X.2.2.category = 1) (h : zH) (hz : zlow h) (a N : Nat) (ha : 100 ≤ a) (hN : N ≤ 700) (l : List Int32) (f : Nat → Int32) (k : Nat) (hk : zsk k) : ∀ (m i : Nat), i + m = (sT k).length → zR X (d + 4) 37 2 [some (.ref a), some (.ref k), some (.int (nI i))] [] (chL h a N (l ++ (sT k).take i) f) (none, chL h a N (l ++ sT k) f) := by
  have hl := (s_len hk).1
  intro m
  induction m with
  | zero =>
    intro i him
    have hzz : zlow (chL h a N (l ++ (sT k).take i) f) := chS_low hz ha
    refine zr_iload_n i_Chars_putAll_2 rfl ?_
    refine zr_aload_n i_Chars_putAll_3 rfl ?_
    refine zr_cv0 i_Chars_putAll_4 rfl (by decide) (zrcv_s hzz hk) (Nat.le_of_ble_eq_true rfl) (Nat.le_of_ble_eq_true rfl) (e_Str_length X _ (chL h a N (l ++ (sT k).take i) f) hzz k hk) ?_
    refine zn_icmp_ge 25 i_Chars_putAll_7 (by decide) (by omega) (by omega) (fun c_7 => ?_) (fun q => absurd q (by omega))
    exact zR.retE i_Chars_putAll_25 rfl (by rw [List.take_of_length_le (by omega)])
  | succ m ih =>
    intro i him
    have hzz : zlow (chL h a N (l ++ (sT k).take i) f) := chS_low hz ha
    have hi : i < (sT k).length := by omega
    have hn2 := ih (i + 1) (by omega)
    rw [take_sT hi, ← List.append_assoc] at hn2
    refine zr_iload_n i_Chars_putAll_2 rfl ?_
    refine zr_aload_n i_Chars_putAll_3 rfl ?_
    refine zr_cv0 i_Chars_putAll_4 rfl (by decide) (zrcv_s hzz hk) (Nat.le_of_ble_eq_true rfl) (Nat.le_of_ble_eq_true rfl) (e_Str_length X _ (chL h a N (l ++ (sT k).take i) f) hzz k hk) ?_
    refine zn_icmp_ge 25 i_Chars_putAll_7 (by decide) (by omega) (by omega) (fun q => absurd q (by omega)) (fun c_7 => ?_)
    refine zr_aload_n i_Chars_putAll_10 rfl ?_
    refine zr_aload_n i_Chars_putAll_11 rfl ?_
    refine zr_iload_n i_Chars_putAll_12 rfl ?_
    refine zr_cv1 i_Chars_putAll_13 rfl (by decide) (zrcv_s hzz hk) (Nat.le_of_ble_eq_true rfl) (Nat.le_of_ble_eq_true rfl) (e_Str_charAt X _ hX (chL h a N (l ++ (sT k).take i) f) hzz k hk i hi) ?_
    refine zr_cv10 i_Chars_putAll_16 rfl (by decide) (zrcv_of chS_o) (Nat.le_of_ble_eq_true rfl) (Nat.le_of_ble_eq_true rfl) (e1_Chars_put X _ h a N (l ++ (sT k).take i) f hN _ (s_zch hk hi)) ?_
    refine zn_iinc i_Chars_putAll_19 rfl rfl ?_
    refine zr_goto 2 i_Chars_putAll_22 (by decide) ?_
    exact hn2
theorem e_Chars_putAll (X : zX) (d : Nat) (hX : X.2.2.category = 1) (h : zH) (hz : zlow h) (a N : Nat) (ha : 100 ≤ a) (hN : N ≤ 700) (l : List Int32) (f : Nat → Int32) (k : Nat) (hk : zsk k) : zR X (d + 4) 37 0 (zent 3 [.ref a, .ref k]) [] (chL h a N l f) (none, chL h a N (l ++ sT k) f) := by
  have hl := l_Chars_putAll X d hX h hz a N ha hN l f k hk (sT k).length 0 (by omega)
  rw [List.take_zero, List.append_nil] at hl
  refine zn_iconst 0 i_Chars_putAll_0 (by decide) ?_
  refine zr_istore_n i_Chars_putAll_1 rfl ?_
  exact hl
theorem i_Chars_beginsWith_0 : zins 35 0 = some (.iconst 0) := by decide +kernel
theorem i_Chars_beginsWith_1 : zins 35 1 = some (.istore_n 2) := by decide +kernel
theorem i_Chars_beginsWith_2 : zins 35 2 = some (.iload_n 2) := by decide +kernel
theorem i_Chars_beginsWith_3 : zins 35 3 = some (.aload_n 1) := by decide +kernel
theorem i_Chars_beginsWith_4 : zins 35 4 = some (.invokevirtual 19) := by decide +kernel
theorem i_Chars_beginsWith_7 : zins 35 7 = some (.if_icmp .ge 24) := by decide +kernel
theorem i_Chars_beginsWith_10 : zins 35 10 = some (.aload_n 0) := by decide +kernel
theorem i_Chars_beginsWith_11 : zins 35 11 = some (.iload_n 2) := by decide +kernel
theorem i_Chars_beginsWith_12 : zins 35 12 = some (.invokevirtual 32) := by decide +kernel
theorem i_Chars_beginsWith_15 : zins 35 15 = some (.aload_n 1) := by decide +kernel
theorem i_Chars_beginsWith_16 : zins 35 16 = some (.iload_n 2) := by decide +kernel
theorem i_Chars_beginsWith_17 : zins 35 17 = some (.invokevirtual 24) := by decide +kernel
theorem i_Chars_beginsWith_20 : zins 35 20 = some (.if_icmp .eq 5) := by decide +kernel
theorem i_Chars_beginsWith_23 : zins 35 23 = some (.iconst 0) := by decide +kernel
theorem i_Chars_beginsWith_24 : zins 35 24 = some (.ireturn) := by decide +kernel
theorem i_Chars_beginsWith_25 : zins 35 25 = some (.iinc 2 1) := by decide +kernel
theorem i_Chars_beginsWith_28 : zins 35 28 = some (.goto (-26)) := by decide +kernel
theorem i_Chars_beginsWith_31 : zins 35 31 = some (.iconst 1) := by decide +kernel
theorem i_Chars_beginsWith_32 : zins 35 32 = some (.ireturn) := by decide +kernel
theorem l_Chars_beginsWith (X : zX) (d : Nat) (hX : X.2.2.category = 1) (h : zH) (hz : zlow h) (a N n : Nat) (f : Nat → Int32) (hc : isCh h a N n f) (hn : n ≤ N) (hN : N ≤ 700) (k : Nat) (hk : zsk k) : ∀ (m i : Nat), i + m = (sT k).length → zR X (d + 4) 35 2 [some (.ref a), some (.ref k), some (.int (nI i))] [] h (some (.int (zb (bwL f n (sT k) i m))), h) := by
  have hl := (s_len hk).1
  intro m
  induction m with
  | zero =>
    intro i him
    refine zr_iload_n i_Chars_beginsWith_2 rfl ?_
    refine zr_aload_n i_Chars_beginsWith_3 rfl ?_
    refine zr_cv0 i_Chars_beginsWith_4 rfl (by decide) (zrcv_s hz hk) (Nat.le_of_ble_eq_true rfl) (Nat.le_of_ble_eq_true rfl) (e_Str_length X _ h hz k hk) ?_
    refine zn_icmp_ge 31 i_Chars_beginsWith_7 (by decide) (by omega) (by omega) (fun c_7 => ?_) (fun q => absurd q (by omega))
    refine zr_iconst i_Chars_beginsWith_31 (v := 1) (by decide) ?_
    exact zR.retE i_Chars_beginsWith_32 rfl rfl
  | succ m ih =>
    intro i him
    have hi : i < (sT k).length := by omega
    rw [bwL]
    by_cases he : getF f n (nI i) = (sT k).getD i 0
    · rw [if_pos he]
      refine zr_iload_n i_Chars_beginsWith_2 rfl ?_
      refine zr_aload_n i_Chars_beginsWith_3 rfl ?_
      refine zr_cv0 i_Chars_beginsWith_4 rfl (by decide) (zrcv_s hz hk) (Nat.le_of_ble_eq_true rfl) (Nat.le_of_ble_eq_true rfl) (e_Str_length X _ h hz k hk) ?_
      refine zn_icmp_ge 31 i_Chars_beginsWith_7 (by decide) (by omega) (by omega) (fun q => absurd q (by omega)) (fun c_7 => ?_)
      refine zr_aload_n i_Chars_beginsWith_10 rfl ?_
      refine zr_iload_n i_Chars_beginsWith_11 rfl ?_
      refine zr_cv1 i_Chars_beginsWith_12 rfl (by decide) (zrcv_of hc.1) (Nat.le_of_ble_eq_true rfl) (Nat.le_of_ble_eq_true rfl) (e_Chars_at X _ h a N n f hc hn hN (nI i)) ?_
      refine zr_aload_n i_Chars_beginsWith_15 rfl ?_
      refine zr_iload_n i_Chars_beginsWith_16 rfl ?_
      refine zr_cv1 i_Chars_beginsWith_17 rfl (by decide) (zrcv_s hz hk) (Nat.le_of_ble_eq_true rfl) (Nat.le_of_ble_eq_true rfl) (e_Str_charAt X _ hX h hz k hk i hi) ?_
      refine zr_icmp_eq 25 i_Chars_beginsWith_20 (by decide) (fun c_20 => ?_) (fun q => absurd he q)
      refine zn_iinc i_Chars_beginsWith_25 rfl rfl ?_
      refine zr_goto 2 i_Chars_beginsWith_28 (by decide) ?_
      exact ih (i + 1) (by omega)
    · rw [if_neg he]
      refine zr_iload_n i_Chars_beginsWith_2 rfl ?_
      refine zr_aload_n i_Chars_beginsWith_3 rfl ?_
      refine zr_cv0 i_Chars_beginsWith_4 rfl (by decide) (zrcv_s hz hk) (Nat.le_of_ble_eq_true rfl) (Nat.le_of_ble_eq_true rfl) (e_Str_length X _ h hz k hk) ?_
      refine zn_icmp_ge 31 i_Chars_beginsWith_7 (by decide) (by omega) (by omega) (fun q => absurd q (by omega)) (fun c_7 => ?_)
      refine zr_aload_n i_Chars_beginsWith_10 rfl ?_
      refine zr_iload_n i_Chars_beginsWith_11 rfl ?_
      refine zr_cv1 i_Chars_beginsWith_12 rfl (by decide) (zrcv_of hc.1) (Nat.le_of_ble_eq_true rfl) (Nat.le_of_ble_eq_true rfl) (e_Chars_at X _ h a N n f hc hn hN (nI i)) ?_
      refine zr_aload_n i_Chars_beginsWith_15 rfl ?_
      refine zr_iload_n i_Chars_beginsWith_16 rfl ?_
      refine zr_cv1 i_Chars_beginsWith_17 rfl (by decide) (zrcv_s hz hk) (Nat.le_of_ble_eq_true rfl) (Nat.le_of_ble_eq_true rfl) (e_Str_charAt X _ hX h hz k hk i hi) ?_
      refine zr_icmp_eq 25 i_Chars_beginsWith_20 (by decide) (fun q => absurd q he) (fun c_20 => ?_)
      refine zr_iconst i_Chars_beginsWith_23 (v := 0) (by decide) ?_
      exact zR.retE i_Chars_beginsWith_24 rfl rfl
theorem e_Chars_beginsWith (X : zX) (d : Nat) (hX : X.2.2.category = 1) (h : zH) (hz : zlow h) (a N n : Nat) (f : Nat → Int32) (hc : isCh h a N n f) (hn : n ≤ N) (hN : N ≤ 700) (k : Nat) (hk : zsk k) : zR X (d + 4) 35 0 (zent 3 [.ref a, .ref k]) [] h (some (.int (zb (bwL f n (sT k) 0 (sT k).length))), h) := by
  refine zn_iconst 0 i_Chars_beginsWith_0 (by decide) ?_
  refine zr_istore_n i_Chars_beginsWith_1 rfl ?_
  exact l_Chars_beginsWith X d hX h hz a N n f hc hn hN k hk (sT k).length 0 (by omega)
theorem bw_head (F : Nat → Int32) (n : Nat) (hn : n ≤ 200) : bwL F n (sT 1) 0 (sT 1).length = headF F n := by
  have g : ∀ i, i < 3 → getF F n (nI i) = if i < n then F i else -1 := by
    intro i hi
    split
    · rename_i h; exact getF_in h (by omega)
    · rename_i h; exact getF_ge (nI_le (by omega) (by omega))
  unfold headF
  simp only [bwL, sT, zbyt, List.length_cons, List.length_nil, Nat.zero_add, Nat.reduceAdd, g 0 (by decide), g 1 (by decide), g 2 (by decide)]
  by_cases h3 : 3 ≤ n
  · simp only [show 0 < n by omega, show 1 < n by omega, show 2 < n by omega, if_true, h3, decide_true, Bool.true_and]
    by_cases h0 : F 0 = 72 <;> by_cases h1 : F 1 = 68 <;> by_cases h2 : F 2 = 82 <;> simp [h0, h1, h2]
  · rw [decide_eq_false h3, Bool.false_and]
    have h2n : ¬ 2 < n := by omega
    simp only [h2n, if_false]
    by_cases h0 : (if 0 < n then F 0 else -1) = 72 <;> by_cases h1 : (if 1 < n then F 1 else -1) = 68 <;> simp [h0, h1]
theorem i_Mess_says_0 : zins 81 0 = some (.aload_n 0) := by decide +kernel
theorem i_Mess_says_1 : zins 81 1 = some (.iload_n 1) := by decide +kernel
theorem i_Mess_says_2 : zins 81 2 = some (.invokevirtual 42) := by decide +kernel
theorem i_Mess_says_5 : zins 81 5 = some (.aload_n 2) := by decide +kernel
theorem i_Mess_says_6 : zins 81 6 = some (.invokevirtual 46) := by decide +kernel
theorem i_Mess_says_9 : zins 81 9 = some (.if_icmp .eq 5) := by decide +kernel
theorem i_Mess_says_12 : zins 81 12 = some (.iconst 0) := by decide +kernel
theorem i_Mess_says_13 : zins 81 13 = some (.ireturn) := by decide +kernel
theorem i_Mess_says_14 : zins 81 14 = some (.iconst 0) := by decide +kernel
theorem i_Mess_says_15 : zins 81 15 = some (.istore_n 3) := by decide +kernel
theorem i_Mess_says_16 : zins 81 16 = some (.iload_n 3) := by decide +kernel
theorem i_Mess_says_17 : zins 81 17 = some (.aload_n 2) := by decide +kernel
theorem i_Mess_says_18 : zins 81 18 = some (.invokevirtual 46) := by decide +kernel
theorem i_Mess_says_21 : zins 81 21 = some (.if_icmp .ge 27) := by decide +kernel
theorem i_Mess_says_24 : zins 81 24 = some (.aload_n 0) := by decide +kernel
theorem i_Mess_says_25 : zins 81 25 = some (.getfield 18) := by decide +kernel
theorem i_Mess_says_28 : zins 81 28 = some (.iload_n 1) := by decide +kernel
theorem i_Mess_says_29 : zins 81 29 = some (.iload_n 3) := by decide +kernel
theorem i_Mess_says_30 : zins 81 30 = some (.iadd) := by decide +kernel
theorem i_Mess_says_31 : zins 81 31 = some (.iaload) := by decide +kernel
theorem i_Mess_says_32 : zins 81 32 = some (.aload_n 2) := by decide +kernel
theorem i_Mess_says_33 : zins 81 33 = some (.iload_n 3) := by decide +kernel
theorem i_Mess_says_34 : zins 81 34 = some (.invokevirtual 51) := by decide +kernel
theorem i_Mess_says_37 : zins 81 37 = some (.if_icmp .eq 5) := by decide +kernel
theorem i_Mess_says_40 : zins 81 40 = some (.iconst 0) := by decide +kernel
theorem i_Mess_says_41 : zins 81 41 = some (.ireturn) := by decide +kernel
theorem i_Mess_says_42 : zins 81 42 = some (.iinc 3 1) := by decide +kernel
theorem i_Mess_says_45 : zins 81 45 = some (.goto (-29)) := by decide +kernel
theorem i_Mess_says_48 : zins 81 48 = some (.iconst 1) := by decide +kernel
theorem i_Mess_says_49 : zins 81 49 = some (.ireturn) := by decide +kernel
theorem l_Mess_says (X : zX) (d : Nat) (hX : X.2.2.category = 1) (h : zH) (hz : zlow h) (a : Nat) (f : Nat → Int32) (n : Nat) (st : Nat → Int32) (cn : Nat) (hM : isM h a f n st cn) (hn : n ≤ 200) (k : Nat) (hk : zsk k) (p : Nat) (he : tl (txo f n (some p)) = (sT k).length) : ∀ (m i : Nat), i + m = (sT k).length → zR X (d + 4) 81 16 [some (.ref a), some (.int (nI p)), some (.ref k), some (.int (nI i))] [] h (some (.int (zb (sayL (txo f n (some p)) (sT k) i m))), h) := by
  have hl := (s_len hk).1
  intro m
  induction m with
  | zero =>
    intro i him
    refine zr_iload_n i_Mess_says_16 rfl ?_
    refine zr_aload_n i_Mess_says_17 rfl ?_
    refine zr_cv0 i_Mess_says_18 rfl (by decide) (zrcv_s hz hk) (Nat.le_of_ble_eq_true rfl) (Nat.le_of_ble_eq_true rfl) (e_Str_length X _ h hz k hk) ?_
    refine zn_icmp_ge 48 i_Mess_says_21 (by decide) (by omega) (by omega) (fun c_21 => ?_) (fun q => absurd q (by omega))
    refine zr_iconst i_Mess_says_48 (v := 1) (by decide) ?_
    exact zR.retE i_Mess_says_49 rfl rfl
  | succ m ih =>
    intro i him
    have hi : i < (sT k).length := by omega
    have htc := tc_tx (f := f) (n := n) (p := p) (i := i) (by omega)
    rw [sayL, htc.1]
    by_cases he : f (p + i) = (sT k).getD i 0
    · rw [if_pos he]
      refine zr_iload_n i_Mess_says_16 rfl ?_
      refine zr_aload_n i_Mess_says_17 rfl ?_
      refine zr_cv0 i_Mess_says_18 rfl (by decide) (zrcv_s hz hk) (Nat.le_of_ble_eq_true rfl) (Nat.le_of_ble_eq_true rfl) (e_Str_length X _ h hz k hk) ?_
      refine zn_icmp_ge 48 i_Mess_says_21 (by decide) (by omega) (by omega) (fun q => absurd q (by omega)) (fun c_21 => ?_)
      refine zr_aload_n i_Mess_says_24 rfl ?_
      refine zr_getf i_Mess_says_25 hM.1 rfl rfl ?_
      refine zr_iload_n i_Mess_says_28 rfl ?_
      refine zr_iload_n i_Mess_says_29 rfl ?_
      refine zn_iadd i_Mess_says_30 ?_
      refine zn_iaload i_Mess_says_31 hM.2.1 (by omega) (by decide) ?_
      refine zr_aload_n i_Mess_says_32 rfl ?_
      refine zr_iload_n i_Mess_says_33 rfl ?_
      refine zr_cv1 i_Mess_says_34 rfl (by decide) (zrcv_s hz hk) (Nat.le_of_ble_eq_true rfl) (Nat.le_of_ble_eq_true rfl) (e_Str_charAt X _ hX h hz k hk i hi) ?_
      refine zr_icmp_eq 42 i_Mess_says_37 (by decide) (fun c_37 => ?_) (fun q => absurd he q)
      refine zn_iinc i_Mess_says_42 rfl rfl ?_
      refine zr_goto 16 i_Mess_says_45 (by decide) ?_
      exact ih (i + 1) (by omega)
    · rw [if_neg he]
      refine zr_iload_n i_Mess_says_16 rfl ?_
      refine zr_aload_n i_Mess_says_17 rfl ?_
      refine zr_cv0 i_Mess_says_18 rfl (by decide) (zrcv_s hz hk) (Nat.le_of_ble_eq_true rfl) (Nat.le_of_ble_eq_true rfl) (e_Str_length X _ h hz k hk) ?_
      refine zn_icmp_ge 48 i_Mess_says_21 (by decide) (by omega) (by omega) (fun q => absurd q (by omega)) (fun c_21 => ?_)
      refine zr_aload_n i_Mess_says_24 rfl ?_
      refine zr_getf i_Mess_says_25 hM.1 rfl rfl ?_
      refine zr_iload_n i_Mess_says_28 rfl ?_
      refine zr_iload_n i_Mess_says_29 rfl ?_
      refine zn_iadd i_Mess_says_30 ?_
      refine zn_iaload i_Mess_says_31 hM.2.1 (by omega) (by decide) ?_
      refine zr_aload_n i_Mess_says_32 rfl ?_
      refine zr_iload_n i_Mess_says_33 rfl ?_
      refine zr_cv1 i_Mess_says_34 rfl (by decide) (zrcv_s hz hk) (Nat.le_of_ble_eq_true rfl) (Nat.le_of_ble_eq_true rfl) (e_Str_charAt X _ hX h hz k hk i hi) ?_
      refine zr_icmp_eq 42 i_Mess_says_37 (by decide) (fun q => absurd q he) (fun c_37 => ?_)
      refine zr_iconst i_Mess_says_40 (v := 0) (by decide) ?_
      exact zR.retE i_Mess_says_41 rfl rfl
theorem e_Mess_says (X : zX) (d : Nat) (hX : X.2.2.category = 1) (h : zH) (hz : zlow h) (a : Nat) (f : Nat → Int32) (n : Nat) (st : Nat → Int32) (cn : Nat) (hM : isM h a f n st cn) (hn : n ≤ 200) (k : Nat) (hk : zsk k) (hk0 : 0 < (sT k).length) (o : Option Nat) (ho : ∀ p, o = some p → p ≤ n) : zR X (d + 4) 81 0 (zent 4 [.ref a, .int (tI o), .ref k]) [] h (some (.int (zb (sayF (txo f n o) (sT k)))), h) := by
  have htl := e_Mess_textLength X (d + 3) h a f n st cn hM hn o ho
  have hl := (s_len hk).1
  have hll := tl_txo f n o
  unfold sayF
  by_cases he : tl (txo f n o) = (sT k).length
  · rw [if_pos he]
    cases o with
    | none => exact absurd (show 0 = (sT k).length from he) (by omega)
    | some p =>
      have hlo := l_Mess_says X d hX h hz a f n st cn hM hn k hk p he (sT k).length 0 (by omega)
      have htl2 : zR X (d + 3) 79 0 (zent 3 [.ref a, .int (nI p)]) [] h (some (.int (nI (tl (txo f n (some p))))), h) := htl
      show zR X (d + 4) 81 0 (zent 4 [.ref a, .int (nI p), .ref k]) [] h _
      refine zr_aload_n i_Mess_says_0 rfl ?_
      refine zr_iload_n i_Mess_says_1 rfl ?_
      refine zr_cv1 i_Mess_says_2 rfl (by decide) (zrcv_of hM.1) (Nat.le_of_ble_eq_true rfl) (Nat.le_of_ble_eq_true rfl) (htl2) ?_
      refine zr_aload_n i_Mess_says_5 rfl ?_
      refine zr_cv0 i_Mess_says_6 rfl (by decide) (zrcv_s hz hk) (Nat.le_of_ble_eq_true rfl) (Nat.le_of_ble_eq_true rfl) (e_Str_length X _ h hz k hk) ?_
      refine zn_icmp_eq 14 i_Mess_says_9 (by decide) (by omega) (by omega) (fun c_9 => ?_) (fun q => absurd q (by omega))
      refine zn_iconst 0 i_Mess_says_14 (by decide) ?_
      refine zr_istore_n i_Mess_says_15 rfl ?_
      exact hlo
  · rw [if_neg he]
    refine zr_aload_n i_Mess_says_0 rfl ?_
    refine zr_iload_n i_Mess_says_1 rfl ?_
    refine zr_cv1 i_Mess_says_2 rfl (by decide) (zrcv_of hM.1) (Nat.le_of_ble_eq_true rfl) (Nat.le_of_ble_eq_true rfl) (htl) ?_
    refine zr_aload_n i_Mess_says_5 rfl ?_
    refine zr_cv0 i_Mess_says_6 rfl (by decide) (zrcv_s hz hk) (Nat.le_of_ble_eq_true rfl) (Nat.le_of_ble_eq_true rfl) (e_Str_length X _ h hz k hk) ?_
    refine zn_icmp_eq 14 i_Mess_says_9 (by decide) (by omega) (by omega) (fun q => absurd q (by omega)) (fun c_9 => ?_)
    refine zr_iconst i_Mess_says_12 (v := 0) (by decide) ?_
    exact zR.retE i_Mess_says_13 rfl rfl
theorem i_Mess_nextNamed_0 : zins 82 0 = some (.iload_n 2) := by decide +kernel
theorem i_Mess_nextNamed_1 : zins 82 1 = some (.iconst 1) := by decide +kernel
theorem i_Mess_nextNamed_2 : zins 82 2 = some (.invokestatic 36) := by decide +kernel
theorem i_Mess_nextNamed_5 : zins 82 5 = some (.istore_n 3) := by decide +kernel
theorem i_Mess_nextNamed_6 : zins 82 6 = some (.iload_n 3) := by decide +kernel
theorem i_Mess_nextNamed_7 : zins 82 7 = some (.aload_n 0) := by decide +kernel
theorem i_Mess_nextNamed_8 : zins 82 8 = some (.getfield 29) := by decide +kernel
theorem i_Mess_nextNamed_11 : zins 82 11 = some (.if_icmp .gt 27) := by decide +kernel
theorem i_Mess_nextNamed_14 : zins 82 14 = some (.aload_n 0) := by decide +kernel
theorem i_Mess_nextNamed_15 : zins 82 15 = some (.aload_n 0) := by decide +kernel
theorem i_Mess_nextNamed_16 : zins 82 16 = some (.iload_n 3) := by decide +kernel
theorem i_Mess_nextNamed_17 : zins 82 17 = some (.iconst 0) := by decide +kernel
theorem i_Mess_nextNamed_18 : zins 82 18 = some (.iconst 1) := by decide +kernel
theorem i_Mess_nextNamed_19 : zins 82 19 = some (.iconst 1) := by decide +kernel
theorem i_Mess_nextNamed_20 : zins 82 20 = some (.invokevirtual 64) := by decide +kernel
theorem i_Mess_nextNamed_23 : zins 82 23 = some (.aload_n 1) := by decide +kernel
theorem i_Mess_nextNamed_24 : zins 82 24 = some (.invokevirtual 71) := by decide +kernel
theorem i_Mess_nextNamed_27 : zins 82 27 = some (.ifCond .eq 5) := by decide +kernel
theorem i_Mess_nextNamed_30 : zins 82 30 = some (.iload_n 3) := by decide +kernel
theorem i_Mess_nextNamed_31 : zins 82 31 = some (.ireturn) := by decide +kernel
theorem i_Mess_nextNamed_32 : zins 82 32 = some (.iinc 3 1) := by decide +kernel
theorem i_Mess_nextNamed_35 : zins 82 35 = some (.goto (-29)) := by decide +kernel
theorem i_Mess_nextNamed_38 : zins 82 38 = some (.iconst (-1)) := by decide +kernel
theorem i_Mess_nextNamed_39 : zins 82 39 = some (.ireturn) := by decide +kernel
/-- the first segment with a name, from one on -/
def nnF (f : Nat → Int32) (n : Nat) (P : Nat → Nat) (w : List Int32) (s m : Nat) : Option Nat := zfst (fun s => sayF (txo f n (some (P s))) w) s m
theorem l_Mess_nextNamed (X : zX) (d : Nat) (hX : X.2.2.category = 1) (h : zH) (hz : zlow h) (a : Nat) (f : Nat → Int32) (n : Nat) (st : Nat → Int32) (cn : Nat) (hM : isM h a f n st cn) (hn : n ≤ 200) (P : Nat → Nat) (hP : ∀ s, 1 ≤ s → s ≤ cn → st (s - 1) = nI (P s) ∧ P s ≤ n) (hcn : cn ≤ 8) (k : Nat) (hk : zsk k) (hk0 : 0 < (sT k).length) (x : Int32) : ∀ (m s : Nat), 1 ≤ s → s + m = cn + 1 → zR X (d + 5) 82 6 [some (.ref a), some (.ref k), some (.int x), some (.int (nI s))] [] h (some (.int (tI (nnF f n P (sT k) s m))), h) := by
  intro m
  induction m with
  | zero =>
    intro s h1 hsm
    refine zr_iload_n i_Mess_nextNamed_6 rfl ?_
    refine zr_aload_n i_Mess_nextNamed_7 rfl ?_
    refine zr_getf i_Mess_nextNamed_8 hM.1 rfl rfl ?_
    refine zn_icmp_gt 38 i_Mess_nextNamed_11 (by decide) (by omega) (by omega) (fun c_11 => ?_) (fun q => absurd q (by omega))
    refine zr_iconst i_Mess_nextNamed_38 (v := (-1)) (by decide) ?_
    exact zR.retE i_Mess_nextNamed_39 rfl rfl
  | succ m ih =>
    intro s h1 hsm
    obtain ⟨hs1, hs2⟩ := hP s h1 (by omega)
    have hfd : zR X (d + 4) 78 0 (zent 10 [.ref a, .int (nI s), .int 0, .int 1, .int 1]) [] h (some (.int (tI (some (P s)))), h) := by
      have e := e_Mess_find X (d + 4) h a f n st cn hM hn s h1 (by omega) (by omega) (by omega) (P s) hs2 hs1 0 1 1
      have e2 : fdL f 0 1 1 (P s) (n - P s) 0 1 1 = some (P s) := by
        cases n - P s with
        | zero => rw [fdL, if_pos ⟨rfl, rfl, rfl⟩]
        | succ q => rw [fdL, if_pos ⟨rfl, rfl, rfl⟩]
      rw [e2] at e
      exact e
    have hsa := e_Mess_says X d hX h hz a f n st cn hM hn k hk hk0 (some (P s)) (fun p hp => by cases hp; exact hs2)
    unfold nnF at ih ⊢
    rw [zfst]
    cases hy : sayF (txo f n (some (P s))) (sT k) with
    | true =>
      rw [hy] at hsa
      rw [if_pos rfl]
      refine zr_iload_n i_Mess_nextNamed_6 rfl ?_
      refine zr_aload_n i_Mess_nextNamed_7 rfl ?_
      refine zr_getf i_Mess_nextNamed_8 hM.1 rfl rfl ?_
      refine zn_icmp_gt 38 i_Mess_nextNamed_11 (by decide) (by omega) (by omega) (fun q => absurd q (by omega)) (fun c_11 => ?_)
      refine zr_aload_n i_Mess_nextNamed_14 rfl ?_
      refine zr_aload_n i_Mess_nextNamed_15 rfl ?_
      refine zr_iload_n i_Mess_nextNamed_16 rfl ?_
      refine zr_iconst i_Mess_nextNamed_17 (v := 0) (by decide) ?_
      refine zr_iconst i_Mess_nextNamed_18 (v := 1) (by decide) ?_
      refine zr_iconst i_Mess_nextNamed_19 (v := 1) (by decide) ?_
      refine zr_cv4 i_Mess_nextNamed_20 rfl (by decide) (zrcv_of hM.1) (Nat.le_of_ble_eq_true rfl) (Nat.le_of_ble_eq_true rfl) (hfd) ?_
      refine zr_aload_n i_Mess_nextNamed_23 rfl ?_
      refine zr_cv2 i_Mess_nextNamed_24 rfl (by decide) (zrcv_of hM.1) (Nat.le_of_ble_eq_true rfl) (Nat.le_of_ble_eq_true rfl) (hsa) ?_
      refine zB_if_eq 32 i_Mess_nextNamed_27 (by decide) (fun q => absurd q (by decide)) (fun _ => ?_)
      refine zr_iload_n i_Mess_nextNamed_30 rfl ?_
      exact zR.retE i_Mess_nextNamed_31 rfl rfl
    | false =>
      rw [hy] at hsa
      rw [if_neg (by decide)]
      refine zr_iload_n i_Mess_nextNamed_6 rfl ?_
      refine zr_aload_n i_Mess_nextNamed_7 rfl ?_
      refine zr_getf i_Mess_nextNamed_8 hM.1 rfl rfl ?_
      refine zn_icmp_gt 38 i_Mess_nextNamed_11 (by decide) (by omega) (by omega) (fun q => absurd q (by omega)) (fun c_11 => ?_)
      refine zr_aload_n i_Mess_nextNamed_14 rfl ?_
      refine zr_aload_n i_Mess_nextNamed_15 rfl ?_
      refine zr_iload_n i_Mess_nextNamed_16 rfl ?_
      refine zr_iconst i_Mess_nextNamed_17 (v := 0) (by decide) ?_
      refine zr_iconst i_Mess_nextNamed_18 (v := 1) (by decide) ?_
      refine zr_iconst i_Mess_nextNamed_19 (v := 1) (by decide) ?_
      refine zr_cv4 i_Mess_nextNamed_20 rfl (by decide) (zrcv_of hM.1) (Nat.le_of_ble_eq_true rfl) (Nat.le_of_ble_eq_true rfl) (hfd) ?_
      refine zr_aload_n i_Mess_nextNamed_23 rfl ?_
      refine zr_cv2 i_Mess_nextNamed_24 rfl (by decide) (zrcv_of hM.1) (Nat.le_of_ble_eq_true rfl) (Nat.le_of_ble_eq_true rfl) (hsa) ?_
      refine zB_if_eq 32 i_Mess_nextNamed_27 (by decide) (fun _ => ?_) (fun q => absurd q (by decide))
      refine zn_iinc i_Mess_nextNamed_32 rfl rfl ?_
      refine zr_goto 6 i_Mess_nextNamed_35 (by decide) ?_
      exact ih (s + 1) (by omega) (by omega)
theorem e_Mess_nextNamed (X : zX) (d : Nat) (hX : X.2.2.category = 1) (h : zH) (hz : zlow h) (a : Nat) (f : Nat → Int32) (n : Nat) (st : Nat → Int32) (cn : Nat) (hM : isM h a f n st cn) (hn : n ≤ 200) (P : Nat → Nat) (hP : ∀ s, 1 ≤ s → s ≤ cn → st (s - 1) = nI (P s) ∧ P s ≤ n) (hcn : cn ≤ 8) (k : Nat) (hk : zsk k) (hk0 : 0 < (sT k).length) (s : Nat) (h1 : 1 ≤ s) (hs : s ≤ cn + 1) : zR X (d + 5) 82 0 (zent 4 [.ref a, .ref k, .int (nI s)]) [] h (some (.int (tI (nnF f n P (sT k) s (cn + 1 - s)))), h) := by
  have hl := l_Mess_nextNamed X d hX h hz a f n st cn hM hn P hP hcn k hk hk0 (nI s) (cn + 1 - s) s h1 (by omega)
  have hmx : (if nI s < (1 : Int32) then (1 : Int32) else nI s) = nI s := if_neg (nI_nlt (a := s) (b := 1) h1 (by omega))
  refine zr_iload_n i_Mess_nextNamed_0 rfl ?_
  refine zr_iconst i_Mess_nextNamed_1 (v := 1) (by decide) ?_
  refine zr_max i_Mess_nextNamed_2 rfl (Nat.le_of_ble_eq_true rfl) ?_
  refine zr_top (y := nI s) hmx ?_
  refine zr_istore_n i_Mess_nextNamed_5 rfl ?_
  exact hl
