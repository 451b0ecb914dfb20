/-! THE CLASS: a message that is being read -/
def msS (h : zH) (a : Nat) (f : Nat → Int32) (n : Nat) (st : Nat → Int32) (k : Nat) : zH := zwr (zwr (zwr h (a + 3) (msG f)) (a + 4) (msT st)) a (msO a n k)
section MS
variable {h : zH} {a n k : Nat} {f st : Nat → Int32}
theorem msS_o : (msS h a f n st k).2.2 a = some (.inr (6, [.ref (a + 1), .ref (a + 3), .ref (a + 4), .int (nI n), .int (nI k)])) := zwr_at _ _ _
theorem msS_t : (msS h a f n st k).2.2 (a + 4) = some (.inl (0, 8, .inl st)) := (zwr_ne (by omega)).trans (zwr_at _ _ _)
theorem msS_g : (msS h a f n st k).2.2 (a + 3) = some (.inl (0, 200, .inl f)) := (zwr_ne (by omega)).trans ((zwr_ne (by omega)).trans (zwr_at _ _ _))
theorem msS_ne {b : Nat} (h0 : b ≠ a) (h3 : b ≠ a + 3) (h4 : b ≠ a + 4) : (msS h a f n st k).2.2 b = h.2.2 b := (zwr_ne h0).trans ((zwr_ne h4).trans (zwr_ne h3))
theorem msS_is : isM (msS h a f n st k) a f n st k := ⟨msS_o, msS_g, msS_t⟩
theorem msS_self (hM : isM h a f n st k) : msS h a f n st k = h := by
  unfold msS
  rw [zwr_self hM.2.1, zwr_self hM.2.2, zwr_self hM.1]
theorem msS_obj (n' k' : Nat) : zwr (msS h a f n st k) a (msO a n' k') = msS h a f n' st k' := zwr_zwr _ _ _ _
theorem msS_tt (st' : Nat → Int32) : zwr (msS h a f n st k) (a + 4) (msT st') = msS h a f n st' k := by
  unfold msS
  rw [zwr_comm (by omega), zwr_zwr]
theorem msS_gg (f' : Nat → Int32) : zwr (msS h a f n st k) (a + 3) (msG f') = msS h a f' n st k := by
  unfold msS
  rw [zwr_comm (by omega), zwr_comm (a := a + 4) (b := a + 3) (by omega), zwr_zwr]
theorem msS_msS (f' : Nat → Int32) (n' : Nat) (st' : Nat → Int32) (k' : Nat) : msS (msS h a f n st k) a f' n' st' k' = msS h a f' n' st' k' := by
  rw [show msS (msS h a f n st k) a f' n' st' k' = zwr (zwr (zwr (msS h a f n st k) (a + 3) (msG f')) (a + 4) (msT st')) a (msO a n' k') from rfl, msS_gg, msS_tt, msS_obj]
theorem msS_low (hz : zlow h) (ha : 100 ≤ a) : zlow (msS h a f n st k) := zlow_wr (zlow_wr (zlow_wr hz (by omega)) (by omega)) ha
variable {X : zX} {d j pc : Nat} {L : zL} {r : List Value} {u : Option Value × zH}
theorem ms_sign {i : Nat} {x : Int32} (hi : zins j pc = some .iastore) (hk : i < 200) (hn : 200 < 2 ^ 31) (kk : zR X d j (pc + 1) L r (msS h a (upd f i x) n st k) u) : zR X d j pc L (.int x :: .int (nI i) :: .ref (a + 3) :: r) (msS h a f n st k) u := by
  refine zn_iastore hi msS_g hk hn ?_
  rw [show (Sum.inl (0, 200, .inl (upd f i (vp_nar .int x))) : zC) = msG (upd f i x) from rfl, msS_gg]
  exact kk
theorem ms_start {i : Nat} {x : Int32} (hi : zins j pc = some .iastore) (hk : i < 8) (hn : 8 < 2 ^ 31) (kk : zR X d j (pc + 1) L r (msS h a f n (upd st i x) k) u) : zR X d j pc L (.int x :: .int (nI i) :: .ref (a + 4) :: r) (msS h a f n st k) u := by
  refine zn_iastore hi msS_t hk hn ?_
  rw [show (Sum.inl (0, 8, .inl (upd st i (vp_nar .int x))) : zC) = msT (upd st i x) from rfl, msS_tt]
  exact kk
theorem ms_len {n' i : Nat} {ne : Bool} (hi : zins j pc = some (.putfield i)) (hf : zfl (zown j) i = some (6, 3, ne)) (kk : zR X d j (pc + 3) L r (msS h a f n' st k) u) : zR X d j pc L (.int (nI n') :: .ref a :: r) (msS h a f n st k) u := by
  refine zr_putf hi msS_o hf (Nat.le_of_ble_eq_true rfl) rfl (Or.inl rfl) ?_
  rw [show (Sum.inr (6, List.set [.ref (a + 1), .ref (a + 3), .ref (a + 4), .int (nI n), .int (nI k)] 3 (.int (nI n'))) : zC) = msO a n' k from rfl, msS_obj]
  exact kk
theorem ms_cnt {k' i : Nat} {ne : Bool} (hi : zins j pc = some (.putfield i)) (hf : zfl (zown j) i = some (6, 4, ne)) (kk : zR X d j (pc + 3) L r (msS h a f n st k') u) : zR X d j pc L (.int (nI k') :: .ref a :: r) (msS h a f n st k) u := by
  refine zr_putf hi msS_o hf (Nat.le_of_ble_eq_true rfl) rfl (Or.inl rfl) ?_
  rw [show (Sum.inr (6, List.set [.ref (a + 1), .ref (a + 3), .ref (a + 4), .int (nI n), .int (nI k)] 4 (.int (nI k'))) : zC) = msO a n k' from rfl, msS_obj]
  exact kk
end MS
/-- a message whose signs are a list, cut at 200 -/
def msL (h : zH) (a : Nat) (l : List Int32) (f st : Nat → Int32) (k : Nat) : zH := msS h a (lrow f (l.take 200)) (l.take 200).length st k
def stS (st : Nat → Int32) (k n : Nat) : Nat → Int32 := if k < 8 then upd st k (nI n) else st
theorem i_Mess_clear_0 : zins 74 0 = some (.aload_n 0) := by decide +kernel
theorem i_Mess_clear_1 : zins 74 1 = some (.iconst 0) := by decide +kernel
theorem i_Mess_clear_2 : zins 74 2 = some (.putfield 25) := by decide +kernel
theorem i_Mess_clear_5 : zins 74 5 = some (.aload_n 0) := by decide +kernel
theorem i_Mess_clear_6 : zins 74 6 = some (.iconst 0) := by decide +kernel
theorem i_Mess_clear_7 : zins 74 7 = some (.putfield 29) := by decide +kernel
theorem i_Mess_clear_10 : zins 74 10 = some (.return_) := by decide +kernel
theorem e_Mess_clear (X : zX) (d : Nat) (h : zH) (a : Nat) (f : Nat → Int32) (n : Nat) (st : Nat → Int32) (k : Nat) : zR X d 74 0 (zent 1 [.ref a]) [] (msS h a f n st k) (none, msS h a f 0 st 0) := by
  refine zr_aload_n i_Mess_clear_0 rfl ?_
  refine zn_iconst 0 i_Mess_clear_1 (by decide) ?_
  refine ms_len i_Mess_clear_2 rfl ?_
  refine zr_aload_n i_Mess_clear_5 rfl ?_
  refine zn_iconst 0 i_Mess_clear_6 (by decide) ?_
  refine ms_cnt i_Mess_clear_7 rfl ?_
  exact zR.retE i_Mess_clear_10 rfl rfl
theorem i_Mess_add_0 : zins 76 0 = some (.aload_n 0) := by decide +kernel
theorem i_Mess_add_1 : zins 76 1 = some (.getfield 25) := by decide +kernel
theorem i_Mess_add_4 : zins 76 4 = some (.sipush 200) := by decide +kernel
theorem i_Mess_add_7 : zins 76 7 = some (.if_icmp .ge 23) := by decide +kernel
theorem i_Mess_add_10 : zins 76 10 = some (.aload_n 0) := by decide +kernel
theorem i_Mess_add_11 : zins 76 11 = some (.getfield 18) := by decide +kernel
theorem i_Mess_add_14 : zins 76 14 = some (.aload_n 0) := by decide +kernel
theorem i_Mess_add_15 : zins 76 15 = some (.getfield 25) := by decide +kernel
theorem i_Mess_add_18 : zins 76 18 = some (.iload_n 1) := by decide +kernel
theorem i_Mess_add_19 : zins 76 19 = some (.iastore) := by decide +kernel
theorem i_Mess_add_20 : zins 76 20 = some (.aload_n 0) := by decide +kernel
theorem i_Mess_add_21 : zins 76 21 = some (.dup) := by decide +kernel
theorem i_Mess_add_22 : zins 76 22 = some (.getfield 25) := by decide +kernel
theorem i_Mess_add_25 : zins 76 25 = some (.iconst 1) := by decide +kernel
theorem i_Mess_add_26 : zins 76 26 = some (.iadd) := by decide +kernel
theorem i_Mess_add_27 : zins 76 27 = some (.putfield 25) := by decide +kernel
theorem i_Mess_add_30 : zins 76 30 = some (.return_) := by decide +kernel
theorem e0_Mess_add (X : zX) (d : Nat) (h : zH) (a : Nat) (f : Nat → Int32) (n : Nat) (st : Nat → Int32) (k : Nat) (hn : n ≤ 200) (x : Int32) : zR X d 76 0 (zent 2 [.ref a, .int x]) [] (msS h a f n st k) (none, if n < 200 then msS h a (upd f n x) (n + 1) st k else msS h a f n st k) := by
  by_cases hlt : n < 200
  · rw [if_pos hlt]
    refine zr_aload_n i_Mess_add_0 rfl ?_
    refine zr_getf i_Mess_add_1 msS_o rfl rfl ?_
    refine zn_sipush 200 i_Mess_add_4 (by decide) ?_
    refine zn_icmp_ge 30 i_Mess_add_7 (by decide) (by omega) (by omega) (fun q => absurd q (by omega)) (fun c_7 => ?_)
    refine zr_aload_n i_Mess_add_10 rfl ?_
    refine zr_getf i_Mess_add_11 msS_o rfl rfl ?_
    refine zr_aload_n i_Mess_add_14 rfl ?_
    refine zr_getf i_Mess_add_15 msS_o rfl rfl ?_
    refine zr_iload_n i_Mess_add_18 rfl ?_
    refine ms_sign i_Mess_add_19 (by omega) (by decide) ?_
    refine zr_aload_n i_Mess_add_20 rfl ?_
    refine zr_dup i_Mess_add_21 rfl ?_
    refine zr_getf i_Mess_add_22 msS_o rfl rfl ?_
    refine zn_iconst 1 i_Mess_add_25 (by decide) ?_
    refine zn_iadd i_Mess_add_26 ?_
    refine ms_len i_Mess_add_27 rfl ?_
    exact zR.retE i_Mess_add_30 rfl rfl
  · rw [if_neg hlt]
    refine zr_aload_n i_Mess_add_0 rfl ?_
    refine zr_getf i_Mess_add_1 msS_o rfl rfl ?_
    refine zn_sipush 200 i_Mess_add_4 (by decide) ?_
    refine zn_icmp_ge 30 i_Mess_add_7 (by decide) (by omega) (by omega) (fun c_7 => ?_) (fun q => absurd q (by omega))
    exact zR.retE i_Mess_add_30 rfl rfl
theorem e_Mess_add (X : zX) (d : Nat) (h : zH) (a : Nat) (l : List Int32) (f st : Nat → Int32) (k : Nat) (x : Int32) : zR X d 76 0 (zent 2 [.ref a, .int x]) [] (msL h a l f st k) (none, msL h a (l ++ [x]) f st k) := by
  have e := e0_Mess_add X d h a (lrow f (l.take 200)) (l.take 200).length st k (by rw [List.length_take]; omega) x
  have e2 : msL h a (l ++ [x]) f st k = if (l.take 200).length < 200 then msS h a (upd (lrow f (l.take 200)) (l.take 200).length x) ((l.take 200).length + 1) st k else msS h a (lrow f (l.take 200)) (l.take 200).length st k := by
    unfold msL
    by_cases hlt : l.length < 200
    · have t1 : l.take 200 = l := List.take_of_length_le (by omega)
      have t2 : (l ++ [x]).take 200 = l ++ [x] := List.take_of_length_le (by rw [List.length_append]; show l.length + 1 ≤ 200; omega)
      rw [t1, t2, if_pos hlt, lrow_add, List.length_append]
      rfl
    · have t2 : (l ++ [x]).take 200 = l.take 200 := List.take_append_of_le_length (by omega)
      rw [t2, if_neg (by rw [List.length_take]; omega)]
  rw [e2]
  exact e
theorem i_Mess_startSegment_0 : zins 75 0 = some (.aload_n 0) := by decide +kernel
theorem i_Mess_startSegment_1 : zins 75 1 = some (.getfield 29) := by decide +kernel
theorem i_Mess_startSegment_4 : zins 75 4 = some (.ifCond .le 10) := by decide +kernel
theorem i_Mess_startSegment_7 : zins 75 7 = some (.aload_n 0) := by decide +kernel
theorem i_Mess_startSegment_8 : zins 75 8 = some (.sipush 261) := by decide +kernel
theorem i_Mess_startSegment_11 : zins 75 11 = some (.invokevirtual 32) := by decide +kernel
theorem i_Mess_startSegment_14 : zins 75 14 = some (.aload_n 0) := by decide +kernel
theorem i_Mess_startSegment_15 : zins 75 15 = some (.getfield 29) := by decide +kernel
theorem i_Mess_startSegment_18 : zins 75 18 = some (.bipush 8) := by decide +kernel
theorem i_Mess_startSegment_20 : zins 75 20 = some (.if_icmp .ge 16) := by decide +kernel
theorem i_Mess_startSegment_23 : zins 75 23 = some (.aload_n 0) := by decide +kernel
theorem i_Mess_startSegment_24 : zins 75 24 = some (.getfield 22) := by decide +kernel
theorem i_Mess_startSegment_27 : zins 75 27 = some (.aload_n 0) := by decide +kernel
theorem i_Mess_startSegment_28 : zins 75 28 = some (.getfield 29) := by decide +kernel
theorem i_Mess_startSegment_31 : zins 75 31 = some (.aload_n 0) := by decide +kernel
theorem i_Mess_startSegment_32 : zins 75 32 = some (.getfield 25) := by decide +kernel
theorem i_Mess_startSegment_35 : zins 75 35 = some (.iastore) := by decide +kernel
theorem i_Mess_startSegment_36 : zins 75 36 = some (.aload_n 0) := by decide +kernel
theorem i_Mess_startSegment_37 : zins 75 37 = some (.dup) := by decide +kernel
theorem i_Mess_startSegment_38 : zins 75 38 = some (.getfield 29) := by decide +kernel
theorem i_Mess_startSegment_41 : zins 75 41 = some (.iconst 1) := by decide +kernel
theorem i_Mess_startSegment_42 : zins 75 42 = some (.iadd) := by decide +kernel
theorem i_Mess_startSegment_43 : zins 75 43 = some (.putfield 29) := by decide +kernel
theorem i_Mess_startSegment_46 : zins 75 46 = some (.return_) := by decide +kernel
theorem l_Mess_startSegment (X : zX) (d : Nat) (h : zH) (a : Nat) (f : Nat → Int32) (n : Nat) (st : Nat → Int32) (k : Nat) (hn : n ≤ 200) (hk : k < 1000) : zR X d 75 14 [some (.ref a)] [] (msS h a f n st k) (none, msS h a f n (stS st k n) (k + 1)) := by
  unfold stS
  by_cases h8 : k < 8
  · rw [if_pos h8]
    refine zr_aload_n i_Mess_startSegment_14 rfl ?_
    refine zr_getf i_Mess_startSegment_15 msS_o rfl rfl ?_
    refine zn_bipush 8 i_Mess_startSegment_18 (by decide) ?_
    refine zn_icmp_ge 36 i_Mess_startSegment_20 (by decide) (by omega) (by omega) (fun q => absurd q (by omega)) (fun c_20 => ?_)
    refine zr_aload_n i_Mess_startSegment_23 rfl ?_
    refine zr_getf i_Mess_startSegment_24 msS_o rfl rfl ?_
    refine zr_aload_n i_Mess_startSegment_27 rfl ?_
    refine zr_getf i_Mess_startSegment_28 msS_o rfl rfl ?_
    refine zr_aload_n i_Mess_startSegment_31 rfl ?_
    refine zr_getf i_Mess_startSegment_32 msS_o rfl rfl ?_
    refine ms_start i_Mess_startSegment_35 (by omega) (by decide) ?_
    refine zr_aload_n i_Mess_startSegment_36 rfl ?_
    refine zr_dup i_Mess_startSegment_37 rfl ?_
    refine zr_getf i_Mess_startSegment_38 msS_o rfl rfl ?_
    refine zn_iconst 1 i_Mess_startSegment_41 (by decide) ?_
    refine zn_iadd i_Mess_startSegment_42 ?_
    refine ms_cnt i_Mess_startSegment_43 rfl ?_
    exact zR.retE i_Mess_startSegment_46 rfl rfl
  · rw [if_neg h8]
    refine zr_aload_n i_Mess_startSegment_14 rfl ?_
    refine zr_getf i_Mess_startSegment_15 msS_o rfl rfl ?_
    refine zn_bipush 8 i_Mess_startSegment_18 (by decide) ?_
    refine zn_icmp_ge 36 i_Mess_startSegment_20 (by decide) (by omega) (by omega) (fun c_20 => ?_) (fun q => absurd q (by omega))
    refine zr_aload_n i_Mess_startSegment_36 rfl ?_
    refine zr_dup i_Mess_startSegment_37 rfl ?_
    refine zr_getf i_Mess_startSegment_38 msS_o rfl rfl ?_
    refine zn_iconst 1 i_Mess_startSegment_41 (by decide) ?_
    refine zn_iadd i_Mess_startSegment_42 ?_
    refine ms_cnt i_Mess_startSegment_43 rfl ?_
    exact zR.retE i_Mess_startSegment_46 rfl rfl
theorem e_Mess_startSegment (X : zX) (d : Nat) (h : zH) (a : Nat) (l : List Int32) (f st : Nat → Int32) (k : Nat) (hk : k < 1000) : zR X (d + 1) 75 0 (zent 1 [.ref a]) [] (msL h a l f st k) (none, msL h a (if 0 < k then l ++ [261] else l) f (stS st k ((if 0 < k then l ++ [261] else l).take 200).length) (k + 1)) := by
  by_cases h0 : 0 < k
  · rw [if_pos h0]
    have hl := l_Mess_startSegment X (d + 1) h a (lrow f ((l ++ [261]).take 200)) ((l ++ [261]).take 200).length st k (by rw [List.length_take]; omega) hk
    refine zr_aload_n i_Mess_startSegment_0 rfl ?_
    refine zr_getf i_Mess_startSegment_1 msS_o rfl rfl ?_
    refine zN_if_le 14 i_Mess_startSegment_4 (by decide) (by omega) (fun q => absurd q (by omega)) (fun _ => ?_)
    refine zr_aload_n i_Mess_startSegment_7 rfl ?_
    refine zr_sipush i_Mess_startSegment_8 (v := 261) (by decide) ?_
    refine zr_cv10 i_Mess_startSegment_11 rfl (by decide) (zrcv_of msS_o) (Nat.le_of_ble_eq_true rfl) (Nat.le_of_ble_eq_true rfl) (e_Mess_add X _ h a l f st k 261) ?_
    exact hl
  · rw [if_neg h0]
    have hl := l_Mess_startSegment X (d + 1) h a (lrow f (l.take 200)) (l.take 200).length st k (by rw [List.length_take]; omega) hk
    refine zr_aload_n i_Mess_startSegment_0 rfl ?_
    refine zr_getf i_Mess_startSegment_1 msS_o rfl rfl ?_
    refine zN_if_le 14 i_Mess_startSegment_4 (by decide) (by omega) (fun _ => ?_) (fun q => absurd q h0)
    exact hl
