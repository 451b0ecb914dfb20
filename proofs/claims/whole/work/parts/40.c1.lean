/-! THE CLASS: heaps with one cell changed; texts in rows; characters -/
theorem zwr_at (h : zH) (a : Nat) (c : zC) : (zwr h a c).2.2 a = some c := by
  show va_up h.2.2 a (some c) a = _
  exact up_at
theorem zwr_ne {h : zH} {a b : Nat} {c : zC} (hn : b ≠ a) : (zwr h a c).2.2 b = h.2.2 b := va_up_ne _ _ hn
theorem zwr_zwr (h : zH) (a : Nat) (c c' : zC) : zwr (zwr h a c) a c' = zwr h a c' := by
  unfold zwr
  dsimp only
  rw [up_same]
theorem zwr_comm {h : zH} {a b : Nat} {c c' : zC} (hn : a ≠ b) : zwr (zwr h a c) b c' = zwr (zwr h b c') a c := by
  unfold zwr
  dsimp only
  rw [up_comm hn]
theorem zwr_self {h : zH} {a : Nat} {c : zC} (hc : h.2.2 a = some c) : zwr h a c = h := by
  unfold zwr
  rw [← hc, up_self]
theorem zrcv_of {h : zH} {b ci : Nat} {fs : List Value} (hc : h.2.2 b = some (.inr (ci, fs))) : zrcv h b = some ci := by
  unfold zrcv
  rw [hc]
/-- nothing stands on the constants' numbers -/
def zlow (h : zH) : Prop := ∀ a, a < 100 → h.2.2 a = none
theorem zlow_wr {h : zH} {a : Nat} {c : zC} (hz : zlow h) (ha : 100 ≤ a) : zlow (zwr h a c) := fun b hb => by
  rw [zwr_ne (by omega)]; exact hz b hb
/-- a text of n characters in a row of N places -/
def chO (a n : Nat) : zC := .inr (1, [.ref (a + 1), .int (nI n)])
def chR (N : Nat) (f : Nat → Int32) : zC := .inl (1, N, .inl f)
def isCh (h : zH) (a N n : Nat) (f : Nat → Int32) : Prop := h.2.2 a = some (chO a n) ∧ h.2.2 (a + 1) = some (chR N f)
def chS (h : zH) (a N n : Nat) (f : Nat → Int32) : zH := zwr (zwr h (a + 1) (chR N f)) a (chO a n)
theorem chS_o {h : zH} {a N n : Nat} {f : Nat → Int32} : (chS h a N n f).2.2 a = some (.inr (1, [.ref (a + 1), .int (nI n)])) := zwr_at _ _ _
theorem chS_r {h : zH} {a N n : Nat} {f : Nat → Int32} : (chS h a N n f).2.2 (a + 1) = some (.inl (1, N, .inl f)) := (zwr_ne (by omega)).trans (zwr_at _ _ _)
theorem chS_ne {h : zH} {a N n b : Nat} {f : Nat → Int32} (hb : b ≠ a) (hb1 : b ≠ a + 1) : (chS h a N n f).2.2 b = h.2.2 b := (zwr_ne hb).trans (zwr_ne hb1)
theorem chS_is (h : zH) (a N n : Nat) (f : Nat → Int32) : isCh (chS h a N n f) a N n f := ⟨chS_o, chS_r⟩
theorem chS_self {h : zH} {a N n : Nat} {f : Nat → Int32} (hc : isCh h a N n f) : chS h a N n f = h := by
  unfold chS
  rw [zwr_self hc.2, zwr_self hc.1]
theorem chS_len (h : zH) (a N n n' : Nat) (f : Nat → Int32) : zwr (chS h a N n f) a (chO a n') = chS h a N n' f := zwr_zwr _ _ _ _
theorem chS_row (h : zH) (a N n : Nat) (f f' : Nat → Int32) : zwr (chS h a N n f) (a + 1) (chR N f') = chS h a N n f' := by
  unfold chS
  rw [zwr_comm (by omega), zwr_zwr]
theorem chS_chS (h : zH) (a N n n' : Nat) (f f' : Nat → Int32) : chS (chS h a N n f) a N n' f' = chS h a N n' f' := by
  rw [show chS (chS h a N n f) a N n' f' = zwr (zwr (chS h a N n f) (a + 1) (chR N f')) a (chO a n') from rfl, chS_row, chS_len]
theorem chS_low {h : zH} {a N n : Nat} {f : Nat → Int32} (hz : zlow h) (ha : 100 ≤ a) : zlow (chS h a N n f) := zlow_wr (zlow_wr hz (by omega)) ha
theorem chS_1 (h : zH) (a N n : Nat) (f : Nat → Int32) : (chS h a N n f).1 = h.1 := rfl
theorem chS_2 (h : zH) (a N n : Nat) (f : Nat → Int32) : (chS h a N n f).2.1 = h.2.1 := rfl
section CH
variable {X : zX} {d j pc : Nat} {L : zL} {r : List Value} {h : zH} {a N n : Nat} {f : Nat → Int32} {u : Option Value × zH}
theorem ch_store {k : Nat} {x : Int32} (hi : zins j pc = some .castore) (hk : k < N) (hn : N < 2 ^ 31) (kk : zR X d j (pc + 1) L r (chS h a N n (upd f k (vp_nar .char x))) u) : zR X d j pc L (.int x :: .int (nI k) :: .ref (a + 1) :: r) (chS h a N n f) u := by
  refine zn_castore hi chS_r hk hn ?_
  rw [show (Sum.inl (1, N, .inl (upd f k (vp_nar .char x))) : zC) = chR N (upd f k (vp_nar .char x)) from rfl, chS_row]
  exact kk
theorem ch_len {n' i : Nat} {ne : Bool} (hi : zins j pc = some (.putfield i)) (hf : zfl (zown j) i = some (1, 1, ne)) (kk : zR X d j (pc + 3) L r (chS h a N n' f) u) : zR X d j pc L (.int (nI n') :: .ref a :: r) (chS h a N n f) u := by
  refine zr_putf hi chS_o hf (Nat.le_of_ble_eq_true rfl) rfl (Or.inl rfl) ?_
  rw [show (Sum.inr (1, List.set [.ref (a + 1), .int (nI n)] 1 (.int (nI n'))) : zC) = chO a n' from rfl, chS_len]
  exact kk
end CH
/-- a row's text as a list, cut at N -/
def chL (h : zH) (a N : Nat) (l : List Int32) (f : Nat → Int32) : zH := chS h a N (l.take N).length (lrow f (l.take N))
theorem i2c_ch {c : Int32} (h : zch c) : (c.toUInt32 % 65536).toInt32 = c := zch_i2c h
theorem e1_B_isCapital (X : zX) (d : Nat) (h : zH) (c : Int32) : zR X d 7 0 (zent 1 [.int c]) [] h (some (.int (zb (zcap c))), h) := e_B_isCapital X d h c
theorem e1_B_isSmall (X : zX) (d : Nat) (h : zH) (c : Int32) : zR X d 8 0 (zent 1 [.int c]) [] h (some (.int (zb (zsml c))), h) := e_B_isSmall X d h c
theorem e1_B_isDigit (X : zX) (d : Nat) (h : zH) (c : Int32) : zR X d 9 0 (zent 1 [.int c]) [] h (some (.int (zb (zdig c))), h) := e_B_isDigit X d h c
def zbtw (c a b : Int32) : Bool := !decide (c < a) && !decide (b < c)
theorem i_B_isBetween_0 : zins 4 0 = some (.iload_n 0) := by decide +kernel
theorem i_B_isBetween_1 : zins 4 1 = some (.iload_n 1) := by decide +kernel
theorem i_B_isBetween_2 : zins 4 2 = some (.if_icmp .lt 12) := by decide +kernel
theorem i_B_isBetween_5 : zins 4 5 = some (.iload_n 0) := by decide +kernel
theorem i_B_isBetween_6 : zins 4 6 = some (.iload_n 2) := by decide +kernel
theorem i_B_isBetween_7 : zins 4 7 = some (.if_icmp .gt 7) := by decide +kernel
theorem i_B_isBetween_10 : zins 4 10 = some (.iconst 1) := by decide +kernel
theorem i_B_isBetween_11 : zins 4 11 = some (.goto 4) := by decide +kernel
theorem i_B_isBetween_14 : zins 4 14 = some (.iconst 0) := by decide +kernel
theorem i_B_isBetween_15 : zins 4 15 = some (.ireturn) := by decide +kernel
theorem e_B_isBetween (X : zX) (d : Nat) (h : zH) (c a b : Int32) : zR X d 4 0 (zent 3 [.int c, .int a, .int b]) [] h (some (.int (zb (zbtw c a b))), h) := by
  refine zr_iload_n i_B_isBetween_0 rfl ?_
  refine zr_iload_n i_B_isBetween_1 rfl ?_
  refine zr_icmp_lt 14 i_B_isBetween_2 (by decide) (fun c_2 => ?_) (fun c_2 => ?_)
  · skip
    refine zr_iconst i_B_isBetween_14 (v := 0) (by decide) ?_
    exact zR.retE i_B_isBetween_15 rfl (by simp [zb, zbtw, *])
  · skip
    refine zr_iload_n i_B_isBetween_5 rfl ?_
    refine zr_iload_n i_B_isBetween_6 rfl ?_
    refine zr_icmp_gt 14 i_B_isBetween_7 (by decide) (fun c_7 => ?_) (fun c_7 => ?_)
    · skip
      refine zr_iconst i_B_isBetween_14 (v := 0) (by decide) ?_
      exact zR.retE i_B_isBetween_15 rfl (by simp [zb, zbtw, *])
    · skip
      refine zr_iconst i_B_isBetween_10 (v := 1) (by decide) ?_
      refine zr_goto 15 i_B_isBetween_11 (by decide) ?_
      exact zR.retE i_B_isBetween_15 rfl (by simp [zb, zbtw, *])
theorem i_B_isLetterOrDigit_0 : zins 6 0 = some (.iload_n 0) := by decide +kernel
theorem i_B_isLetterOrDigit_1 : zins 6 1 = some (.invokestatic 185) := by decide +kernel
theorem i_B_isLetterOrDigit_4 : zins 6 4 = some (.ifCond .ne 17) := by decide +kernel
theorem i_B_isLetterOrDigit_7 : zins 6 7 = some (.iload_n 0) := by decide +kernel
theorem i_B_isLetterOrDigit_8 : zins 6 8 = some (.invokestatic 188) := by decide +kernel
theorem i_B_isLetterOrDigit_11 : zins 6 11 = some (.ifCond .ne 10) := by decide +kernel
theorem i_B_isLetterOrDigit_14 : zins 6 14 = some (.iload_n 0) := by decide +kernel
theorem i_B_isLetterOrDigit_15 : zins 6 15 = some (.invokestatic 191) := by decide +kernel
theorem i_B_isLetterOrDigit_18 : zins 6 18 = some (.ifCond .eq 7) := by decide +kernel
theorem i_B_isLetterOrDigit_21 : zins 6 21 = some (.iconst 1) := by decide +kernel
theorem i_B_isLetterOrDigit_22 : zins 6 22 = some (.goto 4) := by decide +kernel
theorem i_B_isLetterOrDigit_25 : zins 6 25 = some (.iconst 0) := by decide +kernel
theorem i_B_isLetterOrDigit_26 : zins 6 26 = some (.ireturn) := by decide +kernel
theorem e_B_isLetterOrDigit (X : zX) (d : Nat) (h : zH) (c : Int32) : zR X (d + 2) 6 0 (zent 1 [.int c]) [] h (some (.int (zb (vlod c))), h) := by
  refine zr_iload_n i_B_isLetterOrDigit_0 rfl ?_
  refine zr_cs1 i_B_isLetterOrDigit_1 rfl (by decide) (Nat.le_of_ble_eq_true rfl) (Nat.le_of_ble_eq_true rfl) (e1_B_isCapital X _ _ _) ?_
  refine zB_if_ne 21 i_B_isLetterOrDigit_4 (by decide) (fun c_4 => ?_) (fun c_4 => ?_)
  · skip
    refine zr_iconst i_B_isLetterOrDigit_21 (v := 1) (by decide) ?_
    refine zr_goto 26 i_B_isLetterOrDigit_22 (by decide) ?_
    exact zR.retE i_B_isLetterOrDigit_26 rfl (by simp [zb, vlod, *])
  · skip
    refine zr_iload_n i_B_isLetterOrDigit_7 rfl ?_
    refine zr_cs1 i_B_isLetterOrDigit_8 rfl (by decide) (Nat.le_of_ble_eq_true rfl) (Nat.le_of_ble_eq_true rfl) (e1_B_isSmall X _ _ _) ?_
    refine zB_if_ne 21 i_B_isLetterOrDigit_11 (by decide) (fun c_11 => ?_) (fun c_11 => ?_)
    · skip
      refine zr_iconst i_B_isLetterOrDigit_21 (v := 1) (by decide) ?_
      refine zr_goto 26 i_B_isLetterOrDigit_22 (by decide) ?_
      exact zR.retE i_B_isLetterOrDigit_26 rfl (by simp [zb, vlod, *])
    · skip
      refine zr_iload_n i_B_isLetterOrDigit_14 rfl ?_
      refine zr_cs1 i_B_isLetterOrDigit_15 rfl (by decide) (Nat.le_of_ble_eq_true rfl) (Nat.le_of_ble_eq_true rfl) (e1_B_isDigit X _ _ _) ?_
      refine zB_if_eq 25 i_B_isLetterOrDigit_18 (by decide) (fun c_18 => ?_) (fun c_18 => ?_)
      · skip
        refine zr_iconst i_B_isLetterOrDigit_25 (v := 0) (by decide) ?_
        exact zR.retE i_B_isLetterOrDigit_26 rfl (by simp [zb, vlod, *])
      · skip
        refine zr_iconst i_B_isLetterOrDigit_21 (v := 1) (by decide) ?_
        refine zr_goto 26 i_B_isLetterOrDigit_22 (by decide) ?_
        exact zR.retE i_B_isLetterOrDigit_26 rfl (by simp [zb, vlod, *])
def codeQ (a b : Int32) : Int32 := if zsml a = true ∧ zsml b = true then 26 * (a - 97) + b - 97 else -1
theorem i_B_codeOf_0 : zins 11 0 = some (.iload_n 0) := by decide +kernel
theorem i_B_codeOf_1 : zins 11 1 = some (.invokestatic 188) := by decide +kernel
theorem i_B_codeOf_4 : zins 11 4 = some (.ifCond .eq 25) := by decide +kernel
theorem i_B_codeOf_7 : zins 11 7 = some (.iload_n 1) := by decide +kernel
theorem i_B_codeOf_8 : zins 11 8 = some (.invokestatic 188) := by decide +kernel
theorem i_B_codeOf_11 : zins 11 11 = some (.ifCond .eq 18) := by decide +kernel
theorem i_B_codeOf_14 : zins 11 14 = some (.bipush 26) := by decide +kernel
theorem i_B_codeOf_16 : zins 11 16 = some (.iload_n 0) := by decide +kernel
theorem i_B_codeOf_17 : zins 11 17 = some (.bipush 97) := by decide +kernel
theorem i_B_codeOf_19 : zins 11 19 = some (.isub) := by decide +kernel
theorem i_B_codeOf_20 : zins 11 20 = some (.imul) := by decide +kernel
theorem i_B_codeOf_21 : zins 11 21 = some (.iload_n 1) := by decide +kernel
theorem i_B_codeOf_22 : zins 11 22 = some (.iadd) := by decide +kernel
theorem i_B_codeOf_23 : zins 11 23 = some (.bipush 97) := by decide +kernel
theorem i_B_codeOf_25 : zins 11 25 = some (.isub) := by decide +kernel
theorem i_B_codeOf_26 : zins 11 26 = some (.goto 4) := by decide +kernel
theorem i_B_codeOf_29 : zins 11 29 = some (.iconst (-1)) := by decide +kernel
theorem i_B_codeOf_30 : zins 11 30 = some (.ireturn) := by decide +kernel
theorem e_B_codeOf (X : zX) (d : Nat) (h : zH) (a b : Int32) : zR X (d + 2) 11 0 (zent 2 [.int a, .int b]) [] h (some (.int (codeQ a b)), h) := by
  refine zr_iload_n i_B_codeOf_0 rfl ?_
  refine zr_cs1 i_B_codeOf_1 rfl (by decide) (Nat.le_of_ble_eq_true rfl) (Nat.le_of_ble_eq_true rfl) (e1_B_isSmall X _ _ _) ?_
  refine zB_if_eq 29 i_B_codeOf_4 (by decide) (fun c_4 => ?_) (fun c_4 => ?_)
  · skip
    refine zr_iconst i_B_codeOf_29 (v := (-1)) (by decide) ?_
    exact zR.retE i_B_codeOf_30 rfl (by simp [codeQ, *])
  · skip
    refine zr_iload_n i_B_codeOf_7 rfl ?_
    refine zr_cs1 i_B_codeOf_8 rfl (by decide) (Nat.le_of_ble_eq_true rfl) (Nat.le_of_ble_eq_true rfl) (e1_B_isSmall X _ _ _) ?_
    refine zB_if_eq 29 i_B_codeOf_11 (by decide) (fun c_11 => ?_) (fun c_11 => ?_)
    · skip
      refine zr_iconst i_B_codeOf_29 (v := (-1)) (by decide) ?_
      exact zR.retE i_B_codeOf_30 rfl (by simp [codeQ, *])
    · skip
      refine zr_bipush i_B_codeOf_14 (v := 26) (by decide) ?_
      refine zr_iload_n i_B_codeOf_16 rfl ?_
      refine zr_bipush i_B_codeOf_17 (v := 97) (by decide) ?_
      refine zr_isub i_B_codeOf_19 ?_
      refine zr_imul i_B_codeOf_20 ?_
      refine zr_iload_n i_B_codeOf_21 rfl ?_
      refine zr_iadd i_B_codeOf_22 ?_
      refine zr_bipush i_B_codeOf_23 (v := 97) (by decide) ?_
      refine zr_isub i_B_codeOf_25 ?_
      refine zr_goto 30 i_B_codeOf_26 (by decide) ?_
      exact zR.retE i_B_codeOf_30 rfl (by simp [codeQ, *])
theorem i_B_receiptFor_0 : zins 12 0 = some (.iload_n 0) := by decide +kernel
theorem i_B_receiptFor_1 : zins 12 1 = some (.ifCond .ne 5) := by decide +kernel
theorem i_B_receiptFor_4 : zins 12 4 = some (.iconst 0) := by decide +kernel
theorem i_B_receiptFor_5 : zins 12 5 = some (.ireturn) := by decide +kernel
theorem i_B_receiptFor_6 : zins 12 6 = some (.iload_n 0) := by decide +kernel
theorem i_B_receiptFor_7 : zins 12 7 = some (.bipush 11) := by decide +kernel
theorem i_B_receiptFor_9 : zins 12 9 = some (.if_icmp .lt 7) := by decide +kernel
theorem i_B_receiptFor_12 : zins 12 12 = some (.iconst 1) := by decide +kernel
theorem i_B_receiptFor_13 : zins 12 13 = some (.goto 4) := by decide +kernel
theorem i_B_receiptFor_16 : zins 12 16 = some (.iconst 2) := by decide +kernel
theorem i_B_receiptFor_17 : zins 12 17 = some (.ireturn) := by decide +kernel
theorem e_B_receiptFor (X : zX) (d : Nat) (h : zH) (r : Nat) (hr : r < 20) : zR X d 12 0 (zent 1 [.int (nI r)]) [] h (some (.int (nI (ansF r))), h) := by
  refine zr_iload_n i_B_receiptFor_0 rfl ?_
  refine zN_if_ne 6 i_B_receiptFor_1 (by decide) (by omega) (fun c_1 => ?_) (fun c_1 => ?_)
  · skip
    refine zr_iload_n i_B_receiptFor_6 rfl ?_
    refine zn_bipush 11 i_B_receiptFor_7 (by decide) ?_
    refine zn_icmp_lt 16 i_B_receiptFor_9 (by decide) (by omega) (by omega) (fun c_9 => ?_) (fun c_9 => ?_)
    · skip
      refine zr_iconst i_B_receiptFor_16 (v := 2) (by decide) ?_
      exact zR.retE i_B_receiptFor_17 rfl (by simp only [ansF]; first | (rw [if_pos (by omega)]; rfl) | (rw [if_neg (by omega), if_pos (by omega)]; rfl) | (rw [if_neg (by omega), if_neg (by omega)]; rfl))
    · skip
      refine zr_iconst i_B_receiptFor_12 (v := 1) (by decide) ?_
      refine zr_goto 17 i_B_receiptFor_13 (by decide) ?_
      exact zR.retE i_B_receiptFor_17 rfl (by simp only [ansF]; first | (rw [if_pos (by omega)]; rfl) | (rw [if_neg (by omega), if_pos (by omega)]; rfl) | (rw [if_neg (by omega), if_neg (by omega)]; rfl))
  · skip
    refine zr_iconst i_B_receiptFor_4 (v := 0) (by decide) ?_
    exact zR.retE i_B_receiptFor_5 rfl (by simp only [ansF]; first | (rw [if_pos (by omega)]; rfl) | (rw [if_neg (by omega), if_pos (by omega)]; rfl) | (rw [if_neg (by omega), if_neg (by omega)]; rfl))
theorem i_B_byteOf_0 : zins 2 0 = some (.lload_n 0) := by decide +kernel
theorem i_B_byteOf_1 : zins 2 1 = some (.bipush 8) := by decide +kernel
theorem i_B_byteOf_3 : zins 2 3 = some (.iload_n 2) := by decide +kernel
theorem i_B_byteOf_4 : zins 2 4 = some (.imul) := by decide +kernel
theorem i_B_byteOf_5 : zins 2 5 = some (.lushr) := by decide +kernel
theorem i_B_byteOf_6 : zins 2 6 = some (.l2i) := by decide +kernel
theorem i_B_byteOf_7 : zins 2 7 = some (.sipush 255) := by decide +kernel
theorem i_B_byteOf_10 : zins 2 10 = some (.iand) := by decide +kernel
theorem i_B_byteOf_11 : zins 2 11 = some (.ireturn) := by decide +kernel
theorem e_B_byteOf (X : zX) (d : Nat) (h : zH) (x : Int64) (k : Nat) (hk : k < 8) : zR X d 2 0 (zent 3 [.long x, .int (nI k)]) [] h (some (.int (nI (bt x k))), h) := by
  refine zr_lload_n i_B_byteOf_0 rfl ?_
  refine zn_bipush 8 i_B_byteOf_1 (by decide) ?_
  refine zr_iload_n i_B_byteOf_3 rfl ?_
  refine zn_imul i_B_byteOf_4 ?_
  refine zr_lushr i_B_byteOf_5 ?_
  refine zr_l2i i_B_byteOf_6 ?_
  refine zr_sipush i_B_byteOf_7 (v := 255) (by decide) ?_
  refine zr_iand i_B_byteOf_10 ?_
  exact zR.retE i_B_byteOf_11 rfl (by rw [bt_int x hk])
theorem i_B_mayStandInFrame_0 : zins 3 0 = some (.iload_n 0) := by decide +kernel
theorem i_B_mayStandInFrame_1 : zins 3 1 = some (.bipush 32) := by decide +kernel
theorem i_B_mayStandInFrame_3 : zins 3 3 = some (.bipush 126) := by decide +kernel
theorem i_B_mayStandInFrame_5 : zins 3 5 = some (.invokestatic 181) := by decide +kernel
theorem i_B_mayStandInFrame_8 : zins 3 8 = some (.ifCond .ne 9) := by decide +kernel
theorem i_B_mayStandInFrame_11 : zins 3 11 = some (.iload_n 0) := by decide +kernel
theorem i_B_mayStandInFrame_12 : zins 3 12 = some (.bipush 13) := by decide +kernel
theorem i_B_mayStandInFrame_14 : zins 3 14 = some (.if_icmp .ne 7) := by decide +kernel
theorem i_B_mayStandInFrame_17 : zins 3 17 = some (.iconst 1) := by decide +kernel
theorem i_B_mayStandInFrame_18 : zins 3 18 = some (.goto 4) := by decide +kernel
theorem i_B_mayStandInFrame_21 : zins 3 21 = some (.iconst 0) := by decide +kernel
theorem i_B_mayStandInFrame_22 : zins 3 22 = some (.ireturn) := by decide +kernel
theorem e_B_mayStandInFrame (X : zX) (d : Nat) (h : zH) (c : Nat) (hc : c < 256) : zR X (d + 1) 3 0 (zent 1 [.int (nI c)]) [] h (some (.int (zb (okB c))), h) := by
  have hb : zbtw (nI c) 32 126 = (decide (32 ≤ c) && decide (c ≤ 126)) := by
    unfold zbtw
    rw [show decide (nI c < 32) = decide (c < 32) from decide_eq_decide.mpr (nI_ltI (b := 32) (by omega) (by decide)), show decide (126 < nI c) = decide (126 < c) from decide_eq_decide.mpr (nI_ltI (a := 126) (by decide) (by omega))]
    by_cases h1 : c < 32 <;> by_cases h2 : 126 < c <;> simp [h1, h2] <;> omega
  have he : okB c = (decide (c = 13) || zbtw (nI c) 32 126) := by rw [hb]; rfl
  rw [he]
  clear he hb
  refine zr_iload_n i_B_mayStandInFrame_0 rfl ?_
  refine zr_bipush i_B_mayStandInFrame_1 (v := 32) (by decide) ?_
  refine zr_bipush i_B_mayStandInFrame_3 (v := 126) (by decide) ?_
  refine zr_cs3 i_B_mayStandInFrame_5 rfl (by decide) (Nat.le_of_ble_eq_true rfl) (Nat.le_of_ble_eq_true rfl) (e_B_isBetween X _ _ _ _ _) ?_
  refine zB_if_ne 17 i_B_mayStandInFrame_8 (by decide) (fun c_8 => ?_) (fun c_8 => ?_)
  · skip
    refine zr_iconst i_B_mayStandInFrame_17 (v := 1) (by decide) ?_
    refine zr_goto 22 i_B_mayStandInFrame_18 (by decide) ?_
    exact zR.retE i_B_mayStandInFrame_22 rfl (by simp [zb, *])
  · skip
    refine zr_iload_n i_B_mayStandInFrame_11 rfl ?_
    refine zn_bipush 13 i_B_mayStandInFrame_12 (by decide) ?_
    refine zn_icmp_ne 21 i_B_mayStandInFrame_14 (by decide) (by omega) (by omega) (fun c_14 => ?_) (fun c_14 => ?_)
    · skip
      refine zr_iconst i_B_mayStandInFrame_21 (v := 0) (by decide) ?_
      exact zR.retE i_B_mayStandInFrame_22 rfl (by simp [zb, *])
    · skip
      refine zr_iconst i_B_mayStandInFrame_17 (v := 1) (by decide) ?_
      refine zr_goto 22 i_B_mayStandInFrame_18 (by decide) ?_
      exact zR.retE i_B_mayStandInFrame_22 rfl (by simp [zb, *])
theorem i_Chars_room_0 : zins 32 0 = some (.aload_n 0) := by decide +kernel
theorem i_Chars_room_1 : zins 32 1 = some (.getfield 15) := by decide +kernel
theorem i_Chars_room_4 : zins 32 4 = some (.arraylength) := by decide +kernel
theorem i_Chars_room_5 : zins 32 5 = some (.aload_n 0) := by decide +kernel
theorem i_Chars_room_6 : zins 32 6 = some (.getfield 9) := by decide +kernel
theorem i_Chars_room_9 : zins 32 9 = some (.isub) := by decide +kernel
theorem i_Chars_room_10 : zins 32 10 = some (.ireturn) := by decide +kernel
theorem e_Chars_room (X : zX) (d : Nat) (h : zH) (a N n : Nat) (f : Nat → Int32) (hn : n ≤ N) (hN : N ≤ 700) : zR X d 32 0 (zent 1 [.ref a]) [] (chS h a N n f) (some (.int (nI (N - n))), chS h a N n f) := by
  refine zr_aload_n i_Chars_room_0 rfl ?_
  refine zr_getf i_Chars_room_1 chS_o rfl rfl ?_
  refine zr_len i_Chars_room_4 chS_r (by decide) (rfl : _ = nI N) ?_
  refine zr_aload_n i_Chars_room_5 rfl ?_
  refine zr_getf i_Chars_room_6 chS_o rfl rfl ?_
  refine zn_isub i_Chars_room_9 (by omega) ?_
  exact zR.retE i_Chars_room_10 rfl rfl
theorem i_Chars_clear_0 : zins 34 0 = some (.aload_n 0) := by decide +kernel
theorem i_Chars_clear_1 : zins 34 1 = some (.iconst 0) := by decide +kernel
theorem i_Chars_clear_2 : zins 34 2 = some (.putfield 9) := by decide +kernel
theorem i_Chars_clear_5 : zins 34 5 = some (.return_) := by decide +kernel
theorem e_Chars_clear (X : zX) (d : Nat) (h : zH) (a N n : Nat) (f : Nat → Int32) : zR X d 34 0 (zent 1 [.ref a]) [] (chS h a N n f) (none, chS h a N 0 f) := by
  refine zr_aload_n i_Chars_clear_0 rfl ?_
  refine zn_iconst 0 i_Chars_clear_1 (by decide) ?_
  refine ch_len i_Chars_clear_2 rfl ?_
  exact zR.retE i_Chars_clear_5 rfl rfl
theorem i_Chars_put_0 : zins 33 0 = some (.aload_n 0) := by decide +kernel
theorem i_Chars_put_1 : zins 33 1 = some (.getfield 9) := by decide +kernel
theorem i_Chars_put_4 : zins 33 4 = some (.aload_n 0) := by decide +kernel
theorem i_Chars_put_5 : zins 33 5 = some (.getfield 15) := by decide +kernel
theorem i_Chars_put_8 : zins 33 8 = some (.arraylength) := by decide +kernel
theorem i_Chars_put_9 : zins 33 9 = some (.if_icmp .ge 24) := by decide +kernel
theorem i_Chars_put_12 : zins 33 12 = some (.aload_n 0) := by decide +kernel
theorem i_Chars_put_13 : zins 33 13 = some (.getfield 15) := by decide +kernel
theorem i_Chars_put_16 : zins 33 16 = some (.aload_n 0) := by decide +kernel
theorem i_Chars_put_17 : zins 33 17 = some (.getfield 9) := by decide +kernel
theorem i_Chars_put_20 : zins 33 20 = some (.iload_n 1) := by decide +kernel
theorem i_Chars_put_21 : zins 33 21 = some (.i2c) := by decide +kernel
theorem i_Chars_put_22 : zins 33 22 = some (.castore) := by decide +kernel
theorem i_Chars_put_23 : zins 33 23 = some (.aload_n 0) := by decide +kernel
theorem i_Chars_put_24 : zins 33 24 = some (.dup) := by decide +kernel
theorem i_Chars_put_25 : zins 33 25 = some (.getfield 9) := by decide +kernel
theorem i_Chars_put_28 : zins 33 28 = some (.iconst 1) := by decide +kernel
theorem i_Chars_put_29 : zins 33 29 = some (.iadd) := by decide +kernel
theorem i_Chars_put_30 : zins 33 30 = some (.putfield 9) := by decide +kernel
theorem i_Chars_put_33 : zins 33 33 = some (.return_) := by decide +kernel
theorem e_Chars_put (X : zX) (d : Nat) (h : zH) (a N n : Nat) (f : Nat → Int32) (hn : n ≤ N) (hN : N ≤ 700) (c : Int32) (hc : zch c) : zR X d 33 0 (zent 2 [.ref a, .int c]) [] (chS h a N n f) (none, if n < N then chS h a N (n + 1) (upd f n c) else chS h a N n f) := by
  by_cases hlt : n < N
  · rw [if_pos hlt]
    refine zr_aload_n i_Chars_put_0 rfl ?_
    refine zr_getf i_Chars_put_1 chS_o rfl rfl ?_
    refine zr_aload_n i_Chars_put_4 rfl ?_
    refine zr_getf i_Chars_put_5 chS_o rfl rfl ?_
    refine zr_len i_Chars_put_8 chS_r (by decide) (rfl : _ = nI N) ?_
    refine zn_icmp_ge 33 i_Chars_put_9 (by decide) (by omega) (by omega) (fun q => absurd q (by omega)) (fun c_9 => ?_)
    refine zr_aload_n i_Chars_put_12 rfl ?_
    refine zr_getf i_Chars_put_13 chS_o rfl rfl ?_
    refine zr_aload_n i_Chars_put_16 rfl ?_
    refine zr_getf i_Chars_put_17 chS_o rfl rfl ?_
    refine zr_iload_n i_Chars_put_20 rfl ?_
    refine zr_i2c i_Chars_put_21 ?_
    refine zr_top (i2c_ch hc) ?_
    refine ch_store i_Chars_put_22 (by omega) (by omega) ?_
    refine zr_aload_n i_Chars_put_23 rfl ?_
    refine zr_dup i_Chars_put_24 rfl ?_
    refine zr_getf i_Chars_put_25 chS_o rfl rfl ?_
    refine zn_iconst 1 i_Chars_put_28 (by decide) ?_
    refine zn_iadd i_Chars_put_29 ?_
    refine ch_len i_Chars_put_30 rfl ?_
    exact zR.retE i_Chars_put_33 rfl (by rw [show vp_nar .char c = c from hc])
  · rw [if_neg hlt]
    refine zr_aload_n i_Chars_put_0 rfl ?_
    refine zr_getf i_Chars_put_1 chS_o rfl rfl ?_
    refine zr_aload_n i_Chars_put_4 rfl ?_
    refine zr_getf i_Chars_put_5 chS_o rfl rfl ?_
    refine zr_len i_Chars_put_8 chS_r (by decide) (rfl : _ = nI N) ?_
    refine zn_icmp_ge 33 i_Chars_put_9 (by decide) (by omega) (by omega) (fun c_9 => ?_) (fun q => absurd q (by omega))
    exact zR.retE i_Chars_put_33 rfl rfl
theorem e1_Chars_put (X : zX) (d : Nat) (h : zH) (a N : Nat) (l : List Int32) (f : Nat → Int32) (hN : N ≤ 700) (c : Int32) (hc : zch c) : zR X d 33 0 (zent 2 [.ref a, .int c]) [] (chL h a N l f) (none, chL h a N (l ++ [c]) f) := by
  have e := e_Chars_put X d h a N (l.take N).length (lrow f (l.take N)) (by rw [List.length_take]; omega) hN c hc
  have e2 : chL h a N (l ++ [c]) f = if (l.take N).length < N then chS h a N ((l.take N).length + 1) (upd (lrow f (l.take N)) (l.take N).length c) else chS h a N (l.take N).length (lrow f (l.take N)) := by
    unfold chL
    by_cases hlt : l.length < N
    · have t1 : l.take N = l := List.take_of_length_le (by omega)
      have t2 : (l ++ [c]).take N = l ++ [c] := List.take_of_length_le (by rw [List.length_append]; show l.length + 1 ≤ N; omega)
      rw [t1, t2, if_pos hlt, lrow_add, List.length_append]
      rfl
    · have t2 : (l ++ [c]).take N = l.take N := List.take_append_of_le_length (by omega)
      rw [t2, if_neg (by rw [List.length_take]; omega)]
  rw [e2]
  exact e
theorem i_Chars_at_0 : zins 36 0 = some (.iload_n 1) := by decide +kernel
theorem i_Chars_at_1 : zins 36 1 = some (.ifCond .lt 11) := by decide +kernel
theorem i_Chars_at_4 : zins 36 4 = some (.iload_n 1) := by decide +kernel
theorem i_Chars_at_5 : zins 36 5 = some (.aload_n 0) := by decide +kernel
theorem i_Chars_at_6 : zins 36 6 = some (.getfield 9) := by decide +kernel
theorem i_Chars_at_9 : zins 36 9 = some (.if_icmp .lt 7) := by decide +kernel
theorem i_Chars_at_12 : zins 36 12 = some (.iconst (-1)) := by decide +kernel
theorem i_Chars_at_13 : zins 36 13 = some (.goto 9) := by decide +kernel
theorem i_Chars_at_16 : zins 36 16 = some (.aload_n 0) := by decide +kernel
theorem i_Chars_at_17 : zins 36 17 = some (.getfield 15) := by decide +kernel
theorem i_Chars_at_20 : zins 36 20 = some (.iload_n 1) := by decide +kernel
theorem i_Chars_at_21 : zins 36 21 = some (.caload) := by decide +kernel
theorem i_Chars_at_22 : zins 36 22 = some (.ireturn) := by decide +kernel
theorem e_Chars_at (X : zX) (d : Nat) (h : zH) (a N n : Nat) (f : Nat → Int32) (hc : isCh h a N n f) (hn : n ≤ N) (hN : N ≤ 700) (i : Int32) : zR X d 36 0 (zent 2 [.ref a, .int i]) [] h (some (.int (getF f n i)), h) := by
  rcases pk_ix i (n := n) (by omega) with q | q | ⟨j, hj, q⟩
  · rw [getF_neg q]
    refine zr_iload_n i_Chars_at_0 rfl ?_
    refine zr_if_lt 12 i_Chars_at_1 (by decide) (fun _ => ?_) (fun z => absurd q z)
    refine zr_iconst i_Chars_at_12 (v := (-1)) (by decide) ?_
    refine zr_goto 22 i_Chars_at_13 (by decide) ?_
    exact zR.retE i_Chars_at_22 rfl rfl
  · rw [getF_ge q]
    have h0 : ¬ i < 0 := fun z => absurd (Int32.lt_of_le_of_lt q z) (nI_pos (by omega))
    refine zr_iload_n i_Chars_at_0 rfl ?_
    refine zr_if_lt 12 i_Chars_at_1 (by decide) (fun q => absurd q h0) (fun _ => ?_)
    refine zr_iload_n i_Chars_at_4 rfl ?_
    refine zr_aload_n i_Chars_at_5 rfl ?_
    refine zr_getf i_Chars_at_6 hc.1 rfl rfl ?_
    refine zr_icmp_lt 16 i_Chars_at_9 (by decide) (fun z => absurd z (Int32.not_lt.mpr q)) (fun c_9 => ?_)
    refine zr_iconst i_Chars_at_12 (v := (-1)) (by decide) ?_
    refine zr_goto 22 i_Chars_at_13 (by decide) ?_
    exact zR.retE i_Chars_at_22 rfl rfl
  · rw [q, getF_in hj (by omega)]
    refine zr_iload_n i_Chars_at_0 rfl ?_
    refine zN_if_lt 12 i_Chars_at_1 (by decide) (by omega) ?_
    refine zr_iload_n i_Chars_at_4 rfl ?_
    refine zr_aload_n i_Chars_at_5 rfl ?_
    refine zr_getf i_Chars_at_6 hc.1 rfl rfl ?_
    refine zn_icmp_lt 16 i_Chars_at_9 (by decide) (by omega) (by omega) (fun c_9 => ?_) (fun q => absurd q (by omega))
    refine zr_aload_n i_Chars_at_16 rfl ?_
    refine zr_getf i_Chars_at_17 hc.1 rfl rfl ?_
    refine zr_iload_n i_Chars_at_20 rfl ?_
    refine zn_caload i_Chars_at_21 hc.2 (by omega) (by omega) ?_
    exact zR.retE i_Chars_at_22 rfl rfl
