/-! THE CLASS: its strings -/
/-- a string's number, and its letters -/
def zsk (k : Nat) : Prop := 1 ≤ k ∧ k ≤ 21
def sT (k : Nat) : List Int32 := zbyt (39 + k)
theorem zsk_or {k : Nat} (h : zsk k) : k = 1 ∨ k = 2 ∨ k = 3 ∨ k = 4 ∨ k = 5 ∨ k = 6 ∨ k = 7 ∨ k = 8 ∨ k = 9 ∨ k = 10 ∨ k = 11 ∨ k = 12 ∨ k = 13 ∨ k = 14 ∨ k = 15 ∨ k = 16 ∨ k = 17 ∨ k = 18 ∨ k = 19 ∨ k = 20 ∨ k = 21 := by
  unfold zsk at h; omega
theorem s_val {k : Nat} (h : zsk k) : zkf 11 9 k = some (.ref (39 + k)) := by
  rcases zsk_or h with rfl | rfl | rfl | rfl | rfl | rfl | rfl | rfl | rfl | rfl | rfl | rfl | rfl | rfl | rfl | rfl | rfl | rfl | rfl | rfl | rfl <;> rfl
theorem s_cod {k : Nat} (h : zsk k) : zkf 11 15 k = some (.int 0) := by
  rcases zsk_or h with rfl | rfl | rfl | rfl | rfl | rfl | rfl | rfl | rfl | rfl | rfl | rfl | rfl | rfl | rfl | rfl | rfl | rfl | rfl | rfl | rfl <;> rfl
theorem s_cls {k : Nat} (h : zsk k) : zko k = some 11 := by
  rcases zsk_or h with rfl | rfl | rfl | rfl | rfl | rfl | rfl | rfl | rfl | rfl | rfl | rfl | rfl | rfl | rfl | rfl | rfl | rfl | rfl | rfl | rfl <;> rfl
theorem s_row (X : zX) {k : Nat} (h : zsk k) : zka X (39 + k) = some (4, (sT k).length, fun j => .int ((sT k).getD j 0)) := by
  unfold zka sT
  unfold zsk at h
  rw [if_neg (by omega), if_neg (by omega), if_neg (by omega), if_pos (by omega)]
theorem s_chk : ∀ k : Fin 22, (sT k.val).length ≤ 16 ∧ (sT k.val).all (fun c => decide (0 < c.toNatClampNeg ∧ c.toNatClampNeg < 128 ∧ c = nI c.toNatClampNeg)) = true := by decide +kernel
theorem s_len {k : Nat} (h : zsk k) : (sT k).length ≤ 16 ∧ ∀ c, c ∈ sT k → ∃ x, 0 < x ∧ x < 128 ∧ c = nI x := by
  have := s_chk ⟨k, by have := h.2; omega⟩
  exact ⟨this.1, fun c hc => ⟨c.toNatClampNeg, of_decide_eq_true (List.all_eq_true.mp this.2 c hc)⟩⟩
theorem s_at {k i : Nat} (h : zsk k) (hi : i < (sT k).length) : ∃ x, 0 < x ∧ x < 128 ∧ (sT k).getD i 0 = nI x := by
  rw [List.getD_eq_getElem?_getD, List.getElem?_eq_getElem hi]
  exact (s_len h).2 _ (List.getElem_mem hi)
theorem zrcv_s {h : zH} {k : Nat} (hz : zlow h) (hk : zsk k) : zrcv h k = some 11 := by
  unfold zrcv
  unfold zsk at hk
  rw [hz k (by omega)]
  exact s_cls hk
theorem b_and : ∀ x : Fin 128, (((nI x.val &&& 255).toUInt32 % 65536).toInt32) = nI x.val := by decide +kernel
section ST
variable {X : zX} {d j pc : Nat} {L : zL} {r : List Value} {h : zH} {u : Option Value × zH}
theorem zn_baloadK {a n k : Nat} {f : Nat → Value} (hi : zins j pc = some (.baload)) (hc : h.2.2 a = none) (hk : zka X a = some (4, n, f)) (hlt : k < n) (hn : n < 2 ^ 31) (kk : zR X d j (pc + 1) L (f k :: r) h u) : zR X d j pc L (.int (nI k) :: .ref a :: r) h u := zr_baloadK hi hc hk (nb hlt hn) (by rw [nI_clamp (by omega)]; exact kk)
end ST
theorem i_Str_coder_0 : zins 164 0 = some (.getstatic 38) := by decide +kernel
theorem i_Str_coder_3 : zins 164 3 = some (.ifCond .eq 10) := by decide +kernel
theorem i_Str_coder_6 : zins 164 6 = some (.aload_n 0) := by decide +kernel
theorem i_Str_coder_7 : zins 164 7 = some (.getfield 15) := by decide +kernel
theorem i_Str_coder_10 : zins 164 10 = some (.goto 4) := by decide +kernel
theorem i_Str_coder_13 : zins 164 13 = some (.iconst 1) := by decide +kernel
theorem i_Str_coder_14 : zins 164 14 = some (.ireturn) := by decide +kernel
theorem e_Str_coder (X : zX) (d : Nat) (h : zH) (hz : zlow h) (k : Nat) (hk : zsk k) : zR X d 164 0 (zent 1 [.ref k]) [] h (some (.int 0), h) := by
  refine zr_gets i_Str_coder_0 rfl ?_
  refine zr_if_eq 13 i_Str_coder_3 (by decide) (fun q => absurd q (by decide)) (fun _ => ?_)
  refine zr_aload_n i_Str_coder_6 rfl ?_
  refine zr_getk i_Str_coder_7 (by have := hk.2; exact hz k (by omega)) (s_cod hk) ?_
  refine zr_goto 14 i_Str_coder_10 (by decide) ?_
  exact zR.retE i_Str_coder_14 rfl rfl
theorem i_Str_isLatin1_0 : zins 166 0 = some (.getstatic 38) := by decide +kernel
theorem i_Str_isLatin1_3 : zins 166 3 = some (.ifCond .eq 14) := by decide +kernel
theorem i_Str_isLatin1_6 : zins 166 6 = some (.aload_n 0) := by decide +kernel
theorem i_Str_isLatin1_7 : zins 166 7 = some (.getfield 15) := by decide +kernel
theorem i_Str_isLatin1_10 : zins 166 10 = some (.ifCond .ne 7) := by decide +kernel
theorem i_Str_isLatin1_13 : zins 166 13 = some (.iconst 1) := by decide +kernel
theorem i_Str_isLatin1_14 : zins 166 14 = some (.goto 4) := by decide +kernel
theorem i_Str_isLatin1_17 : zins 166 17 = some (.iconst 0) := by decide +kernel
theorem i_Str_isLatin1_18 : zins 166 18 = some (.ireturn) := by decide +kernel
theorem e_Str_isLatin1 (X : zX) (d : Nat) (h : zH) (hz : zlow h) (k : Nat) (hk : zsk k) : zR X d 166 0 (zent 1 [.ref k]) [] h (some (.int (zb true)), h) := by
  refine zr_gets i_Str_isLatin1_0 rfl ?_
  refine zr_if_eq 17 i_Str_isLatin1_3 (by decide) (fun q => absurd q (by decide)) (fun _ => ?_)
  refine zr_aload_n i_Str_isLatin1_6 rfl ?_
  refine zr_getk i_Str_isLatin1_7 (by have := hk.2; exact hz k (by omega)) (s_cod hk) ?_
  refine zr_if_ne 17 i_Str_isLatin1_10 (by decide) (fun q => absurd rfl q) (fun _ => ?_)
  refine zr_iconst i_Str_isLatin1_13 (v := 1) (by decide) ?_
  refine zr_goto 18 i_Str_isLatin1_14 (by decide) ?_
  exact zR.retE i_Str_isLatin1_18 rfl rfl
theorem i_Str_length_0 : zins 163 0 = some (.aload_n 0) := by decide +kernel
theorem i_Str_length_1 : zins 163 1 = some (.getfield 9) := by decide +kernel
theorem i_Str_length_4 : zins 163 4 = some (.arraylength) := by decide +kernel
theorem i_Str_length_5 : zins 163 5 = some (.aload_n 0) := by decide +kernel
theorem i_Str_length_6 : zins 163 6 = some (.invokevirtual 335) := by decide +kernel
theorem i_Str_length_9 : zins 163 9 = some (.ishr) := by decide +kernel
theorem i_Str_length_10 : zins 163 10 = some (.ireturn) := by decide +kernel
theorem shr0 : ∀ m : Fin 17, (nI m.val >>> ((0 : Int32) &&& 31)) = nI m.val := by decide +kernel
theorem e_Str_length (X : zX) (d : Nat) (h : zH) (hz : zlow h) (k : Nat) (hk : zsk k) : zR X (d + 1) 163 0 (zent 1 [.ref k]) [] h (some (.int (nI (sT k).length)), h) := by
  have hl := (s_len hk).1
  refine zr_aload_n i_Str_length_0 rfl ?_
  refine zr_getk i_Str_length_1 (by have := hk.2; exact hz k (by omega)) (s_val hk) ?_
  refine zr_lenK i_Str_length_4 (by have := hk.2; exact hz (39 + k) (by omega)) (s_row X hk) (rfl : _ = nI (sT k).length) ?_
  refine zr_aload_n i_Str_length_5 rfl ?_
  refine zr_cv0 i_Str_length_6 rfl (by decide) (zrcv_s hz hk) (Nat.le_of_ble_eq_true rfl) (Nat.le_of_ble_eq_true rfl) (e_Str_coder X _ h hz k hk) ?_
  refine zr_ishr i_Str_length_9 ?_
  exact zR.retE i_Str_length_10 rfl (by rw [shr0 ⟨_, by omega⟩])
theorem zentl3 {a b : Int32} {v : Value} (hv : v.category = 1) : zentl [.int a, .int b, v] = [some (.int a), some (.int b), some v] := by
  cases v with
  | long x => exact absurd hv (by show ¬ (2 : Nat) = 1; decide)
  | double x => exact absurd hv (by show ¬ (2 : Nat) = 1; decide)
  | _ => rfl
theorem i_Prec_checkIndex_0 : zins 174 0 = some (.iload_n 0) := by decide +kernel
theorem i_Prec_checkIndex_1 : zins 174 1 = some (.ifCond .lt 8) := by decide +kernel
theorem i_Prec_checkIndex_4 : zins 174 4 = some (.iload_n 0) := by decide +kernel
theorem i_Prec_checkIndex_5 : zins 174 5 = some (.iload_n 1) := by decide +kernel
theorem i_Prec_checkIndex_6 : zins 174 6 = some (.if_icmp .lt 10) := by decide +kernel
theorem i_Prec_checkIndex_9 : zins 174 9 = some (.aload_n 2) := by decide +kernel
theorem i_Prec_checkIndex_10 : zins 174 10 = some (.iload_n 0) := by decide +kernel
theorem i_Prec_checkIndex_11 : zins 174 11 = some (.iload_n 1) := by decide +kernel
theorem i_Prec_checkIndex_12 : zins 174 12 = some (.invokestatic 95) := by decide +kernel
theorem i_Prec_checkIndex_15 : zins 174 15 = some (.athrow) := by decide +kernel
theorem i_Prec_checkIndex_16 : zins 174 16 = some (.iload_n 0) := by decide +kernel
theorem i_Prec_checkIndex_17 : zins 174 17 = some (.ireturn) := by decide +kernel
theorem e_Prec_checkIndex (X : zX) (d : Nat) (h : zH) (i m : Nat) (hi : i < m) (hm : m < 1000) (v : Value) (hv : v.category = 1) : zR X d 174 0 (zent 3 [.int (nI i), .int (nI m), v]) [] h (some (.int (nI i)), h) := by
  rw [show zent 3 [.int (nI i), .int (nI m), v] = [some (.int (nI i)), some (.int (nI m)), some v] by unfold zent; rw [zentl3 hv]; rfl]
  refine zr_iload_n i_Prec_checkIndex_0 rfl ?_
  refine zN_if_lt 9 i_Prec_checkIndex_1 (by decide) (by omega) ?_
  refine zr_iload_n i_Prec_checkIndex_4 rfl ?_
  refine zr_iload_n i_Prec_checkIndex_5 rfl ?_
  refine zn_icmp_lt 16 i_Prec_checkIndex_6 (by decide) (by omega) (by omega) (fun c_6 => ?_) (fun q => absurd q (by omega))
  refine zr_iload_n i_Prec_checkIndex_16 rfl ?_
  exact zR.retE i_Prec_checkIndex_17 rfl rfl
theorem i_Str_checkIndex_0 : zins 167 0 = some (.iload_n 0) := by decide +kernel
theorem i_Str_checkIndex_1 : zins 167 1 = some (.iload_n 1) := by decide +kernel
theorem i_Str_checkIndex_2 : zins 167 2 = some (.getstatic 1053) := by decide +kernel
theorem i_Str_checkIndex_5 : zins 167 5 = some (.invokestatic 1059) := by decide +kernel
theorem i_Str_checkIndex_8 : zins 167 8 = some (.pop) := by decide +kernel
theorem i_Str_checkIndex_9 : zins 167 9 = some (.return_) := by decide +kernel
theorem e_Str_checkIndex (X : zX) (d : Nat) (hX : X.2.2.category = 1) (h : zH) (i m : Nat) (hi : i < m) (hm : m < 1000) : zR X (d + 1) 167 0 (zent 2 [.int (nI i), .int (nI m)]) [] h (none, h) := by
  refine zr_iload_n i_Str_checkIndex_0 rfl ?_
  refine zr_iload_n i_Str_checkIndex_1 rfl ?_
  refine zr_gets i_Str_checkIndex_2 rfl ?_
  refine zr_cs3 i_Str_checkIndex_5 rfl (by decide) (Nat.le_of_ble_eq_true rfl) (by rw [zentl3 hX]; exact Nat.le_of_ble_eq_true rfl) (e_Prec_checkIndex X _ h i m hi hm X.2.2 hX) ?_
  refine zr_pop i_Str_checkIndex_8 rfl ?_
  exact zR.retE i_Str_checkIndex_9 rfl rfl
theorem i_Lat_charAt_0 : zins 170 0 = some (.iload_n 1) := by decide +kernel
theorem i_Lat_charAt_1 : zins 170 1 = some (.aload_n 0) := by decide +kernel
theorem i_Lat_charAt_2 : zins 170 2 = some (.arraylength) := by decide +kernel
theorem i_Lat_charAt_3 : zins 170 3 = some (.invokestatic 9) := by decide +kernel
theorem i_Lat_charAt_6 : zins 170 6 = some (.aload_n 0) := by decide +kernel
theorem i_Lat_charAt_7 : zins 170 7 = some (.iload_n 1) := by decide +kernel
theorem i_Lat_charAt_8 : zins 170 8 = some (.baload) := by decide +kernel
theorem i_Lat_charAt_9 : zins 170 9 = some (.sipush 255) := by decide +kernel
theorem i_Lat_charAt_12 : zins 170 12 = some (.iand) := by decide +kernel
theorem i_Lat_charAt_13 : zins 170 13 = some (.i2c) := by decide +kernel
theorem i_Lat_charAt_14 : zins 170 14 = some (.ireturn) := by decide +kernel
theorem s_zch {k i : Nat} (hk : zsk k) (hi : i < (sT k).length) : zch ((sT k).getD i 0) := by
  obtain ⟨x, h1, h2, e⟩ := s_at hk hi
  rw [e]; exact zch_bt (by omega)
theorem e_Lat_charAt (X : zX) (d : Nat) (hX : X.2.2.category = 1) (h : zH) (hz : zlow h) (k : Nat) (hk : zsk k) (i : Nat) (hi : i < (sT k).length) : zR X (d + 2) 170 0 (zent 2 [.ref (39 + k), .int (nI i)]) [] h (some (.int ((sT k).getD i 0)), h) := by
  have hl := (s_len hk).1
  obtain ⟨x, h1, h2, e⟩ := s_at hk hi
  have hb : (((sT k).getD i 0 &&& 255).toUInt32 % 65536).toInt32 = (sT k).getD i 0 := by rw [e]; exact b_and ⟨x, h2⟩
  refine zr_iload_n i_Lat_charAt_0 rfl ?_
  refine zr_aload_n i_Lat_charAt_1 rfl ?_
  refine zr_lenK i_Lat_charAt_2 (by have := hk.2; exact hz (39 + k) (by omega)) (s_row X hk) (rfl : _ = nI (sT k).length) ?_
  refine zr_cs20 i_Lat_charAt_3 rfl (by decide) (Nat.le_of_ble_eq_true rfl) (Nat.le_of_ble_eq_true rfl) (e_Str_checkIndex X _ hX h i (sT k).length hi (by omega)) ?_
  refine zr_aload_n i_Lat_charAt_6 rfl ?_
  refine zr_iload_n i_Lat_charAt_7 rfl ?_
  refine zn_baloadK i_Lat_charAt_8 (by have := hk.2; exact hz (39 + k) (by omega)) (s_row X hk) hi (by omega) ?_
  refine zr_sipush i_Lat_charAt_9 (v := 255) (by decide) ?_
  refine zr_iand i_Lat_charAt_12 ?_
  refine zr_i2c i_Lat_charAt_13 ?_
  refine zr_top (y := (sT k).getD i 0) hb ?_
  exact zR.retE i_Lat_charAt_14 (zretC (zch_nar (s_zch hk hi))) rfl
theorem i_Str_charAt_0 : zins 165 0 = some (.aload_n 0) := by decide +kernel
theorem i_Str_charAt_1 : zins 165 1 = some (.invokevirtual 492) := by decide +kernel
theorem i_Str_charAt_4 : zins 165 4 = some (.ifCond .eq 12) := by decide +kernel
theorem i_Str_charAt_7 : zins 165 7 = some (.aload_n 0) := by decide +kernel
theorem i_Str_charAt_8 : zins 165 8 = some (.getfield 9) := by decide +kernel
theorem i_Str_charAt_11 : zins 165 11 = some (.iload_n 1) := by decide +kernel
theorem i_Str_charAt_12 : zins 165 12 = some (.invokestatic 495) := by decide +kernel
theorem i_Str_charAt_15 : zins 165 15 = some (.ireturn) := by decide +kernel
theorem i_Str_charAt_16 : zins 165 16 = some (.aload_n 0) := by decide +kernel
theorem i_Str_charAt_17 : zins 165 17 = some (.getfield 9) := by decide +kernel
theorem i_Str_charAt_20 : zins 165 20 = some (.iload_n 1) := by decide +kernel
theorem i_Str_charAt_21 : zins 165 21 = some (.invokestatic 498) := by decide +kernel
theorem i_Str_charAt_24 : zins 165 24 = some (.ireturn) := by decide +kernel
theorem e_Str_charAt (X : zX) (d : Nat) (hX : X.2.2.category = 1) (h : zH) (hz : zlow h) (k : Nat) (hk : zsk k) (i : Nat) (hi : i < (sT k).length) : zR X (d + 3) 165 0 (zent 2 [.ref k, .int (nI i)]) [] h (some (.int ((sT k).getD i 0)), h) := by
  refine zr_aload_n i_Str_charAt_0 rfl ?_
  refine zr_cv0 i_Str_charAt_1 rfl (by decide) (zrcv_s hz hk) (Nat.le_of_ble_eq_true rfl) (Nat.le_of_ble_eq_true rfl) (e_Str_isLatin1 X _ h hz k hk) ?_
  refine zB_if_eq 16 i_Str_charAt_4 (by decide) (fun q => absurd q (by decide)) (fun _ => ?_)
  refine zr_aload_n i_Str_charAt_7 rfl ?_
  refine zr_getk i_Str_charAt_8 (by have := hk.2; exact hz k (by omega)) (s_val hk) ?_
  refine zr_iload_n i_Str_charAt_11 rfl ?_
  refine zr_cs2 i_Str_charAt_12 rfl (by decide) (Nat.le_of_ble_eq_true rfl) (Nat.le_of_ble_eq_true rfl) (e_Lat_charAt X _ hX h hz k hk i hi) ?_
  exact zR.retE i_Str_charAt_15 (zretC (zch_nar (s_zch hk hi))) rfl
theorem i_Lat_canEncode_0 : zins 172 0 = some (.iload_n 0) := by decide +kernel
theorem i_Lat_canEncode_1 : zins 172 1 = some (.ifCond .lt 14) := by decide +kernel
theorem i_Lat_canEncode_4 : zins 172 4 = some (.iload_n 0) := by decide +kernel
theorem i_Lat_canEncode_5 : zins 172 5 = some (.sipush 255) := by decide +kernel
theorem i_Lat_canEncode_8 : zins 172 8 = some (.if_icmp .gt 7) := by decide +kernel
theorem i_Lat_canEncode_11 : zins 172 11 = some (.iconst 1) := by decide +kernel
theorem i_Lat_canEncode_12 : zins 172 12 = some (.goto 4) := by decide +kernel
theorem i_Lat_canEncode_15 : zins 172 15 = some (.iconst 0) := by decide +kernel
theorem i_Lat_canEncode_16 : zins 172 16 = some (.ireturn) := by decide +kernel
theorem e_Lat_canEncode (X : zX) (d : Nat) (h : zH) (w : Nat) (hw : w < 65536) : zR X d 172 0 (zent 1 [.int (nI w)]) [] h (some (.int (zb (decide (w ≤ 255)))), h) := by
  refine zr_iload_n i_Lat_canEncode_0 rfl ?_
  refine zN_if_lt 15 i_Lat_canEncode_1 (by decide) (by omega) ?_
  refine zr_iload_n i_Lat_canEncode_4 rfl ?_
  refine zn_sipush 255 i_Lat_canEncode_5 (by decide) ?_
  refine zn_icmp_gt 15 i_Lat_canEncode_8 (by decide) (by omega) (by omega) (fun c_8 => ?_) (fun c_8 => ?_)
  · skip
    refine zr_iconst i_Lat_canEncode_15 (v := 0) (by decide) ?_
    exact zR.retE i_Lat_canEncode_16 rfl (by simp [zb, *]; try omega)
  · skip
    refine zr_iconst i_Lat_canEncode_11 (v := 1) (by decide) ?_
    refine zr_goto 16 i_Lat_canEncode_12 (by decide) ?_
    exact zR.retE i_Lat_canEncode_16 rfl (by simp [zb, *]; try omega)
theorem i_Lat_indexOfChar_0 : zins 173 0 = some (.iload_n 1) := by decide +kernel
theorem i_Lat_indexOfChar_1 : zins 173 1 = some (.i2b) := by decide +kernel
theorem i_Lat_indexOfChar_2 : zins 173 2 = some (.istore 4) := by decide +kernel
theorem i_Lat_indexOfChar_4 : zins 173 4 = some (.iload_n 2) := by decide +kernel
theorem i_Lat_indexOfChar_5 : zins 173 5 = some (.istore 5) := by decide +kernel
theorem i_Lat_indexOfChar_7 : zins 173 7 = some (.iload 5) := by decide +kernel
theorem i_Lat_indexOfChar_9 : zins 173 9 = some (.iload_n 3) := by decide +kernel
theorem i_Lat_indexOfChar_10 : zins 173 10 = some (.if_icmp .ge 21) := by decide +kernel
theorem i_Lat_indexOfChar_13 : zins 173 13 = some (.aload_n 0) := by decide +kernel
theorem i_Lat_indexOfChar_14 : zins 173 14 = some (.iload 5) := by decide +kernel
theorem i_Lat_indexOfChar_16 : zins 173 16 = some (.baload) := by decide +kernel
theorem i_Lat_indexOfChar_17 : zins 173 17 = some (.iload 4) := by decide +kernel
theorem i_Lat_indexOfChar_19 : zins 173 19 = some (.if_icmp .ne 6) := by decide +kernel
theorem i_Lat_indexOfChar_22 : zins 173 22 = some (.iload 5) := by decide +kernel
theorem i_Lat_indexOfChar_24 : zins 173 24 = some (.ireturn) := by decide +kernel
theorem i_Lat_indexOfChar_25 : zins 173 25 = some (.iinc 5 1) := by decide +kernel
theorem i_Lat_indexOfChar_28 : zins 173 28 = some (.goto (-21)) := by decide +kernel
theorem i_Lat_indexOfChar_31 : zins 173 31 = some (.iconst (-1)) := by decide +kernel
theorem i_Lat_indexOfChar_32 : zins 173 32 = some (.ireturn) := by decide +kernel
def ixF (w : List Int32) (c : Int32) : Int32 := tI (zfst (fun i => decide (w.getD i 0 = c)) 0 w.length)
theorem b_lo : ∀ w : Fin 256, w.val < 128 → (nI w.val).toInt8.toInt32 = nI w.val := by decide +kernel
theorem b_hi : ∀ w : Fin 256, 128 ≤ w.val → (nI w.val).toInt8.toInt32 < 0 := by decide +kernel
theorem b_eq {x w : Nat} (hx : x < 128) (hw : w < 256) : nI x = (nI w).toInt8.toInt32 ↔ nI x = nI w := by
  by_cases h : w < 128
  · rw [b_lo ⟨w, hw⟩ h]
  · have hn := b_hi ⟨w, hw⟩ (by show 128 ≤ w; omega)
    refine ⟨fun e => absurd (show nI x < 0 by rw [e]; exact hn) (nI_pos (by omega)), fun e => ?_⟩
    have := (nI_eq (a := x) (b := w) (by omega) (by omega)).mp e
    omega
theorem l_Lat_indexOfChar (X : zX) (d : Nat) (h : zH) (hz : zlow h) (k : Nat) (hk : zsk k) (w : Nat) (hw : w < 256) (y : Int32) : ∀ (m i : Nat), i + m = (sT k).length → zR X d 173 7 [some (.ref (39 + k)), some (.int (nI w)), some (.int y), some (.int (nI (sT k).length)), some (.int (nI w).toInt8.toInt32), some (.int (nI i))] [] h (some (.int (tI (zfst (fun i => decide ((sT k).getD i 0 = nI w)) i m))), h) := by
  have hl := (s_len hk).1
  intro m
  induction m with
  | zero =>
    intro i him
    refine zr_iload i_Lat_indexOfChar_7 rfl ?_
    refine zr_iload_n i_Lat_indexOfChar_9 rfl ?_
    refine zn_icmp_ge 31 i_Lat_indexOfChar_10 (by decide) (by omega) (by omega) (fun c_10 => ?_) (fun q => absurd q (by omega))
    refine zr_iconst i_Lat_indexOfChar_31 (v := (-1)) (by decide) ?_
    exact zR.retE i_Lat_indexOfChar_32 rfl rfl
  | succ m ih =>
    intro i him
    obtain ⟨x, h1, h2, e⟩ := s_at hk (i := i) (by omega)
    have hiff : (sT k).getD i 0 = (nI w).toInt8.toInt32 ↔ (sT k).getD i 0 = nI w := by rw [e]; exact b_eq h2 hw
    rw [zfst]
    by_cases hc : (sT k).getD i 0 = nI w
    · rw [if_pos (decide_eq_true hc)]
      refine zr_iload i_Lat_indexOfChar_7 rfl ?_
      refine zr_iload_n i_Lat_indexOfChar_9 rfl ?_
      refine zn_icmp_ge 31 i_Lat_indexOfChar_10 (by decide) (by omega) (by omega) (fun q => absurd q (by omega)) (fun c_10 => ?_)
      refine zr_aload_n i_Lat_indexOfChar_13 rfl ?_
      refine zr_iload i_Lat_indexOfChar_14 rfl ?_
      refine zn_baloadK i_Lat_indexOfChar_16 (by have := hk.2; exact hz (39 + k) (by omega)) (s_row X hk) (by omega) (by omega) ?_
      refine zr_iload i_Lat_indexOfChar_17 rfl ?_
      refine zr_icmp_ne 25 i_Lat_indexOfChar_19 (by decide) (fun q => absurd (hiff.mpr hc) q) (fun c_19 => ?_)
      refine zr_iload i_Lat_indexOfChar_22 rfl ?_
      exact zR.retE i_Lat_indexOfChar_24 rfl rfl
    · rw [if_neg (fun z => hc (of_decide_eq_true z))]
      refine zr_iload i_Lat_indexOfChar_7 rfl ?_
      refine zr_iload_n i_Lat_indexOfChar_9 rfl ?_
      refine zn_icmp_ge 31 i_Lat_indexOfChar_10 (by decide) (by omega) (by omega) (fun q => absurd q (by omega)) (fun c_10 => ?_)
      refine zr_aload_n i_Lat_indexOfChar_13 rfl ?_
      refine zr_iload i_Lat_indexOfChar_14 rfl ?_
      refine zn_baloadK i_Lat_indexOfChar_16 (by have := hk.2; exact hz (39 + k) (by omega)) (s_row X hk) (by omega) (by omega) ?_
      refine zr_iload i_Lat_indexOfChar_17 rfl ?_
      refine zr_icmp_ne 25 i_Lat_indexOfChar_19 (by decide) (fun c_19 => ?_) (fun q => absurd q (fun z => hc (hiff.mp z)))
      refine zn_iinc i_Lat_indexOfChar_25 rfl rfl ?_
      refine zr_goto 7 i_Lat_indexOfChar_28 (by decide) ?_
      exact ih (i + 1) (by omega)
theorem e_Lat_indexOfChar (X : zX) (d : Nat) (h : zH) (hz : zlow h) (k : Nat) (hk : zsk k) (w : Nat) (hw : w < 256) : zR X d 173 0 (zent 6 [.ref (39 + k), .int (nI w), .int (nI 0), .int (nI (sT k).length)]) [] h (some (.int (ixF (sT k) (nI w))), h) := by
  refine zr_iload_n i_Lat_indexOfChar_0 rfl ?_
  refine zr_i2b i_Lat_indexOfChar_1 ?_
  refine zr_istore i_Lat_indexOfChar_2 rfl ?_
  refine zr_iload_n i_Lat_indexOfChar_4 rfl ?_
  refine zr_istore i_Lat_indexOfChar_5 rfl ?_
  exact l_Lat_indexOfChar X d h hz k hk w hw (nI 0) (sT k).length 0 (by omega)
theorem i_Lat_indexOf_0 : zins 171 0 = some (.iload_n 1) := by decide +kernel
theorem i_Lat_indexOf_1 : zins 171 1 = some (.invokestatic 88) := by decide +kernel
theorem i_Lat_indexOf_4 : zins 171 4 = some (.ifCond .ne 5) := by decide +kernel
theorem i_Lat_indexOf_7 : zins 171 7 = some (.iconst (-1)) := by decide +kernel
theorem i_Lat_indexOf_8 : zins 171 8 = some (.ireturn) := by decide +kernel
theorem i_Lat_indexOf_9 : zins 171 9 = some (.iload_n 2) := by decide +kernel
theorem i_Lat_indexOf_10 : zins 171 10 = some (.iconst 0) := by decide +kernel
theorem i_Lat_indexOf_11 : zins 171 11 = some (.invokestatic 92) := by decide +kernel
theorem i_Lat_indexOf_14 : zins 171 14 = some (.istore_n 2) := by decide +kernel
theorem i_Lat_indexOf_15 : zins 171 15 = some (.iload_n 3) := by decide +kernel
theorem i_Lat_indexOf_16 : zins 171 16 = some (.aload_n 0) := by decide +kernel
theorem i_Lat_indexOf_17 : zins 171 17 = some (.arraylength) := by decide +kernel
theorem i_Lat_indexOf_18 : zins 171 18 = some (.invokestatic 38) := by decide +kernel
theorem i_Lat_indexOf_21 : zins 171 21 = some (.istore_n 3) := by decide +kernel
theorem i_Lat_indexOf_22 : zins 171 22 = some (.iload_n 2) := by decide +kernel
theorem i_Lat_indexOf_23 : zins 171 23 = some (.iload_n 3) := by decide +kernel
theorem i_Lat_indexOf_24 : zins 171 24 = some (.if_icmp .lt 5) := by decide +kernel
theorem i_Lat_indexOf_27 : zins 171 27 = some (.iconst (-1)) := by decide +kernel
theorem i_Lat_indexOf_28 : zins 171 28 = some (.ireturn) := by decide +kernel
theorem i_Lat_indexOf_29 : zins 171 29 = some (.aload_n 0) := by decide +kernel
theorem i_Lat_indexOf_30 : zins 171 30 = some (.iload_n 1) := by decide +kernel
theorem i_Lat_indexOf_31 : zins 171 31 = some (.iload_n 2) := by decide +kernel
theorem i_Lat_indexOf_32 : zins 171 32 = some (.iload_n 3) := by decide +kernel
theorem i_Lat_indexOf_33 : zins 171 33 = some (.invokestatic 95) := by decide +kernel
theorem i_Lat_indexOf_36 : zins 171 36 = some (.ireturn) := by decide +kernel
theorem ixF_none {k w : Nat} (hk : zsk k) (hw : 255 < w) (hw2 : w < 65536) : ixF (sT k) (nI w) = -1 := by
  unfold ixF
  cases e : zfst (fun i => decide ((sT k).getD i 0 = nI w)) 0 (sT k).length with
  | none => rfl
  | some i =>
    obtain ⟨-, h2, h3⟩ := zfst_some e
    obtain ⟨x, hx1, hx2, ex⟩ := s_at hk (i := i) (by omega)
    have h3 := of_decide_eq_true h3
    rw [ex] at h3
    have := (nI_eq (a := x) (b := w) (by omega) (by omega)).mp h3
    omega
theorem e_Lat_indexOf (X : zX) (d : Nat) (h : zH) (hz : zlow h) (k : Nat) (hk : zsk k) (w : Nat) (hw : w < 65536) : zR X (d + 2) 171 0 (zent 4 [.ref (39 + k), .int (nI w), .int (nI 0), .int (nI (sT k).length)]) [] h (some (.int (ixF (sT k) (nI w))), h) := by
  have hl := (s_len hk).1
  have hce := e_Lat_canEncode X (d + 1) h w hw
  by_cases hc : w ≤ 255
  · rw [decide_eq_true hc] at hce
    have hmx : (if nI 0 < (0 : Int32) then (0 : Int32) else nI 0) = nI 0 := if_neg (by decide)
    have hmn : (if nI (sT k).length < nI (sT k).length then nI (sT k).length else nI (sT k).length) = nI (sT k).length := by split <;> rfl
    by_cases h0 : 0 < (sT k).length
    · skip
      refine zr_iload_n i_Lat_indexOf_0 rfl ?_
      refine zr_cs1 i_Lat_indexOf_1 rfl (by decide) (Nat.le_of_ble_eq_true rfl) (Nat.le_of_ble_eq_true rfl) (hce) ?_
      refine zB_if_ne 9 i_Lat_indexOf_4 (by decide) (fun _ => ?_) (fun q => absurd q (by decide))
      refine zr_iload_n i_Lat_indexOf_9 rfl ?_
      refine zr_iconst i_Lat_indexOf_10 (v := 0) (by decide) ?_
      refine zr_max i_Lat_indexOf_11 rfl (Nat.le_of_ble_eq_true rfl) ?_
      refine zr_top (y := nI 0) hmx ?_
      refine zr_istore_n i_Lat_indexOf_14 rfl ?_
      refine zr_iload_n i_Lat_indexOf_15 rfl ?_
      refine zr_aload_n i_Lat_indexOf_16 rfl ?_
      refine zr_lenK i_Lat_indexOf_17 (by have := hk.2; exact hz (39 + k) (by omega)) (s_row X hk) (rfl : _ = nI (sT k).length) ?_
      refine zr_min i_Lat_indexOf_18 rfl (Nat.le_of_ble_eq_true rfl) ?_
      refine zr_top (y := nI (sT k).length) hmn ?_
      refine zr_istore_n i_Lat_indexOf_21 rfl ?_
      refine zr_iload_n i_Lat_indexOf_22 rfl ?_
      refine zr_iload_n i_Lat_indexOf_23 rfl ?_
      refine zn_icmp_lt 29 i_Lat_indexOf_24 (by decide) (by omega) (by omega) (fun c_24 => ?_) (fun q => absurd q (by omega))
      refine zr_aload_n i_Lat_indexOf_29 rfl ?_
      refine zr_iload_n i_Lat_indexOf_30 rfl ?_
      refine zr_iload_n i_Lat_indexOf_31 rfl ?_
      refine zr_iload_n i_Lat_indexOf_32 rfl ?_
      refine zr_cs4 i_Lat_indexOf_33 rfl (by decide) (Nat.le_of_ble_eq_true rfl) (Nat.le_of_ble_eq_true rfl) (e_Lat_indexOfChar X _ h hz k hk w (by omega)) ?_
      exact zR.retE i_Lat_indexOf_36 rfl rfl
    · have hnil : (sT k) = [] := List.eq_nil_of_length_eq_zero (by omega)
      have hix : ixF (sT k) (nI w) = -1 := by rw [hnil]; rfl
      rw [hix]
      refine zr_iload_n i_Lat_indexOf_0 rfl ?_
      refine zr_cs1 i_Lat_indexOf_1 rfl (by decide) (Nat.le_of_ble_eq_true rfl) (Nat.le_of_ble_eq_true rfl) (hce) ?_
      refine zB_if_ne 9 i_Lat_indexOf_4 (by decide) (fun _ => ?_) (fun q => absurd q (by decide))
      refine zr_iload_n i_Lat_indexOf_9 rfl ?_
      refine zr_iconst i_Lat_indexOf_10 (v := 0) (by decide) ?_
      refine zr_max i_Lat_indexOf_11 rfl (Nat.le_of_ble_eq_true rfl) ?_
      refine zr_top (y := nI 0) hmx ?_
      refine zr_istore_n i_Lat_indexOf_14 rfl ?_
      refine zr_iload_n i_Lat_indexOf_15 rfl ?_
      refine zr_aload_n i_Lat_indexOf_16 rfl ?_
      refine zr_lenK i_Lat_indexOf_17 (by have := hk.2; exact hz (39 + k) (by omega)) (s_row X hk) (rfl : _ = nI (sT k).length) ?_
      refine zr_min i_Lat_indexOf_18 rfl (Nat.le_of_ble_eq_true rfl) ?_
      refine zr_top (y := nI (sT k).length) hmn ?_
      refine zr_istore_n i_Lat_indexOf_21 rfl ?_
      refine zr_iload_n i_Lat_indexOf_22 rfl ?_
      refine zr_iload_n i_Lat_indexOf_23 rfl ?_
      refine zn_icmp_lt 29 i_Lat_indexOf_24 (by decide) (by omega) (by omega) (fun q => absurd q (by omega)) (fun c_24 => ?_)
      refine zr_iconst i_Lat_indexOf_27 (v := (-1)) (by decide) ?_
      exact zR.retE i_Lat_indexOf_28 rfl rfl
  · rw [decide_eq_false hc] at hce
    rw [ixF_none hk (by omega) hw]
    refine zr_iload_n i_Lat_indexOf_0 rfl ?_
    refine zr_cs1 i_Lat_indexOf_1 rfl (by decide) (Nat.le_of_ble_eq_true rfl) (Nat.le_of_ble_eq_true rfl) (hce) ?_
    refine zB_if_ne 9 i_Lat_indexOf_4 (by decide) (fun q => absurd q (by decide)) (fun _ => ?_)
    refine zr_iconst i_Lat_indexOf_7 (v := (-1)) (by decide) ?_
    exact zR.retE i_Lat_indexOf_8 rfl rfl
theorem i_Str_indexOf2_0 : zins 169 0 = some (.aload_n 0) := by decide +kernel
theorem i_Str_indexOf2_1 : zins 169 1 = some (.invokevirtual 492) := by decide +kernel
theorem i_Str_indexOf2_4 : zins 169 4 = some (.ifCond .eq 19) := by decide +kernel
theorem i_Str_indexOf2_7 : zins 169 7 = some (.aload_n 0) := by decide +kernel
theorem i_Str_indexOf2_8 : zins 169 8 = some (.getfield 9) := by decide +kernel
theorem i_Str_indexOf2_11 : zins 169 11 = some (.iload_n 1) := by decide +kernel
theorem i_Str_indexOf2_12 : zins 169 12 = some (.iload_n 2) := by decide +kernel
theorem i_Str_indexOf2_13 : zins 169 13 = some (.aload_n 0) := by decide +kernel
theorem i_Str_indexOf2_14 : zins 169 14 = some (.invokevirtual 505) := by decide +kernel
theorem i_Str_indexOf2_17 : zins 169 17 = some (.invokestatic 637) := by decide +kernel
theorem i_Str_indexOf2_20 : zins 169 20 = some (.goto 16) := by decide +kernel
theorem i_Str_indexOf2_23 : zins 169 23 = some (.aload_n 0) := by decide +kernel
theorem i_Str_indexOf2_24 : zins 169 24 = some (.getfield 9) := by decide +kernel
theorem i_Str_indexOf2_27 : zins 169 27 = some (.iload_n 1) := by decide +kernel
theorem i_Str_indexOf2_28 : zins 169 28 = some (.iload_n 2) := by decide +kernel
theorem i_Str_indexOf2_29 : zins 169 29 = some (.aload_n 0) := by decide +kernel
theorem i_Str_indexOf2_30 : zins 169 30 = some (.invokevirtual 505) := by decide +kernel
theorem i_Str_indexOf2_33 : zins 169 33 = some (.invokestatic 640) := by decide +kernel
theorem i_Str_indexOf2_36 : zins 169 36 = some (.ireturn) := by decide +kernel
theorem e_Str_indexOf2 (X : zX) (d : Nat) (h : zH) (hz : zlow h) (k : Nat) (hk : zsk k) (w : Nat) (hw : w < 65536) : zR X (d + 3) 169 0 (zent 3 [.ref k, .int (nI w), .int (nI 0)]) [] h (some (.int (ixF (sT k) (nI w))), h) := by
  refine zr_aload_n i_Str_indexOf2_0 rfl ?_
  refine zr_cv0 i_Str_indexOf2_1 rfl (by decide) (zrcv_s hz hk) (Nat.le_of_ble_eq_true rfl) (Nat.le_of_ble_eq_true rfl) (e_Str_isLatin1 X _ h hz k hk) ?_
  refine zB_if_eq 23 i_Str_indexOf2_4 (by decide) (fun q => absurd q (by decide)) (fun _ => ?_)
  refine zr_aload_n i_Str_indexOf2_7 rfl ?_
  refine zr_getk i_Str_indexOf2_8 (by have := hk.2; exact hz k (by omega)) (s_val hk) ?_
  refine zr_iload_n i_Str_indexOf2_11 rfl ?_
  refine zr_iload_n i_Str_indexOf2_12 rfl ?_
  refine zr_aload_n i_Str_indexOf2_13 rfl ?_
  refine zr_cv0 i_Str_indexOf2_14 rfl (by decide) (zrcv_s hz hk) (Nat.le_of_ble_eq_true rfl) (Nat.le_of_ble_eq_true rfl) (e_Str_length X _ h hz k hk) ?_
  refine zr_cs4 i_Str_indexOf2_17 rfl (by decide) (Nat.le_of_ble_eq_true rfl) (Nat.le_of_ble_eq_true rfl) (e_Lat_indexOf X _ h hz k hk w hw) ?_
  refine zr_goto 36 i_Str_indexOf2_20 (by decide) ?_
  exact zR.retE i_Str_indexOf2_36 rfl rfl
theorem i_Str_indexOf_0 : zins 168 0 = some (.aload_n 0) := by decide +kernel
theorem i_Str_indexOf_1 : zins 168 1 = some (.iload_n 1) := by decide +kernel
theorem i_Str_indexOf_2 : zins 168 2 = some (.iconst 0) := by decide +kernel
theorem i_Str_indexOf_3 : zins 168 3 = some (.invokevirtual 633) := by decide +kernel
theorem i_Str_indexOf_6 : zins 168 6 = some (.ireturn) := by decide +kernel
theorem i2c_rng (c : Int32) : ∃ w, w < 65536 ∧ (c.toUInt32 % 65536).toInt32 = nI w := by
  exact ⟨_, Nat.mod_lt _ (by decide), pk_char c⟩
theorem e_Str_indexOf (X : zX) (d : Nat) (h : zH) (hz : zlow h) (k : Nat) (hk : zsk k) (c : Int32) (hc : ∃ w, w < 65536 ∧ c = nI w) : zR X (d + 4) 168 0 (zent 2 [.ref k, .int c]) [] h (some (.int (ixF (sT k) c)), h) := by
  obtain ⟨w, hw, rfl⟩ := hc
  refine zr_aload_n i_Str_indexOf_0 rfl ?_
  refine zr_iload_n i_Str_indexOf_1 rfl ?_
  refine zn_iconst 0 i_Str_indexOf_2 (by decide) ?_
  refine zr_cv2 i_Str_indexOf_3 rfl (by decide) (zrcv_s hz hk) (Nat.le_of_ble_eq_true rfl) (Nat.le_of_ble_eq_true rfl) (e_Str_indexOf2 X _ h hz k hk w hw) ?_
  exact zR.retE i_Str_indexOf_6 rfl rfl
