/-! THE CLASS: results, the ledger -/
theorem nI_neg1 {w : Nat} (h : w < 2 ^ 31) : ¬ nI w = -1 := fun z => absurd (show nI w < 0 by rw [z]; decide) (nI_pos h)
section LJ
variable {X : zX} {d j pc : Nat} {L : zL} {r : List Value} {h : zH} {u : Option Value × zH}
theorem zn_laload {a n k : Nat} {f : Nat → Int64} (hi : zins j pc = some .laload) (hc : h.2.2 a = some (.inl (2, n, .inr (.inl f)))) (hk : k < n) (hn : n < 2 ^ 31) (kk : zR X d j (pc + 1) L (.long (f k) :: r) h u) : zR X d j pc L (.int (nI k) :: .ref a :: r) h u := zr_laload hi hc (nb hk hn) (by rw [nI_clamp (by omega)]; exact kk)
theorem zn_aaload {a n k : Nat} {f : Nat → Option Nat} (hi : zins j pc = some .aaload) (hc : h.2.2 a = some (.inl (5, n, .inr (.inr (.inr (.inr f)))))) (hk : k < n) (hn : n < 2 ^ 31) (kk : zR X d j (pc + 1) L (va_rf (f k) :: r) h u) : zR X d j pc L (.int (nI k) :: .ref a :: r) h u := zr_aaload hi hc (nb hk hn) (by rw [nI_clamp (by omega)]; exact kk)
end LJ
/-- results: their count, codes, values -/
def meO (a n : Nat) : zC := .inr (7, [.ref (a + 1), .ref (a + 2), .int (nI n)])
def meR (f : Nat → Int32) : zC := .inl (0, 12, .inl f)
abbrev zMe : Type := Nat × (Nat → Int32) × (Nat → Int32)
def isMe (h : zH) (a : Nat) (q : zMe) : Prop := h.2.2 a = some (meO a q.1) ∧ h.2.2 (a + 1) = some (meR q.2.1) ∧ h.2.2 (a + 2) = some (meR q.2.2)
def meS (h : zH) (a : Nat) (q : zMe) : zH := zwr (zwr (zwr h (a + 1) (meR q.2.1)) (a + 2) (meR q.2.2)) a (meO a q.1)
section ME
variable {h : zH} {a : Nat} {n : Nat} {c v : Nat → Int32}
theorem meS_o : (meS h a (n, c, v)).2.2 a = some (.inr (7, [.ref (a + 1), .ref (a + 2), .int (nI n)])) := zwr_at _ _ _
theorem meS_v : (meS h a (n, c, v)).2.2 (a + 2) = some (.inl (0, 12, .inl v)) := (zwr_ne (by omega)).trans (zwr_at _ _ _)
theorem meS_c : (meS h a (n, c, v)).2.2 (a + 1) = some (.inl (0, 12, .inl c)) := (zwr_ne (by omega)).trans ((zwr_ne (by omega)).trans (zwr_at _ _ _))
theorem meS_ne {b : Nat} {q : zMe} (h0 : b ≠ a) (h1 : b ≠ a + 1) (h2 : b ≠ a + 2) : (meS h a q).2.2 b = h.2.2 b := (zwr_ne h0).trans ((zwr_ne h2).trans (zwr_ne h1))
theorem meS_is (q : zMe) : isMe (meS h a q) a q := ⟨meS_o, meS_c, meS_v⟩
theorem meS_self {q : zMe} (hM : isMe h a q) : meS h a q = h := by
  unfold meS
  rw [zwr_self hM.2.1, zwr_self hM.2.2, zwr_self hM.1]
theorem meS_n (n' : Nat) : zwr (meS h a (n, c, v)) a (meO a n') = meS h a (n', c, v) := zwr_zwr _ _ _ _
theorem meS_vv (v' : Nat → Int32) : zwr (meS h a (n, c, v)) (a + 2) (meR v') = meS h a (n, c, v') := by
  unfold meS
  rw [zwr_comm (by omega), zwr_zwr]
theorem meS_cc (c' : Nat → Int32) : zwr (meS h a (n, c, v)) (a + 1) (meR c') = meS h a (n, c', v) := by
  unfold meS
  rw [zwr_comm (by omega), zwr_comm (a := a + 2) (b := a + 1) (by omega), zwr_zwr]
theorem meS_meS (q q' : zMe) : meS (meS h a q) a q' = meS h a q' := by
  obtain ⟨n, c, v⟩ := q
  obtain ⟨n', c', v'⟩ := q'
  rw [show meS (meS h a (n, c, v)) a (n', c', v') = zwr (zwr (zwr (meS h a (n, c, v)) (a + 1) (meR c')) (a + 2) (meR v')) a (meO a n') from rfl, meS_cc, meS_vv, meS_n]
theorem meS_low {q : zMe} (hz : zlow h) (ha : 100 ≤ a) : zlow (meS h a q) := zlow_wr (zlow_wr (zlow_wr hz (by omega)) (by omega)) ha
variable {X : zX} {d j pc : Nat} {L : zL} {r : List Value} {u : Option Value × zH}
theorem me_code {i : Nat} {x : Int32} (hi : zins j pc = some .iastore) (hk : i < 12) (hn : 12 < 2 ^ 31) (kk : zR X d j (pc + 1) L r (meS h a (n, upd c i x, v)) u) : zR X d j pc L (.int x :: .int (nI i) :: .ref (a + 1) :: r) (meS h a (n, c, v)) u := by
  refine zn_iastore hi meS_c hk hn ?_
  rw [show (Sum.inl (0, 12, .inl (upd c i (vp_nar .int x))) : zC) = meR (upd c i x) from rfl, meS_cc]
  exact kk
theorem me_val {i : Nat} {x : Int32} (hi : zins j pc = some .iastore) (hk : i < 12) (hn : 12 < 2 ^ 31) (kk : zR X d j (pc + 1) L r (meS h a (n, c, upd v i x)) u) : zR X d j pc L (.int x :: .int (nI i) :: .ref (a + 2) :: r) (meS h a (n, c, v)) u := by
  refine zn_iastore hi meS_v hk hn ?_
  rw [show (Sum.inl (0, 12, .inl (upd v i (vp_nar .int x))) : zC) = meR (upd v i x) from rfl, meS_vv]
  exact kk
theorem me_cnt {n' i : Nat} {ne : Bool} (hi : zins j pc = some (.putfield i)) (hf : zfl (zown j) i = some (7, 2, ne)) (kk : zR X d j (pc + 3) L r (meS h a (n', c, v)) u) : zR X d j pc L (.int (nI n') :: .ref a :: r) (meS h a (n, c, v)) u := by
  refine zr_putf hi meS_o hf (Nat.le_of_ble_eq_true rfl) rfl (Or.inl rfl) ?_
  rw [show (Sum.inr (7, List.set [.ref (a + 1), .ref (a + 2), .int (nI n)] 2 (.int (nI n'))) : zC) = meO a n' from rfl, meS_n]
  exact kk
end ME
def setR (q : zMe) (code val : Int32) : zMe × Bool := match resI q.2.1 code 0 q.1 with
  | none => if 12 ≤ q.1 then (q, false) else ((q.1 + 1, upd q.2.1 q.1 code, upd q.2.2 q.1 val), true)
  | some i => ((q.1, upd q.2.1 i code, upd q.2.2 i val), true)
def remR (q : zMe) (code : Int32) : zMe := match resI q.2.1 code 0 q.1 with
  | none => q
  | some i => (q.1 - 1, upd q.2.1 i (q.2.1 (q.1 - 1)), upd q.2.2 i (q.2.2 (q.1 - 1)))
def valR (q : zMe) (code : Int32) : Int32 := match resI q.2.1 code 0 q.1 with
  | none => -1
  | some i => q.2.2 i
theorem i_Meas_placeOf_0 : zins 92 0 = some (.iconst 0) := by decide +kernel
theorem i_Meas_placeOf_1 : zins 92 1 = some (.istore_n 2) := by decide +kernel
theorem i_Meas_placeOf_2 : zins 92 2 = some (.iload_n 2) := by decide +kernel
theorem i_Meas_placeOf_3 : zins 92 3 = some (.aload_n 0) := by decide +kernel
theorem i_Meas_placeOf_4 : zins 92 4 = some (.getfield 18) := by decide +kernel
theorem i_Meas_placeOf_7 : zins 92 7 = some (.if_icmp .ge 21) := by decide +kernel
theorem i_Meas_placeOf_10 : zins 92 10 = some (.aload_n 0) := by decide +kernel
theorem i_Meas_placeOf_11 : zins 92 11 = some (.getfield 9) := by decide +kernel
theorem i_Meas_placeOf_14 : zins 92 14 = some (.iload_n 2) := by decide +kernel
theorem i_Meas_placeOf_15 : zins 92 15 = some (.iaload) := by decide +kernel
theorem i_Meas_placeOf_16 : zins 92 16 = some (.iload_n 1) := by decide +kernel
theorem i_Meas_placeOf_17 : zins 92 17 = some (.if_icmp .ne 5) := by decide +kernel
theorem i_Meas_placeOf_20 : zins 92 20 = some (.iload_n 2) := by decide +kernel
theorem i_Meas_placeOf_21 : zins 92 21 = some (.ireturn) := by decide +kernel
theorem i_Meas_placeOf_22 : zins 92 22 = some (.iinc 2 1) := by decide +kernel
theorem i_Meas_placeOf_25 : zins 92 25 = some (.goto (-23)) := by decide +kernel
theorem i_Meas_placeOf_28 : zins 92 28 = some (.iconst (-1)) := by decide +kernel
theorem i_Meas_placeOf_29 : zins 92 29 = some (.ireturn) := by decide +kernel
theorem l_Meas_placeOf (X : zX) (d : Nat) (h : zH) (a : Nat) (q : zMe) (hM : isMe h a q) (hq : q.1 ≤ 12) (code : Int32) : ∀ (m i : Nat), i + m = q.1 → zR X d 92 2 [some (.ref a), some (.int code), some (.int (nI i))] [] h (some (.int (tI (resI q.2.1 code i m))), h) := by
  intro m
  induction m with
  | zero =>
    intro i him
    refine zr_iload_n i_Meas_placeOf_2 rfl ?_
    refine zr_aload_n i_Meas_placeOf_3 rfl ?_
    refine zr_getf i_Meas_placeOf_4 hM.1 rfl rfl ?_
    refine zn_icmp_ge 28 i_Meas_placeOf_7 (by decide) (by omega) (by omega) (fun c_7 => ?_) (fun q => absurd q (by omega))
    refine zr_iconst i_Meas_placeOf_28 (v := (-1)) (by decide) ?_
    exact zR.retE i_Meas_placeOf_29 rfl rfl
  | succ m ih =>
    intro i him
    unfold resI at ih ⊢
    rw [zfst]
    by_cases hc : q.2.1 i = code
    · rw [if_pos (decide_eq_true hc)]
      refine zr_iload_n i_Meas_placeOf_2 rfl ?_
      refine zr_aload_n i_Meas_placeOf_3 rfl ?_
      refine zr_getf i_Meas_placeOf_4 hM.1 rfl rfl ?_
      refine zn_icmp_ge 28 i_Meas_placeOf_7 (by decide) (by omega) (by omega) (fun q => absurd q (by omega)) (fun c_7 => ?_)
      refine zr_aload_n i_Meas_placeOf_10 rfl ?_
      refine zr_getf i_Meas_placeOf_11 hM.1 rfl rfl ?_
      refine zr_iload_n i_Meas_placeOf_14 rfl ?_
      refine zn_iaload i_Meas_placeOf_15 hM.2.1 (by omega) (by decide) ?_
      refine zr_iload_n i_Meas_placeOf_16 rfl ?_
      refine zr_icmp_ne 22 i_Meas_placeOf_17 (by decide) (fun q => absurd hc q) (fun c_17 => ?_)
      refine zr_iload_n i_Meas_placeOf_20 rfl ?_
      exact zR.retE i_Meas_placeOf_21 rfl rfl
    · rw [if_neg (fun z => hc (of_decide_eq_true z))]
      refine zr_iload_n i_Meas_placeOf_2 rfl ?_
      refine zr_aload_n i_Meas_placeOf_3 rfl ?_
      refine zr_getf i_Meas_placeOf_4 hM.1 rfl rfl ?_
      refine zn_icmp_ge 28 i_Meas_placeOf_7 (by decide) (by omega) (by omega) (fun q => absurd q (by omega)) (fun c_7 => ?_)
      refine zr_aload_n i_Meas_placeOf_10 rfl ?_
      refine zr_getf i_Meas_placeOf_11 hM.1 rfl rfl ?_
      refine zr_iload_n i_Meas_placeOf_14 rfl ?_
      refine zn_iaload i_Meas_placeOf_15 hM.2.1 (by omega) (by decide) ?_
      refine zr_iload_n i_Meas_placeOf_16 rfl ?_
      refine zr_icmp_ne 22 i_Meas_placeOf_17 (by decide) (fun c_17 => ?_) (fun q => absurd q hc)
      refine zn_iinc i_Meas_placeOf_22 rfl rfl ?_
      refine zr_goto 2 i_Meas_placeOf_25 (by decide) ?_
      exact ih (i + 1) (by omega)
theorem e_Meas_placeOf (X : zX) (d : Nat) (h : zH) (a : Nat) (q : zMe) (hM : isMe h a q) (hq : q.1 ≤ 12) (code : Int32) : zR X d 92 0 (zent 3 [.ref a, .int code]) [] h (some (.int (tI (resI q.2.1 code 0 q.1))), h) := by
  refine zn_iconst 0 i_Meas_placeOf_0 (by decide) ?_
  refine zr_istore_n i_Meas_placeOf_1 rfl ?_
  exact l_Meas_placeOf X d h a q hM hq code q.1 0 (by omega)
theorem resI_lt {c : Nat → Int32} {code : Int32} {i n k : Nat} (h : resI c code i n = some k) : i ≤ k ∧ k < i + n ∧ c k = code := by
  obtain ⟨h1, h2, h3⟩ := zfst_some h
  exact ⟨h1, h2, of_decide_eq_true h3⟩
theorem i_Meas_valueOf_0 : zins 94 0 = some (.aload_n 0) := by decide +kernel
theorem i_Meas_valueOf_1 : zins 94 1 = some (.iload_n 1) := by decide +kernel
theorem i_Meas_valueOf_2 : zins 94 2 = some (.invokevirtual 22) := by decide +kernel
theorem i_Meas_valueOf_5 : zins 94 5 = some (.istore_n 2) := by decide +kernel
theorem i_Meas_valueOf_6 : zins 94 6 = some (.iload_n 2) := by decide +kernel
theorem i_Meas_valueOf_7 : zins 94 7 = some (.iconst (-1)) := by decide +kernel
theorem i_Meas_valueOf_8 : zins 94 8 = some (.if_icmp .ne 7) := by decide +kernel
theorem i_Meas_valueOf_11 : zins 94 11 = some (.iconst (-1)) := by decide +kernel
theorem i_Meas_valueOf_12 : zins 94 12 = some (.goto 9) := by decide +kernel
theorem i_Meas_valueOf_15 : zins 94 15 = some (.aload_n 0) := by decide +kernel
theorem i_Meas_valueOf_16 : zins 94 16 = some (.getfield 15) := by decide +kernel
theorem i_Meas_valueOf_19 : zins 94 19 = some (.iload_n 2) := by decide +kernel
theorem i_Meas_valueOf_20 : zins 94 20 = some (.iaload) := by decide +kernel
theorem i_Meas_valueOf_21 : zins 94 21 = some (.ireturn) := by decide +kernel
theorem e_Meas_valueOf (X : zX) (d : Nat) (h : zH) (a : Nat) (q : zMe) (hM : isMe h a q) (hq : q.1 ≤ 12) (code : Int32) : zR X (d + 1) 94 0 (zent 3 [.ref a, .int code]) [] h (some (.int (valR q code)), h) := by
  have hp := e_Meas_placeOf X d h a q hM hq code
  unfold valR
  cases hr : resI q.2.1 code 0 q.1 with
  | none =>
    rw [hr] at hp
    refine zr_aload_n i_Meas_valueOf_0 rfl ?_
    refine zr_iload_n i_Meas_valueOf_1 rfl ?_
    refine zr_cv1 i_Meas_valueOf_2 rfl (by decide) (zrcv_of hM.1) (Nat.le_of_ble_eq_true rfl) (Nat.le_of_ble_eq_true rfl) (hp) ?_
    refine zr_istore_n i_Meas_valueOf_5 rfl ?_
    refine zr_iload_n i_Meas_valueOf_6 rfl ?_
    refine zr_iconst i_Meas_valueOf_7 (v := (-1)) (by decide) ?_
    refine zr_icmp_ne 15 i_Meas_valueOf_8 (by decide) (fun q => absurd rfl q) (fun c_8 => ?_)
    refine zr_iconst i_Meas_valueOf_11 (v := (-1)) (by decide) ?_
    refine zr_goto 21 i_Meas_valueOf_12 (by decide) ?_
    exact zR.retE i_Meas_valueOf_21 rfl rfl
  | some i =>
    rw [hr] at hp
    have hi := resI_lt hr
    refine zr_aload_n i_Meas_valueOf_0 rfl ?_
    refine zr_iload_n i_Meas_valueOf_1 rfl ?_
    refine zr_cv1 i_Meas_valueOf_2 rfl (by decide) (zrcv_of hM.1) (Nat.le_of_ble_eq_true rfl) (Nat.le_of_ble_eq_true rfl) (hp) ?_
    refine zr_top (y := nI i) rfl ?_
    refine zr_istore_n i_Meas_valueOf_5 rfl ?_
    refine zr_iload_n i_Meas_valueOf_6 rfl ?_
    refine zr_iconst i_Meas_valueOf_7 (v := (-1)) (by decide) ?_
    refine zr_icmp_ne 15 i_Meas_valueOf_8 (by decide) (fun c_8 => ?_) (fun q => absurd q (nI_neg1 (by omega)))
    refine zr_aload_n i_Meas_valueOf_15 rfl ?_
    refine zr_getf i_Meas_valueOf_16 hM.1 rfl rfl ?_
    refine zr_iload_n i_Meas_valueOf_19 rfl ?_
    refine zn_iaload i_Meas_valueOf_20 hM.2.2 (by omega) (by decide) ?_
    exact zR.retE i_Meas_valueOf_21 rfl rfl
theorem i_Meas_set_0 : zins 93 0 = some (.aload_n 0) := by decide +kernel
theorem i_Meas_set_1 : zins 93 1 = some (.iload_n 1) := by decide +kernel
theorem i_Meas_set_2 : zins 93 2 = some (.invokevirtual 22) := by decide +kernel
theorem i_Meas_set_5 : zins 93 5 = some (.istore_n 3) := by decide +kernel
theorem i_Meas_set_6 : zins 93 6 = some (.iload_n 3) := by decide +kernel
theorem i_Meas_set_7 : zins 93 7 = some (.iconst (-1)) := by decide +kernel
theorem i_Meas_set_8 : zins 93 8 = some (.if_icmp .ne 29) := by decide +kernel
theorem i_Meas_set_11 : zins 93 11 = some (.aload_n 0) := by decide +kernel
theorem i_Meas_set_12 : zins 93 12 = some (.getfield 18) := by decide +kernel
theorem i_Meas_set_15 : zins 93 15 = some (.bipush 12) := by decide +kernel
theorem i_Meas_set_17 : zins 93 17 = some (.if_icmp .lt 5) := by decide +kernel
theorem i_Meas_set_20 : zins 93 20 = some (.iconst 0) := by decide +kernel
theorem i_Meas_set_21 : zins 93 21 = some (.ireturn) := by decide +kernel
theorem i_Meas_set_22 : zins 93 22 = some (.aload_n 0) := by decide +kernel
theorem i_Meas_set_23 : zins 93 23 = some (.getfield 18) := by decide +kernel
theorem i_Meas_set_26 : zins 93 26 = some (.istore_n 3) := by decide +kernel
theorem i_Meas_set_27 : zins 93 27 = some (.aload_n 0) := by decide +kernel
theorem i_Meas_set_28 : zins 93 28 = some (.dup) := by decide +kernel
theorem i_Meas_set_29 : zins 93 29 = some (.getfield 18) := by decide +kernel
theorem i_Meas_set_32 : zins 93 32 = some (.iconst 1) := by decide +kernel
theorem i_Meas_set_33 : zins 93 33 = some (.iadd) := by decide +kernel
theorem i_Meas_set_34 : zins 93 34 = some (.putfield 18) := by decide +kernel
theorem i_Meas_set_37 : zins 93 37 = some (.aload_n 0) := by decide +kernel
theorem i_Meas_set_38 : zins 93 38 = some (.getfield 9) := by decide +kernel
theorem i_Meas_set_41 : zins 93 41 = some (.iload_n 3) := by decide +kernel
theorem i_Meas_set_42 : zins 93 42 = some (.iload_n 1) := by decide +kernel
theorem i_Meas_set_43 : zins 93 43 = some (.iastore) := by decide +kernel
theorem i_Meas_set_44 : zins 93 44 = some (.aload_n 0) := by decide +kernel
theorem i_Meas_set_45 : zins 93 45 = some (.getfield 15) := by decide +kernel
theorem i_Meas_set_48 : zins 93 48 = some (.iload_n 3) := by decide +kernel
theorem i_Meas_set_49 : zins 93 49 = some (.iload_n 2) := by decide +kernel
theorem i_Meas_set_50 : zins 93 50 = some (.iastore) := by decide +kernel
theorem i_Meas_set_51 : zins 93 51 = some (.iconst 1) := by decide +kernel
theorem i_Meas_set_52 : zins 93 52 = some (.ireturn) := by decide +kernel
theorem e_Meas_set (X : zX) (d : Nat) (h : zH) (a n : Nat) (c v : Nat → Int32) (hq : n ≤ 12) (code x : Int32) : zR X (d + 1) 93 0 (zent 4 [.ref a, .int code, .int x]) [] (meS h a (n, c, v)) (some (.int (zb (setR (n, c, v) code x).2)), meS h a (setR (n, c, v) code x).1) := by
  have hp := e_Meas_placeOf X d (meS h a (n, c, v)) a (n, c, v) (meS_is _) hq code
  unfold setR
  dsimp only at hp ⊢
  cases hr : resI c code 0 n with
  | none =>
    rw [hr] at hp
    dsimp only
    by_cases h12 : 12 ≤ n
    · rw [if_pos h12]
      refine zr_aload_n i_Meas_set_0 rfl ?_
      refine zr_iload_n i_Meas_set_1 rfl ?_
      refine zr_cv1 i_Meas_set_2 rfl (by decide) (zrcv_of meS_o) (Nat.le_of_ble_eq_true rfl) (Nat.le_of_ble_eq_true rfl) (hp) ?_
      refine zr_istore_n i_Meas_set_5 rfl ?_
      refine zr_iload_n i_Meas_set_6 rfl ?_
      refine zr_iconst i_Meas_set_7 (v := (-1)) (by decide) ?_
      refine zr_icmp_ne 37 i_Meas_set_8 (by decide) (fun q => absurd rfl q) (fun c_8 => ?_)
      refine zr_aload_n i_Meas_set_11 rfl ?_
      refine zr_getf i_Meas_set_12 meS_o rfl rfl ?_
      refine zn_bipush 12 i_Meas_set_15 (by decide) ?_
      refine zn_icmp_lt 22 i_Meas_set_17 (by decide) (by omega) (by omega) (fun q => absurd q (by omega)) (fun c_17 => ?_)
      refine zr_iconst i_Meas_set_20 (v := 0) (by decide) ?_
      exact zR.retE i_Meas_set_21 rfl rfl
    · rw [if_neg h12]
      refine zr_aload_n i_Meas_set_0 rfl ?_
      refine zr_iload_n i_Meas_set_1 rfl ?_
      refine zr_cv1 i_Meas_set_2 rfl (by decide) (zrcv_of meS_o) (Nat.le_of_ble_eq_true rfl) (Nat.le_of_ble_eq_true rfl) (hp) ?_
      refine zr_istore_n i_Meas_set_5 rfl ?_
      refine zr_iload_n i_Meas_set_6 rfl ?_
      refine zr_iconst i_Meas_set_7 (v := (-1)) (by decide) ?_
      refine zr_icmp_ne 37 i_Meas_set_8 (by decide) (fun q => absurd rfl q) (fun c_8 => ?_)
      refine zr_aload_n i_Meas_set_11 rfl ?_
      refine zr_getf i_Meas_set_12 meS_o rfl rfl ?_
      refine zn_bipush 12 i_Meas_set_15 (by decide) ?_
      refine zn_icmp_lt 22 i_Meas_set_17 (by decide) (by omega) (by omega) (fun c_17 => ?_) (fun q => absurd q (by omega))
      refine zr_aload_n i_Meas_set_22 rfl ?_
      refine zr_getf i_Meas_set_23 meS_o rfl rfl ?_
      refine zr_istore_n i_Meas_set_26 rfl ?_
      refine zr_aload_n i_Meas_set_27 rfl ?_
      refine zr_dup i_Meas_set_28 rfl ?_
      refine zr_getf i_Meas_set_29 meS_o rfl rfl ?_
      refine zn_iconst 1 i_Meas_set_32 (by decide) ?_
      refine zn_iadd i_Meas_set_33 ?_
      refine me_cnt i_Meas_set_34 rfl ?_
      refine zr_aload_n i_Meas_set_37 rfl ?_
      refine zr_getf i_Meas_set_38 meS_o rfl rfl ?_
      refine zr_iload_n i_Meas_set_41 rfl ?_
      refine zr_iload_n i_Meas_set_42 rfl ?_
      refine me_code i_Meas_set_43 (by omega) (by decide) ?_
      refine zr_aload_n i_Meas_set_44 rfl ?_
      refine zr_getf i_Meas_set_45 meS_o rfl rfl ?_
      refine zr_iload_n i_Meas_set_48 rfl ?_
      refine zr_iload_n i_Meas_set_49 rfl ?_
      refine me_val i_Meas_set_50 (by omega) (by decide) ?_
      refine zr_iconst i_Meas_set_51 (v := 1) (by decide) ?_
      exact zR.retE i_Meas_set_52 rfl rfl
  | some i =>
    rw [hr] at hp
    have hi := resI_lt hr
    refine zr_aload_n i_Meas_set_0 rfl ?_
    refine zr_iload_n i_Meas_set_1 rfl ?_
    refine zr_cv1 i_Meas_set_2 rfl (by decide) (zrcv_of meS_o) (Nat.le_of_ble_eq_true rfl) (Nat.le_of_ble_eq_true rfl) (hp) ?_
    refine zr_top (y := nI i) rfl ?_
    refine zr_istore_n i_Meas_set_5 rfl ?_
    refine zr_iload_n i_Meas_set_6 rfl ?_
    refine zr_iconst i_Meas_set_7 (v := (-1)) (by decide) ?_
    refine zr_icmp_ne 37 i_Meas_set_8 (by decide) (fun c_8 => ?_) (fun q => absurd q (nI_neg1 (by omega)))
    refine zr_aload_n i_Meas_set_37 rfl ?_
    refine zr_getf i_Meas_set_38 meS_o rfl rfl ?_
    refine zr_iload_n i_Meas_set_41 rfl ?_
    refine zr_iload_n i_Meas_set_42 rfl ?_
    refine me_code i_Meas_set_43 (by omega) (by decide) ?_
    refine zr_aload_n i_Meas_set_44 rfl ?_
    refine zr_getf i_Meas_set_45 meS_o rfl rfl ?_
    refine zr_iload_n i_Meas_set_48 rfl ?_
    refine zr_iload_n i_Meas_set_49 rfl ?_
    refine me_val i_Meas_set_50 (by omega) (by decide) ?_
    refine zr_iconst i_Meas_set_51 (v := 1) (by decide) ?_
    exact zR.retE i_Meas_set_52 rfl rfl
theorem i_Meas_remove_0 : zins 91 0 = some (.aload_n 0) := by decide +kernel
theorem i_Meas_remove_1 : zins 91 1 = some (.iload_n 1) := by decide +kernel
theorem i_Meas_remove_2 : zins 91 2 = some (.invokevirtual 22) := by decide +kernel
theorem i_Meas_remove_5 : zins 91 5 = some (.istore_n 2) := by decide +kernel
theorem i_Meas_remove_6 : zins 91 6 = some (.iload_n 2) := by decide +kernel
theorem i_Meas_remove_7 : zins 91 7 = some (.iconst (-1)) := by decide +kernel
theorem i_Meas_remove_8 : zins 91 8 = some (.if_icmp .eq 43) := by decide +kernel
theorem i_Meas_remove_11 : zins 91 11 = some (.aload_n 0) := by decide +kernel
theorem i_Meas_remove_12 : zins 91 12 = some (.dup) := by decide +kernel
theorem i_Meas_remove_13 : zins 91 13 = some (.getfield 18) := by decide +kernel
theorem i_Meas_remove_16 : zins 91 16 = some (.iconst 1) := by decide +kernel
theorem i_Meas_remove_17 : zins 91 17 = some (.isub) := by decide +kernel
theorem i_Meas_remove_18 : zins 91 18 = some (.putfield 18) := by decide +kernel
theorem i_Meas_remove_21 : zins 91 21 = some (.aload_n 0) := by decide +kernel
theorem i_Meas_remove_22 : zins 91 22 = some (.getfield 9) := by decide +kernel
theorem i_Meas_remove_25 : zins 91 25 = some (.iload_n 2) := by decide +kernel
theorem i_Meas_remove_26 : zins 91 26 = some (.aload_n 0) := by decide +kernel
theorem i_Meas_remove_27 : zins 91 27 = some (.getfield 9) := by decide +kernel
theorem i_Meas_remove_30 : zins 91 30 = some (.aload_n 0) := by decide +kernel
theorem i_Meas_remove_31 : zins 91 31 = some (.getfield 18) := by decide +kernel
theorem i_Meas_remove_34 : zins 91 34 = some (.iaload) := by decide +kernel
theorem i_Meas_remove_35 : zins 91 35 = some (.iastore) := by decide +kernel
theorem i_Meas_remove_36 : zins 91 36 = some (.aload_n 0) := by decide +kernel
theorem i_Meas_remove_37 : zins 91 37 = some (.getfield 15) := by decide +kernel
theorem i_Meas_remove_40 : zins 91 40 = some (.iload_n 2) := by decide +kernel
theorem i_Meas_remove_41 : zins 91 41 = some (.aload_n 0) := by decide +kernel
theorem i_Meas_remove_42 : zins 91 42 = some (.getfield 15) := by decide +kernel
theorem i_Meas_remove_45 : zins 91 45 = some (.aload_n 0) := by decide +kernel
theorem i_Meas_remove_46 : zins 91 46 = some (.getfield 18) := by decide +kernel
theorem i_Meas_remove_49 : zins 91 49 = some (.iaload) := by decide +kernel
theorem i_Meas_remove_50 : zins 91 50 = some (.iastore) := by decide +kernel
theorem i_Meas_remove_51 : zins 91 51 = some (.return_) := by decide +kernel
theorem e_Meas_remove (X : zX) (d : Nat) (h : zH) (a n : Nat) (c v : Nat → Int32) (hq : n ≤ 12) (code : Int32) : zR X (d + 1) 91 0 (zent 3 [.ref a, .int code]) [] (meS h a (n, c, v)) (none, meS h a (remR (n, c, v) code)) := by
  have hp := e_Meas_placeOf X d (meS h a (n, c, v)) a (n, c, v) (meS_is _) hq code
  unfold remR
  dsimp only at hp ⊢
  cases hr : resI c code 0 n with
  | none =>
    rw [hr] at hp
    refine zr_aload_n i_Meas_remove_0 rfl ?_
    refine zr_iload_n i_Meas_remove_1 rfl ?_
    refine zr_cv1 i_Meas_remove_2 rfl (by decide) (zrcv_of meS_o) (Nat.le_of_ble_eq_true rfl) (Nat.le_of_ble_eq_true rfl) (hp) ?_
    refine zr_istore_n i_Meas_remove_5 rfl ?_
    refine zr_iload_n i_Meas_remove_6 rfl ?_
    refine zr_iconst i_Meas_remove_7 (v := (-1)) (by decide) ?_
    refine zr_icmp_eq 51 i_Meas_remove_8 (by decide) (fun c_8 => ?_) (fun q => absurd rfl q)
    exact zR.retE i_Meas_remove_51 rfl rfl
  | some i =>
    rw [hr] at hp
    have hi := resI_lt hr
    refine zr_aload_n i_Meas_remove_0 rfl ?_
    refine zr_iload_n i_Meas_remove_1 rfl ?_
    refine zr_cv1 i_Meas_remove_2 rfl (by decide) (zrcv_of meS_o) (Nat.le_of_ble_eq_true rfl) (Nat.le_of_ble_eq_true rfl) (hp) ?_
    refine zr_top (y := nI i) rfl ?_
    refine zr_istore_n i_Meas_remove_5 rfl ?_
    refine zr_iload_n i_Meas_remove_6 rfl ?_
    refine zr_iconst i_Meas_remove_7 (v := (-1)) (by decide) ?_
    refine zr_icmp_eq 51 i_Meas_remove_8 (by decide) (fun q => absurd q (nI_neg1 (by omega))) (fun c_8 => ?_)
    refine zr_aload_n i_Meas_remove_11 rfl ?_
    refine zr_dup i_Meas_remove_12 rfl ?_
    refine zr_getf i_Meas_remove_13 meS_o rfl rfl ?_
    refine zn_iconst 1 i_Meas_remove_16 (by decide) ?_
    refine zn_isub i_Meas_remove_17 (by omega) ?_
    refine me_cnt i_Meas_remove_18 rfl ?_
    refine zr_aload_n i_Meas_remove_21 rfl ?_
    refine zr_getf i_Meas_remove_22 meS_o rfl rfl ?_
    refine zr_iload_n i_Meas_remove_25 rfl ?_
    refine zr_aload_n i_Meas_remove_26 rfl ?_
    refine zr_getf i_Meas_remove_27 meS_o rfl rfl ?_
    refine zr_aload_n i_Meas_remove_30 rfl ?_
    refine zr_getf i_Meas_remove_31 meS_o rfl rfl ?_
    refine zn_iaload i_Meas_remove_34 meS_c (by omega) (by decide) ?_
    refine me_code i_Meas_remove_35 (by omega) (by decide) ?_
    refine zr_aload_n i_Meas_remove_36 rfl ?_
    refine zr_getf i_Meas_remove_37 meS_o rfl rfl ?_
    refine zr_iload_n i_Meas_remove_40 rfl ?_
    refine zr_aload_n i_Meas_remove_41 rfl ?_
    refine zr_getf i_Meas_remove_42 meS_o rfl rfl ?_
    refine zr_aload_n i_Meas_remove_45 rfl ?_
    refine zr_getf i_Meas_remove_46 meS_o rfl rfl ?_
    refine zn_iaload i_Meas_remove_49 meS_v (by omega) (by decide) ?_
    refine me_val i_Meas_remove_50 (by omega) (by decide) ?_
    exact zR.retE i_Meas_remove_51 rfl rfl
theorem i_Meas_copyFrom_0 : zins 90 0 = some (.aload_n 0) := by decide +kernel
theorem i_Meas_copyFrom_1 : zins 90 1 = some (.aload_n 1) := by decide +kernel
theorem i_Meas_copyFrom_2 : zins 90 2 = some (.getfield 18) := by decide +kernel
theorem i_Meas_copyFrom_5 : zins 90 5 = some (.putfield 18) := by decide +kernel
theorem i_Meas_copyFrom_8 : zins 90 8 = some (.iconst 0) := by decide +kernel
theorem i_Meas_copyFrom_9 : zins 90 9 = some (.istore_n 2) := by decide +kernel
theorem i_Meas_copyFrom_10 : zins 90 10 = some (.iload_n 2) := by decide +kernel
theorem i_Meas_copyFrom_11 : zins 90 11 = some (.aload_n 0) := by decide +kernel
theorem i_Meas_copyFrom_12 : zins 90 12 = some (.getfield 18) := by decide +kernel
theorem i_Meas_copyFrom_15 : zins 90 15 = some (.if_icmp .ge 33) := by decide +kernel
theorem i_Meas_copyFrom_18 : zins 90 18 = some (.aload_n 0) := by decide +kernel
theorem i_Meas_copyFrom_19 : zins 90 19 = some (.getfield 9) := by decide +kernel
theorem i_Meas_copyFrom_22 : zins 90 22 = some (.iload_n 2) := by decide +kernel
theorem i_Meas_copyFrom_23 : zins 90 23 = some (.aload_n 1) := by decide +kernel
theorem i_Meas_copyFrom_24 : zins 90 24 = some (.getfield 9) := by decide +kernel
theorem i_Meas_copyFrom_27 : zins 90 27 = some (.iload_n 2) := by decide +kernel
theorem i_Meas_copyFrom_28 : zins 90 28 = some (.iaload) := by decide +kernel
theorem i_Meas_copyFrom_29 : zins 90 29 = some (.iastore) := by decide +kernel
theorem i_Meas_copyFrom_30 : zins 90 30 = some (.aload_n 0) := by decide +kernel
theorem i_Meas_copyFrom_31 : zins 90 31 = some (.getfield 15) := by decide +kernel
theorem i_Meas_copyFrom_34 : zins 90 34 = some (.iload_n 2) := by decide +kernel
theorem i_Meas_copyFrom_35 : zins 90 35 = some (.aload_n 1) := by decide +kernel
theorem i_Meas_copyFrom_36 : zins 90 36 = some (.getfield 15) := by decide +kernel
theorem i_Meas_copyFrom_39 : zins 90 39 = some (.iload_n 2) := by decide +kernel
theorem i_Meas_copyFrom_40 : zins 90 40 = some (.iaload) := by decide +kernel
theorem i_Meas_copyFrom_41 : zins 90 41 = some (.iastore) := by decide +kernel
theorem i_Meas_copyFrom_42 : zins 90 42 = some (.iinc 2 1) := by decide +kernel
theorem i_Meas_copyFrom_45 : zins 90 45 = some (.goto (-35)) := by decide +kernel
theorem i_Meas_copyFrom_48 : zins 90 48 = some (.return_) := by decide +kernel
def cpR (q p : zMe) : zMe := (p.1, va_cpy p.2.1 q.2.1 0 0 p.1, va_cpy p.2.2 q.2.2 0 0 p.1)
theorem cpy_s (f g : Nat → Int32) (i : Nat) : upd (va_cpy g f 0 0 i) i (g i) = va_cpy g f 0 0 (i + 1) := by
  funext j
  by_cases h1 : j = i
  · subst h1
    rw [pk_us, pk_cpy_in (by omega) (by omega)]
    simp
  · rw [pk_un h1]
    by_cases h2 : j < i
    · rw [pk_cpy_in (by omega) (by omega), pk_cpy_in (by omega) (by omega)]
    · rw [pk_cpy_out (by omega), pk_cpy_out (by omega)]
theorem cpy_0 (f g : Nat → Int32) : va_cpy g f 0 0 0 = f := by
  funext j
  rw [pk_cpy_out (by omega)]
theorem l_Meas_copyFrom (X : zX) (d : Nat) (h : zH) (a b : Nat) (hd : b ≠ a ∧ b ≠ a + 1 ∧ b ≠ a + 2 ∧ b + 1 ≠ a ∧ b + 1 ≠ a + 2 ∧ b + 2 ≠ a ∧ b + 2 ≠ a + 1) (q p : zMe) (hB : isMe h b p) (hp : p.1 ≤ 12) : ∀ (m i : Nat), i + m = p.1 → zR X d 90 10 [some (.ref a), some (.ref b), some (.int (nI i))] [] (meS h a (p.1, va_cpy p.2.1 q.2.1 0 0 i, va_cpy p.2.2 q.2.2 0 0 i)) (none, meS h a (cpR q p)) := by
  intro m
  induction m with
  | zero =>
    intro i him
    have : i = p.1 := by omega
    subst this
    refine zr_iload_n i_Meas_copyFrom_10 rfl ?_
    refine zr_aload_n i_Meas_copyFrom_11 rfl ?_
    refine zr_getf i_Meas_copyFrom_12 meS_o rfl rfl ?_
    refine zn_icmp_ge 48 i_Meas_copyFrom_15 (by decide) (by omega) (by omega) (fun c_15 => ?_) (fun q => absurd q (by omega))
    exact zR.retE i_Meas_copyFrom_48 rfl rfl
  | succ m ih =>
    intro i him
    have hn2 := ih (i + 1) (by omega)
    rw [← cpy_s, ← cpy_s] at hn2
    refine zr_iload_n i_Meas_copyFrom_10 rfl ?_
    refine zr_aload_n i_Meas_copyFrom_11 rfl ?_
    refine zr_getf i_Meas_copyFrom_12 meS_o rfl rfl ?_
    refine zn_icmp_ge 48 i_Meas_copyFrom_15 (by decide) (by omega) (by omega) (fun q => absurd q (by omega)) (fun c_15 => ?_)
    refine zr_aload_n i_Meas_copyFrom_18 rfl ?_
    refine zr_getf i_Meas_copyFrom_19 meS_o rfl rfl ?_
    refine zr_iload_n i_Meas_copyFrom_22 rfl ?_
    refine zr_aload_n i_Meas_copyFrom_23 rfl ?_
    refine zr_getf i_Meas_copyFrom_24 ((meS_ne hd.1 hd.2.1 hd.2.2.1).trans hB.1) rfl rfl ?_
    refine zr_iload_n i_Meas_copyFrom_27 rfl ?_
    refine zn_iaload i_Meas_copyFrom_28 ((meS_ne hd.2.2.2.1 (by omega) hd.2.2.2.2.1).trans hB.2.1) (by omega) (by decide) ?_
    refine me_code i_Meas_copyFrom_29 (by omega) (by decide) ?_
    refine zr_aload_n i_Meas_copyFrom_30 rfl ?_
    refine zr_getf i_Meas_copyFrom_31 meS_o rfl rfl ?_
    refine zr_iload_n i_Meas_copyFrom_34 rfl ?_
    refine zr_aload_n i_Meas_copyFrom_35 rfl ?_
    refine zr_getf i_Meas_copyFrom_36 ((meS_ne hd.1 hd.2.1 hd.2.2.1).trans hB.1) rfl rfl ?_
    refine zr_iload_n i_Meas_copyFrom_39 rfl ?_
    refine zn_iaload i_Meas_copyFrom_40 ((meS_ne hd.2.2.2.2.2.1 hd.2.2.2.2.2.2 (by omega)).trans hB.2.2) (by omega) (by decide) ?_
    refine me_val i_Meas_copyFrom_41 (by omega) (by decide) ?_
    refine zn_iinc i_Meas_copyFrom_42 rfl rfl ?_
    refine zr_goto 10 i_Meas_copyFrom_45 (by decide) ?_
    exact hn2
theorem e_Meas_copyFrom (X : zX) (d : Nat) (h : zH) (a b : Nat) (hd : b ≠ a ∧ b ≠ a + 1 ∧ b ≠ a + 2 ∧ b + 1 ≠ a ∧ b + 1 ≠ a + 2 ∧ b + 2 ≠ a ∧ b + 2 ≠ a + 1) (n : Nat) (c v : Nat → Int32) (p : zMe) (hB : isMe h b p) (hp : p.1 ≤ 12) : zR X d 90 0 (zent 3 [.ref a, .ref b]) [] (meS h a (n, c, v)) (none, meS h a (cpR (n, c, v) p)) := by
  have hl := l_Meas_copyFrom X d h a b hd (n, c, v) p hB hp p.1 0 (by omega)
  rw [cpy_0, cpy_0] at hl
  refine zr_aload_n i_Meas_copyFrom_0 rfl ?_
  refine zr_aload_n i_Meas_copyFrom_1 rfl ?_
  refine zr_getf i_Meas_copyFrom_2 ((meS_ne hd.1 hd.2.1 hd.2.2.1).trans hB.1) rfl rfl ?_
  refine me_cnt i_Meas_copyFrom_5 rfl ?_
  refine zn_iconst 0 i_Meas_copyFrom_8 (by decide) ?_
  refine zr_istore_n i_Meas_copyFrom_9 rfl ?_
  exact hl
/-- the ledger -/
def isLd (h : zH) (ids : Nat → Int64) (rs : Nat → Int32) (o : Nat) : Prop := h.2.2 110 = some (.inr (4, [.ref 111, .ref 112, .int (nI o)])) ∧ h.2.2 111 = some (.inl (2, 16, .inr (.inl ids))) ∧ h.2.2 112 = some (.inl (0, 16, .inl rs))
theorem lg0 (x y : Int64) : lg_cmp x y = 0 ↔ x = y := by
  unfold lg_cmp
  by_cases h1 : x > y
  · rw [if_pos h1]
    exact ⟨fun z => absurd z (by decide), fun z => absurd h1 (by rw [z]; exact Int64.lt_irrefl)⟩
  · rw [if_neg h1]
    by_cases h2 : x = y
    · rw [if_pos h2]; exact ⟨fun _ => h2, fun _ => rfl⟩
    · rw [if_neg h2]; exact ⟨fun z => absurd z (by decide), fun z => absurd z h2⟩
def lkR (ids : Nat → Int64) (rs : Nat → Int32) (o : Option Nat) : Int32 := match o with
  | none => -1
  | some i => rs i
theorem i_Ledg_reasonOf_0 : zins 64 0 = some (.iconst 0) := by decide +kernel
theorem i_Ledg_reasonOf_1 : zins 64 1 = some (.istore_n 3) := by decide +kernel
theorem i_Ledg_reasonOf_2 : zins 64 2 = some (.iload_n 3) := by decide +kernel
theorem i_Ledg_reasonOf_3 : zins 64 3 = some (.bipush 16) := by decide +kernel
theorem i_Ledg_reasonOf_5 : zins 64 5 = some (.if_icmp .ge 27) := by decide +kernel
theorem i_Ledg_reasonOf_8 : zins 64 8 = some (.aload_n 0) := by decide +kernel
theorem i_Ledg_reasonOf_9 : zins 64 9 = some (.getfield 9) := by decide +kernel
theorem i_Ledg_reasonOf_12 : zins 64 12 = some (.iload_n 3) := by decide +kernel
theorem i_Ledg_reasonOf_13 : zins 64 13 = some (.laload) := by decide +kernel
theorem i_Ledg_reasonOf_14 : zins 64 14 = some (.lload_n 1) := by decide +kernel
theorem i_Ledg_reasonOf_15 : zins 64 15 = some (.lcmp) := by decide +kernel
theorem i_Ledg_reasonOf_16 : zins 64 16 = some (.ifCond .ne 10) := by decide +kernel
theorem i_Ledg_reasonOf_19 : zins 64 19 = some (.aload_n 0) := by decide +kernel
theorem i_Ledg_reasonOf_20 : zins 64 20 = some (.getfield 15) := by decide +kernel
theorem i_Ledg_reasonOf_23 : zins 64 23 = some (.iload_n 3) := by decide +kernel
theorem i_Ledg_reasonOf_24 : zins 64 24 = some (.iaload) := by decide +kernel
theorem i_Ledg_reasonOf_25 : zins 64 25 = some (.ireturn) := by decide +kernel
theorem i_Ledg_reasonOf_26 : zins 64 26 = some (.iinc 3 1) := by decide +kernel
theorem i_Ledg_reasonOf_29 : zins 64 29 = some (.goto (-27)) := by decide +kernel
theorem i_Ledg_reasonOf_32 : zins 64 32 = some (.iconst (-1)) := by decide +kernel
theorem i_Ledg_reasonOf_33 : zins 64 33 = some (.ireturn) := by decide +kernel
theorem l_Ledg_reasonOf (X : zX) (d : Nat) (h : zH) (ids : Nat → Int64) (rs : Nat → Int32) (o : Nat) (hL : isLd h ids rs o) (x : Int64) : ∀ (m i : Nat), i + m = 16 → zR X d 64 2 [some (.ref 110), some (.long x), none, some (.int (nI i))] [] h (some (.int (lkR ids rs (zfst (fun i => decide (ids i = x)) i m))), h) := by
  intro m
  induction m with
  | zero =>
    intro i him
    refine zr_iload_n i_Ledg_reasonOf_2 rfl ?_
    refine zn_bipush 16 i_Ledg_reasonOf_3 (by decide) ?_
    refine zn_icmp_ge 32 i_Ledg_reasonOf_5 (by decide) (by omega) (by omega) (fun c_5 => ?_) (fun q => absurd q (by omega))
    refine zr_iconst i_Ledg_reasonOf_32 (v := (-1)) (by decide) ?_
    exact zR.retE i_Ledg_reasonOf_33 rfl rfl
  | succ m ih =>
    intro i him
    rw [zfst]
    by_cases hc : ids i = x
    · rw [if_pos (decide_eq_true hc)]
      refine zr_iload_n i_Ledg_reasonOf_2 rfl ?_
      refine zn_bipush 16 i_Ledg_reasonOf_3 (by decide) ?_
      refine zn_icmp_ge 32 i_Ledg_reasonOf_5 (by decide) (by omega) (by omega) (fun q => absurd q (by omega)) (fun c_5 => ?_)
      refine zr_aload_n i_Ledg_reasonOf_8 rfl ?_
      refine zr_getf i_Ledg_reasonOf_9 hL.1 rfl rfl ?_
      refine zr_iload_n i_Ledg_reasonOf_12 rfl ?_
      refine zn_laload i_Ledg_reasonOf_13 hL.2.1 (by omega) (by decide) ?_
      refine zr_lload_n i_Ledg_reasonOf_14 rfl ?_
      refine zr_lcmp i_Ledg_reasonOf_15 ?_
      refine zr_if_ne 26 i_Ledg_reasonOf_16 (by decide) (fun q => absurd ((lg0 _ _).mpr hc) q) (fun _ => ?_)
      refine zr_aload_n i_Ledg_reasonOf_19 rfl ?_
      refine zr_getf i_Ledg_reasonOf_20 hL.1 rfl rfl ?_
      refine zr_iload_n i_Ledg_reasonOf_23 rfl ?_
      refine zn_iaload i_Ledg_reasonOf_24 hL.2.2 (by omega) (by decide) ?_
      exact zR.retE i_Ledg_reasonOf_25 rfl rfl
    · rw [if_neg (fun z => hc (of_decide_eq_true z))]
      refine zr_iload_n i_Ledg_reasonOf_2 rfl ?_
      refine zn_bipush 16 i_Ledg_reasonOf_3 (by decide) ?_
      refine zn_icmp_ge 32 i_Ledg_reasonOf_5 (by decide) (by omega) (by omega) (fun q => absurd q (by omega)) (fun c_5 => ?_)
      refine zr_aload_n i_Ledg_reasonOf_8 rfl ?_
      refine zr_getf i_Ledg_reasonOf_9 hL.1 rfl rfl ?_
      refine zr_iload_n i_Ledg_reasonOf_12 rfl ?_
      refine zn_laload i_Ledg_reasonOf_13 hL.2.1 (by omega) (by decide) ?_
      refine zr_lload_n i_Ledg_reasonOf_14 rfl ?_
      refine zr_lcmp i_Ledg_reasonOf_15 ?_
      refine zr_if_ne 26 i_Ledg_reasonOf_16 (by decide) (fun _ => ?_) (fun q => absurd q (fun z => hc ((lg0 _ _).mp z)))
      refine zn_iinc i_Ledg_reasonOf_26 rfl rfl ?_
      refine zr_goto 2 i_Ledg_reasonOf_29 (by decide) ?_
      exact ih (i + 1) (by omega)
theorem e_Ledg_reasonOf (X : zX) (d : Nat) (h : zH) (ids : Nat → Int64) (rs : Nat → Int32) (o : Nat) (hL : isLd h ids rs o) (x : Int64) : zR X d 64 0 (zent 4 [.ref 110, .long x]) [] h (some (.int (lkR ids rs (zfst (fun i => decide (ids i = x)) 0 16))), h) := by
  refine zn_iconst 0 i_Ledg_reasonOf_0 (by decide) ?_
  refine zr_istore_n i_Ledg_reasonOf_1 rfl ?_
  exact l_Ledg_reasonOf X d h ids rs o hL x 16 0 (by omega)
theorem i_Ledg_add_0 : zins 65 0 = some (.iload_n 3) := by decide +kernel
theorem i_Ledg_add_1 : zins 65 1 = some (.invokestatic 23) := by decide +kernel
theorem i_Ledg_add_4 : zins 65 4 = some (.iconst 2) := by decide +kernel
theorem i_Ledg_add_5 : zins 65 5 = some (.if_icmp .ne 4) := by decide +kernel
theorem i_Ledg_add_8 : zins 65 8 = some (.return_) := by decide +kernel
theorem i_Ledg_add_9 : zins 65 9 = some (.aload_n 0) := by decide +kernel
theorem i_Ledg_add_10 : zins 65 10 = some (.getfield 9) := by decide +kernel
theorem i_Ledg_add_13 : zins 65 13 = some (.aload_n 0) := by decide +kernel
theorem i_Ledg_add_14 : zins 65 14 = some (.getfield 19) := by decide +kernel
theorem i_Ledg_add_17 : zins 65 17 = some (.lload_n 1) := by decide +kernel
theorem i_Ledg_add_18 : zins 65 18 = some (.lastore) := by decide +kernel
theorem i_Ledg_add_19 : zins 65 19 = some (.aload_n 0) := by decide +kernel
theorem i_Ledg_add_20 : zins 65 20 = some (.getfield 15) := by decide +kernel
theorem i_Ledg_add_23 : zins 65 23 = some (.aload_n 0) := by decide +kernel
theorem i_Ledg_add_24 : zins 65 24 = some (.getfield 19) := by decide +kernel
theorem i_Ledg_add_27 : zins 65 27 = some (.iload_n 3) := by decide +kernel
theorem i_Ledg_add_28 : zins 65 28 = some (.iastore) := by decide +kernel
theorem i_Ledg_add_29 : zins 65 29 = some (.aload_n 0) := by decide +kernel
theorem i_Ledg_add_30 : zins 65 30 = some (.aload_n 0) := by decide +kernel
theorem i_Ledg_add_31 : zins 65 31 = some (.getfield 19) := by decide +kernel
theorem i_Ledg_add_34 : zins 65 34 = some (.iconst 1) := by decide +kernel
theorem i_Ledg_add_35 : zins 65 35 = some (.iadd) := by decide +kernel
theorem i_Ledg_add_36 : zins 65 36 = some (.bipush 16) := by decide +kernel
theorem i_Ledg_add_38 : zins 65 38 = some (.if_icmp .ge 12) := by decide +kernel
theorem i_Ledg_add_41 : zins 65 41 = some (.aload_n 0) := by decide +kernel
theorem i_Ledg_add_42 : zins 65 42 = some (.getfield 19) := by decide +kernel
theorem i_Ledg_add_45 : zins 65 45 = some (.iconst 1) := by decide +kernel
theorem i_Ledg_add_46 : zins 65 46 = some (.iadd) := by decide +kernel
theorem i_Ledg_add_47 : zins 65 47 = some (.goto 4) := by decide +kernel
theorem i_Ledg_add_50 : zins 65 50 = some (.iconst 0) := by decide +kernel
theorem i_Ledg_add_51 : zins 65 51 = some (.putfield 19) := by decide +kernel
theorem i_Ledg_add_54 : zins 65 54 = some (.return_) := by decide +kernel
def ldO (o : Nat) : zC := .inr (4, [.ref 111, .ref 112, .int (nI o)])
def ldI (ids : Nat → Int64) : zC := .inl (2, 16, .inr (.inl ids))
def ldR (rs : Nat → Int32) : zC := .inl (0, 16, .inl rs)
def ldS (h : zH) (ids : Nat → Int64) (rs : Nat → Int32) (o : Nat) : zH := zwr (zwr (zwr h 111 (ldI ids)) 112 (ldR rs)) 110 (ldO o)
section LD
variable {h : zH} {ids : Nat → Int64} {rs : Nat → Int32} {o : Nat}
theorem ldS_o : (ldS h ids rs o).2.2 110 = some (.inr (4, [.ref 111, .ref 112, .int (nI o)])) := zwr_at _ _ _
theorem ldS_r : (ldS h ids rs o).2.2 112 = some (.inl (0, 16, .inl rs)) := (zwr_ne (by decide)).trans (zwr_at _ _ _)
theorem ldS_i : (ldS h ids rs o).2.2 111 = some (.inl (2, 16, .inr (.inl ids))) := (zwr_ne (by decide)).trans ((zwr_ne (by decide)).trans (zwr_at _ _ _))
theorem ldS_ne {b : Nat} (h0 : b ≠ 110) (h1 : b ≠ 111) (h2 : b ≠ 112) : (ldS h ids rs o).2.2 b = h.2.2 b := (zwr_ne h0).trans ((zwr_ne h2).trans (zwr_ne h1))
theorem ldS_is : isLd (ldS h ids rs o) ids rs o := ⟨ldS_o, ldS_i, ldS_r⟩
theorem ldS_self (hL : isLd h ids rs o) : ldS h ids rs o = h := by
  unfold ldS
  rw [zwr_self (c := ldI ids) hL.2.1, zwr_self (c := ldR rs) hL.2.2, zwr_self (c := ldO o) hL.1]
theorem ldS_oo (o' : Nat) : zwr (ldS h ids rs o) 110 (ldO o') = ldS h ids rs o' := zwr_zwr _ _ _ _
theorem ldS_rr (rs' : Nat → Int32) : zwr (ldS h ids rs o) 112 (ldR rs') = ldS h ids rs' o := by
  unfold ldS
  rw [zwr_comm (by decide), zwr_zwr]
theorem ldS_ii (ids' : Nat → Int64) : zwr (ldS h ids rs o) 111 (ldI ids') = ldS h ids' rs o := by
  unfold ldS
  rw [zwr_comm (by decide), zwr_comm (a := 112) (b := 111) (by decide), zwr_zwr]
variable {X : zX} {d j pc : Nat} {L : zL} {r : List Value} {u : Option Value × zH}
theorem ld_id {i : Nat} {x : Int64} (hi : zins j pc = some .lastore) (hk : i < 16) (kk : zR X d j (pc + 1) L r (ldS h (vp_updL ids i x) rs o) u) : zR X d j pc L (.long x :: .int (nI i) :: .ref 111 :: r) (ldS h ids rs o) u := by
  refine zr_lastore hi ldS_i (nb hk (by decide)) ?_
  rw [nI_clamp (by omega), show (Sum.inl (2, 16, .inr (.inl (vp_updL ids i x))) : zC) = ldI (vp_updL ids i x) from rfl, ldS_ii]
  exact kk
theorem ld_rs {i : Nat} {x : Int32} (hi : zins j pc = some .iastore) (hk : i < 16) (kk : zR X d j (pc + 1) L r (ldS h ids (upd rs i x) o) u) : zR X d j pc L (.int x :: .int (nI i) :: .ref 112 :: r) (ldS h ids rs o) u := by
  refine zn_iastore hi ldS_r hk (by decide) ?_
  rw [show (Sum.inl (0, 16, .inl (upd rs i (vp_nar .int x))) : zC) = ldR (upd rs i x) from rfl, ldS_rr]
  exact kk
theorem ld_o {o' i : Nat} {ne : Bool} (hi : zins j pc = some (.putfield i)) (hf : zfl (zown j) i = some (4, 2, ne)) (kk : zR X d j (pc + 3) L r (ldS h ids rs o') u) : zR X d j pc L (.int (nI o') :: .ref 110 :: r) (ldS h ids rs o) u := by
  refine zr_putf hi ldS_o hf (Nat.le_of_ble_eq_true rfl) rfl (Or.inl rfl) ?_
  rw [show (Sum.inr (4, List.set [.ref 111, .ref 112, .int (nI o)] 2 (.int (nI o'))) : zC) = ldO o' from rfl, ldS_oo]
  exact kk
end LD
theorem e_Ledg_add (X : zX) (d : Nat) (h : zH) (ids : Nat → Int64) (rs : Nat → Int32) (o : Nat) (ho : o < 16) (x : Int64) (r : Nat) (hr : r < 20) : zR X (d + 1) 65 0 (zent 4 [.ref 110, .long x, .int (nI r)]) [] (ldS h ids rs o) (none, if ansF r = 2 then ldS h ids rs o else ldS h (vp_updL ids o x) (upd rs o (nI r)) (if o + 1 < 16 then o + 1 else 0)) := by
  by_cases h2 : ansF r = 2
  · rw [if_pos h2]
    refine zr_iload_n i_Ledg_add_0 rfl ?_
    refine zr_cs1 i_Ledg_add_1 rfl (by decide) (Nat.le_of_ble_eq_true rfl) (Nat.le_of_ble_eq_true rfl) (e_B_receiptFor X _ _ r hr) ?_
    refine zn_iconst 2 i_Ledg_add_4 (by decide) ?_
    refine zn_icmp_ne 9 i_Ledg_add_5 (by decide) (by rw [h2]; decide) (by decide) (fun q => absurd h2 q) (fun c_5 => ?_)
    exact zR.retE i_Ledg_add_8 rfl rfl
  · rw [if_neg h2]
    have hb : ansF r < 2 ^ 31 := by unfold ansF; (split; · decide); (split <;> decide)
    by_cases ho2 : o + 1 < 16
    · rw [if_pos ho2]
      refine zr_iload_n i_Ledg_add_0 rfl ?_
      refine zr_cs1 i_Ledg_add_1 rfl (by decide) (Nat.le_of_ble_eq_true rfl) (Nat.le_of_ble_eq_true rfl) (e_B_receiptFor X _ _ r hr) ?_
      refine zn_iconst 2 i_Ledg_add_4 (by decide) ?_
      refine zn_icmp_ne 9 i_Ledg_add_5 (by decide) (by omega) (by omega) (fun c_5 => ?_) (fun q => absurd q h2)
      refine zr_aload_n i_Ledg_add_9 rfl ?_
      refine zr_getf i_Ledg_add_10 ldS_o rfl rfl ?_
      refine zr_aload_n i_Ledg_add_13 rfl ?_
      refine zr_getf i_Ledg_add_14 ldS_o rfl rfl ?_
      refine zr_lload_n i_Ledg_add_17 rfl ?_
      refine ld_id i_Ledg_add_18 (by omega) ?_
      refine zr_aload_n i_Ledg_add_19 rfl ?_
      refine zr_getf i_Ledg_add_20 ldS_o rfl rfl ?_
      refine zr_aload_n i_Ledg_add_23 rfl ?_
      refine zr_getf i_Ledg_add_24 ldS_o rfl rfl ?_
      refine zr_iload_n i_Ledg_add_27 rfl ?_
      refine ld_rs i_Ledg_add_28 (by omega) ?_
      refine zr_aload_n i_Ledg_add_29 rfl ?_
      refine zr_aload_n i_Ledg_add_30 rfl ?_
      refine zr_getf i_Ledg_add_31 ldS_o rfl rfl ?_
      refine zn_iconst 1 i_Ledg_add_34 (by decide) ?_
      refine zn_iadd i_Ledg_add_35 ?_
      refine zn_bipush 16 i_Ledg_add_36 (by decide) ?_
      refine zn_icmp_ge 50 i_Ledg_add_38 (by decide) (by omega) (by omega) (fun q => absurd q (by omega)) (fun c_38 => ?_)
      refine zr_aload_n i_Ledg_add_41 rfl ?_
      refine zr_getf i_Ledg_add_42 ldS_o rfl rfl ?_
      refine zn_iconst 1 i_Ledg_add_45 (by decide) ?_
      refine zn_iadd i_Ledg_add_46 ?_
      refine zr_goto 51 i_Ledg_add_47 (by decide) ?_
      refine ld_o i_Ledg_add_51 rfl ?_
      exact zR.retE i_Ledg_add_54 rfl rfl
    · rw [if_neg ho2]
      refine zr_iload_n i_Ledg_add_0 rfl ?_
      refine zr_cs1 i_Ledg_add_1 rfl (by decide) (Nat.le_of_ble_eq_true rfl) (Nat.le_of_ble_eq_true rfl) (e_B_receiptFor X _ _ r hr) ?_
      refine zn_iconst 2 i_Ledg_add_4 (by decide) ?_
      refine zn_icmp_ne 9 i_Ledg_add_5 (by decide) (by omega) (by omega) (fun c_5 => ?_) (fun q => absurd q h2)
      refine zr_aload_n i_Ledg_add_9 rfl ?_
      refine zr_getf i_Ledg_add_10 ldS_o rfl rfl ?_
      refine zr_aload_n i_Ledg_add_13 rfl ?_
      refine zr_getf i_Ledg_add_14 ldS_o rfl rfl ?_
      refine zr_lload_n i_Ledg_add_17 rfl ?_
      refine ld_id i_Ledg_add_18 (by omega) ?_
      refine zr_aload_n i_Ledg_add_19 rfl ?_
      refine zr_getf i_Ledg_add_20 ldS_o rfl rfl ?_
      refine zr_aload_n i_Ledg_add_23 rfl ?_
      refine zr_getf i_Ledg_add_24 ldS_o rfl rfl ?_
      refine zr_iload_n i_Ledg_add_27 rfl ?_
      refine ld_rs i_Ledg_add_28 (by omega) ?_
      refine zr_aload_n i_Ledg_add_29 rfl ?_
      refine zr_aload_n i_Ledg_add_30 rfl ?_
      refine zr_getf i_Ledg_add_31 ldS_o rfl rfl ?_
      refine zn_iconst 1 i_Ledg_add_34 (by decide) ?_
      refine zn_iadd i_Ledg_add_35 ?_
      refine zn_bipush 16 i_Ledg_add_36 (by decide) ?_
      refine zn_icmp_ge 50 i_Ledg_add_38 (by decide) (by omega) (by omega) (fun c_38 => ?_) (fun q => absurd q (by omega))
      refine zn_iconst 0 i_Ledg_add_50 (by decide) ?_
      refine ld_o i_Ledg_add_51 rfl ?_
      exact zR.retE i_Ledg_add_54 rfl rfl
