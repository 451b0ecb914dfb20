/-! THE REFERENCE: receipts, keeping -/
section KR3
variable {X : zX} {d j pc : Nat} {L : zL} {r : List Value} {h : zH} {u : Option Value × zH}
theorem zn_irem {a b : Nat} (hi : zins j pc = some .irem) (ha : a < 2 ^ 31) (hb : 0 < b) (hb2 : b < 2 ^ 31) (k : zR X d j (pc + 1) L (.int (nI (a % b)) :: r) h u) : zR X d j pc L (.int (nI b) :: .int (nI a) :: r) h u :=
  zr_irem hi (nI_ne0 hb hb2) (by rw [pk_rem ha hb hb2]; exact k)
theorem zn_idiv {a b : Nat} (hi : zins j pc = some .idiv) (ha : a < 2 ^ 31) (hb : 0 < b) (hb2 : b < 2 ^ 31) (k : zR X d j (pc + 1) L (.int (nI (a / b)) :: r) h u) : zR X d j pc L (.int (nI b) :: .int (nI a) :: r) h u :=
  zr_idiv hi (nI_ne0 hb hb2) (by rw [pk_div ha hb hb2]; exact k)
theorem zn_i2c {a : Nat} (hi : zins j pc = some .i2c) (ha : a < 65536) (k : zR X d j (pc + 1) L (.int (nI a) :: r) h u) : zR X d j pc L (.int (nI a) :: r) h u :=
  zr_i2c hi (by rw [pk_char, pk_tn (by omega), Nat.mod_eq_of_lt ha]; exact k)
end KR3
/-- a character -/
def zch (c : Int32) : Prop := vp_nar .char c = c
theorem zch_of {c : Int32} (h : narrow .char (.int c) = .int c) : zch c := by unfold zch vp_nar; rw [h]
theorem zch_n {q : Nat} (h : q < 65536) : zch (nI q) := zch_of (zchN h)
/-- a row of which the first places are a list -/
def lrow (f : Nat → Int32) (l : List Int32) (j : Nat) : Int32 := (l[j]?).getD (f j)
theorem lrow_nil (f : Nat → Int32) : lrow f [] = f := rfl
theorem lrow_add (f : Nat → Int32) (l : List Int32) (c : Int32) : upd (lrow f l) l.length c = lrow f (l ++ [c]) := by
  funext j
  unfold lrow
  by_cases h : j = l.length
  · subst h
    rw [pk_us]
    simp
  · rw [pk_un h, List.getElem?_append]
    split
    · rfl
    · rw [List.getElem?_eq_none (by omega), List.getElem?_eq_none (by simp; omega)]
theorem lrow_at {f : Nat → Int32} {l : List Int32} {j : Nat} (h : j < l.length) : lrow f l j = l.getD j 0 := by
  unfold lrow
  rw [List.getD_eq_getElem?_getD, List.getElem?_eq_getElem h]; rfl
def mrc (ms : zMS) (l : List Int32) : zMS := (va_up ms.1 5 (nI l.length), va_up ms.2 15 (lrow (ms.2 15) l))
theorem mV_rc (ms : zMS) (l : List Int32) : mV (mrc ms l) = mV ms := rfl
theorem i_Mod_say_0 : zins 140 0 = some (.aload_n 0) := by decide +kernel
theorem i_Mod_say_1 : zins 140 1 = some (.getfield 53) := by decide +kernel
theorem i_Mod_say_4 : zins 140 4 = some (.aload_n 0) := by decide +kernel
theorem i_Mod_say_5 : zins 140 5 = some (.getfield 224) := by decide +kernel
theorem i_Mod_say_8 : zins 140 8 = some (.iload_n 1) := by decide +kernel
theorem i_Mod_say_9 : zins 140 9 = some (.castore) := by decide +kernel
theorem i_Mod_say_10 : zins 140 10 = some (.aload_n 0) := by decide +kernel
theorem i_Mod_say_11 : zins 140 11 = some (.dup) := by decide +kernel
theorem i_Mod_say_12 : zins 140 12 = some (.getfield 224) := by decide +kernel
theorem i_Mod_say_15 : zins 140 15 = some (.iconst 1) := by decide +kernel
theorem i_Mod_say_16 : zins 140 16 = some (.iadd) := by decide +kernel
theorem i_Mod_say_17 : zins 140 17 = some (.putfield 224) := by decide +kernel
theorem i_Mod_say_20 : zins 140 20 = some (.return_) := by decide +kernel
theorem e_Mod_say (X : zX) (d : Nat) (g : zH) (ms : zMS) (l : List Int32) (hl : l.length < 64) (c : Int32) (hc : zch c) : zR X d 140 0 (zent 2 [.ref 129, .int c]) [] (mset g (mrc ms l)) (none, mset g (mrc ms (l ++ [c]))) := by
  have e : mrc ms (l ++ [c]) = (va_up (va_up ms.1 5 (nI l.length)) 5 (nI (l.length + 1)), va_up (va_up ms.2 15 (lrow (ms.2 15) l)) 15 (upd (lrow (ms.2 15) l) l.length (vp_nar .char c))) := by
    rw [up_same, up_same, hc, lrow_add, mrc, List.length_append]
    rfl
  refine zr_aload_n i_Mod_say_0 rfl ?_
  refine zr_getf i_Mod_say_1 rfl rfl rfl ?_
  refine zr_aload_n i_Mod_say_4 rfl ?_
  refine zr_getf i_Mod_say_5 rfl rfl rfl ?_
  refine zr_top (y := nI l.length) rfl ?_
  refine zr_iload_n i_Mod_say_8 rfl ?_
  refine mn_castore 15 64 i_Mod_say_9 (fun _ => rfl) (by decide) (by omega) (by decide) ?_
  refine zr_aload_n i_Mod_say_10 rfl ?_
  refine zr_dup i_Mod_say_11 rfl ?_
  refine zr_getf i_Mod_say_12 rfl rfl rfl ?_
  refine zr_top (y := nI l.length) rfl ?_
  refine zn_iconst 1 i_Mod_say_15 (by decide) ?_
  refine zn_iadd i_Mod_say_16 ?_
  refine mr_putf (kk := 5) i_Mod_say_17 rfl rfl (Nat.le_of_ble_eq_true rfl) rfl rfl rfl ?_
  exact zR.retE i_Mod_say_20 rfl (by rw [e]; rfl)
theorem i_Mod_sayThree_0 : zins 139 0 = some (.aload_n 0) := by decide +kernel
theorem i_Mod_sayThree_1 : zins 139 1 = some (.iload_n 1) := by decide +kernel
theorem i_Mod_sayThree_2 : zins 139 2 = some (.invokevirtual 227) := by decide +kernel
theorem i_Mod_sayThree_5 : zins 139 5 = some (.aload_n 0) := by decide +kernel
theorem i_Mod_sayThree_6 : zins 139 6 = some (.iload_n 2) := by decide +kernel
theorem i_Mod_sayThree_7 : zins 139 7 = some (.invokevirtual 227) := by decide +kernel
theorem i_Mod_sayThree_10 : zins 139 10 = some (.aload_n 0) := by decide +kernel
theorem i_Mod_sayThree_11 : zins 139 11 = some (.iload_n 3) := by decide +kernel
theorem i_Mod_sayThree_12 : zins 139 12 = some (.invokevirtual 227) := by decide +kernel
theorem i_Mod_sayThree_15 : zins 139 15 = some (.return_) := by decide +kernel
theorem e_Mod_sayThree (X : zX) (d : Nat) (g : zH) (ms : zMS) (l : List Int32) (hl : l.length + 3 ≤ 64) (a b c : Int32) (ha : zch a) (hb : zch b) (hc : zch c) : zR X (d + 1) 139 0 (zent 4 [.ref 129, .int a, .int b, .int c]) [] (mset g (mrc ms l)) (none, mset g (mrc ms (l ++ [a, b, c]))) := by
  refine zr_aload_n i_Mod_sayThree_0 rfl ?_
  refine zr_iload_n i_Mod_sayThree_1 rfl ?_
  refine zr_cv10 i_Mod_sayThree_2 rfl (by decide) rfl (Nat.le_of_ble_eq_true rfl) (Nat.le_of_ble_eq_true rfl) (e_Mod_say X _ g ms l (by omega) a ha) ?_
  refine zr_aload_n i_Mod_sayThree_5 rfl ?_
  refine zr_iload_n i_Mod_sayThree_6 rfl ?_
  refine zr_cv10 i_Mod_sayThree_7 rfl (by decide) rfl (Nat.le_of_ble_eq_true rfl) (Nat.le_of_ble_eq_true rfl) (e_Mod_say X _ g ms (l ++ [a]) (by simp; omega) b hb) ?_
  refine zr_aload_n i_Mod_sayThree_10 rfl ?_
  refine zr_iload_n i_Mod_sayThree_11 rfl ?_
  refine zr_cv10 i_Mod_sayThree_12 rfl (by decide) rfl (Nat.le_of_ble_eq_true rfl) (Nat.le_of_ble_eq_true rfl) (e_Mod_say X _ g ms (l ++ [a] ++ [b]) (by simp; omega) c hc) ?_
  exact zR.retE i_Mod_sayThree_15 rfl (by simp)
theorem i_Mod_sayIdentity_0 : zins 141 0 = some (.aload_n 0) := by decide +kernel
theorem i_Mod_sayIdentity_1 : zins 141 1 = some (.iconst 0) := by decide +kernel
theorem i_Mod_sayIdentity_2 : zins 141 2 = some (.iconst 1) := by decide +kernel
theorem i_Mod_sayIdentity_3 : zins 141 3 = some (.iconst 2) := by decide +kernel
theorem i_Mod_sayIdentity_4 : zins 141 4 = some (.iconst 1) := by decide +kernel
theorem i_Mod_sayIdentity_5 : zins 141 5 = some (.iconst 1) := by decide +kernel
theorem i_Mod_sayIdentity_6 : zins 141 6 = some (.invokevirtual 153) := by decide +kernel
theorem i_Mod_sayIdentity_9 : zins 141 9 = some (.istore_n 1) := by decide +kernel
theorem i_Mod_sayIdentity_10 : zins 141 10 = some (.aload_n 0) := by decide +kernel
theorem i_Mod_sayIdentity_11 : zins 141 11 = some (.aload_n 0) := by decide +kernel
theorem i_Mod_sayIdentity_12 : zins 141 12 = some (.getfield 50) := by decide +kernel
theorem i_Mod_sayIdentity_15 : zins 141 15 = some (.iconst 0) := by decide +kernel
theorem i_Mod_sayIdentity_16 : zins 141 16 = some (.caload) := by decide +kernel
theorem i_Mod_sayIdentity_17 : zins 141 17 = some (.invokevirtual 227) := by decide +kernel
theorem i_Mod_sayIdentity_20 : zins 141 20 = some (.iconst 0) := by decide +kernel
theorem i_Mod_sayIdentity_21 : zins 141 21 = some (.istore_n 2) := by decide +kernel
theorem i_Mod_sayIdentity_22 : zins 141 22 = some (.iload_n 2) := by decide +kernel
theorem i_Mod_sayIdentity_23 : zins 141 23 = some (.aload_n 0) := by decide +kernel
theorem i_Mod_sayIdentity_24 : zins 141 24 = some (.iload_n 1) := by decide +kernel
theorem i_Mod_sayIdentity_25 : zins 141 25 = some (.invokevirtual 145) := by decide +kernel
theorem i_Mod_sayIdentity_28 : zins 141 28 = some (.if_icmp .ge 19) := by decide +kernel
theorem i_Mod_sayIdentity_31 : zins 141 31 = some (.aload_n 0) := by decide +kernel
theorem i_Mod_sayIdentity_32 : zins 141 32 = some (.aload_n 0) := by decide +kernel
theorem i_Mod_sayIdentity_33 : zins 141 33 = some (.iload_n 1) := by decide +kernel
theorem i_Mod_sayIdentity_34 : zins 141 34 = some (.iload_n 2) := by decide +kernel
theorem i_Mod_sayIdentity_35 : zins 141 35 = some (.invokevirtual 149) := by decide +kernel
theorem i_Mod_sayIdentity_38 : zins 141 38 = some (.invokevirtual 227) := by decide +kernel
theorem i_Mod_sayIdentity_41 : zins 141 41 = some (.iinc 2 1) := by decide +kernel
theorem i_Mod_sayIdentity_44 : zins 141 44 = some (.goto (-22)) := by decide +kernel
theorem i_Mod_sayIdentity_47 : zins 141 47 = some (.aload_n 0) := by decide +kernel
theorem i_Mod_sayIdentity_48 : zins 141 48 = some (.aload_n 0) := by decide +kernel
theorem i_Mod_sayIdentity_49 : zins 141 49 = some (.getfield 50) := by decide +kernel
theorem i_Mod_sayIdentity_52 : zins 141 52 = some (.iconst 0) := by decide +kernel
theorem i_Mod_sayIdentity_53 : zins 141 53 = some (.caload) := by decide +kernel
theorem i_Mod_sayIdentity_54 : zins 141 54 = some (.invokevirtual 227) := by decide +kernel
theorem i_Mod_sayIdentity_57 : zins 141 57 = some (.return_) := by decide +kernel
theorem l_Mod_sayIdentity (X : zX) (d : Nat) (g : zH) (ms : zMS) (cnt : Nat) (hT : mTV ms 0 cnt) (l : List Int32) (hl : l.length + 2 + tl (mV ms 1 2 1 1) ≤ 64) (hS : ∀ k, k < 5 → zch (ms.2 14 k)) (hC : ∀ i, i < tl (mV ms 1 2 1 1) → zch (tc (mV ms 1 2 1 1) i)) : ∀ (k i : Nat), i + k = tl (mV ms 1 2 1 1) → zR X (d + 2) 141 22 [some (.ref 129), some (.int (tI (mfind ms 0 1 2 1 1))), some (.int (nI i))] [] (mset g (mrc ms ((l ++ [ms.2 14 0]) ++ ((mV ms 1 2 1 1).getD []).take i))) (none, mset g (mrc ms (l ++ [ms.2 14 0] ++ ((mV ms 1 2 1 1).getD []) ++ [ms.2 14 0]))) := by
  intro k
  induction k with
  | zero =>
    intro i hik
    refine zr_iload_n i_Mod_sayIdentity_22 rfl ?_
    refine zr_aload_n i_Mod_sayIdentity_23 rfl ?_
    refine zr_iload_n i_Mod_sayIdentity_24 rfl ?_
    refine zr_cv1 i_Mod_sayIdentity_25 rfl (by decide) rfl (Nat.le_of_ble_eq_true rfl) (Nat.le_of_ble_eq_true rfl) (v_sizeOf X _ g (mrc ms ((l ++ [ms.2 14 0]) ++ ((mV ms 1 2 1 1).getD []).take i)) (mfind ms 0 1 2 1 1) (mto_find hT _ _ _ _ : mto ms _)) ?_
    refine zr_top (y := nI (tl (mV ms 1 2 1 1))) rfl ?_
    refine zn_icmp_ge 47 i_Mod_sayIdentity_28 (by decide) (by omega) (by omega) (fun c_28 => ?_) (fun q => absurd q (by first | assumption | omega | simp_all))
    refine zr_aload_n i_Mod_sayIdentity_47 rfl ?_
    refine zr_aload_n i_Mod_sayIdentity_48 rfl ?_
    refine zr_getf i_Mod_sayIdentity_49 rfl rfl rfl ?_
    refine zn_iconst 0 i_Mod_sayIdentity_52 (by decide) ?_
    refine zn_caload i_Mod_sayIdentity_53 rfl (by omega) (by decide) ?_
    refine zr_cv10 i_Mod_sayIdentity_54 rfl (by decide) rfl (Nat.le_of_ble_eq_true rfl) (Nat.le_of_ble_eq_true rfl) (e_Mod_say X _ g ms ((l ++ [ms.2 14 0]) ++ ((mV ms 1 2 1 1).getD []).take i) (by simp; omega) (ms.2 14 0) (hS 0 (by decide))) ?_
    exact zR.retE i_Mod_sayIdentity_57 rfl (by rw [List.take_of_length_le (show ((mV ms 1 2 1 1).getD []).length ≤ i by simp [tl] at hik; omega)])
  | succ k ih =>
    intro i hik
    refine zr_iload_n i_Mod_sayIdentity_22 rfl ?_
    refine zr_aload_n i_Mod_sayIdentity_23 rfl ?_
    refine zr_iload_n i_Mod_sayIdentity_24 rfl ?_
    refine zr_cv1 i_Mod_sayIdentity_25 rfl (by decide) rfl (Nat.le_of_ble_eq_true rfl) (Nat.le_of_ble_eq_true rfl) (v_sizeOf X _ g (mrc ms ((l ++ [ms.2 14 0]) ++ ((mV ms 1 2 1 1).getD []).take i)) (mfind ms 0 1 2 1 1) (mto_find hT _ _ _ _ : mto ms _)) ?_
    refine zr_top (y := nI (tl (mV ms 1 2 1 1))) rfl ?_
    refine zn_icmp_ge 47 i_Mod_sayIdentity_28 (by decide) (by omega) (by omega) (fun q => absurd q (by first | assumption | omega | simp_all)) (fun c_28 => ?_)
    refine zr_aload_n i_Mod_sayIdentity_31 rfl ?_
    refine zr_aload_n i_Mod_sayIdentity_32 rfl ?_
    refine zr_iload_n i_Mod_sayIdentity_33 rfl ?_
    refine zr_iload_n i_Mod_sayIdentity_34 rfl ?_
    refine zr_cv2 i_Mod_sayIdentity_35 rfl (by decide) rfl (Nat.le_of_ble_eq_true rfl) (Nat.le_of_ble_eq_true rfl) (v_charOf X _ g (mrc ms ((l ++ [ms.2 14 0]) ++ ((mV ms 1 2 1 1).getD []).take i)) (mfind ms 0 1 2 1 1) (mto_find hT _ _ _ _ : mto ms _) i (by omega)) ?_
    refine zr_cv10 i_Mod_sayIdentity_38 rfl (by decide) rfl (Nat.le_of_ble_eq_true rfl) (Nat.le_of_ble_eq_true rfl) (e_Mod_say X _ g ms ((l ++ [ms.2 14 0]) ++ ((mV ms 1 2 1 1).getD []).take i) (by simp; omega) (tc (mV ms 1 2 1 1) i) (hC i (by omega))) ?_
    refine zn_iinc i_Mod_sayIdentity_41 rfl rfl ?_
    refine zr_goto 22 i_Mod_sayIdentity_44 (by decide) ?_
    (have e := ih (i + 1) (by omega)
     rw [show (l ++ [ms.2 14 0]) ++ ((mV ms 1 2 1 1).getD []).take (i + 1) = (l ++ [ms.2 14 0]) ++ ((mV ms 1 2 1 1).getD []).take i ++ [tc (mV ms 1 2 1 1) i] by
       rw [List.append_assoc (l ++ [ms.2 14 0]), List.take_succ, List.getElem?_eq_getElem (show i < ((mV ms 1 2 1 1).getD []).length from (show i < tl (mV ms 1 2 1 1) by omega))]
       simp [tc, List.getD_eq_getElem?_getD, List.getElem?_eq_getElem (show i < ((mV ms 1 2 1 1).getD []).length from (show i < tl (mV ms 1 2 1 1) by omega))]] at e
     exact e)
theorem e_Mod_sayIdentity (X : zX) (d : Nat) (g : zH) (ms : zMS) (cnt : Nat) (hT : mTV ms 0 cnt) (l : List Int32) (hl : l.length + 2 + tl (mV ms 1 2 1 1) ≤ 64) (hS : ∀ k, k < 5 → zch (ms.2 14 k)) (hC : ∀ i, i < tl (mV ms 1 2 1 1) → zch (tc (mV ms 1 2 1 1) i)) : zR X (d + 2) 141 0 (zent 3 [.ref 129]) [] (mset g (mrc ms l)) (none, mset g (mrc ms (l ++ [ms.2 14 0] ++ ((mV ms 1 2 1 1).getD []) ++ [ms.2 14 0]))) := by
  refine zr_aload_n i_Mod_sayIdentity_0 rfl ?_
  refine zn_iconst 0 i_Mod_sayIdentity_1 (by decide) ?_
  refine zr_iconst i_Mod_sayIdentity_2 (v := 1) (by decide) ?_
  refine zr_iconst i_Mod_sayIdentity_3 (v := 2) (by decide) ?_
  refine zr_iconst i_Mod_sayIdentity_4 (v := 1) (by decide) ?_
  refine zr_iconst i_Mod_sayIdentity_5 (v := 1) (by decide) ?_
  refine zr_cv5 i_Mod_sayIdentity_6 rfl (by decide) rfl (Nat.le_of_ble_eq_true rfl) (Nat.le_of_ble_eq_true rfl) (e_Mod_find X _ g (mrc ms l) 0 cnt _ _ _ _ (by decide) hT.1 hT.2.1) ?_
  refine zr_istore_n i_Mod_sayIdentity_9 rfl ?_
  refine zr_aload_n i_Mod_sayIdentity_10 rfl ?_
  refine zr_aload_n i_Mod_sayIdentity_11 rfl ?_
  refine zr_getf i_Mod_sayIdentity_12 rfl rfl rfl ?_
  refine zn_iconst 0 i_Mod_sayIdentity_15 (by decide) ?_
  refine zn_caload i_Mod_sayIdentity_16 rfl (by omega) (by decide) ?_
  refine zr_cv10 i_Mod_sayIdentity_17 rfl (by decide) rfl (Nat.le_of_ble_eq_true rfl) (Nat.le_of_ble_eq_true rfl) (e_Mod_say X _ g ms l (by omega) (ms.2 14 0) (hS 0 (by decide))) ?_
  refine zn_iconst 0 i_Mod_sayIdentity_20 (by decide) ?_
  refine zr_istore_n i_Mod_sayIdentity_21 rfl ?_
  (have e := l_Mod_sayIdentity X d g ms cnt hT l hl hS hC (tl (mV ms 1 2 1 1)) 0 (by omega)
   rw [List.take_zero, List.append_nil] at e
   exact e)
