/-! THE REFERENCE: writing -/
def mwr (ms : zMS) (l : List Int32) : zMS := (va_up ms.1 7 (nI l.length), va_up ms.2 25 (lrow (ms.2 25) l))
def wgL (f : Nat → Int32) (c : Int32) (k m : Nat) (o : Option Nat) : Option Nat := match m with
  | 0 => o
  | m + 1 => wgL f c (k + 1) m (if f k = c then some k else o)
def escL (w : Nat) : Int32 := if w = 0 then 70 else if w = 1 then 83 else if w = 2 then 82 else if w = 3 then 69 else 84
/-- a letter as it is written -/
def putF (f : Nat → Int32) (c : Int32) : List Int32 := match wgL f c 0 5 none with
  | none => [c]
  | some w => [f 3, escL w, f 3]
theorem wgL_lt (f : Nat → Int32) (c : Int32) : ∀ (m k : Nat) (o : Option Nat), (∀ w, o = some w → w < k) → ∀ w, wgL f c k m o = some w → w < k + m := by
  intro m
  induction m with
  | zero => intro k o h w e; exact h w e
  | succ m ih =>
    intro k o h w e
    rw [wgL] at e
    have := ih (k + 1) _ (fun w e => by
      split at e
      · cases e; omega
      · have := h w e; omega) w e
    omega
theorem i_Mod_put_0 : zins 159 0 = some (.aload_n 0) := by decide +kernel
theorem i_Mod_put_1 : zins 159 1 = some (.getfield 84) := by decide +kernel
theorem i_Mod_put_4 : zins 159 4 = some (.aload_n 0) := by decide +kernel
theorem i_Mod_put_5 : zins 159 5 = some (.getfield 279) := by decide +kernel
theorem i_Mod_put_8 : zins 159 8 = some (.iload_n 1) := by decide +kernel
theorem i_Mod_put_9 : zins 159 9 = some (.castore) := by decide +kernel
theorem i_Mod_put_10 : zins 159 10 = some (.aload_n 0) := by decide +kernel
theorem i_Mod_put_11 : zins 159 11 = some (.dup) := by decide +kernel
theorem i_Mod_put_12 : zins 159 12 = some (.getfield 279) := by decide +kernel
theorem i_Mod_put_15 : zins 159 15 = some (.iconst 1) := by decide +kernel
theorem i_Mod_put_16 : zins 159 16 = some (.iadd) := by decide +kernel
theorem i_Mod_put_17 : zins 159 17 = some (.putfield 279) := by decide +kernel
theorem i_Mod_put_20 : zins 159 20 = some (.return_) := by decide +kernel
theorem e_Mod_put (X : zX) (d : Nat) (g : zH) (ms : zMS) (l : List Int32) (hl : l.length < 800) (c : Int32) (hc : zch c) : zR X d 159 0 (zent 2 [.ref 129, .int c]) [] (mset g (mwr ms l)) (none, mset g (mwr ms (l ++ [c]))) := by
  have e : mwr ms (l ++ [c]) = (va_up (va_up ms.1 7 (nI l.length)) 7 (nI (l.length + 1)), va_up (va_up ms.2 25 (lrow (ms.2 25) l)) 25 (upd (lrow (ms.2 25) l) l.length (vp_nar .char c))) := by
    rw [up_same, up_same, hc, lrow_add, mwr, List.length_append]
    rfl
  refine zr_aload_n i_Mod_put_0 rfl ?_
  refine zr_getf i_Mod_put_1 rfl rfl rfl ?_
  refine zr_aload_n i_Mod_put_4 rfl ?_
  refine zr_getf i_Mod_put_5 rfl rfl rfl ?_
  refine zr_top (y := nI l.length) rfl ?_
  refine zr_iload_n i_Mod_put_8 rfl ?_
  refine mn_castore 25 800 i_Mod_put_9 (fun _ => rfl) (by decide) (by omega) (by decide) ?_
  refine zr_aload_n i_Mod_put_10 rfl ?_
  refine zr_dup i_Mod_put_11 rfl ?_
  refine zr_getf i_Mod_put_12 rfl rfl rfl ?_
  refine zr_top (y := nI l.length) rfl ?_
  refine zn_iconst 1 i_Mod_put_15 (by decide) ?_
  refine zn_iadd i_Mod_put_16 ?_
  refine mr_putf (kk := 7) i_Mod_put_17 rfl rfl (Nat.le_of_ble_eq_true rfl) rfl rfl rfl ?_
  exact zR.retE i_Mod_put_20 rfl (by rw [e]; rfl)
theorem i_Mod_written_0 : zins 162 0 = some (.iload_n 1) := by decide +kernel
theorem i_Mod_written_1 : zins 162 1 = some (.ifCond .lt 11) := by decide +kernel
theorem i_Mod_written_4 : zins 162 4 = some (.iload_n 1) := by decide +kernel
theorem i_Mod_written_5 : zins 162 5 = some (.aload_n 0) := by decide +kernel
theorem i_Mod_written_6 : zins 162 6 = some (.getfield 279) := by decide +kernel
theorem i_Mod_written_9 : zins 162 9 = some (.if_icmp .lt 7) := by decide +kernel
theorem i_Mod_written_12 : zins 162 12 = some (.iconst (-1)) := by decide +kernel
theorem i_Mod_written_13 : zins 162 13 = some (.goto 9) := by decide +kernel
theorem i_Mod_written_16 : zins 162 16 = some (.aload_n 0) := by decide +kernel
theorem i_Mod_written_17 : zins 162 17 = some (.getfield 84) := by decide +kernel
theorem i_Mod_written_20 : zins 162 20 = some (.iload_n 1) := by decide +kernel
theorem i_Mod_written_21 : zins 162 21 = some (.caload) := by decide +kernel
theorem i_Mod_written_22 : zins 162 22 = some (.ireturn) := by decide +kernel
theorem e_Mod_written (X : zX) (d : Nat) (g : zH) (ms : zMS) (ln : Nat) (hl : ms.1 7 = nI ln) (hl2 : ln ≤ 800) (i : Int32) : zR X (d + 2) 162 0 (zent 2 [.ref 129, .int i]) [] (mset g ms) (some (.int (getF (ms.2 25) ln i)), mset g ms) := by
  rcases pk_ix i (n := ln) (by omega) with h | h | ⟨j, hj, h⟩
  · rw [getF_neg h]
    refine zr_iload_n i_Mod_written_0 rfl ?_
    refine zr_if_lt 12 i_Mod_written_1 (by decide) (fun _ => ?_) (fun q => absurd h q)
    refine zr_iconst i_Mod_written_12 (v := (-1)) (by decide) ?_
    refine zr_goto 22 i_Mod_written_13 (by decide) ?_
    exact zR.retE i_Mod_written_22 rfl rfl
  · rw [getF_ge h]
    have h0 : ¬ i < 0 := fun q => absurd (Int32.lt_of_le_of_lt h q) (nI_pos (by omega))
    refine zr_iload_n i_Mod_written_0 rfl ?_
    refine zr_if_lt 12 i_Mod_written_1 (by decide) (fun q => absurd q h0) (fun _ => ?_)
    refine zr_iload_n i_Mod_written_4 rfl ?_
    refine zr_aload_n i_Mod_written_5 rfl ?_
    refine zr_getf i_Mod_written_6 rfl rfl rfl ?_
    refine zr_top (y := nI ln) hl ?_
    refine zr_icmp_lt 16 i_Mod_written_9 (by decide) (fun q => absurd q (Int32.not_lt.mpr h)) (fun c_9 => ?_)
    refine zr_iconst i_Mod_written_12 (v := (-1)) (by decide) ?_
    refine zr_goto 22 i_Mod_written_13 (by decide) ?_
    exact zR.retE i_Mod_written_22 rfl rfl
  · rw [h, getF_in hj (by omega)]
    refine zr_iload_n i_Mod_written_0 rfl ?_
    refine zN_if_lt 12 i_Mod_written_1 (by decide) (by omega) ?_
    refine zr_iload_n i_Mod_written_4 rfl ?_
    refine zr_aload_n i_Mod_written_5 rfl ?_
    refine zr_getf i_Mod_written_6 rfl rfl rfl ?_
    refine zr_top (y := nI ln) hl ?_
    refine zn_icmp_lt 16 i_Mod_written_9 (by decide) (by omega) (by omega) (fun c_9 => ?_) (fun q => absurd q (by omega))
    refine zr_aload_n i_Mod_written_16 rfl ?_
    refine zr_getf i_Mod_written_17 rfl rfl rfl ?_
    refine zr_iload_n i_Mod_written_20 rfl ?_
    refine zn_caload i_Mod_written_21 rfl (by omega) (by decide) ?_
    exact zR.retE i_Mod_written_22 rfl rfl
theorem i_Mod_putText_0 : zins 161 0 = some (.iconst (-1)) := by decide +kernel
theorem i_Mod_putText_1 : zins 161 1 = some (.istore_n 2) := by decide +kernel
theorem i_Mod_putText_2 : zins 161 2 = some (.iconst 0) := by decide +kernel
theorem i_Mod_putText_3 : zins 161 3 = some (.istore_n 3) := by decide +kernel
theorem i_Mod_putText_4 : zins 161 4 = some (.iload_n 3) := by decide +kernel
theorem i_Mod_putText_5 : zins 161 5 = some (.iconst 5) := by decide +kernel
theorem i_Mod_putText_6 : zins 161 6 = some (.if_icmp .ge 25) := by decide +kernel
theorem i_Mod_putText_9 : zins 161 9 = some (.aload_n 0) := by decide +kernel
theorem i_Mod_putText_10 : zins 161 10 = some (.getfield 87) := by decide +kernel
theorem i_Mod_putText_13 : zins 161 13 = some (.iload_n 3) := by decide +kernel
theorem i_Mod_putText_14 : zins 161 14 = some (.caload) := by decide +kernel
theorem i_Mod_putText_15 : zins 161 15 = some (.iload_n 1) := by decide +kernel
theorem i_Mod_putText_16 : zins 161 16 = some (.if_icmp .ne 7) := by decide +kernel
theorem i_Mod_putText_19 : zins 161 19 = some (.iload_n 3) := by decide +kernel
theorem i_Mod_putText_20 : zins 161 20 = some (.goto 4) := by decide +kernel
theorem i_Mod_putText_23 : zins 161 23 = some (.iload_n 2) := by decide +kernel
theorem i_Mod_putText_24 : zins 161 24 = some (.istore_n 2) := by decide +kernel
theorem i_Mod_putText_25 : zins 161 25 = some (.iinc 3 1) := by decide +kernel
theorem i_Mod_putText_28 : zins 161 28 = some (.goto (-24)) := by decide +kernel
theorem i_Mod_putText_31 : zins 161 31 = some (.iload_n 2) := by decide +kernel
theorem i_Mod_putText_32 : zins 161 32 = some (.ifCond .ge 9) := by decide +kernel
theorem i_Mod_putText_35 : zins 161 35 = some (.aload_n 0) := by decide +kernel
theorem i_Mod_putText_36 : zins 161 36 = some (.iload_n 1) := by decide +kernel
theorem i_Mod_putText_37 : zins 161 37 = some (.invokevirtual 282) := by decide +kernel
theorem i_Mod_putText_40 : zins 161 40 = some (.return_) := by decide +kernel
theorem i_Mod_putText_41 : zins 161 41 = some (.aload_n 0) := by decide +kernel
theorem i_Mod_putText_42 : zins 161 42 = some (.aload_n 0) := by decide +kernel
theorem i_Mod_putText_43 : zins 161 43 = some (.getfield 87) := by decide +kernel
theorem i_Mod_putText_46 : zins 161 46 = some (.iconst 3) := by decide +kernel
theorem i_Mod_putText_47 : zins 161 47 = some (.caload) := by decide +kernel
theorem i_Mod_putText_48 : zins 161 48 = some (.invokevirtual 282) := by decide +kernel
theorem i_Mod_putText_51 : zins 161 51 = some (.aload_n 0) := by decide +kernel
theorem i_Mod_putText_52 : zins 161 52 = some (.iload_n 2) := by decide +kernel
theorem i_Mod_putText_53 : zins 161 53 = some (.ifCond .ne 8) := by decide +kernel
theorem i_Mod_putText_56 : zins 161 56 = some (.bipush 70) := by decide +kernel
theorem i_Mod_putText_58 : zins 161 58 = some (.goto 35) := by decide +kernel
theorem i_Mod_putText_61 : zins 161 61 = some (.iload_n 2) := by decide +kernel
theorem i_Mod_putText_62 : zins 161 62 = some (.iconst 1) := by decide +kernel
theorem i_Mod_putText_63 : zins 161 63 = some (.if_icmp .ne 8) := by decide +kernel
theorem i_Mod_putText_66 : zins 161 66 = some (.bipush 83) := by decide +kernel
theorem i_Mod_putText_68 : zins 161 68 = some (.goto 25) := by decide +kernel
theorem i_Mod_putText_71 : zins 161 71 = some (.iload_n 2) := by decide +kernel
theorem i_Mod_putText_72 : zins 161 72 = some (.iconst 2) := by decide +kernel
theorem i_Mod_putText_73 : zins 161 73 = some (.if_icmp .ne 8) := by decide +kernel
theorem i_Mod_putText_76 : zins 161 76 = some (.bipush 82) := by decide +kernel
theorem i_Mod_putText_78 : zins 161 78 = some (.goto 15) := by decide +kernel
theorem i_Mod_putText_81 : zins 161 81 = some (.iload_n 2) := by decide +kernel
theorem i_Mod_putText_82 : zins 161 82 = some (.iconst 3) := by decide +kernel
theorem i_Mod_putText_83 : zins 161 83 = some (.if_icmp .ne 8) := by decide +kernel
theorem i_Mod_putText_86 : zins 161 86 = some (.bipush 69) := by decide +kernel
theorem i_Mod_putText_88 : zins 161 88 = some (.goto 5) := by decide +kernel
theorem i_Mod_putText_91 : zins 161 91 = some (.bipush 84) := by decide +kernel
theorem i_Mod_putText_93 : zins 161 93 = some (.invokevirtual 282) := by decide +kernel
theorem i_Mod_putText_96 : zins 161 96 = some (.aload_n 0) := by decide +kernel
theorem i_Mod_putText_97 : zins 161 97 = some (.aload_n 0) := by decide +kernel
theorem i_Mod_putText_98 : zins 161 98 = some (.getfield 87) := by decide +kernel
theorem i_Mod_putText_101 : zins 161 101 = some (.iconst 3) := by decide +kernel
theorem i_Mod_putText_102 : zins 161 102 = some (.caload) := by decide +kernel
theorem i_Mod_putText_103 : zins 161 103 = some (.invokevirtual 282) := by decide +kernel
theorem i_Mod_putText_106 : zins 161 106 = some (.return_) := by decide +kernel
theorem l_Mod_putText (X : zX) (d : Nat) (g : zH) (ms : zMS) (c : Int32) (u : Option Value × zH) : ∀ (m k : Nat) (o : Option Nat), k + m = 5 → (∀ x, zR X d 161 31 [some (.ref 129), some (.int c), some (.int (tI (wgL (ms.2 26) c k m o))), some (.int (nI x))] [] (mset g ms) u) → zR X d 161 4 [some (.ref 129), some (.int c), some (.int (tI o)), some (.int (nI k))] [] (mset g ms) u := by
  intro m
  induction m with
  | zero =>
    intro k o hik K
    refine zr_iload_n i_Mod_putText_4 rfl ?_
    refine zn_iconst 5 i_Mod_putText_5 (by decide) ?_
    refine zn_icmp_ge 31 i_Mod_putText_6 (by decide) (by omega) (by omega) (fun c_6 => ?_) (fun q => absurd q (by omega))
    exact K _
  | succ m ih =>
    intro k o hik K
    refine zr_iload_n i_Mod_putText_4 rfl ?_
    refine zn_iconst 5 i_Mod_putText_5 (by decide) ?_
    refine zn_icmp_ge 31 i_Mod_putText_6 (by decide) (by omega) (by omega) (fun q => absurd q (by omega)) (fun c_6 => ?_)
    refine zr_aload_n i_Mod_putText_9 rfl ?_
    refine zr_getf i_Mod_putText_10 rfl rfl rfl ?_
    refine zr_iload_n i_Mod_putText_13 rfl ?_
    refine zn_caload i_Mod_putText_14 rfl (by omega) (by decide) ?_
    refine zr_iload_n i_Mod_putText_15 rfl ?_
    refine zr_icmp_ne 23 i_Mod_putText_16 (by decide) (fun c_16 => ?_) (fun c_16 => ?_)
    · skip
      refine zr_iload_n i_Mod_putText_23 rfl ?_
      refine zr_istore_n i_Mod_putText_24 rfl ?_
      refine zn_iinc i_Mod_putText_25 rfl rfl ?_
      refine zr_goto 4 i_Mod_putText_28 (by decide) ?_
      (rw [wgL] at K; first | (rw [if_pos (by assumption)] at K; exact ih (k + 1) _ (by omega) K) | (rw [if_neg (by assumption)] at K; exact ih (k + 1) _ (by omega) K))
    · skip
      refine zr_iload_n i_Mod_putText_19 rfl ?_
      refine zr_goto 24 i_Mod_putText_20 (by decide) ?_
      refine zr_istore_n i_Mod_putText_24 rfl ?_
      refine zn_iinc i_Mod_putText_25 rfl rfl ?_
      refine zr_goto 4 i_Mod_putText_28 (by decide) ?_
      (rw [wgL] at K; first | (rw [if_pos (by assumption)] at K; exact ih (k + 1) _ (by omega) K) | (rw [if_neg (by assumption)] at K; exact ih (k + 1) _ (by omega) K))
theorem e_Mod_putText (X : zX) (d : Nat) (g : zH) (ms : zMS) (l : List Int32) (hl : l.length + 3 ≤ 800) (hG : ∀ k, k < 5 → zch (ms.2 26 k)) (c : Int32) (hc : zch c) : zR X (d + 1) 161 0 (zent 4 [.ref 129, .int c]) [] (mset g (mwr ms l)) (none, mset g (mwr ms (l ++ putF (ms.2 26) c))) := by
  have key : zR X (d + 1) 161 4 [some (.ref 129), some (.int c), some (.int (tI none)), some (.int (nI 0))] [] (mset g (mwr ms l)) (none, mset g (mwr ms (l ++ putF (ms.2 26) c))) := by
    refine l_Mod_putText X (d + 1) g (mwr ms l) c _ 5 0 none rfl (fun x => ?_)
    have hlt := wgL_lt (ms.2 26) c 5 0 none (fun w q => by cases q)
    show zR X (d + 1) 161 31 [some (.ref 129), some (.int c), some (.int (tI (wgL (ms.2 26) c 0 5 none))), some (.int (nI x))] [] (mset g (mwr ms l)) _
    cases e : wgL (ms.2 26) c 0 5 none with
    | none =>
      refine zr_iload_n i_Mod_putText_31 rfl ?_
      refine zr_if_ge 41 i_Mod_putText_32 (by decide) (fun q => absurd q (by decide)) (fun _ => ?_)
      refine zr_aload_n i_Mod_putText_35 rfl ?_
      refine zr_iload_n i_Mod_putText_36 rfl ?_
      refine zr_cv10 i_Mod_putText_37 rfl (by decide) rfl (Nat.le_of_ble_eq_true rfl) (Nat.le_of_ble_eq_true rfl) (e_Mod_put X _ g ms l (by first | omega | (simp <;> omega)) (c) hc) ?_
      exact zR.retE i_Mod_putText_40 rfl (by rw [putF, e])
    | some w =>
      have hw := hlt w e
      rcases (show w = 0 ∨ w = 1 ∨ w = 2 ∨ w = 3 ∨ w = 4 by omega) with rfl | rfl | rfl | rfl | rfl
      · skip
        refine zr_iload_n i_Mod_putText_31 rfl ?_
        refine zr_if_ge 41 i_Mod_putText_32 (by decide) (fun _ => ?_) (fun q => absurd q (by decide))
        refine zr_aload_n i_Mod_putText_41 rfl ?_
        refine zr_aload_n i_Mod_putText_42 rfl ?_
        refine zr_getf i_Mod_putText_43 rfl rfl rfl ?_
        refine zn_iconst 3 i_Mod_putText_46 (by decide) ?_
        refine zn_caload i_Mod_putText_47 rfl (by omega) (by decide) ?_
        refine zr_cv10 i_Mod_putText_48 rfl (by decide) rfl (Nat.le_of_ble_eq_true rfl) (Nat.le_of_ble_eq_true rfl) (e_Mod_put X _ g ms l (by first | omega | (simp <;> omega)) (ms.2 26 3) (hG 3 (by decide))) ?_
        refine zr_aload_n i_Mod_putText_51 rfl ?_
        refine zr_iload_n i_Mod_putText_52 rfl ?_
        refine zr_if_ne 61 i_Mod_putText_53 (by decide) (fun q => absurd q (by decide)) (fun _ => ?_)
        refine zr_bipush i_Mod_putText_56 (v := 70) (by decide) ?_
        refine zr_goto 93 i_Mod_putText_58 (by decide) ?_
        refine zr_cv10 i_Mod_putText_93 rfl (by decide) rfl (Nat.le_of_ble_eq_true rfl) (Nat.le_of_ble_eq_true rfl) (e_Mod_put X _ g ms (l ++ [(ms.2 26 3)]) (by first | omega | (simp <;> omega)) (70) (by unfold zch; decide)) ?_
        refine zr_aload_n i_Mod_putText_96 rfl ?_
        refine zr_aload_n i_Mod_putText_97 rfl ?_
        refine zr_getf i_Mod_putText_98 rfl rfl rfl ?_
        refine zn_iconst 3 i_Mod_putText_101 (by decide) ?_
        refine zn_caload i_Mod_putText_102 rfl (by omega) (by decide) ?_
        refine zr_cv10 i_Mod_putText_103 rfl (by decide) rfl (Nat.le_of_ble_eq_true rfl) (Nat.le_of_ble_eq_true rfl) (e_Mod_put X _ g ms ((l ++ [(ms.2 26 3)]) ++ [(70)]) (by first | omega | (simp <;> omega)) (ms.2 26 3) (hG 3 (by decide))) ?_
        exact zR.retE i_Mod_putText_106 rfl (by rw [putF, e]; simp [escL])
      · skip
        refine zr_iload_n i_Mod_putText_31 rfl ?_
        refine zr_if_ge 41 i_Mod_putText_32 (by decide) (fun _ => ?_) (fun q => absurd q (by decide))
        refine zr_aload_n i_Mod_putText_41 rfl ?_
        refine zr_aload_n i_Mod_putText_42 rfl ?_
        refine zr_getf i_Mod_putText_43 rfl rfl rfl ?_
        refine zn_iconst 3 i_Mod_putText_46 (by decide) ?_
        refine zn_caload i_Mod_putText_47 rfl (by omega) (by decide) ?_
        refine zr_cv10 i_Mod_putText_48 rfl (by decide) rfl (Nat.le_of_ble_eq_true rfl) (Nat.le_of_ble_eq_true rfl) (e_Mod_put X _ g ms l (by first | omega | (simp <;> omega)) (ms.2 26 3) (hG 3 (by decide))) ?_
        refine zr_aload_n i_Mod_putText_51 rfl ?_
        refine zr_iload_n i_Mod_putText_52 rfl ?_
        refine zr_if_ne 61 i_Mod_putText_53 (by decide) (fun _ => ?_) (fun q => absurd q (by decide))
        refine zr_iload_n i_Mod_putText_61 rfl ?_
        refine zn_iconst 1 i_Mod_putText_62 (by decide) ?_
        refine zr_icmp_ne 71 i_Mod_putText_63 (by decide) (fun q => absurd q (by decide)) (fun _ => ?_)
        refine zr_bipush i_Mod_putText_66 (v := 83) (by decide) ?_
        refine zr_goto 93 i_Mod_putText_68 (by decide) ?_
        refine zr_cv10 i_Mod_putText_93 rfl (by decide) rfl (Nat.le_of_ble_eq_true rfl) (Nat.le_of_ble_eq_true rfl) (e_Mod_put X _ g ms (l ++ [(ms.2 26 3)]) (by first | omega | (simp <;> omega)) (83) (by unfold zch; decide)) ?_
        refine zr_aload_n i_Mod_putText_96 rfl ?_
        refine zr_aload_n i_Mod_putText_97 rfl ?_
        refine zr_getf i_Mod_putText_98 rfl rfl rfl ?_
        refine zn_iconst 3 i_Mod_putText_101 (by decide) ?_
        refine zn_caload i_Mod_putText_102 rfl (by omega) (by decide) ?_
        refine zr_cv10 i_Mod_putText_103 rfl (by decide) rfl (Nat.le_of_ble_eq_true rfl) (Nat.le_of_ble_eq_true rfl) (e_Mod_put X _ g ms ((l ++ [(ms.2 26 3)]) ++ [(83)]) (by first | omega | (simp <;> omega)) (ms.2 26 3) (hG 3 (by decide))) ?_
        exact zR.retE i_Mod_putText_106 rfl (by rw [putF, e]; simp [escL])
      · skip
        refine zr_iload_n i_Mod_putText_31 rfl ?_
        refine zr_if_ge 41 i_Mod_putText_32 (by decide) (fun _ => ?_) (fun q => absurd q (by decide))
        refine zr_aload_n i_Mod_putText_41 rfl ?_
        refine zr_aload_n i_Mod_putText_42 rfl ?_
        refine zr_getf i_Mod_putText_43 rfl rfl rfl ?_
        refine zn_iconst 3 i_Mod_putText_46 (by decide) ?_
        refine zn_caload i_Mod_putText_47 rfl (by omega) (by decide) ?_
        refine zr_cv10 i_Mod_putText_48 rfl (by decide) rfl (Nat.le_of_ble_eq_true rfl) (Nat.le_of_ble_eq_true rfl) (e_Mod_put X _ g ms l (by first | omega | (simp <;> omega)) (ms.2 26 3) (hG 3 (by decide))) ?_
        refine zr_aload_n i_Mod_putText_51 rfl ?_
        refine zr_iload_n i_Mod_putText_52 rfl ?_
        refine zr_if_ne 61 i_Mod_putText_53 (by decide) (fun _ => ?_) (fun q => absurd q (by decide))
        refine zr_iload_n i_Mod_putText_61 rfl ?_
        refine zn_iconst 1 i_Mod_putText_62 (by decide) ?_
        refine zr_icmp_ne 71 i_Mod_putText_63 (by decide) (fun _ => ?_) (fun q => absurd q (by decide))
        refine zr_iload_n i_Mod_putText_71 rfl ?_
        refine zn_iconst 2 i_Mod_putText_72 (by decide) ?_
        refine zr_icmp_ne 81 i_Mod_putText_73 (by decide) (fun q => absurd q (by decide)) (fun _ => ?_)
        refine zr_bipush i_Mod_putText_76 (v := 82) (by decide) ?_
        refine zr_goto 93 i_Mod_putText_78 (by decide) ?_
        refine zr_cv10 i_Mod_putText_93 rfl (by decide) rfl (Nat.le_of_ble_eq_true rfl) (Nat.le_of_ble_eq_true rfl) (e_Mod_put X _ g ms (l ++ [(ms.2 26 3)]) (by first | omega | (simp <;> omega)) (82) (by unfold zch; decide)) ?_
        refine zr_aload_n i_Mod_putText_96 rfl ?_
        refine zr_aload_n i_Mod_putText_97 rfl ?_
        refine zr_getf i_Mod_putText_98 rfl rfl rfl ?_
        refine zn_iconst 3 i_Mod_putText_101 (by decide) ?_
        refine zn_caload i_Mod_putText_102 rfl (by omega) (by decide) ?_
        refine zr_cv10 i_Mod_putText_103 rfl (by decide) rfl (Nat.le_of_ble_eq_true rfl) (Nat.le_of_ble_eq_true rfl) (e_Mod_put X _ g ms ((l ++ [(ms.2 26 3)]) ++ [(82)]) (by first | omega | (simp <;> omega)) (ms.2 26 3) (hG 3 (by decide))) ?_
        exact zR.retE i_Mod_putText_106 rfl (by rw [putF, e]; simp [escL])
      · skip
        refine zr_iload_n i_Mod_putText_31 rfl ?_
        refine zr_if_ge 41 i_Mod_putText_32 (by decide) (fun _ => ?_) (fun q => absurd q (by decide))
        refine zr_aload_n i_Mod_putText_41 rfl ?_
        refine zr_aload_n i_Mod_putText_42 rfl ?_
        refine zr_getf i_Mod_putText_43 rfl rfl rfl ?_
        refine zn_iconst 3 i_Mod_putText_46 (by decide) ?_
        refine zn_caload i_Mod_putText_47 rfl (by omega) (by decide) ?_
        refine zr_cv10 i_Mod_putText_48 rfl (by decide) rfl (Nat.le_of_ble_eq_true rfl) (Nat.le_of_ble_eq_true rfl) (e_Mod_put X _ g ms l (by first | omega | (simp <;> omega)) (ms.2 26 3) (hG 3 (by decide))) ?_
        refine zr_aload_n i_Mod_putText_51 rfl ?_
        refine zr_iload_n i_Mod_putText_52 rfl ?_
        refine zr_if_ne 61 i_Mod_putText_53 (by decide) (fun _ => ?_) (fun q => absurd q (by decide))
        refine zr_iload_n i_Mod_putText_61 rfl ?_
        refine zn_iconst 1 i_Mod_putText_62 (by decide) ?_
        refine zr_icmp_ne 71 i_Mod_putText_63 (by decide) (fun _ => ?_) (fun q => absurd q (by decide))
        refine zr_iload_n i_Mod_putText_71 rfl ?_
        refine zn_iconst 2 i_Mod_putText_72 (by decide) ?_
        refine zr_icmp_ne 81 i_Mod_putText_73 (by decide) (fun _ => ?_) (fun q => absurd q (by decide))
        refine zr_iload_n i_Mod_putText_81 rfl ?_
        refine zn_iconst 3 i_Mod_putText_82 (by decide) ?_
        refine zr_icmp_ne 91 i_Mod_putText_83 (by decide) (fun q => absurd q (by decide)) (fun _ => ?_)
        refine zr_bipush i_Mod_putText_86 (v := 69) (by decide) ?_
        refine zr_goto 93 i_Mod_putText_88 (by decide) ?_
        refine zr_cv10 i_Mod_putText_93 rfl (by decide) rfl (Nat.le_of_ble_eq_true rfl) (Nat.le_of_ble_eq_true rfl) (e_Mod_put X _ g ms (l ++ [(ms.2 26 3)]) (by first | omega | (simp <;> omega)) (69) (by unfold zch; decide)) ?_
        refine zr_aload_n i_Mod_putText_96 rfl ?_
        refine zr_aload_n i_Mod_putText_97 rfl ?_
        refine zr_getf i_Mod_putText_98 rfl rfl rfl ?_
        refine zn_iconst 3 i_Mod_putText_101 (by decide) ?_
        refine zn_caload i_Mod_putText_102 rfl (by omega) (by decide) ?_
        refine zr_cv10 i_Mod_putText_103 rfl (by decide) rfl (Nat.le_of_ble_eq_true rfl) (Nat.le_of_ble_eq_true rfl) (e_Mod_put X _ g ms ((l ++ [(ms.2 26 3)]) ++ [(69)]) (by first | omega | (simp <;> omega)) (ms.2 26 3) (hG 3 (by decide))) ?_
        exact zR.retE i_Mod_putText_106 rfl (by rw [putF, e]; simp [escL])
      · skip
        refine zr_iload_n i_Mod_putText_31 rfl ?_
        refine zr_if_ge 41 i_Mod_putText_32 (by decide) (fun _ => ?_) (fun q => absurd q (by decide))
        refine zr_aload_n i_Mod_putText_41 rfl ?_
        refine zr_aload_n i_Mod_putText_42 rfl ?_
        refine zr_getf i_Mod_putText_43 rfl rfl rfl ?_
        refine zn_iconst 3 i_Mod_putText_46 (by decide) ?_
        refine zn_caload i_Mod_putText_47 rfl (by omega) (by decide) ?_
        refine zr_cv10 i_Mod_putText_48 rfl (by decide) rfl (Nat.le_of_ble_eq_true rfl) (Nat.le_of_ble_eq_true rfl) (e_Mod_put X _ g ms l (by first | omega | (simp <;> omega)) (ms.2 26 3) (hG 3 (by decide))) ?_
        refine zr_aload_n i_Mod_putText_51 rfl ?_
        refine zr_iload_n i_Mod_putText_52 rfl ?_
        refine zr_if_ne 61 i_Mod_putText_53 (by decide) (fun _ => ?_) (fun q => absurd q (by decide))
        refine zr_iload_n i_Mod_putText_61 rfl ?_
        refine zn_iconst 1 i_Mod_putText_62 (by decide) ?_
        refine zr_icmp_ne 71 i_Mod_putText_63 (by decide) (fun _ => ?_) (fun q => absurd q (by decide))
        refine zr_iload_n i_Mod_putText_71 rfl ?_
        refine zn_iconst 2 i_Mod_putText_72 (by decide) ?_
        refine zr_icmp_ne 81 i_Mod_putText_73 (by decide) (fun _ => ?_) (fun q => absurd q (by decide))
        refine zr_iload_n i_Mod_putText_81 rfl ?_
        refine zn_iconst 3 i_Mod_putText_82 (by decide) ?_
        refine zr_icmp_ne 91 i_Mod_putText_83 (by decide) (fun _ => ?_) (fun q => absurd q (by decide))
        refine zr_bipush i_Mod_putText_91 (v := 84) (by decide) ?_
        refine zr_cv10 i_Mod_putText_93 rfl (by decide) rfl (Nat.le_of_ble_eq_true rfl) (Nat.le_of_ble_eq_true rfl) (e_Mod_put X _ g ms (l ++ [(ms.2 26 3)]) (by first | omega | (simp <;> omega)) (84) (by unfold zch; decide)) ?_
        refine zr_aload_n i_Mod_putText_96 rfl ?_
        refine zr_aload_n i_Mod_putText_97 rfl ?_
        refine zr_getf i_Mod_putText_98 rfl rfl rfl ?_
        refine zn_iconst 3 i_Mod_putText_101 (by decide) ?_
        refine zn_caload i_Mod_putText_102 rfl (by omega) (by decide) ?_
        refine zr_cv10 i_Mod_putText_103 rfl (by decide) rfl (Nat.le_of_ble_eq_true rfl) (Nat.le_of_ble_eq_true rfl) (e_Mod_put X _ g ms ((l ++ [(ms.2 26 3)]) ++ [(84)]) (by first | omega | (simp <;> omega)) (ms.2 26 3) (hG 3 (by decide))) ?_
        exact zR.retE i_Mod_putText_106 rfl (by rw [putF, e]; simp [escL])
  refine zr_iconst i_Mod_putText_0 (v := (-1)) (by decide) ?_
  refine zr_istore_n i_Mod_putText_1 rfl ?_
  refine zn_iconst 0 i_Mod_putText_2 (by decide) ?_
  refine zr_istore_n i_Mod_putText_3 rfl ?_
  exact key
