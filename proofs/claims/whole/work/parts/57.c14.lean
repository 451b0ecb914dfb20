/-! THE CLASS: moving, leaving, names -/
theorem fndP_in {pt : Nat → Option Nat} {p : Nat} (h1 : 1 ≤ p) (h2 : p ≤ 99) : fndP pt (nI p) = pt p := by
  unfold fndP
  have hz : zpat (nI p) = true := by
    unfold zpat
    rw [decide_eq_false (show ¬ nI p < 1 from nI_nlt (a := p) (b := 1) h1 (by omega)), decide_eq_false (show ¬ (99 : Int32) < nI p from nI_nlt (a := 99) (b := p) h2 (by omega))]
    rfl
  rw [if_pos hz, nI_clamp (by omega)]
def hE (h : zH) (oc : Nat → Int32) (b k : Nat) : zH := zwr (zwr h 105 (ocC (upd oc k 0))) b (paO b (-1))
def hP (h : zH) (oc : Nat → Int32) (b k : Nat) (x : Int32) : zH := zwr (zwr h 105 (ocC (upd oc k x))) b (paO b (nI k))
theorem hE_ho {h : zH} {oc : Nat → Int32} {pt : Nat → Option Nat} {b k : Nat} (hH : isHo h oc pt) (hb : 156 ≤ b) : isHo (hE h oc b k) (upd oc k 0) pt := ⟨(zwr_ne (by omega)).trans ((zwr_ne (by decide)).trans hH.1), (zwr_ne (by omega)).trans (zwr_at _ _ _), (zwr_ne (by omega)).trans ((zwr_ne (by decide)).trans hH.2.2)⟩
theorem hP_ho {h : zH} {oc : Nat → Int32} {pt : Nat → Option Nat} {b k : Nat} {x : Int32} (hH : isHo h oc pt) (hb : 156 ≤ b) : isHo (hP h oc b k x) (upd oc k x) pt := ⟨(zwr_ne (by omega)).trans ((zwr_ne (by decide)).trans hH.1), (zwr_ne (by omega)).trans (zwr_at _ _ _), (zwr_ne (by omega)).trans ((zwr_ne (by decide)).trans hH.2.2)⟩
theorem i_Hosp_leave_0 : zins 57 0 = some (.aload_n 0) := by decide +kernel
theorem i_Hosp_leave_1 : zins 57 1 = some (.iload_n 1) := by decide +kernel
theorem i_Hosp_leave_2 : zins 57 2 = some (.invokevirtual 78) := by decide +kernel
theorem i_Hosp_leave_5 : zins 57 5 = some (.astore_n 2) := by decide +kernel
theorem i_Hosp_leave_6 : zins 57 6 = some (.aload_n 2) := by decide +kernel
theorem i_Hosp_leave_7 : zins 57 7 = some (.ifnull 11) := by decide +kernel
theorem i_Hosp_leave_10 : zins 57 10 = some (.aload_n 2) := by decide +kernel
theorem i_Hosp_leave_11 : zins 57 11 = some (.getfield 82) := by decide +kernel
theorem i_Hosp_leave_14 : zins 57 14 = some (.iconst (-1)) := by decide +kernel
theorem i_Hosp_leave_15 : zins 57 15 = some (.if_icmp .ne 6) := by decide +kernel
theorem i_Hosp_leave_18 : zins 57 18 = some (.bipush 13) := by decide +kernel
theorem i_Hosp_leave_20 : zins 57 20 = some (.ireturn) := by decide +kernel
theorem i_Hosp_leave_21 : zins 57 21 = some (.aload_n 0) := by decide +kernel
theorem i_Hosp_leave_22 : zins 57 22 = some (.aload_n 2) := by decide +kernel
theorem i_Hosp_leave_23 : zins 57 23 = some (.invokevirtual 98) := by decide +kernel
theorem i_Hosp_leave_26 : zins 57 26 = some (.iconst 0) := by decide +kernel
theorem i_Hosp_leave_27 : zins 57 27 = some (.ireturn) := by decide +kernel
theorem n_Hosp_leave (X : zX) (d : Nat) (h : zH) (oc : Nat → Int32) (pt : Nat → Option Nat) (hH : isHo h oc pt) (p : Nat) (h1 : 1 ≤ p) (h2 : p ≤ 99) (hp : pt p = none) : zR X (d + 1) 57 0 (zent 3 [.ref 104, .int (nI p)]) [] h (some (.int (nI 13)), h) := by
  have hfi : zR X (d + 0) 50 0 (zent 2 [.ref 104, .int (nI p)]) [] h (some .null, h) := by
    have e := e_Hosp_find X (d + 0) h oc pt hH (nI p)
    rw [fndP_in h1 h2, hp] at e
    exact e
  refine zr_aload_n i_Hosp_leave_0 rfl ?_
  refine zr_iload_n i_Hosp_leave_1 rfl ?_
  refine zr_cv1 i_Hosp_leave_2 rfl (by decide) (zrcv_of hH.1) (Nat.le_of_ble_eq_true rfl) (Nat.le_of_ble_eq_true rfl) (hfi) ?_
  refine zr_aNstore_n i_Hosp_leave_5 rfl ?_
  refine zr_aloadN_n i_Hosp_leave_6 rfl ?_
  refine zr_ifnullN 18 i_Hosp_leave_7 (by decide) ?_
  refine zr_bipush i_Hosp_leave_18 (v := 13) (by decide) ?_
  exact zR.retE i_Hosp_leave_20 rfl rfl
theorem o_Hosp_leave (X : zX) (d : Nat) (h : zH) (oc : Nat → Int32) (pt : Nat → Option Nat) (hH : isHo h oc pt) (p : Nat) (h1 : 1 ≤ p) (h2 : p ≤ 99) (b : Nat) (hp : pt p = some b) (hB : h.2.2 b = some (paO b (-1))) : zR X (d + 1) 57 0 (zent 3 [.ref 104, .int (nI p)]) [] h (some (.int (nI 13)), h) := by
  have hfi : zR X (d + 0) 50 0 (zent 2 [.ref 104, .int (nI p)]) [] h (some (.ref b), h) := by
    have e := e_Hosp_find X (d + 0) h oc pt hH (nI p)
    rw [fndP_in h1 h2, hp] at e
    exact e
  refine zr_aload_n i_Hosp_leave_0 rfl ?_
  refine zr_iload_n i_Hosp_leave_1 rfl ?_
  refine zr_cv1 i_Hosp_leave_2 rfl (by decide) (zrcv_of hH.1) (Nat.le_of_ble_eq_true rfl) (Nat.le_of_ble_eq_true rfl) (hfi) ?_
  refine zr_astore_n i_Hosp_leave_5 rfl ?_
  refine zr_aload_n i_Hosp_leave_6 rfl ?_
  refine zr_ifnull i_Hosp_leave_7 ?_
  refine zr_aload_n i_Hosp_leave_10 rfl ?_
  refine zr_getf i_Hosp_leave_11 hB rfl rfl ?_
  refine zr_iconst i_Hosp_leave_14 (v := (-1)) (by decide) ?_
  refine zr_icmp_ne 21 i_Hosp_leave_15 (by decide) (fun q => absurd rfl q) (fun c_15 => ?_)
  refine zr_bipush i_Hosp_leave_18 (v := 13) (by decide) ?_
  exact zR.retE i_Hosp_leave_20 rfl rfl
theorem e_Hosp_leave (X : zX) (d : Nat) (h : zH) (oc : Nat → Int32) (pt : Nat → Option Nat) (hH : isHo h oc pt) (p : Nat) (h1 : 1 ≤ p) (h2 : p ≤ 99) (b k : Nat) (hb : 156 ≤ b) (hk : k < 32) (hp : pt p = some b) (hB : h.2.2 b = some (paO b (nI k))) : zR X (d + 1) 57 0 (zent 3 [.ref 104, .int (nI p)]) [] h (some (.int (nI 0)), hE h oc b k) := by
  have hfi : zR X (d + 0) 50 0 (zent 2 [.ref 104, .int (nI p)]) [] h (some (.ref b), h) := by
    have e := e_Hosp_find X (d + 0) h oc pt hH (nI p)
    rw [fndP_in h1 h2, hp] at e
    exact e
  refine zr_aload_n i_Hosp_leave_0 rfl ?_
  refine zr_iload_n i_Hosp_leave_1 rfl ?_
  refine zr_cv1 i_Hosp_leave_2 rfl (by decide) (zrcv_of hH.1) (Nat.le_of_ble_eq_true rfl) (Nat.le_of_ble_eq_true rfl) (hfi) ?_
  refine zr_astore_n i_Hosp_leave_5 rfl ?_
  refine zr_aload_n i_Hosp_leave_6 rfl ?_
  refine zr_ifnull i_Hosp_leave_7 ?_
  refine zr_aload_n i_Hosp_leave_10 rfl ?_
  refine zr_getf i_Hosp_leave_11 hB rfl rfl ?_
  refine zr_iconst i_Hosp_leave_14 (v := (-1)) (by decide) ?_
  refine zr_icmp_ne 21 i_Hosp_leave_15 (by decide) (fun c_15 => ?_) (fun q => absurd q (nI_neg1 (by omega)))
  refine zr_aload_n i_Hosp_leave_21 rfl ?_
  refine zr_aload_n i_Hosp_leave_22 rfl ?_
  refine zr_cv10 i_Hosp_leave_23 rfl (by decide) (zrcv_of hH.1) (Nat.le_of_ble_eq_true rfl) (Nat.le_of_ble_eq_true rfl) (e_Hosp_emptyBedOf X _ h oc pt hH b k hk hB (by omega)) ?_
  refine zr_iconst i_Hosp_leave_26 (v := 0) (by decide) ?_
  exact zR.retE i_Hosp_leave_27 rfl rfl
theorem i_Hosp_move_0 : zins 55 0 = some (.aload_n 0) := by decide +kernel
theorem i_Hosp_move_1 : zins 55 1 = some (.iload_n 1) := by decide +kernel
theorem i_Hosp_move_2 : zins 55 2 = some (.invokevirtual 78) := by decide +kernel
theorem i_Hosp_move_5 : zins 55 5 = some (.astore_n 3) := by decide +kernel
theorem i_Hosp_move_6 : zins 55 6 = some (.iload_n 2) := by decide +kernel
theorem i_Hosp_move_7 : zins 55 7 = some (.iconst (-1)) := by decide +kernel
theorem i_Hosp_move_8 : zins 55 8 = some (.if_icmp .ne 6) := by decide +kernel
theorem i_Hosp_move_11 : zins 55 11 = some (.bipush 12) := by decide +kernel
theorem i_Hosp_move_13 : zins 55 13 = some (.ireturn) := by decide +kernel
theorem i_Hosp_move_14 : zins 55 14 = some (.aload_n 3) := by decide +kernel
theorem i_Hosp_move_15 : zins 55 15 = some (.ifnull 11) := by decide +kernel
theorem i_Hosp_move_18 : zins 55 18 = some (.aload_n 3) := by decide +kernel
theorem i_Hosp_move_19 : zins 55 19 = some (.getfield 82) := by decide +kernel
theorem i_Hosp_move_22 : zins 55 22 = some (.iconst (-1)) := by decide +kernel
theorem i_Hosp_move_23 : zins 55 23 = some (.if_icmp .ne 6) := by decide +kernel
theorem i_Hosp_move_26 : zins 55 26 = some (.bipush 13) := by decide +kernel
theorem i_Hosp_move_28 : zins 55 28 = some (.ireturn) := by decide +kernel
theorem i_Hosp_move_29 : zins 55 29 = some (.aload_n 0) := by decide +kernel
theorem i_Hosp_move_30 : zins 55 30 = some (.iload_n 2) := by decide +kernel
theorem i_Hosp_move_31 : zins 55 31 = some (.invokevirtual 86) := by decide +kernel
theorem i_Hosp_move_34 : zins 55 34 = some (.ifCond .eq 6) := by decide +kernel
theorem i_Hosp_move_37 : zins 55 37 = some (.bipush 15) := by decide +kernel
theorem i_Hosp_move_39 : zins 55 39 = some (.ireturn) := by decide +kernel
theorem i_Hosp_move_40 : zins 55 40 = some (.aload_n 0) := by decide +kernel
theorem i_Hosp_move_41 : zins 55 41 = some (.aload_n 3) := by decide +kernel
theorem i_Hosp_move_42 : zins 55 42 = some (.invokevirtual 98) := by decide +kernel
theorem i_Hosp_move_45 : zins 55 45 = some (.aload_n 0) := by decide +kernel
theorem i_Hosp_move_46 : zins 55 46 = some (.iload_n 1) := by decide +kernel
theorem i_Hosp_move_47 : zins 55 47 = some (.aload_n 3) := by decide +kernel
theorem i_Hosp_move_48 : zins 55 48 = some (.iload_n 2) := by decide +kernel
theorem i_Hosp_move_49 : zins 55 49 = some (.invokevirtual 90) := by decide +kernel
theorem i_Hosp_move_52 : zins 55 52 = some (.iconst 0) := by decide +kernel
theorem i_Hosp_move_53 : zins 55 53 = some (.ireturn) := by decide +kernel
theorem x_Hosp_move (X : zX) (d : Nat) (h : zH) (oc : Nat → Int32) (pt : Nat → Option Nat) (hH : isHo h oc pt) (p : Nat) (h1 : 1 ≤ p) (h2 : p ≤ 99) : zR X (d + 1) 55 0 (zent 4 [.ref 104, .int (nI p), .int (-1)]) [] h (some (.int (nI 12)), h) := by
  cases hp : pt p with
  | none =>
    have hfi : zR X (d + 0) 50 0 (zent 2 [.ref 104, .int (nI p)]) [] h (some .null, h) := by
      have e := e_Hosp_find X (d + 0) h oc pt hH (nI p)
      rw [fndP_in h1 h2, hp] at e
      exact e
    refine zr_aload_n i_Hosp_move_0 rfl ?_
    refine zr_iload_n i_Hosp_move_1 rfl ?_
    refine zr_cv1 i_Hosp_move_2 rfl (by decide) (zrcv_of hH.1) (Nat.le_of_ble_eq_true rfl) (Nat.le_of_ble_eq_true rfl) (hfi) ?_
    refine zr_aNstore_n i_Hosp_move_5 rfl ?_
    refine zr_iload_n i_Hosp_move_6 rfl ?_
    refine zr_iconst i_Hosp_move_7 (v := (-1)) (by decide) ?_
    refine zr_icmp_ne 14 i_Hosp_move_8 (by decide) (fun q => absurd rfl q) (fun c_8 => ?_)
    refine zr_bipush i_Hosp_move_11 (v := 12) (by decide) ?_
    exact zR.retE i_Hosp_move_13 rfl rfl
  | some b =>
    have hfi : zR X (d + 0) 50 0 (zent 2 [.ref 104, .int (nI p)]) [] h (some (.ref b), h) := by
      have e := e_Hosp_find X (d + 0) h oc pt hH (nI p)
      rw [fndP_in h1 h2, hp] at e
      exact e
    refine zr_aload_n i_Hosp_move_0 rfl ?_
    refine zr_iload_n i_Hosp_move_1 rfl ?_
    refine zr_cv1 i_Hosp_move_2 rfl (by decide) (zrcv_of hH.1) (Nat.le_of_ble_eq_true rfl) (Nat.le_of_ble_eq_true rfl) (hfi) ?_
    refine zr_astore_n i_Hosp_move_5 rfl ?_
    refine zr_iload_n i_Hosp_move_6 rfl ?_
    refine zr_iconst i_Hosp_move_7 (v := (-1)) (by decide) ?_
    refine zr_icmp_ne 14 i_Hosp_move_8 (by decide) (fun q => absurd rfl q) (fun c_8 => ?_)
    refine zr_bipush i_Hosp_move_11 (v := 12) (by decide) ?_
    exact zR.retE i_Hosp_move_13 rfl rfl
theorem n_Hosp_move (X : zX) (d : Nat) (h : zH) (oc : Nat → Int32) (pt : Nat → Option Nat) (hH : isHo h oc pt) (p : Nat) (h1 : 1 ≤ p) (h2 : p ≤ 99) (k : Nat) (hk : k < 32) (hp : pt p = none) : zR X (d + 1) 55 0 (zent 4 [.ref 104, .int (nI p), .int (nI k)]) [] h (some (.int (nI 13)), h) := by
  have hfi : zR X (d + 0) 50 0 (zent 2 [.ref 104, .int (nI p)]) [] h (some .null, h) := by
    have e := e_Hosp_find X (d + 0) h oc pt hH (nI p)
    rw [fndP_in h1 h2, hp] at e
    exact e
  refine zr_aload_n i_Hosp_move_0 rfl ?_
  refine zr_iload_n i_Hosp_move_1 rfl ?_
  refine zr_cv1 i_Hosp_move_2 rfl (by decide) (zrcv_of hH.1) (Nat.le_of_ble_eq_true rfl) (Nat.le_of_ble_eq_true rfl) (hfi) ?_
  refine zr_aNstore_n i_Hosp_move_5 rfl ?_
  refine zr_iload_n i_Hosp_move_6 rfl ?_
  refine zr_iconst i_Hosp_move_7 (v := (-1)) (by decide) ?_
  refine zr_icmp_ne 14 i_Hosp_move_8 (by decide) (fun c_8 => ?_) (fun q => absurd q (nI_neg1 (by omega)))
  refine zr_aloadN_n i_Hosp_move_14 rfl ?_
  refine zr_ifnullN 26 i_Hosp_move_15 (by decide) ?_
  refine zr_bipush i_Hosp_move_26 (v := 13) (by decide) ?_
  exact zR.retE i_Hosp_move_28 rfl rfl
theorem o_Hosp_move (X : zX) (d : Nat) (h : zH) (oc : Nat → Int32) (pt : Nat → Option Nat) (hH : isHo h oc pt) (p : Nat) (h1 : 1 ≤ p) (h2 : p ≤ 99) (k : Nat) (hk : k < 32) (b : Nat) (hp : pt p = some b) (hB : h.2.2 b = some (paO b (-1))) : zR X (d + 1) 55 0 (zent 4 [.ref 104, .int (nI p), .int (nI k)]) [] h (some (.int (nI 13)), h) := by
  have hfi : zR X (d + 0) 50 0 (zent 2 [.ref 104, .int (nI p)]) [] h (some (.ref b), h) := by
    have e := e_Hosp_find X (d + 0) h oc pt hH (nI p)
    rw [fndP_in h1 h2, hp] at e
    exact e
  refine zr_aload_n i_Hosp_move_0 rfl ?_
  refine zr_iload_n i_Hosp_move_1 rfl ?_
  refine zr_cv1 i_Hosp_move_2 rfl (by decide) (zrcv_of hH.1) (Nat.le_of_ble_eq_true rfl) (Nat.le_of_ble_eq_true rfl) (hfi) ?_
  refine zr_astore_n i_Hosp_move_5 rfl ?_
  refine zr_iload_n i_Hosp_move_6 rfl ?_
  refine zr_iconst i_Hosp_move_7 (v := (-1)) (by decide) ?_
  refine zr_icmp_ne 14 i_Hosp_move_8 (by decide) (fun c_8 => ?_) (fun q => absurd q (nI_neg1 (by omega)))
  refine zr_aload_n i_Hosp_move_14 rfl ?_
  refine zr_ifnull i_Hosp_move_15 ?_
  refine zr_aload_n i_Hosp_move_18 rfl ?_
  refine zr_getf i_Hosp_move_19 hB rfl rfl ?_
  refine zr_iconst i_Hosp_move_22 (v := (-1)) (by decide) ?_
  refine zr_icmp_ne 29 i_Hosp_move_23 (by decide) (fun q => absurd rfl q) (fun c_23 => ?_)
  refine zr_bipush i_Hosp_move_26 (v := 13) (by decide) ?_
  exact zR.retE i_Hosp_move_28 rfl rfl
theorem t_Hosp_move (X : zX) (d : Nat) (h : zH) (oc : Nat → Int32) (pt : Nat → Option Nat) (hH : isHo h oc pt) (p : Nat) (h1 : 1 ≤ p) (h2 : p ≤ 99) (k : Nat) (hk : k < 32) (b k0 : Nat) (hk0 : k0 < 32) (hp : pt p = some b) (hB : h.2.2 b = some (paO b (nI k0))) (ht : ¬ oc k = 0) : zR X (d + 1) 55 0 (zent 4 [.ref 104, .int (nI p), .int (nI k)]) [] h (some (.int (nI 15)), h) := by
  have hfi : zR X (d + 0) 50 0 (zent 2 [.ref 104, .int (nI p)]) [] h (some (.ref b), h) := by
    have e := e_Hosp_find X (d + 0) h oc pt hH (nI p)
    rw [fndP_in h1 h2, hp] at e
    exact e
  have hpi := e_Hosp_patientIn X d h oc pt hH (nI k)
  rw [getF_in hk (by decide)] at hpi
  refine zr_aload_n i_Hosp_move_0 rfl ?_
  refine zr_iload_n i_Hosp_move_1 rfl ?_
  refine zr_cv1 i_Hosp_move_2 rfl (by decide) (zrcv_of hH.1) (Nat.le_of_ble_eq_true rfl) (Nat.le_of_ble_eq_true rfl) (hfi) ?_
  refine zr_astore_n i_Hosp_move_5 rfl ?_
  refine zr_iload_n i_Hosp_move_6 rfl ?_
  refine zr_iconst i_Hosp_move_7 (v := (-1)) (by decide) ?_
  refine zr_icmp_ne 14 i_Hosp_move_8 (by decide) (fun c_8 => ?_) (fun q => absurd q (nI_neg1 (by omega)))
  refine zr_aload_n i_Hosp_move_14 rfl ?_
  refine zr_ifnull i_Hosp_move_15 ?_
  refine zr_aload_n i_Hosp_move_18 rfl ?_
  refine zr_getf i_Hosp_move_19 hB rfl rfl ?_
  refine zr_iconst i_Hosp_move_22 (v := (-1)) (by decide) ?_
  refine zr_icmp_ne 29 i_Hosp_move_23 (by decide) (fun c_23 => ?_) (fun q => absurd q (nI_neg1 (by omega)))
  refine zr_aload_n i_Hosp_move_29 rfl ?_
  refine zr_iload_n i_Hosp_move_30 rfl ?_
  refine zr_cv1 i_Hosp_move_31 rfl (by decide) (zrcv_of hH.1) (Nat.le_of_ble_eq_true rfl) (Nat.le_of_ble_eq_true rfl) (hpi) ?_
  refine zr_if_eq 40 i_Hosp_move_34 (by decide) (fun q => absurd q ht) (fun _ => ?_)
  refine zr_bipush i_Hosp_move_37 (v := 15) (by decide) ?_
  exact zR.retE i_Hosp_move_39 rfl rfl
theorem e_Hosp_move (X : zX) (d : Nat) (h : zH) (oc : Nat → Int32) (pt : Nat → Option Nat) (hH : isHo h oc pt) (p : Nat) (h1 : 1 ≤ p) (h2 : p ≤ 99) (k : Nat) (hk : k < 32) (b k0 : Nat) (hb : 156 ≤ b) (hk0 : k0 < 32) (hp : pt p = some b) (hB : h.2.2 b = some (paO b (nI k0))) (ht : oc k = 0) : zR X (d + 1) 55 0 (zent 4 [.ref 104, .int (nI p), .int (nI k)]) [] h (some (.int (nI 0)), hP (hE h oc b k0) (upd oc k0 0) b k (nI p)) := by
  have hfi : zR X (d + 0) 50 0 (zent 2 [.ref 104, .int (nI p)]) [] h (some (.ref b), h) := by
    have e := e_Hosp_find X (d + 0) h oc pt hH (nI p)
    rw [fndP_in h1 h2, hp] at e
    exact e
  have hpi := e_Hosp_patientIn X d h oc pt hH (nI k)
  rw [getF_in hk (by decide)] at hpi
  have hem := e_Hosp_emptyBedOf X d h oc pt hH b k0 hk0 hB (by omega)
  have hpu := e_Hosp_putInBed X d (hE h oc b k0) (upd oc k0 0) pt (hE_ho hH hb) b (-1) (zwr_at _ _ _) (by omega) (nI p) k hk
  refine zr_aload_n i_Hosp_move_0 rfl ?_
  refine zr_iload_n i_Hosp_move_1 rfl ?_
  refine zr_cv1 i_Hosp_move_2 rfl (by decide) (zrcv_of hH.1) (Nat.le_of_ble_eq_true rfl) (Nat.le_of_ble_eq_true rfl) (hfi) ?_
  refine zr_astore_n i_Hosp_move_5 rfl ?_
  refine zr_iload_n i_Hosp_move_6 rfl ?_
  refine zr_iconst i_Hosp_move_7 (v := (-1)) (by decide) ?_
  refine zr_icmp_ne 14 i_Hosp_move_8 (by decide) (fun c_8 => ?_) (fun q => absurd q (nI_neg1 (by omega)))
  refine zr_aload_n i_Hosp_move_14 rfl ?_
  refine zr_ifnull i_Hosp_move_15 ?_
  refine zr_aload_n i_Hosp_move_18 rfl ?_
  refine zr_getf i_Hosp_move_19 hB rfl rfl ?_
  refine zr_iconst i_Hosp_move_22 (v := (-1)) (by decide) ?_
  refine zr_icmp_ne 29 i_Hosp_move_23 (by decide) (fun c_23 => ?_) (fun q => absurd q (nI_neg1 (by omega)))
  refine zr_aload_n i_Hosp_move_29 rfl ?_
  refine zr_iload_n i_Hosp_move_30 rfl ?_
  refine zr_cv1 i_Hosp_move_31 rfl (by decide) (zrcv_of hH.1) (Nat.le_of_ble_eq_true rfl) (Nat.le_of_ble_eq_true rfl) (hpi) ?_
  refine zr_if_eq 40 i_Hosp_move_34 (by decide) (fun _ => ?_) (fun q => absurd ht q)
  refine zr_aload_n i_Hosp_move_40 rfl ?_
  refine zr_aload_n i_Hosp_move_41 rfl ?_
  refine zr_cv10 i_Hosp_move_42 rfl (by decide) (zrcv_of hH.1) (Nat.le_of_ble_eq_true rfl) (Nat.le_of_ble_eq_true rfl) (hem) ?_
  refine zr_aload_n i_Hosp_move_45 rfl ?_
  refine zr_iload_n i_Hosp_move_46 rfl ?_
  refine zr_aload_n i_Hosp_move_47 rfl ?_
  refine zr_iload_n i_Hosp_move_48 rfl ?_
  refine zr_cv30 i_Hosp_move_49 rfl (by decide) (zrcv_of (hE_ho hH hb).1) (Nat.le_of_ble_eq_true rfl) (Nat.le_of_ble_eq_true rfl) hpu ?_
  refine zr_iconst i_Hosp_move_52 (v := 0) (by decide) ?_
  exact zR.retE i_Hosp_move_53 rfl rfl
theorem i_Hosp_takeNames_0 : zins 53 0 = some (.aload_n 0) := by decide +kernel
theorem i_Hosp_takeNames_1 : zins 53 1 = some (.aload_n 0) := by decide +kernel
theorem i_Hosp_takeNames_2 : zins 53 2 = some (.iload_n 1) := by decide +kernel
theorem i_Hosp_takeNames_3 : zins 53 3 = some (.iconst 2) := by decide +kernel
theorem i_Hosp_takeNames_4 : zins 53 4 = some (.iconst 1) := by decide +kernel
theorem i_Hosp_takeNames_5 : zins 53 5 = some (.iconst 1) := by decide +kernel
theorem i_Hosp_takeNames_6 : zins 53 6 = some (.invokevirtual 114) := by decide +kernel
theorem i_Hosp_takeNames_9 : zins 53 9 = some (.aload_n 2) := by decide +kernel
theorem i_Hosp_takeNames_10 : zins 53 10 = some (.getfield 140) := by decide +kernel
theorem i_Hosp_takeNames_13 : zins 53 13 = some (.invokestatic 144) := by decide +kernel
theorem i_Hosp_takeNames_16 : zins 53 16 = some (.aload_n 0) := by decide +kernel
theorem i_Hosp_takeNames_17 : zins 53 17 = some (.aload_n 0) := by decide +kernel
theorem i_Hosp_takeNames_18 : zins 53 18 = some (.iload_n 1) := by decide +kernel
theorem i_Hosp_takeNames_19 : zins 53 19 = some (.iconst 2) := by decide +kernel
theorem i_Hosp_takeNames_20 : zins 53 20 = some (.iconst 1) := by decide +kernel
theorem i_Hosp_takeNames_21 : zins 53 21 = some (.iconst 2) := by decide +kernel
theorem i_Hosp_takeNames_22 : zins 53 22 = some (.invokevirtual 114) := by decide +kernel
theorem i_Hosp_takeNames_25 : zins 53 25 = some (.aload_n 2) := by decide +kernel
theorem i_Hosp_takeNames_26 : zins 53 26 = some (.getfield 148) := by decide +kernel
theorem i_Hosp_takeNames_29 : zins 53 29 = some (.invokestatic 144) := by decide +kernel
theorem i_Hosp_takeNames_32 : zins 53 32 = some (.return_) := by decide +kernel
theorem ch_comm {h : zH} {b N n N' n' : Nat} {f f' : Nat → Int32} : chS (chS h (b + 1) N n f) (b + 3) N' n' f' = chS (chS h (b + 3) N' n' f') (b + 1) N n f := by
  unfold chS
  rw [zwr_comm (a := b + 1) (b := b + 3 + 1) (by omega), zwr_comm (a := b + 1 + 1) (b := b + 3 + 1) (by omega), zwr_comm (a := b + 1) (b := b + 3) (by omega), zwr_comm (a := b + 1 + 1) (b := b + 3) (by omega)]
theorem e_Hosp_takeNames (X : zX) (d : Nat) (hX : X.2.2.category = 1) (h : zH) (hz : zlow h) (a : Nat) (ha : a < 130) (f : Nat → Int32) (n : Nat) (st : Nat → Int32) (cn : Nat) (hM : isM h a f n st cn) (hn : n ≤ 200) (P : Nat → Nat) (hP : ∀ s, 1 ≤ s → s ≤ cn → st (s - 1) = nI (P s) ∧ P s ≤ n) (hcn : cn ≤ 8) (hz2 : ∀ i, i < n → f i < 256 → zch (f i)) (o : Option Nat) (ho : ∀ s, o = some s → 1 ≤ s ∧ s ≤ cn) (b : Nat) (hb : 156 ≤ b) (bed : Int32) (hB : h.2.2 b = some (paO b bed)) (l1 l2 : List Int32) (g1 g2 : Nat → Int32) : ∃ g1' g2', zR X (d + 6) 53 0 (zent 3 [.ref a, .int (tI o), .ref b]) [] (chL (chL h (b + 1) 12 l1 g1) (b + 3) 12 l2 g2) (none, chL (chL h (b + 1) 12 (nmL l1 (txo f n (fdo f n P o 2 1 1))) g1') (b + 3) 12 (nmL l2 (txo f n (fdo f n P o 2 1 2))) g2') := by
  have hop : ∀ s, o = some s → P s ≤ n := fun s hs => (hP s (ho s hs).1 (ho s hs).2).2
  have hl1 := fdo_le (f := f) (F := 2) (R := 1) (C := 1) hop
  have hl2 := fdo_le (f := f) (F := 2) (R := 1) (C := 2) hop
  have hMc : ∀ (l : List Int32) (g : Nat → Int32) (x : Nat), 156 ≤ x → isM (chL h x 12 l g) a f n st cn := fun l g x hx => isM_ch hM ⟨by omega, by omega, by omega, by omega, by omega, by omega⟩
  have hMM : ∀ (l : List Int32) (g : Nat → Int32), isM (chL (chL h (b + 1) 12 l g) (b + 3) 12 l2 g2) a f n st cn := fun l g => isM_ch (hMc l g (b + 1) (by omega)) ⟨by omega, by omega, by omega, by omega, by omega, by omega⟩
  obtain ⟨g1', hk1⟩ := e_Hosp_takeName X d hX (chL h (b + 3) 12 l2 g2) (chS_low hz (by omega)) a f n st cn (hMc l2 g2 (b + 3) (by omega)) hn (b + 1) (by omega) ⟨by omega, by omega, by omega, by omega, by omega, by omega⟩ hz2 l1 g1 (fdo f n P o 2 1 1) hl1
  rw [show chL (chL h (b + 3) 12 l2 g2) (b + 1) 12 l1 g1 = (chL (chL h (b + 1) 12 l1 g1) (b + 3) 12 l2 g2) from ch_comm.symm, show chL (chL h (b + 3) 12 l2 g2) (b + 1) 12 (nmL l1 (txo f n (fdo f n P o 2 1 1))) g1' = (chL (chL h (b + 1) 12 (nmL l1 (txo f n (fdo f n P o 2 1 1))) g1') (b + 3) 12 l2 g2) from ch_comm.symm] at hk1
  obtain ⟨g2', hk2⟩ := e_Hosp_takeName X d hX (chL h (b + 1) 12 (nmL l1 (txo f n (fdo f n P o 2 1 1))) g1') (chS_low hz (by omega)) a f n st cn (hMc _ _ (b + 1) (by omega)) hn (b + 3) (by omega) ⟨by omega, by omega, by omega, by omega, by omega, by omega⟩ hz2 l2 g2 (fdo f n P o 2 1 2) hl2
  refine ⟨g1', g2', ?_⟩
  have hf1 := e1_Mess_find X (d + 5) (chL (chL h (b + 1) 12 l1 g1) (b + 3) 12 l2 g2) a f n st cn (hMM l1 g1) hn P hP hcn o ho 2 1 1
  have hf2 := e1_Mess_find X (d + 5) (chL (chL h (b + 1) 12 (nmL l1 (txo f n (fdo f n P o 2 1 1))) g1') (b + 3) 12 l2 g2) a f n st cn (hMM _ _) hn P hP hcn o ho 2 1 2
  refine zr_aload_n i_Hosp_takeNames_0 rfl ?_
  refine zr_aload_n i_Hosp_takeNames_1 rfl ?_
  refine zr_iload_n i_Hosp_takeNames_2 rfl ?_
  refine zr_iconst i_Hosp_takeNames_3 (v := 2) (by decide) ?_
  refine zr_iconst i_Hosp_takeNames_4 (v := 1) (by decide) ?_
  refine zr_iconst i_Hosp_takeNames_5 (v := 1) (by decide) ?_
  refine zr_cv4 i_Hosp_takeNames_6 rfl (by decide) (zrcv_of (hMM _ _).1) (Nat.le_of_ble_eq_true rfl) (Nat.le_of_ble_eq_true rfl) (hf1) ?_
  refine zr_aload_n i_Hosp_takeNames_9 rfl ?_
  refine zr_getf i_Hosp_takeNames_10 ((chS_ne (by omega) (by omega)).trans ((chS_ne (by omega) (by omega)).trans hB)) rfl rfl ?_
  refine zr_cs30 i_Hosp_takeNames_13 rfl (by decide) (Nat.le_of_ble_eq_true rfl) (Nat.le_of_ble_eq_true rfl) (hk1) ?_
  refine zr_aload_n i_Hosp_takeNames_16 rfl ?_
  refine zr_aload_n i_Hosp_takeNames_17 rfl ?_
  refine zr_iload_n i_Hosp_takeNames_18 rfl ?_
  refine zr_iconst i_Hosp_takeNames_19 (v := 2) (by decide) ?_
  refine zr_iconst i_Hosp_takeNames_20 (v := 1) (by decide) ?_
  refine zr_iconst i_Hosp_takeNames_21 (v := 2) (by decide) ?_
  refine zr_cv4 i_Hosp_takeNames_22 rfl (by decide) (zrcv_of (hMM _ _).1) (Nat.le_of_ble_eq_true rfl) (Nat.le_of_ble_eq_true rfl) (hf2) ?_
  refine zr_aload_n i_Hosp_takeNames_25 rfl ?_
  refine zr_getf i_Hosp_takeNames_26 ((chS_ne (by omega) (by omega)).trans ((chS_ne (by omega) (by omega)).trans hB)) rfl rfl ?_
  refine zr_cs30 i_Hosp_takeNames_29 rfl (by decide) (Nat.le_of_ble_eq_true rfl) (Nat.le_of_ble_eq_true rfl) (hk2) ?_
  exact zR.retE i_Hosp_takeNames_32 rfl rfl
theorem i_Hosp_rename_0 : zins 58 0 = some (.aload_n 0) := by decide +kernel
theorem i_Hosp_rename_1 : zins 58 1 = some (.iload_n 3) := by decide +kernel
theorem i_Hosp_rename_2 : zins 58 2 = some (.invokevirtual 78) := by decide +kernel
theorem i_Hosp_rename_5 : zins 58 5 = some (.astore 4) := by decide +kernel
theorem i_Hosp_rename_7 : zins 58 7 = some (.aload 4) := by decide +kernel
theorem i_Hosp_rename_9 : zins 58 9 = some (.ifnonnull 6) := by decide +kernel
theorem i_Hosp_rename_12 : zins 58 12 = some (.bipush 16) := by decide +kernel
theorem i_Hosp_rename_14 : zins 58 14 = some (.ireturn) := by decide +kernel
theorem i_Hosp_rename_15 : zins 58 15 = some (.aload_n 1) := by decide +kernel
theorem i_Hosp_rename_16 : zins 58 16 = some (.iload_n 2) := by decide +kernel
theorem i_Hosp_rename_17 : zins 58 17 = some (.aload 4) := by decide +kernel
theorem i_Hosp_rename_19 : zins 58 19 = some (.invokestatic 94) := by decide +kernel
theorem i_Hosp_rename_22 : zins 58 22 = some (.iconst 0) := by decide +kernel
theorem i_Hosp_rename_23 : zins 58 23 = some (.ireturn) := by decide +kernel
theorem n_Hosp_rename (X : zX) (d : Nat) (h : zH) (oc : Nat → Int32) (pt : Nat → Option Nat) (hH : isHo h oc pt) (p : Nat) (h1 : 1 ≤ p) (h2 : p ≤ 99) (a : Nat) (x : Int32) (hp : pt p = none) : zR X (d + 1) 58 0 (zent 5 [.ref 104, .ref a, .int x, .int (nI p)]) [] h (some (.int (nI 16)), h) := by
  have hfi : zR X (d + 0) 50 0 (zent 2 [.ref 104, .int (nI p)]) [] h (some .null, h) := by
    have e := e_Hosp_find X (d + 0) h oc pt hH (nI p)
    rw [fndP_in h1 h2, hp] at e
    exact e
  refine zr_aload_n i_Hosp_rename_0 rfl ?_
  refine zr_iload_n i_Hosp_rename_1 rfl ?_
  refine zr_cv1 i_Hosp_rename_2 rfl (by decide) (zrcv_of hH.1) (Nat.le_of_ble_eq_true rfl) (Nat.le_of_ble_eq_true rfl) (hfi) ?_
  refine zr_aNstore i_Hosp_rename_5 rfl ?_
  refine zr_aloadN i_Hosp_rename_7 rfl ?_
  refine zr_ifnonnullN i_Hosp_rename_9 ?_
  refine zr_bipush i_Hosp_rename_12 (v := 16) (by decide) ?_
  exact zR.retE i_Hosp_rename_14 rfl rfl
theorem e_Hosp_rename (X : zX) (d : Nat) (h h' : zH) (oc : Nat → Int32) (pt : Nat → Option Nat) (hH : isHo h oc pt) (p : Nat) (h1 : 1 ≤ p) (h2 : p ≤ 99) (a b : Nat) (x : Int32) (hp : pt p = some b) (htn : zR X d 53 0 (zent 3 [.ref a, .int x, .ref b]) [] h (none, h')) : zR X (d + 1) 58 0 (zent 5 [.ref 104, .ref a, .int x, .int (nI p)]) [] h (some (.int (nI 0)), h') := by
  have hfi : zR X (d + 0) 50 0 (zent 2 [.ref 104, .int (nI p)]) [] h (some (.ref b), h) := by
    have e := e_Hosp_find X (d + 0) h oc pt hH (nI p)
    rw [fndP_in h1 h2, hp] at e
    exact e
  refine zr_aload_n i_Hosp_rename_0 rfl ?_
  refine zr_iload_n i_Hosp_rename_1 rfl ?_
  refine zr_cv1 i_Hosp_rename_2 rfl (by decide) (zrcv_of hH.1) (Nat.le_of_ble_eq_true rfl) (Nat.le_of_ble_eq_true rfl) (hfi) ?_
  refine zr_astore i_Hosp_rename_5 rfl ?_
  refine zr_aload i_Hosp_rename_7 rfl ?_
  refine zr_ifnonnull 15 i_Hosp_rename_9 (by decide) ?_
  refine zr_aload_n i_Hosp_rename_15 rfl ?_
  refine zr_iload_n i_Hosp_rename_16 rfl ?_
  refine zr_aload i_Hosp_rename_17 rfl ?_
  refine zr_cs30 i_Hosp_rename_19 rfl (by decide) (Nat.le_of_ble_eq_true rfl) (Nat.le_of_ble_eq_true rfl) (htn) ?_
  refine zr_iconst i_Hosp_rename_22 (v := 0) (by decide) ?_
  exact zR.retE i_Hosp_rename_23 rfl rfl
