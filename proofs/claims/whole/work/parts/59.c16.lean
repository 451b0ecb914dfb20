/-! THE CLASS: admitting, measuring -/
section AA
variable {X : zX} {d j pc : Nat} {L : zL} {r : List Value} {h : zH} {u : Option Value × zH}
theorem zn_aastore {a b n k : Nat} {f : Nat → Option Nat} {fs : List Value} (hi : zins j pc = some (.aastore)) (hc : h.2.2 a = some (.inl (5, n, .inr (.inr (.inr (.inr f)))))) (hb : h.2.2 b = some (.inr (zPat, fs))) (hk : k < n) (hn : n < 2 ^ 31) (kk : zR X d j (pc + 1) L r (zwr h a (.inl (5, n, .inr (.inr (.inr (.inr (va_up f k (some b)))))))) u) : zR X d j pc L (.ref b :: .int (nI k) :: .ref a :: r) h u := zr_aastore hi hc hb (nb hk hn) (by rw [nI_clamp (by omega)]; exact kk)
end AA
theorem i_Hosp_admit_0 : zins 49 0 = some (.aload_n 0) := by decide +kernel
theorem i_Hosp_admit_1 : zins 49 1 = some (.iload_n 3) := by decide +kernel
theorem i_Hosp_admit_2 : zins 49 2 = some (.invokevirtual 78) := by decide +kernel
theorem i_Hosp_admit_5 : zins 49 5 = some (.astore 5) := by decide +kernel
theorem i_Hosp_admit_7 : zins 49 7 = some (.iload 4) := by decide +kernel
theorem i_Hosp_admit_9 : zins 49 9 = some (.iconst (-1)) := by decide +kernel
theorem i_Hosp_admit_10 : zins 49 10 = some (.if_icmp .ne 6) := by decide +kernel
theorem i_Hosp_admit_13 : zins 49 13 = some (.bipush 12) := by decide +kernel
theorem i_Hosp_admit_15 : zins 49 15 = some (.ireturn) := by decide +kernel
theorem i_Hosp_admit_16 : zins 49 16 = some (.aload 5) := by decide +kernel
theorem i_Hosp_admit_18 : zins 49 18 = some (.ifnull 15) := by decide +kernel
theorem i_Hosp_admit_21 : zins 49 21 = some (.aload 5) := by decide +kernel
theorem i_Hosp_admit_23 : zins 49 23 = some (.getfield 82) := by decide +kernel
theorem i_Hosp_admit_26 : zins 49 26 = some (.iconst (-1)) := by decide +kernel
theorem i_Hosp_admit_27 : zins 49 27 = some (.if_icmp .eq 6) := by decide +kernel
theorem i_Hosp_admit_30 : zins 49 30 = some (.bipush 14) := by decide +kernel
theorem i_Hosp_admit_32 : zins 49 32 = some (.ireturn) := by decide +kernel
theorem i_Hosp_admit_33 : zins 49 33 = some (.aload_n 0) := by decide +kernel
theorem i_Hosp_admit_34 : zins 49 34 = some (.iload 4) := by decide +kernel
theorem i_Hosp_admit_36 : zins 49 36 = some (.invokevirtual 86) := by decide +kernel
theorem i_Hosp_admit_39 : zins 49 39 = some (.ifCond .eq 6) := by decide +kernel
theorem i_Hosp_admit_42 : zins 49 42 = some (.bipush 15) := by decide +kernel
theorem i_Hosp_admit_44 : zins 49 44 = some (.ireturn) := by decide +kernel
theorem i_Hosp_admit_45 : zins 49 45 = some (.aload 5) := by decide +kernel
theorem i_Hosp_admit_47 : zins 49 47 = some (.ifnonnull 20) := by decide +kernel
theorem i_Hosp_admit_50 : zins 49 50 = some (.new 15) := by decide +kernel
theorem i_Hosp_admit_53 : zins 49 53 = some (.dup) := by decide +kernel
theorem i_Hosp_admit_54 : zins 49 54 = some (.invokespecial 89) := by decide +kernel
theorem i_Hosp_admit_57 : zins 49 57 = some (.astore 5) := by decide +kernel
theorem i_Hosp_admit_59 : zins 49 59 = some (.aload_n 0) := by decide +kernel
theorem i_Hosp_admit_60 : zins 49 60 = some (.getfield 17) := by decide +kernel
theorem i_Hosp_admit_63 : zins 49 63 = some (.iload_n 3) := by decide +kernel
theorem i_Hosp_admit_64 : zins 49 64 = some (.aload 5) := by decide +kernel
theorem i_Hosp_admit_66 : zins 49 66 = some (.aastore) := by decide +kernel
theorem i_Hosp_admit_67 : zins 49 67 = some (.aload_n 0) := by decide +kernel
theorem i_Hosp_admit_68 : zins 49 68 = some (.iload_n 3) := by decide +kernel
theorem i_Hosp_admit_69 : zins 49 69 = some (.aload 5) := by decide +kernel
theorem i_Hosp_admit_71 : zins 49 71 = some (.iload 4) := by decide +kernel
theorem i_Hosp_admit_73 : zins 49 73 = some (.invokevirtual 90) := by decide +kernel
theorem i_Hosp_admit_76 : zins 49 76 = some (.aload_n 1) := by decide +kernel
theorem i_Hosp_admit_77 : zins 49 77 = some (.iload_n 2) := by decide +kernel
theorem i_Hosp_admit_78 : zins 49 78 = some (.aload 5) := by decide +kernel
theorem i_Hosp_admit_80 : zins 49 80 = some (.invokestatic 94) := by decide +kernel
theorem i_Hosp_admit_83 : zins 49 83 = some (.iconst 0) := by decide +kernel
theorem i_Hosp_admit_84 : zins 49 84 = some (.ireturn) := by decide +kernel
theorem x_Hosp_admit (X : zX) (d : Nat) (h : zH) (oc : Nat → Int32) (pt : Nat → Option Nat) (hH : isHo h oc pt) (p : Nat) (h1 : 1 ≤ p) (h2 : p ≤ 99) (a : Nat) (x : Int32) : zR X (d + 4) 49 0 (zent 6 [.ref 104, .ref a, .int x, .int (nI p), .int (-1)]) [] h (some (.int (nI 12)), h) := by
  cases hp : pt p with
  | none =>
    have hfi : zR X (d + 3) 50 0 (zent 2 [.ref 104, .int (nI p)]) [] h (some .null, h) := by
      have e := e_Hosp_find X (d + 3) h oc pt hH (nI p)
      rw [fndP_in h1 h2, hp] at e
      exact e
    refine zr_aload_n i_Hosp_admit_0 rfl ?_
    refine zr_iload_n i_Hosp_admit_1 rfl ?_
    refine zr_cv1 i_Hosp_admit_2 rfl (by decide) (zrcv_of hH.1) (Nat.le_of_ble_eq_true rfl) (Nat.le_of_ble_eq_true rfl) (hfi) ?_
    refine zr_aNstore i_Hosp_admit_5 rfl ?_
    refine zr_iload i_Hosp_admit_7 rfl ?_
    refine zr_iconst i_Hosp_admit_9 (v := (-1)) (by decide) ?_
    refine zr_icmp_ne 16 i_Hosp_admit_10 (by decide) (fun q => absurd rfl q) (fun c_10 => ?_)
    refine zr_bipush i_Hosp_admit_13 (v := 12) (by decide) ?_
    exact zR.retE i_Hosp_admit_15 rfl rfl
  | some b =>
    have hfi : zR X (d + 3) 50 0 (zent 2 [.ref 104, .int (nI p)]) [] h (some (.ref b), h) := by
      have e := e_Hosp_find X (d + 3) h oc pt hH (nI p)
      rw [fndP_in h1 h2, hp] at e
      exact e
    refine zr_aload_n i_Hosp_admit_0 rfl ?_
    refine zr_iload_n i_Hosp_admit_1 rfl ?_
    refine zr_cv1 i_Hosp_admit_2 rfl (by decide) (zrcv_of hH.1) (Nat.le_of_ble_eq_true rfl) (Nat.le_of_ble_eq_true rfl) (hfi) ?_
    refine zr_astore i_Hosp_admit_5 rfl ?_
    refine zr_iload i_Hosp_admit_7 rfl ?_
    refine zr_iconst i_Hosp_admit_9 (v := (-1)) (by decide) ?_
    refine zr_icmp_ne 16 i_Hosp_admit_10 (by decide) (fun q => absurd rfl q) (fun c_10 => ?_)
    refine zr_bipush i_Hosp_admit_13 (v := 12) (by decide) ?_
    exact zR.retE i_Hosp_admit_15 rfl rfl
theorem i_Hosp_admit (X : zX) (d : Nat) (h : zH) (oc : Nat → Int32) (pt : Nat → Option Nat) (hH : isHo h oc pt) (p : Nat) (h1 : 1 ≤ p) (h2 : p ≤ 99) (a : Nat) (x : Int32) (k : Nat) (hk : k < 32) (b k0 : Nat) (hk0 : k0 < 32) (hp : pt p = some b) (hB : h.2.2 b = some (paO b (nI k0))) : zR X (d + 4) 49 0 (zent 6 [.ref 104, .ref a, .int x, .int (nI p), .int (nI k)]) [] h (some (.int (nI 14)), h) := by
  have hfi : zR X (d + 3) 50 0 (zent 2 [.ref 104, .int (nI p)]) [] h (some (.ref b), h) := by
    have e := e_Hosp_find X (d + 3) h oc pt hH (nI p)
    rw [fndP_in h1 h2, hp] at e
    exact e
  refine zr_aload_n i_Hosp_admit_0 rfl ?_
  refine zr_iload_n i_Hosp_admit_1 rfl ?_
  refine zr_cv1 i_Hosp_admit_2 rfl (by decide) (zrcv_of hH.1) (Nat.le_of_ble_eq_true rfl) (Nat.le_of_ble_eq_true rfl) (hfi) ?_
  refine zr_astore i_Hosp_admit_5 rfl ?_
  refine zr_iload i_Hosp_admit_7 rfl ?_
  refine zr_iconst i_Hosp_admit_9 (v := (-1)) (by decide) ?_
  refine zr_icmp_ne 16 i_Hosp_admit_10 (by decide) (fun c_10 => ?_) (fun q => absurd q (nI_neg1 (by omega)))
  refine zr_aload i_Hosp_admit_16 rfl ?_
  refine zr_ifnull i_Hosp_admit_18 ?_
  refine zr_aload i_Hosp_admit_21 rfl ?_
  refine zr_getf i_Hosp_admit_23 hB rfl rfl ?_
  refine zr_iconst i_Hosp_admit_26 (v := (-1)) (by decide) ?_
  refine zr_icmp_eq 33 i_Hosp_admit_27 (by decide) (fun q => absurd q (nI_neg1 (by omega))) (fun c_27 => ?_)
  refine zr_bipush i_Hosp_admit_30 (v := 14) (by decide) ?_
  exact zR.retE i_Hosp_admit_32 rfl rfl
theorem t_Hosp_admit (X : zX) (d : Nat) (h : zH) (oc : Nat → Int32) (pt : Nat → Option Nat) (hH : isHo h oc pt) (p : Nat) (h1 : 1 ≤ p) (h2 : p ≤ 99) (a : Nat) (x : Int32) (k : Nat) (hk : k < 32) (b : Nat) (hp : pt p = some b) (hB : h.2.2 b = some (paO b (-1))) (ht : ¬ oc k = 0) : zR X (d + 4) 49 0 (zent 6 [.ref 104, .ref a, .int x, .int (nI p), .int (nI k)]) [] h (some (.int (nI 15)), h) := by
  have hfi : zR X (d + 3) 50 0 (zent 2 [.ref 104, .int (nI p)]) [] h (some (.ref b), h) := by
    have e := e_Hosp_find X (d + 3) h oc pt hH (nI p)
    rw [fndP_in h1 h2, hp] at e
    exact e
  have hpi := e_Hosp_patientIn X (d + 3) h oc pt hH (nI k)
  rw [getF_in hk (by decide)] at hpi
  refine zr_aload_n i_Hosp_admit_0 rfl ?_
  refine zr_iload_n i_Hosp_admit_1 rfl ?_
  refine zr_cv1 i_Hosp_admit_2 rfl (by decide) (zrcv_of hH.1) (Nat.le_of_ble_eq_true rfl) (Nat.le_of_ble_eq_true rfl) (hfi) ?_
  refine zr_astore i_Hosp_admit_5 rfl ?_
  refine zr_iload i_Hosp_admit_7 rfl ?_
  refine zr_iconst i_Hosp_admit_9 (v := (-1)) (by decide) ?_
  refine zr_icmp_ne 16 i_Hosp_admit_10 (by decide) (fun c_10 => ?_) (fun q => absurd q (nI_neg1 (by omega)))
  refine zr_aload i_Hosp_admit_16 rfl ?_
  refine zr_ifnull i_Hosp_admit_18 ?_
  refine zr_aload i_Hosp_admit_21 rfl ?_
  refine zr_getf i_Hosp_admit_23 hB rfl rfl ?_
  refine zr_iconst i_Hosp_admit_26 (v := (-1)) (by decide) ?_
  refine zr_icmp_eq 33 i_Hosp_admit_27 (by decide) (fun c_27 => ?_) (fun q => absurd rfl q)
  refine zr_aload_n i_Hosp_admit_33 rfl ?_
  refine zr_iload i_Hosp_admit_34 rfl ?_
  refine zr_cv1 i_Hosp_admit_36 rfl (by decide) (zrcv_of hH.1) (Nat.le_of_ble_eq_true rfl) (Nat.le_of_ble_eq_true rfl) (hpi) ?_
  refine zr_if_eq 45 i_Hosp_admit_39 (by decide) (fun q => absurd q ht) (fun _ => ?_)
  refine zr_bipush i_Hosp_admit_42 (v := 15) (by decide) ?_
  exact zR.retE i_Hosp_admit_44 rfl rfl
theorem u_Hosp_admit (X : zX) (d : Nat) (h : zH) (oc : Nat → Int32) (pt : Nat → Option Nat) (hH : isHo h oc pt) (p : Nat) (h1 : 1 ≤ p) (h2 : p ≤ 99) (a : Nat) (x : Int32) (k : Nat) (hk : k < 32) (hp : pt p = none) (ht : ¬ oc k = 0) : zR X (d + 4) 49 0 (zent 6 [.ref 104, .ref a, .int x, .int (nI p), .int (nI k)]) [] h (some (.int (nI 15)), h) := by
  have hfi : zR X (d + 3) 50 0 (zent 2 [.ref 104, .int (nI p)]) [] h (some .null, h) := by
    have e := e_Hosp_find X (d + 3) h oc pt hH (nI p)
    rw [fndP_in h1 h2, hp] at e
    exact e
  have hpi := e_Hosp_patientIn X (d + 3) h oc pt hH (nI k)
  rw [getF_in hk (by decide)] at hpi
  refine zr_aload_n i_Hosp_admit_0 rfl ?_
  refine zr_iload_n i_Hosp_admit_1 rfl ?_
  refine zr_cv1 i_Hosp_admit_2 rfl (by decide) (zrcv_of hH.1) (Nat.le_of_ble_eq_true rfl) (Nat.le_of_ble_eq_true rfl) (hfi) ?_
  refine zr_aNstore i_Hosp_admit_5 rfl ?_
  refine zr_iload i_Hosp_admit_7 rfl ?_
  refine zr_iconst i_Hosp_admit_9 (v := (-1)) (by decide) ?_
  refine zr_icmp_ne 16 i_Hosp_admit_10 (by decide) (fun c_10 => ?_) (fun q => absurd q (nI_neg1 (by omega)))
  refine zr_aloadN i_Hosp_admit_16 rfl ?_
  refine zr_ifnullN 33 i_Hosp_admit_18 (by decide) ?_
  refine zr_aload_n i_Hosp_admit_33 rfl ?_
  refine zr_iload i_Hosp_admit_34 rfl ?_
  refine zr_cv1 i_Hosp_admit_36 rfl (by decide) (zrcv_of hH.1) (Nat.le_of_ble_eq_true rfl) (Nat.le_of_ble_eq_true rfl) (hpi) ?_
  refine zr_if_eq 45 i_Hosp_admit_39 (by decide) (fun q => absurd q ht) (fun _ => ?_)
  refine zr_bipush i_Hosp_admit_42 (v := 15) (by decide) ?_
  exact zR.retE i_Hosp_admit_44 rfl rfl
theorem e_Hosp_admit (X : zX) (d : Nat) (h h' : zH) (oc : Nat → Int32) (pt : Nat → Option Nat) (hH : isHo h oc pt) (p : Nat) (h1 : 1 ≤ p) (h2 : p ≤ 99) (a : Nat) (x : Int32) (k : Nat) (hk : k < 32) (b : Nat) (hb : 156 ≤ b) (hp : pt p = some b) (hB : h.2.2 b = some (paO b (-1))) (ht : oc k = 0) (htn : zR X (d + 3) 53 0 (zent 3 [.ref a, .int x, .ref b]) [] (hP h oc b k (nI p)) (none, h')) : zR X (d + 4) 49 0 (zent 6 [.ref 104, .ref a, .int x, .int (nI p), .int (nI k)]) [] h (some (.int (nI 0)), h') := by
  have hfi : zR X (d + 3) 50 0 (zent 2 [.ref 104, .int (nI p)]) [] h (some (.ref b), h) := by
    have e := e_Hosp_find X (d + 3) h oc pt hH (nI p)
    rw [fndP_in h1 h2, hp] at e
    exact e
  have hpi := e_Hosp_patientIn X (d + 3) h oc pt hH (nI k)
  rw [getF_in hk (by decide)] at hpi
  have hpu := e_Hosp_putInBed X (d + 3) h oc pt hH b (-1) hB (by omega) (nI p) k hk
  refine zr_aload_n i_Hosp_admit_0 rfl ?_
  refine zr_iload_n i_Hosp_admit_1 rfl ?_
  refine zr_cv1 i_Hosp_admit_2 rfl (by decide) (zrcv_of hH.1) (Nat.le_of_ble_eq_true rfl) (Nat.le_of_ble_eq_true rfl) (hfi) ?_
  refine zr_astore i_Hosp_admit_5 rfl ?_
  refine zr_iload i_Hosp_admit_7 rfl ?_
  refine zr_iconst i_Hosp_admit_9 (v := (-1)) (by decide) ?_
  refine zr_icmp_ne 16 i_Hosp_admit_10 (by decide) (fun c_10 => ?_) (fun q => absurd q (nI_neg1 (by omega)))
  refine zr_aload i_Hosp_admit_16 rfl ?_
  refine zr_ifnull i_Hosp_admit_18 ?_
  refine zr_aload i_Hosp_admit_21 rfl ?_
  refine zr_getf i_Hosp_admit_23 hB rfl rfl ?_
  refine zr_iconst i_Hosp_admit_26 (v := (-1)) (by decide) ?_
  refine zr_icmp_eq 33 i_Hosp_admit_27 (by decide) (fun c_27 => ?_) (fun q => absurd rfl q)
  refine zr_aload_n i_Hosp_admit_33 rfl ?_
  refine zr_iload i_Hosp_admit_34 rfl ?_
  refine zr_cv1 i_Hosp_admit_36 rfl (by decide) (zrcv_of hH.1) (Nat.le_of_ble_eq_true rfl) (Nat.le_of_ble_eq_true rfl) (hpi) ?_
  refine zr_if_eq 45 i_Hosp_admit_39 (by decide) (fun _ => ?_) (fun q => absurd ht q)
  refine zr_aload i_Hosp_admit_45 rfl ?_
  refine zr_ifnonnull 67 i_Hosp_admit_47 (by decide) ?_
  refine zr_aload_n i_Hosp_admit_67 rfl ?_
  refine zr_iload_n i_Hosp_admit_68 rfl ?_
  refine zr_aload i_Hosp_admit_69 rfl ?_
  refine zr_iload i_Hosp_admit_71 rfl ?_
  refine zr_cv30 i_Hosp_admit_73 rfl (by decide) (zrcv_of hH.1) (Nat.le_of_ble_eq_true rfl) (Nat.le_of_ble_eq_true rfl) (hpu) ?_
  refine zr_aload_n i_Hosp_admit_76 rfl ?_
  refine zr_iload_n i_Hosp_admit_77 rfl ?_
  refine zr_aload i_Hosp_admit_78 rfl ?_
  refine zr_cs30 i_Hosp_admit_80 rfl (by decide) (Nat.le_of_ble_eq_true rfl) (Nat.le_of_ble_eq_true rfl) (htn) ?_
  refine zr_iconst i_Hosp_admit_83 (v := 0) (by decide) ?_
  exact zR.retE i_Hosp_admit_84 rfl rfl
theorem n_Hosp_admit (X : zX) (d : Nat) (h h' : zH) (oc : Nat → Int32) (pt : Nat → Option Nat) (hH : isHo h oc pt) (p : Nat) (h1 : 1 ≤ p) (h2 : p ≤ 99) (a : Nat) (x : Int32) (k : Nat) (hk : k < 32) (hh : 56 ≤ h.1) (hp : pt p = none) (ht : oc k = 0) (htn : zR X (d + 3) 53 0 (zent 3 [.ref a, .int x, .ref (100 + h.1)]) [] (hP (zwr (alloc h [paO (100 + h.1) (-1), chO ((100 + h.1) + 1) 0, chR 12 z0, chO ((100 + h.1) + 3) 0, chR 12 z0, meO ((100 + h.1) + 5) 0, meR z0, meR z0] 59) 106 (ptC (va_up pt p (some (100 + h.1))))) oc (100 + h.1) k (nI p)) (none, h')) : zR X (d + 4) 49 0 (zent 6 [.ref 104, .ref a, .int x, .int (nI p), .int (nI k)]) [] h (some (.int (nI 0)), h') := by
  have hfi : zR X (d + 3) 50 0 (zent 2 [.ref 104, .int (nI p)]) [] h (some .null, h) := by
    have e := e_Hosp_find X (d + 3) h oc pt hH (nI p)
    rw [fndP_in h1 h2, hp] at e
    exact e
  have hpi := e_Hosp_patientIn X (d + 3) h oc pt hH (nI k)
  rw [getF_in hk (by decide)] at hpi
  have hHo : isHo (zwr (alloc h [paO (100 + h.1) (-1), chO ((100 + h.1) + 1) 0, chR 12 z0, chO ((100 + h.1) + 3) 0, chR 12 z0, meO ((100 + h.1) + 5) 0, meR z0, meR z0] 59) 106 (ptC (va_up pt p (some (100 + h.1))))) oc (va_up pt p (some (100 + h.1))) := ⟨(zwr_ne (by decide)).trans ((alloc_ne (by omega)).trans hH.1), (zwr_ne (by decide)).trans ((alloc_ne (by omega)).trans hH.2.1), zwr_at _ _ _⟩
  have hb0 : (alloc h [paO (100 + h.1) (-1), chO ((100 + h.1) + 1) 0, chR 12 z0, chO ((100 + h.1) + 3) 0, chR 12 z0, meO ((100 + h.1) + 5) 0, meR z0, meR z0] 59).2.2 (100 + h.1) = some (paO (100 + h.1) (-1)) := alloc_in (H := h) (i := 0) (Nat.le_of_ble_eq_true rfl)
  have hBn : (zwr (alloc h [paO (100 + h.1) (-1), chO ((100 + h.1) + 1) 0, chR 12 z0, chO ((100 + h.1) + 3) 0, chR 12 z0, meO ((100 + h.1) + 5) 0, meR z0, meR z0] 59) 106 (ptC (va_up pt p (some (100 + h.1))))).2.2 (100 + h.1) = some (paO (100 + h.1) (-1)) := (zwr_ne (by omega)).trans hb0
  have hpu := e_Hosp_putInBed X (d + 3) (zwr (alloc h [paO (100 + h.1) (-1), chO ((100 + h.1) + 1) 0, chR 12 z0, chO ((100 + h.1) + 3) 0, chR 12 z0, meO ((100 + h.1) + 5) 0, meR z0, meR z0] 59) 106 (ptC (va_up pt p (some (100 + h.1))))) oc _ hHo (100 + h.1) (-1) hBn (by omega) (nI p) k hk
  have hin := e_Pat_init X (d + 1) h
  refine zr_aload_n i_Hosp_admit_0 rfl ?_
  refine zr_iload_n i_Hosp_admit_1 rfl ?_
  refine zr_cv1 i_Hosp_admit_2 rfl (by decide) (zrcv_of hH.1) (Nat.le_of_ble_eq_true rfl) (Nat.le_of_ble_eq_true rfl) hfi ?_
  refine zr_aNstore i_Hosp_admit_5 rfl ?_
  refine zr_iload i_Hosp_admit_7 rfl ?_
  refine zr_iconst i_Hosp_admit_9 (v := (-1)) (by decide) ?_
  refine zr_icmp_ne 16 i_Hosp_admit_10 (by decide) (fun c_10 => ?_) (fun q => absurd q (nI_neg1 (by omega)))
  refine zr_aloadN i_Hosp_admit_16 rfl ?_
  refine zr_ifnullN 33 i_Hosp_admit_18 (by decide) ?_
  refine zr_aload_n i_Hosp_admit_33 rfl ?_
  refine zr_iload i_Hosp_admit_34 rfl ?_
  refine zr_cv1 i_Hosp_admit_36 rfl (by decide) (zrcv_of hH.1) (Nat.le_of_ble_eq_true rfl) (Nat.le_of_ble_eq_true rfl) (hpi) ?_
  refine zr_if_eq 45 i_Hosp_admit_39 (by decide) (fun _ => ?_) (fun q => absurd ht q)
  refine zr_aloadN i_Hosp_admit_45 rfl ?_
  refine zr_ifnonnullN i_Hosp_admit_47 ?_
  refine zr_new i_Hosp_admit_50 rfl rfl rfl ?_
  refine zr_dup i_Hosp_admit_53 rfl ?_
  refine zr_ci00 i_Hosp_admit_54 rfl (by decide) (Nat.le_of_ble_eq_true rfl) (Nat.le_of_ble_eq_true rfl) hin ?_
  refine zr_astore i_Hosp_admit_57 rfl ?_
  refine zr_aload_n i_Hosp_admit_59 rfl ?_
  refine zr_getf i_Hosp_admit_60 ((alloc_ne (by omega)).trans hH.1) rfl rfl ?_
  refine zr_iload_n i_Hosp_admit_63 rfl ?_
  refine zr_aload i_Hosp_admit_64 rfl ?_
  refine zn_aastore i_Hosp_admit_66 ((alloc_ne (by omega)).trans hH.2.2) hb0 (by omega) (by decide) ?_
  refine zr_aload_n i_Hosp_admit_67 rfl ?_
  refine zr_iload_n i_Hosp_admit_68 rfl ?_
  refine zr_aload i_Hosp_admit_69 rfl ?_
  refine zr_iload i_Hosp_admit_71 rfl ?_
  refine zr_cv30 i_Hosp_admit_73 rfl (by decide) (zrcv_of hHo.1) (Nat.le_of_ble_eq_true rfl) (Nat.le_of_ble_eq_true rfl) (hpu) ?_
  refine zr_aload_n i_Hosp_admit_76 rfl ?_
  refine zr_iload_n i_Hosp_admit_77 rfl ?_
  refine zr_aload i_Hosp_admit_78 rfl ?_
  refine zr_cs30 i_Hosp_admit_80 rfl (by decide) (Nat.le_of_ble_eq_true rfl) (Nat.le_of_ble_eq_true rfl) (htn) ?_
  refine zr_iconst i_Hosp_admit_83 (v := 0) (by decide) ?_
  exact zR.retE i_Hosp_admit_84 rfl rfl
theorem i_Hosp_measure_0 : zins 59 0 = some (.aload_n 0) := by decide +kernel
theorem i_Hosp_measure_1 : zins 59 1 = some (.iload_n 2) := by decide +kernel
theorem i_Hosp_measure_2 : zins 59 2 = some (.invokevirtual 78) := by decide +kernel
theorem i_Hosp_measure_5 : zins 59 5 = some (.astore_n 3) := by decide +kernel
theorem i_Hosp_measure_6 : zins 59 6 = some (.aload_n 3) := by decide +kernel
theorem i_Hosp_measure_7 : zins 59 7 = some (.ifnull 11) := by decide +kernel
theorem i_Hosp_measure_10 : zins 59 10 = some (.aload_n 3) := by decide +kernel
theorem i_Hosp_measure_11 : zins 59 11 = some (.getfield 82) := by decide +kernel
theorem i_Hosp_measure_14 : zins 59 14 = some (.iconst (-1)) := by decide +kernel
theorem i_Hosp_measure_15 : zins 59 15 = some (.if_icmp .ne 6) := by decide +kernel
theorem i_Hosp_measure_18 : zins 59 18 = some (.bipush 13) := by decide +kernel
theorem i_Hosp_measure_20 : zins 59 20 = some (.ireturn) := by decide +kernel
theorem i_Hosp_measure_21 : zins 59 21 = some (.aload_n 0) := by decide +kernel
theorem i_Hosp_measure_22 : zins 59 22 = some (.getfield 24) := by decide +kernel
theorem i_Hosp_measure_25 : zins 59 25 = some (.aload_n 3) := by decide +kernel
theorem i_Hosp_measure_26 : zins 59 26 = some (.getfield 102) := by decide +kernel
theorem i_Hosp_measure_29 : zins 59 29 = some (.invokevirtual 105) := by decide +kernel
theorem i_Hosp_measure_32 : zins 59 32 = some (.aload_n 1) := by decide +kernel
theorem i_Hosp_measure_33 : zins 59 33 = some (.ldc 109) := by decide +kernel
theorem i_Hosp_measure_35 : zins 59 35 = some (.iconst 1) := by decide +kernel
theorem i_Hosp_measure_36 : zins 59 36 = some (.invokevirtual 36) := by decide +kernel
theorem i_Hosp_measure_39 : zins 59 39 = some (.istore 4) := by decide +kernel
theorem i_Hosp_measure_41 : zins 59 41 = some (.iload 4) := by decide +kernel
theorem i_Hosp_measure_43 : zins 59 43 = some (.iconst (-1)) := by decide +kernel
theorem i_Hosp_measure_44 : zins 59 44 = some (.if_icmp .eq 7) := by decide +kernel
theorem i_Hosp_measure_47 : zins 59 47 = some (.iconst 1) := by decide +kernel
theorem i_Hosp_measure_48 : zins 59 48 = some (.goto 4) := by decide +kernel
theorem i_Hosp_measure_51 : zins 59 51 = some (.iconst 0) := by decide +kernel
theorem i_Hosp_measure_52 : zins 59 52 = some (.istore 5) := by decide +kernel
theorem i_Hosp_measure_54 : zins 59 54 = some (.iconst 1) := by decide +kernel
theorem i_Hosp_measure_55 : zins 59 55 = some (.istore 6) := by decide +kernel
theorem i_Hosp_measure_57 : zins 59 57 = some (.iconst 0) := by decide +kernel
theorem i_Hosp_measure_58 : zins 59 58 = some (.istore 7) := by decide +kernel
theorem i_Hosp_measure_60 : zins 59 60 = some (.iload 7) := by decide +kernel
theorem i_Hosp_measure_62 : zins 59 62 = some (.bipush 8) := by decide +kernel
theorem i_Hosp_measure_64 : zins 59 64 = some (.if_icmp .ge 88) := by decide +kernel
theorem i_Hosp_measure_67 : zins 59 67 = some (.iload 4) := by decide +kernel
theorem i_Hosp_measure_69 : zins 59 69 = some (.iconst (-1)) := by decide +kernel
theorem i_Hosp_measure_70 : zins 59 70 = some (.if_icmp .eq 82) := by decide +kernel
theorem i_Hosp_measure_73 : zins 59 73 = some (.aload_n 1) := by decide +kernel
theorem i_Hosp_measure_74 : zins 59 74 = some (.iload 4) := by decide +kernel
theorem i_Hosp_measure_76 : zins 59 76 = some (.invokevirtual 111) := by decide +kernel
theorem i_Hosp_measure_79 : zins 59 79 = some (.istore 8) := by decide +kernel
theorem i_Hosp_measure_81 : zins 59 81 = some (.aload_n 1) := by decide +kernel
theorem i_Hosp_measure_82 : zins 59 82 = some (.iload 4) := by decide +kernel
theorem i_Hosp_measure_84 : zins 59 84 = some (.iconst 2) := by decide +kernel
theorem i_Hosp_measure_85 : zins 59 85 = some (.iconst 1) := by decide +kernel
theorem i_Hosp_measure_86 : zins 59 86 = some (.iconst 1) := by decide +kernel
theorem i_Hosp_measure_87 : zins 59 87 = some (.invokevirtual 114) := by decide +kernel
theorem i_Hosp_measure_90 : zins 59 90 = some (.istore 9) := by decide +kernel
theorem i_Hosp_measure_92 : zins 59 92 = some (.iload 8) := by decide +kernel
theorem i_Hosp_measure_94 : zins 59 94 = some (.iconst (-1)) := by decide +kernel
theorem i_Hosp_measure_95 : zins 59 95 = some (.if_icmp .eq 12) := by decide +kernel
theorem i_Hosp_measure_98 : zins 59 98 = some (.aload_n 1) := by decide +kernel
theorem i_Hosp_measure_99 : zins 59 99 = some (.iload 9) := by decide +kernel
theorem i_Hosp_measure_101 : zins 59 101 = some (.invokestatic 117) := by decide +kernel
theorem i_Hosp_measure_104 : zins 59 104 = some (.ifCond .ne 6) := by decide +kernel
theorem i_Hosp_measure_107 : zins 59 107 = some (.bipush 17) := by decide +kernel
theorem i_Hosp_measure_109 : zins 59 109 = some (.ireturn) := by decide +kernel
theorem i_Hosp_measure_110 : zins 59 110 = some (.iload 6) := by decide +kernel
theorem i_Hosp_measure_112 : zins 59 112 = some (.ifCond .eq 19) := by decide +kernel
theorem i_Hosp_measure_115 : zins 59 115 = some (.aload_n 0) := by decide +kernel
theorem i_Hosp_measure_116 : zins 59 116 = some (.aload_n 1) := by decide +kernel
theorem i_Hosp_measure_117 : zins 59 117 = some (.iload 8) := by decide +kernel
theorem i_Hosp_measure_119 : zins 59 119 = some (.iload 9) := by decide +kernel
theorem i_Hosp_measure_121 : zins 59 121 = some (.invokevirtual 121) := by decide +kernel
theorem i_Hosp_measure_124 : zins 59 124 = some (.ifCond .eq 7) := by decide +kernel
theorem i_Hosp_measure_127 : zins 59 127 = some (.iconst 1) := by decide +kernel
theorem i_Hosp_measure_128 : zins 59 128 = some (.goto 4) := by decide +kernel
theorem i_Hosp_measure_131 : zins 59 131 = some (.iconst 0) := by decide +kernel
theorem i_Hosp_measure_132 : zins 59 132 = some (.istore 6) := by decide +kernel
theorem i_Hosp_measure_134 : zins 59 134 = some (.aload_n 1) := by decide +kernel
theorem i_Hosp_measure_135 : zins 59 135 = some (.ldc 109) := by decide +kernel
theorem i_Hosp_measure_137 : zins 59 137 = some (.iload 4) := by decide +kernel
theorem i_Hosp_measure_139 : zins 59 139 = some (.iconst 1) := by decide +kernel
theorem i_Hosp_measure_140 : zins 59 140 = some (.iadd) := by decide +kernel
theorem i_Hosp_measure_141 : zins 59 141 = some (.invokevirtual 36) := by decide +kernel
theorem i_Hosp_measure_144 : zins 59 144 = some (.istore 4) := by decide +kernel
theorem i_Hosp_measure_146 : zins 59 146 = some (.iinc 7 1) := by decide +kernel
theorem i_Hosp_measure_149 : zins 59 149 = some (.goto (-89)) := by decide +kernel
theorem i_Hosp_measure_152 : zins 59 152 = some (.iload 5) := by decide +kernel
theorem i_Hosp_measure_154 : zins 59 154 = some (.ifCond .ne 6) := by decide +kernel
theorem i_Hosp_measure_157 : zins 59 157 = some (.bipush 17) := by decide +kernel
theorem i_Hosp_measure_159 : zins 59 159 = some (.ireturn) := by decide +kernel
theorem i_Hosp_measure_160 : zins 59 160 = some (.iload 6) := by decide +kernel
theorem i_Hosp_measure_162 : zins 59 162 = some (.ifCond .ne 6) := by decide +kernel
theorem i_Hosp_measure_165 : zins 59 165 = some (.bipush 18) := by decide +kernel
theorem i_Hosp_measure_167 : zins 59 167 = some (.ireturn) := by decide +kernel
theorem i_Hosp_measure_168 : zins 59 168 = some (.aload_n 3) := by decide +kernel
theorem i_Hosp_measure_169 : zins 59 169 = some (.getfield 102) := by decide +kernel
theorem i_Hosp_measure_172 : zins 59 172 = some (.aload_n 0) := by decide +kernel
theorem i_Hosp_measure_173 : zins 59 173 = some (.getfield 24) := by decide +kernel
theorem i_Hosp_measure_176 : zins 59 176 = some (.invokevirtual 105) := by decide +kernel
theorem i_Hosp_measure_179 : zins 59 179 = some (.iconst 0) := by decide +kernel
theorem i_Hosp_measure_180 : zins 59 180 = some (.ireturn) := by decide +kernel
/-- the results of a message, tried: none where one is wrong -/
def meaL (f : Nat → Int32) (n : Nat) (P : Nat → Nat) (cn q : Nat) (o : Option Nat) (z : zMe) (ft : Bool) : zMe × Option Bool := match q with
  | 0 => (z, some ft)
  | q + 1 => match o with
    | none => (z, some ft)
    | some s => if (codeT (txo f n (fdo f n P (some s) 1 1 1))) = -1 ∨ avF f n (fdo f n P (some s) 2 1 1) = false then (z, none) else meaL f n P cn q (nnF f n P (sT 7) (s + 1) (cn - s)) (if ft = true then (tvL f n (codeT (txo f n (fdo f n P (some s) 1 1 1))) 200 (fdo f n P (some s) 2 1 1) z).1 else z) (ft && (tvL f n (codeT (txo f n (fdo f n P (some s) 1 1 1))) 200 (fdo f n P (some s) 2 1 1) z).2)
theorem tvL_le {f : Nat → Int32} {n : Nat} {code : Int32} : ∀ (q : Nat) (o : Option Nat) (z : zMe), z.1 ≤ 12 → (tvL f n code q o z).1.1 ≤ 12 := by
  intro q
  induction q with
  | zero => intro o z h; exact h
  | succ q ih =>
    intro o z h
    cases o with
    | none => exact h
    | some p =>
      rw [tvL]
      split
      · exact ih _ _ (remR_le h)
      · split
        · exact ih _ _ (setR_le h)
        · exact setR_le h
theorem meaL_le {f : Nat → Int32} {n : Nat} {P : Nat → Nat} {cn : Nat} : ∀ (q : Nat) (o : Option Nat) (z : zMe) (ft : Bool), z.1 ≤ 12 → (meaL f n P cn q o z ft).1.1 ≤ 12 := by
  intro q
  induction q with
  | zero => intro o z ft h; exact h
  | succ q ih =>
    intro o z ft h
    cases o with
    | none => exact h
    | some s =>
      rw [meaL]
      split
      · exact h
      · refine ih _ _ _ ?_
        split
        · exact tvL_le _ _ _ h
        · exact h
theorem l_Hosp_measure (X : zX) (d : Nat) (h : zH) (hX : X.2.2.category = 1) (hz : zlow h) (a : Nat) (ha : 110 ≤ a) (ha2 : a < 130) (f : Nat → Int32) (n : Nat) (st : Nat → Int32) (cn : Nat) (hM : isM h a f n st cn) (hn : n ≤ 200) (P : Nat → Nat) (hP : ∀ s, 1 ≤ s → s ≤ cn → st (s - 1) = nI (P s) ∧ P s ≤ n) (hcn : cn ≤ 8) (hT : h.2.2 104 = some (.inr (3, [.ref 105, .ref 106, .ref 107]))) (b : Nat) (x2 : Int32) (bb : Bool) (U : Bool → zMe → Option Value × zH) (KK : ∀ (o : Option Nat) (k : Nat) (z : zMe) (ft : Bool) (x8 x9 : Option Value), z.1 ≤ 12 → zR X (d + 6) 59 152 [some (.ref 104), some (.ref a), some (.int x2), some (.ref b), some (.int (tI o)), some (.int (zb bb)), some (.int (zb ft)), some (.int (nI k)), x8, x9] [] (meS h 107 z) (U ft z)) : ∀ (q k : Nat) (o : Option Nat) (z : zMe) (ft : Bool) (x8 x9 : Option Value), k + q = 8 → (∀ s, o = some s → 1 ≤ s ∧ s ≤ cn) → z.1 ≤ 12 → zR X (d + 6) 59 60 [some (.ref 104), some (.ref a), some (.int x2), some (.ref b), some (.int (tI o)), some (.int (zb bb)), some (.int (zb ft)), some (.int (nI k)), x8, x9] [] (meS h 107 z) (match (meaL f n P cn q o z ft).2 with | none => (some (Value.int (nI 17)), meS h 107 (meaL f n P cn q o z ft).1) | some t => U t (meaL f n P cn q o z ft).1) := by
  intro q
  induction q with
  | zero =>
    intro k o z ft x8 x9 hkq ho hz12
    show zR _ _ _ _ _ _ _ (U ft z)
    refine zr_iload i_Hosp_measure_60 rfl ?_
    refine zn_bipush 8 i_Hosp_measure_62 (by decide) ?_
    refine zn_icmp_ge 152 i_Hosp_measure_64 (by decide) (by omega) (by omega) (fun c_64 => ?_) (fun q => absurd q (by omega))
    exact KK _ _ _ _ _ _ hz12
  | succ q ih =>
    intro k o z ft x8 x9 hkq ho hz12
    cases o with
    | none =>
      show zR _ _ _ _ _ _ _ (U ft z)
      refine zr_iload i_Hosp_measure_60 rfl ?_
      refine zn_bipush 8 i_Hosp_measure_62 (by decide) ?_
      refine zn_icmp_ge 152 i_Hosp_measure_64 (by decide) (by omega) (by omega) (fun q => absurd q (by omega)) (fun c_64 => ?_)
      refine zr_iload i_Hosp_measure_67 rfl ?_
      refine zr_iconst i_Hosp_measure_69 (v := (-1)) (by decide) ?_
      refine zr_icmp_eq 152 i_Hosp_measure_70 (by decide) (fun c_70 => ?_) (fun q => absurd rfl q)
      exact KK _ _ _ _ _ _ hz12
    | some s =>
      obtain ⟨s1, s2⟩ := ho s rfl
      have hne : ¬ tI (some s) = -1 := nI_neg1 (by omega)
      have hM2 : isM (meS h 107 z) a f n st cn := isM_me hM (fun i hi => by omega)
      have hzz : zlow (meS h 107 z) := meS_low hz (by decide)
      have hsP : ∀ w, (some s : Option Nat) = some w → P w ≤ n := fun w hw => by cases hw; exact (hP s s1 s2).2
      have hl1 := fdo_le (f := f) (F := 1) (R := 1) (C := 1) hsP
      have hl2 := fdo_le (f := f) (F := 2) (R := 1) (C := 1) hsP
      have hf1 := e1_Mess_find X (d + 4) (meS h 107 z) a f n st cn hM2 hn P hP hcn (some s) ho 1 1 1
      have hf2 := e1_Mess_find X (d + 5) (meS h 107 z) a f n st cn hM2 hn P hP hcn (some s) ho 2 1 1
      have hco := e_Mess_code X (d + 2) (meS h 107 z) a f n st cn hM2 hn (tI (some s)) _ hl1 hf1
      have hav := e_Hosp_areValues X d hX (meS h 107 z) hzz a f n st cn hM2 hn (fdo f n P (some s) 2 1 1) hl2
      rw [meaL]
      by_cases hcd : (codeT (txo f n (fdo f n P (some s) 1 1 1))) = -1
      · rw [if_pos (Or.inl hcd)]
        dsimp only
        refine zr_iload i_Hosp_measure_60 rfl ?_
        refine zn_bipush 8 i_Hosp_measure_62 (by decide) ?_
        refine zn_icmp_ge 152 i_Hosp_measure_64 (by decide) (by omega) (by omega) (fun q => absurd q (by omega)) (fun c_64 => ?_)
        refine zr_iload i_Hosp_measure_67 rfl ?_
        refine zr_iconst i_Hosp_measure_69 (v := (-1)) (by decide) ?_
        refine zr_icmp_eq 152 i_Hosp_measure_70 (by decide) (fun q => absurd q hne) (fun c_70 => ?_)
        refine zr_aload_n i_Hosp_measure_73 rfl ?_
        refine zr_iload i_Hosp_measure_74 rfl ?_
        refine zr_cv1 i_Hosp_measure_76 rfl (by decide) (zrcv_of hM2.1) (Nat.le_of_ble_eq_true rfl) (Nat.le_of_ble_eq_true rfl) (hco) ?_
        refine zr_istore i_Hosp_measure_79 rfl ?_
        refine zr_aload_n i_Hosp_measure_81 rfl ?_
        refine zr_iload i_Hosp_measure_82 rfl ?_
        refine zr_iconst i_Hosp_measure_84 (v := 2) (by decide) ?_
        refine zr_iconst i_Hosp_measure_85 (v := 1) (by decide) ?_
        refine zr_iconst i_Hosp_measure_86 (v := 1) (by decide) ?_
        refine zr_cv4 i_Hosp_measure_87 rfl (by decide) (zrcv_of hM2.1) (Nat.le_of_ble_eq_true rfl) (Nat.le_of_ble_eq_true rfl) (hf2) ?_
        refine zr_istore i_Hosp_measure_90 rfl ?_
        refine zr_iload i_Hosp_measure_92 rfl ?_
        refine zr_iconst i_Hosp_measure_94 (v := (-1)) (by decide) ?_
        refine zr_icmp_eq 107 i_Hosp_measure_95 (by decide) (fun c_95 => ?_) (fun q => absurd hcd q)
        refine zr_bipush i_Hosp_measure_107 (v := 17) (by decide) ?_
        exact zR.retE i_Hosp_measure_109 rfl rfl
      · cases hv : avF f n (fdo f n P (some s) 2 1 1) with
        | false =>
          rw [hv] at hav
          rw [if_pos (Or.inr rfl)]
          dsimp only
          refine zr_iload i_Hosp_measure_60 rfl ?_
          refine zn_bipush 8 i_Hosp_measure_62 (by decide) ?_
          refine zn_icmp_ge 152 i_Hosp_measure_64 (by decide) (by omega) (by omega) (fun q => absurd q (by omega)) (fun c_64 => ?_)
          refine zr_iload i_Hosp_measure_67 rfl ?_
          refine zr_iconst i_Hosp_measure_69 (v := (-1)) (by decide) ?_
          refine zr_icmp_eq 152 i_Hosp_measure_70 (by decide) (fun q => absurd q hne) (fun c_70 => ?_)
          refine zr_aload_n i_Hosp_measure_73 rfl ?_
          refine zr_iload i_Hosp_measure_74 rfl ?_
          refine zr_cv1 i_Hosp_measure_76 rfl (by decide) (zrcv_of hM2.1) (Nat.le_of_ble_eq_true rfl) (Nat.le_of_ble_eq_true rfl) (hco) ?_
          refine zr_istore i_Hosp_measure_79 rfl ?_
          refine zr_aload_n i_Hosp_measure_81 rfl ?_
          refine zr_iload i_Hosp_measure_82 rfl ?_
          refine zr_iconst i_Hosp_measure_84 (v := 2) (by decide) ?_
          refine zr_iconst i_Hosp_measure_85 (v := 1) (by decide) ?_
          refine zr_iconst i_Hosp_measure_86 (v := 1) (by decide) ?_
          refine zr_cv4 i_Hosp_measure_87 rfl (by decide) (zrcv_of hM2.1) (Nat.le_of_ble_eq_true rfl) (Nat.le_of_ble_eq_true rfl) (hf2) ?_
          refine zr_istore i_Hosp_measure_90 rfl ?_
          refine zr_iload i_Hosp_measure_92 rfl ?_
          refine zr_iconst i_Hosp_measure_94 (v := (-1)) (by decide) ?_
          refine zr_icmp_eq 107 i_Hosp_measure_95 (by decide) (fun q => absurd q hcd) (fun c_95 => ?_)
          refine zr_aload_n i_Hosp_measure_98 rfl ?_
          refine zr_iload i_Hosp_measure_99 rfl ?_
          refine zr_cs2 i_Hosp_measure_101 rfl (by decide) (Nat.le_of_ble_eq_true rfl) (Nat.le_of_ble_eq_true rfl) (hav) ?_
          refine zB_if_ne 110 i_Hosp_measure_104 (by decide) (fun q => absurd q (by decide)) (fun _ => ?_)
          refine zr_bipush i_Hosp_measure_107 (v := 17) (by decide) ?_
          exact zR.retE i_Hosp_measure_109 rfl rfl
        | true =>
          rw [hv] at hav
          rw [if_neg (fun q => q.elim hcd (by decide))]
          have hnb : ∀ w, (nnF f n P (sT 7) (s + 1) (cn - s)) = some w → 1 ≤ w ∧ w ≤ cn := fun w hw => by have := nnF_b w hw; omega
          cases ft with
          | false =>
            have hn2 := fun x8 x9 => ih (k + 1) (nnF f n P (sT 7) (s + 1) (cn - s)) z false x8 x9 (by omega) hnb hz12
            have hM3 := hM2
            have hnx := e_Mess_nextNamed X d hX (meS h 107 z) hzz a f n st cn hM2 hn P hP hcn 7 ⟨by decide, by decide⟩ (by decide) (s + 1) (by omega) (by omega)
            rw [show cn + 1 - (s + 1) = cn - s by omega] at hnx
            refine zr_iload i_Hosp_measure_60 rfl ?_
            refine zn_bipush 8 i_Hosp_measure_62 (by decide) ?_
            refine zn_icmp_ge 152 i_Hosp_measure_64 (by decide) (by omega) (by omega) (fun q => absurd q (by omega)) (fun c_64 => ?_)
            refine zr_iload i_Hosp_measure_67 rfl ?_
            refine zr_iconst i_Hosp_measure_69 (v := (-1)) (by decide) ?_
            refine zr_icmp_eq 152 i_Hosp_measure_70 (by decide) (fun q => absurd q hne) (fun c_70 => ?_)
            refine zr_aload_n i_Hosp_measure_73 rfl ?_
            refine zr_iload i_Hosp_measure_74 rfl ?_
            refine zr_cv1 i_Hosp_measure_76 rfl (by decide) (zrcv_of hM2.1) (Nat.le_of_ble_eq_true rfl) (Nat.le_of_ble_eq_true rfl) (hco) ?_
            refine zr_istore i_Hosp_measure_79 rfl ?_
            refine zr_aload_n i_Hosp_measure_81 rfl ?_
            refine zr_iload i_Hosp_measure_82 rfl ?_
            refine zr_iconst i_Hosp_measure_84 (v := 2) (by decide) ?_
            refine zr_iconst i_Hosp_measure_85 (v := 1) (by decide) ?_
            refine zr_iconst i_Hosp_measure_86 (v := 1) (by decide) ?_
            refine zr_cv4 i_Hosp_measure_87 rfl (by decide) (zrcv_of hM2.1) (Nat.le_of_ble_eq_true rfl) (Nat.le_of_ble_eq_true rfl) (hf2) ?_
            refine zr_istore i_Hosp_measure_90 rfl ?_
            refine zr_iload i_Hosp_measure_92 rfl ?_
            refine zr_iconst i_Hosp_measure_94 (v := (-1)) (by decide) ?_
            refine zr_icmp_eq 107 i_Hosp_measure_95 (by decide) (fun q => absurd q hcd) (fun c_95 => ?_)
            refine zr_aload_n i_Hosp_measure_98 rfl ?_
            refine zr_iload i_Hosp_measure_99 rfl ?_
            refine zr_cs2 i_Hosp_measure_101 rfl (by decide) (Nat.le_of_ble_eq_true rfl) (Nat.le_of_ble_eq_true rfl) (hav) ?_
            refine zB_if_ne 110 i_Hosp_measure_104 (by decide) (fun _ => ?_) (fun q => absurd q (by decide))
            refine zr_iload i_Hosp_measure_110 rfl ?_
            refine zB_if_eq 131 i_Hosp_measure_112 (by decide) (fun _ => ?_) (fun q => absurd q (by decide))
            refine zn_iconst 0 i_Hosp_measure_131 (by decide) ?_
            refine zr_istore i_Hosp_measure_132 rfl ?_
            refine zr_aload_n i_Hosp_measure_134 rfl ?_
            refine zr_ldc i_Hosp_measure_135 rfl ?_
            refine zr_iload i_Hosp_measure_137 rfl ?_
            refine zr_top (y := nI s) rfl ?_
            refine zn_iconst 1 i_Hosp_measure_139 (by decide) ?_
            refine zn_iadd i_Hosp_measure_140 ?_
            refine zr_cv2 i_Hosp_measure_141 rfl (by decide) (zrcv_of hM3.1) (Nat.le_of_ble_eq_true rfl) (Nat.le_of_ble_eq_true rfl) hnx ?_
            refine zr_istore i_Hosp_measure_144 rfl ?_
            refine zn_iinc i_Hosp_measure_146 rfl rfl ?_
            refine zr_goto 60 i_Hosp_measure_149 (by decide) ?_
            exact hn2 _ _
          | true =>
            have htv := e_Hosp_tryValues X d hX h hz a f n st cn hM hn ha hT (codeT (txo f n (fdo f n P (some s) 1 1 1))) (fdo f n P (some s) 2 1 1) hl2 z hz12
            have hM3 : isM (meS h 107 (tvL f n (codeT (txo f n (fdo f n P (some s) 1 1 1))) 200 (fdo f n P (some s) 2 1 1) z).1) a f n st cn := isM_me hM (fun i hi => by omega)
            have hnx := e_Mess_nextNamed X d hX (meS h 107 (tvL f n (codeT (txo f n (fdo f n P (some s) 1 1 1))) 200 (fdo f n P (some s) 2 1 1) z).1) (meS_low hz (by decide)) a f n st cn hM3 hn P hP hcn 7 ⟨by decide, by decide⟩ (by decide) (s + 1) (by omega) (by omega)
            rw [show cn + 1 - (s + 1) = cn - s by omega] at hnx
            cases ht : (tvL f n (codeT (txo f n (fdo f n P (some s) 1 1 1))) 200 (fdo f n P (some s) 2 1 1) z).2 with
            | false =>
              rw [ht] at htv
              have hn2 := fun x8 x9 => ih (k + 1) (nnF f n P (sT 7) (s + 1) (cn - s)) (tvL f n (codeT (txo f n (fdo f n P (some s) 1 1 1))) 200 (fdo f n P (some s) 2 1 1) z).1 false x8 x9 (by omega) hnb (tvL_le _ _ _ hz12)
              refine zr_iload i_Hosp_measure_60 rfl ?_
              refine zn_bipush 8 i_Hosp_measure_62 (by decide) ?_
              refine zn_icmp_ge 152 i_Hosp_measure_64 (by decide) (by omega) (by omega) (fun q => absurd q (by omega)) (fun c_64 => ?_)
              refine zr_iload i_Hosp_measure_67 rfl ?_
              refine zr_iconst i_Hosp_measure_69 (v := (-1)) (by decide) ?_
              refine zr_icmp_eq 152 i_Hosp_measure_70 (by decide) (fun q => absurd q hne) (fun c_70 => ?_)
              refine zr_aload_n i_Hosp_measure_73 rfl ?_
              refine zr_iload i_Hosp_measure_74 rfl ?_
              refine zr_cv1 i_Hosp_measure_76 rfl (by decide) (zrcv_of hM2.1) (Nat.le_of_ble_eq_true rfl) (Nat.le_of_ble_eq_true rfl) (hco) ?_
              refine zr_istore i_Hosp_measure_79 rfl ?_
              refine zr_aload_n i_Hosp_measure_81 rfl ?_
              refine zr_iload i_Hosp_measure_82 rfl ?_
              refine zr_iconst i_Hosp_measure_84 (v := 2) (by decide) ?_
              refine zr_iconst i_Hosp_measure_85 (v := 1) (by decide) ?_
              refine zr_iconst i_Hosp_measure_86 (v := 1) (by decide) ?_
              refine zr_cv4 i_Hosp_measure_87 rfl (by decide) (zrcv_of hM2.1) (Nat.le_of_ble_eq_true rfl) (Nat.le_of_ble_eq_true rfl) (hf2) ?_
              refine zr_istore i_Hosp_measure_90 rfl ?_
              refine zr_iload i_Hosp_measure_92 rfl ?_
              refine zr_iconst i_Hosp_measure_94 (v := (-1)) (by decide) ?_
              refine zr_icmp_eq 107 i_Hosp_measure_95 (by decide) (fun q => absurd q hcd) (fun c_95 => ?_)
              refine zr_aload_n i_Hosp_measure_98 rfl ?_
              refine zr_iload i_Hosp_measure_99 rfl ?_
              refine zr_cs2 i_Hosp_measure_101 rfl (by decide) (Nat.le_of_ble_eq_true rfl) (Nat.le_of_ble_eq_true rfl) (hav) ?_
              refine zB_if_ne 110 i_Hosp_measure_104 (by decide) (fun _ => ?_) (fun q => absurd q (by decide))
              refine zr_iload i_Hosp_measure_110 rfl ?_
              refine zB_if_eq 131 i_Hosp_measure_112 (by decide) (fun q => absurd q (by decide)) (fun _ => ?_)
              refine zr_aload_n i_Hosp_measure_115 rfl ?_
              refine zr_aload_n i_Hosp_measure_116 rfl ?_
              refine zr_iload i_Hosp_measure_117 rfl ?_
              refine zr_iload i_Hosp_measure_119 rfl ?_
              refine zr_cv3 i_Hosp_measure_121 rfl (by decide) (zrcv_of ((meS_ne (by decide) (by decide) (by decide)).trans hT)) (Nat.le_of_ble_eq_true rfl) (Nat.le_of_ble_eq_true rfl) htv ?_
              refine zB_if_eq 131 i_Hosp_measure_124 (by decide) (fun _ => ?_) (fun q => absurd q (by decide))
              refine zn_iconst 0 i_Hosp_measure_131 (by decide) ?_
              refine zr_istore i_Hosp_measure_132 rfl ?_
              refine zr_aload_n i_Hosp_measure_134 rfl ?_
              refine zr_ldc i_Hosp_measure_135 rfl ?_
              refine zr_iload i_Hosp_measure_137 rfl ?_
              refine zr_top (y := nI s) rfl ?_
              refine zn_iconst 1 i_Hosp_measure_139 (by decide) ?_
              refine zn_iadd i_Hosp_measure_140 ?_
              refine zr_cv2 i_Hosp_measure_141 rfl (by decide) (zrcv_of hM3.1) (Nat.le_of_ble_eq_true rfl) (Nat.le_of_ble_eq_true rfl) hnx ?_
              refine zr_istore i_Hosp_measure_144 rfl ?_
              refine zn_iinc i_Hosp_measure_146 rfl rfl ?_
              refine zr_goto 60 i_Hosp_measure_149 (by decide) ?_
              exact hn2 _ _
            | true =>
              rw [ht] at htv
              have hn2 := fun x8 x9 => ih (k + 1) (nnF f n P (sT 7) (s + 1) (cn - s)) (tvL f n (codeT (txo f n (fdo f n P (some s) 1 1 1))) 200 (fdo f n P (some s) 2 1 1) z).1 true x8 x9 (by omega) hnb (tvL_le _ _ _ hz12)
              refine zr_iload i_Hosp_measure_60 rfl ?_
              refine zn_bipush 8 i_Hosp_measure_62 (by decide) ?_
              refine zn_icmp_ge 152 i_Hosp_measure_64 (by decide) (by omega) (by omega) (fun q => absurd q (by omega)) (fun c_64 => ?_)
              refine zr_iload i_Hosp_measure_67 rfl ?_
              refine zr_iconst i_Hosp_measure_69 (v := (-1)) (by decide) ?_
              refine zr_icmp_eq 152 i_Hosp_measure_70 (by decide) (fun q => absurd q hne) (fun c_70 => ?_)
              refine zr_aload_n i_Hosp_measure_73 rfl ?_
              refine zr_iload i_Hosp_measure_74 rfl ?_
              refine zr_cv1 i_Hosp_measure_76 rfl (by decide) (zrcv_of hM2.1) (Nat.le_of_ble_eq_true rfl) (Nat.le_of_ble_eq_true rfl) (hco) ?_
              refine zr_istore i_Hosp_measure_79 rfl ?_
              refine zr_aload_n i_Hosp_measure_81 rfl ?_
              refine zr_iload i_Hosp_measure_82 rfl ?_
              refine zr_iconst i_Hosp_measure_84 (v := 2) (by decide) ?_
              refine zr_iconst i_Hosp_measure_85 (v := 1) (by decide) ?_
              refine zr_iconst i_Hosp_measure_86 (v := 1) (by decide) ?_
              refine zr_cv4 i_Hosp_measure_87 rfl (by decide) (zrcv_of hM2.1) (Nat.le_of_ble_eq_true rfl) (Nat.le_of_ble_eq_true rfl) (hf2) ?_
              refine zr_istore i_Hosp_measure_90 rfl ?_
              refine zr_iload i_Hosp_measure_92 rfl ?_
              refine zr_iconst i_Hosp_measure_94 (v := (-1)) (by decide) ?_
              refine zr_icmp_eq 107 i_Hosp_measure_95 (by decide) (fun q => absurd q hcd) (fun c_95 => ?_)
              refine zr_aload_n i_Hosp_measure_98 rfl ?_
              refine zr_iload i_Hosp_measure_99 rfl ?_
              refine zr_cs2 i_Hosp_measure_101 rfl (by decide) (Nat.le_of_ble_eq_true rfl) (Nat.le_of_ble_eq_true rfl) (hav) ?_
              refine zB_if_ne 110 i_Hosp_measure_104 (by decide) (fun _ => ?_) (fun q => absurd q (by decide))
              refine zr_iload i_Hosp_measure_110 rfl ?_
              refine zB_if_eq 131 i_Hosp_measure_112 (by decide) (fun q => absurd q (by decide)) (fun _ => ?_)
              refine zr_aload_n i_Hosp_measure_115 rfl ?_
              refine zr_aload_n i_Hosp_measure_116 rfl ?_
              refine zr_iload i_Hosp_measure_117 rfl ?_
              refine zr_iload i_Hosp_measure_119 rfl ?_
              refine zr_cv3 i_Hosp_measure_121 rfl (by decide) (zrcv_of ((meS_ne (by decide) (by decide) (by decide)).trans hT)) (Nat.le_of_ble_eq_true rfl) (Nat.le_of_ble_eq_true rfl) htv ?_
              refine zB_if_eq 131 i_Hosp_measure_124 (by decide) (fun q => absurd q (by decide)) (fun _ => ?_)
              refine zn_iconst 1 i_Hosp_measure_127 (by decide) ?_
              refine zr_goto 132 i_Hosp_measure_128 (by decide) ?_
              refine zr_istore i_Hosp_measure_132 rfl ?_
              refine zr_aload_n i_Hosp_measure_134 rfl ?_
              refine zr_ldc i_Hosp_measure_135 rfl ?_
              refine zr_iload i_Hosp_measure_137 rfl ?_
              refine zr_top (y := nI s) rfl ?_
              refine zn_iconst 1 i_Hosp_measure_139 (by decide) ?_
              refine zn_iadd i_Hosp_measure_140 ?_
              refine zr_cv2 i_Hosp_measure_141 rfl (by decide) (zrcv_of hM3.1) (Nat.le_of_ble_eq_true rfl) (Nat.le_of_ble_eq_true rfl) hnx ?_
              refine zr_istore i_Hosp_measure_144 rfl ?_
              refine zn_iinc i_Hosp_measure_146 rfl rfl ?_
              refine zr_goto 60 i_Hosp_measure_149 (by decide) ?_
              exact hn2 _ _
