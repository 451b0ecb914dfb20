/-! THE CLASS: measuring; taking a message -/
theorem n_Hosp_measure (X : zX) (d : Nat) (h : zH) (oc : Nat → Int32) (pt : Nat → Option Nat) (hH : isHo h oc pt) (p : Nat) (h1 : 1 ≤ p) (h2 : p ≤ 99) (a : Nat) (hp : pt p = none) : zR X (d + 6) 59 0 (zent 10 [.ref 104, .ref a, .int (nI p)]) [] h (some (.int (nI 13)), h) := by
  have hfi : zR X (d + 5) 50 0 (zent 2 [.ref 104, .int (nI p)]) [] h (some .null, h) := by
    have e := e_Hosp_find X (d + 5) h oc pt hH (nI p)
    rw [fndP_in h1 h2, hp] at e
    exact e
  refine zr_aload_n i_Hosp_measure_0 rfl ?_
  refine zr_iload_n i_Hosp_measure_1 rfl ?_
  refine zr_cv1 i_Hosp_measure_2 rfl (by decide) (zrcv_of hH.1) (Nat.le_of_ble_eq_true rfl) (Nat.le_of_ble_eq_true rfl) (hfi) ?_
  refine zr_aNstore_n i_Hosp_measure_5 rfl ?_
  refine zr_aloadN_n i_Hosp_measure_6 rfl ?_
  refine zr_ifnullN 18 i_Hosp_measure_7 (by decide) ?_
  refine zr_bipush i_Hosp_measure_18 (v := 13) (by decide) ?_
  exact zR.retE i_Hosp_measure_20 rfl rfl
theorem o_Hosp_measure (X : zX) (d : Nat) (h : zH) (oc : Nat → Int32) (pt : Nat → Option Nat) (hH : isHo h oc pt) (p : Nat) (h1 : 1 ≤ p) (h2 : p ≤ 99) (a b : Nat) (hp : pt p = some b) (hB : h.2.2 b = some (paO b (-1))) : zR X (d + 6) 59 0 (zent 10 [.ref 104, .ref a, .int (nI p)]) [] h (some (.int (nI 13)), h) := by
  have hfi : zR X (d + 5) 50 0 (zent 2 [.ref 104, .int (nI p)]) [] h (some (.ref b), h) := by
    have e := e_Hosp_find X (d + 5) h oc pt hH (nI p)
    rw [fndP_in h1 h2, hp] at e
    exact e
  refine zr_aload_n i_Hosp_measure_0 rfl ?_
  refine zr_iload_n i_Hosp_measure_1 rfl ?_
  refine zr_cv1 i_Hosp_measure_2 rfl (by decide) (zrcv_of hH.1) (Nat.le_of_ble_eq_true rfl) (Nat.le_of_ble_eq_true rfl) (hfi) ?_
  refine zr_astore_n i_Hosp_measure_5 rfl ?_
  refine zr_aload_n i_Hosp_measure_6 rfl ?_
  refine zr_ifnull i_Hosp_measure_7 ?_
  refine zr_aload_n i_Hosp_measure_10 rfl ?_
  refine zr_getf i_Hosp_measure_11 hB rfl rfl ?_
  refine zr_iconst i_Hosp_measure_14 (v := (-1)) (by decide) ?_
  refine zr_icmp_ne 21 i_Hosp_measure_15 (by decide) (fun q => absurd rfl q) (fun c_15 => ?_)
  refine zr_bipush i_Hosp_measure_18 (v := 13) (by decide) ?_
  exact zR.retE i_Hosp_measure_20 rfl rfl
theorem k_Hosp_measure (X : zX) (d : Nat) (h : zH) (oc : Nat → Int32) (pt : Nat → Option Nat) (hH : isHo h oc pt) (p : Nat) (h1 : 1 ≤ p) (h2 : p ≤ 99) (a b k0 : Nat) (hb : 156 ≤ b) (hB : h.2.2 b = some (paO b (nI k0))) (qp : zMe) (hQp : isMe h (b + 5) qp) (bb : Bool) (o : Option Nat) (k : Nat) (z : zMe) (ft : Bool) (x8 x9 : Option Value) (hz12 : z.1 ≤ 12) : zR X (d + 6) 59 152 [some (.ref 104), some (.ref a), some (.int (nI p)), some (.ref b), some (.int (tI o)), some (.int (zb bb)), some (.int (zb ft)), some (.int (nI k)), x8, x9] [] (meS h 107 z) ((fun (t : Bool) (z : zMe) => if bb = false then (some (Value.int (nI 17)), meS h 107 z) else if t = false then (some (Value.int (nI 18)), meS h 107 z) else (some (Value.int (nI 0)), meS (meS h 107 z) (b + 5) (cpR qp z))) ft z) := by
  show zR _ _ _ _ _ _ _ (if bb = false then (some (Value.int (nI 17)), meS h 107 z) else if ft = false then (some (Value.int (nI 18)), meS h 107 z) else (some (Value.int (nI 0)), meS (meS h 107 z) (b + 5) (cpR qp z)))
  cases bb with
  | false =>
    rw [if_pos rfl]
    refine zr_iload i_Hosp_measure_152 rfl ?_
    refine zB_if_ne 160 i_Hosp_measure_154 (by decide) (fun q => absurd q (by decide)) (fun _ => ?_)
    refine zr_bipush i_Hosp_measure_157 (v := 17) (by decide) ?_
    exact zR.retE i_Hosp_measure_159 rfl rfl
  | true =>
    rw [if_neg (by decide)]
    cases ft with
    | false =>
      rw [if_pos rfl]
      refine zr_iload i_Hosp_measure_152 rfl ?_
      refine zB_if_ne 160 i_Hosp_measure_154 (by decide) (fun _ => ?_) (fun q => absurd q (by decide))
      refine zr_iload i_Hosp_measure_160 rfl ?_
      refine zB_if_ne 168 i_Hosp_measure_162 (by decide) (fun q => absurd q (by decide)) (fun _ => ?_)
      refine zr_bipush i_Hosp_measure_165 (v := 18) (by decide) ?_
      exact zR.retE i_Hosp_measure_167 rfl rfl
    | true =>
      rw [if_neg (by decide)]
      have hQ2 : isMe (meS h 107 z) (b + 5) qp := ⟨(meS_ne (by omega) (by omega) (by omega)).trans hQp.1, (meS_ne (by omega) (by omega) (by omega)).trans hQp.2.1, (meS_ne (by omega) (by omega) (by omega)).trans hQp.2.2⟩
      have hcp := e_Meas_copyFrom X (d + 5) (meS h 107 z) (b + 5) 107 ⟨by omega, by omega, by omega, by omega, by omega, by omega, by omega⟩ qp.1 qp.2.1 qp.2.2 z (meS_is z) hz12
      rw [show meS (meS h 107 z) (b + 5) (qp.1, qp.2.1, qp.2.2) = meS h 107 z from meS_self hQ2] at hcp
      refine zr_iload i_Hosp_measure_152 rfl ?_
      refine zB_if_ne 160 i_Hosp_measure_154 (by decide) (fun _ => ?_) (fun q => absurd q (by decide))
      refine zr_iload i_Hosp_measure_160 rfl ?_
      refine zB_if_ne 168 i_Hosp_measure_162 (by decide) (fun _ => ?_) (fun q => absurd q (by decide))
      refine zr_aload_n i_Hosp_measure_168 rfl ?_
      refine zr_getf i_Hosp_measure_169 ((meS_ne (by omega) (by omega) (by omega)).trans hB) rfl rfl ?_
      refine zr_aload_n i_Hosp_measure_172 rfl ?_
      refine zr_getf i_Hosp_measure_173 ((meS_ne (by decide) (by decide) (by decide)).trans hH.1) rfl rfl ?_
      refine zr_cv10 i_Hosp_measure_176 rfl (by decide) (zrcv_of hQ2.1) (Nat.le_of_ble_eq_true rfl) (Nat.le_of_ble_eq_true rfl) (hcp) ?_
      refine zr_iconst i_Hosp_measure_179 (v := 0) (by decide) ?_
      exact zR.retE i_Hosp_measure_180 rfl rfl
theorem e_Hosp_measure (X : zX) (d : Nat) (h : zH) (oc : Nat → Int32) (pt : Nat → Option Nat) (hH : isHo h oc pt) (p : Nat) (h1 : 1 ≤ p) (h2 : p ≤ 99) (hX : X.2.2.category = 1) (hz : zlow h) (a : Nat) (ha : 110 ≤ a) (ha2 : a < 130) (f : Nat → Int32) (n : Nat) (st : Nat → Int32) (cn : Nat) (hM : isM h a f n st cn) (hn : n ≤ 200) (P : Nat → Nat) (hP : ∀ s, 1 ≤ s → s ≤ cn → st (s - 1) = nI (P s) ∧ P s ≤ n) (hcn : cn ≤ 8) (b k0 : Nat) (hb : 156 ≤ b) (hk0 : k0 < 32) (hp : pt p = some b) (hB : h.2.2 b = some (paO b (nI k0))) (qp qt : zMe) (hQp : isMe h (b + 5) qp) (hQ : isMe h 107 qt) (hq1 : qp.1 ≤ 12) (hq2 : qt.1 ≤ 12) : zR X (d + 6) 59 0 (zent 10 [.ref 104, .ref a, .int (nI p)]) [] h (match (meaL f n P cn 8 (nnF f n P (sT 7) 1 cn) (cpR qt qp) true).2 with | none => (some (.int (nI 17)), meS h 107 (meaL f n P cn 8 (nnF f n P (sT 7) 1 cn) (cpR qt qp) true).1) | some t => if (nnF f n P (sT 7) 1 cn) = none then (some (.int (nI 17)), meS h 107 (meaL f n P cn 8 (nnF f n P (sT 7) 1 cn) (cpR qt qp) true).1) else if t = false then (some (.int (nI 18)), meS h 107 (meaL f n P cn 8 (nnF f n P (sT 7) 1 cn) (cpR qt qp) true).1) else (some (.int (nI 0)), meS (meS h 107 (meaL f n P cn 8 (nnF f n P (sT 7) 1 cn) (cpR qt qp) true).1) (b + 5) (cpR qp (meaL f n P cn 8 (nnF f n P (sT 7) 1 cn) (cpR qt qp) true).1))) := by
  have hfi : zR X (d + 5) 50 0 (zent 2 [.ref 104, .int (nI p)]) [] h (some (.ref b), h) := by
    have e := e_Hosp_find X (d + 5) h oc pt hH (nI p)
    rw [fndP_in h1 h2, hp] at e
    exact e
  have hc1 := e_Meas_copyFrom X (d + 5) h 107 (b + 5) ⟨by omega, by omega, by omega, by omega, by omega, by omega, by omega⟩ qt.1 qt.2.1 qt.2.2 qp hQp hq1
  rw [show meS h 107 (qt.1, qt.2.1, qt.2.2) = h from meS_self hQ] at hc1
  have hM2 : isM (meS h 107 (cpR qt qp)) a f n st cn := isM_me hM (fun i hi => by omega)
  have hnx := e_Mess_nextNamed X d hX (meS h 107 (cpR qt qp)) (meS_low hz (by decide)) a f n st cn hM2 hn P hP hcn 7 ⟨by decide, by decide⟩ (by decide) 1 (by decide) (by omega)
  rw [show cn + 1 - 1 = cn by omega] at hnx
  have hob : ∀ s, (nnF f n P (sT 7) 1 cn) = some s → 1 ≤ s ∧ s ≤ cn := fun s hs => by have := nnF_b s hs; omega
  have hl := fun bb => l_Hosp_measure X d h hX hz a ha ha2 f n st cn hM hn P hP hcn hH.1 b (nI p) bb (fun (t : Bool) (z : zMe) => if bb = false then (some (Value.int (nI 17)), meS h 107 z) else if t = false then (some (Value.int (nI 18)), meS h 107 z) else (some (Value.int (nI 0)), meS (meS h 107 z) (b + 5) (cpR qp z))) (fun o k z ft x8 x9 hz12 => k_Hosp_measure X d h oc pt hH p h1 h2 a b k0 hb hB qp hQp bb o k z ft x8 x9 hz12) 8 0 (nnF f n P (sT 7) 1 cn) (cpR qt qp) true none none (by omega) hob hq1
  cases ho : (nnF f n P (sT 7) 1 cn) with
  | none =>
    have hl0 := hl false
    rw [ho] at hl0 hnx
    have hfin : (match (meaL f n P cn 8 none (cpR qt qp) true).2 with | none => (some (Value.int (nI 17)), meS h 107 (meaL f n P cn 8 none (cpR qt qp) true).1) | some t => if (none : Option Nat) = none then (some (Value.int (nI 17)), meS h 107 (meaL f n P cn 8 none (cpR qt qp) true).1) else if t = false then (some (Value.int (nI 18)), meS h 107 (meaL f n P cn 8 none (cpR qt qp) true).1) else (some (Value.int (nI 0)), meS (meS h 107 (meaL f n P cn 8 none (cpR qt qp) true).1) (b + 5) (cpR qp (meaL f n P cn 8 none (cpR qt qp) true).1))) = (some (Value.int (nI 17)), meS h 107 (cpR qt qp)) := rfl
    rw [hfin]
    have hl1 : zR X (d + 6) 59 60 _ [] (meS h 107 (cpR qt qp)) (some (Value.int (nI 17)), meS h 107 (cpR qt qp)) := hl0
    refine zr_aload_n i_Hosp_measure_0 rfl ?_
    refine zr_iload_n i_Hosp_measure_1 rfl ?_
    refine zr_cv1 i_Hosp_measure_2 rfl (by decide) (zrcv_of hH.1) (Nat.le_of_ble_eq_true rfl) (Nat.le_of_ble_eq_true rfl) (hfi) ?_
    refine zr_astore_n i_Hosp_measure_5 rfl ?_
    refine zr_aload_n i_Hosp_measure_6 rfl ?_
    refine zr_ifnull i_Hosp_measure_7 ?_
    refine zr_aload_n i_Hosp_measure_10 rfl ?_
    refine zr_getf i_Hosp_measure_11 hB rfl rfl ?_
    refine zr_iconst i_Hosp_measure_14 (v := (-1)) (by decide) ?_
    refine zr_icmp_ne 21 i_Hosp_measure_15 (by decide) (fun c_15 => ?_) (fun q => absurd q (nI_neg1 (by omega)))
    refine zr_aload_n i_Hosp_measure_21 rfl ?_
    refine zr_getf i_Hosp_measure_22 hH.1 rfl rfl ?_
    refine zr_aload_n i_Hosp_measure_25 rfl ?_
    refine zr_getf i_Hosp_measure_26 hB rfl rfl ?_
    refine zr_cv10 i_Hosp_measure_29 rfl (by decide) (zrcv_of hQ.1) (Nat.le_of_ble_eq_true rfl) (Nat.le_of_ble_eq_true rfl) (hc1) ?_
    refine zr_aload_n i_Hosp_measure_32 rfl ?_
    refine zr_ldc i_Hosp_measure_33 rfl ?_
    refine zn_iconst 1 i_Hosp_measure_35 (by decide) ?_
    refine zr_cv2 i_Hosp_measure_36 rfl (by decide) (zrcv_of hM2.1) (Nat.le_of_ble_eq_true rfl) (Nat.le_of_ble_eq_true rfl) hnx ?_
    refine zr_istore i_Hosp_measure_39 rfl ?_
    refine zr_iload i_Hosp_measure_41 rfl ?_
    refine zr_iconst i_Hosp_measure_43 (v := (-1)) (by decide) ?_
    refine zr_icmp_eq 51 i_Hosp_measure_44 (by decide) (fun c_44 => ?_) (fun q => absurd rfl q)
    refine zr_iconst i_Hosp_measure_51 (v := 0) (by decide) ?_
    refine zr_istore i_Hosp_measure_52 rfl ?_
    refine zr_iconst i_Hosp_measure_54 (v := 1) (by decide) ?_
    refine zr_istore i_Hosp_measure_55 rfl ?_
    refine zn_iconst 0 i_Hosp_measure_57 (by decide) ?_
    refine zr_istore i_Hosp_measure_58 rfl ?_
    exact hl1
  | some s =>
    have hl0 := hl true
    rw [ho] at hl0 hnx
    have hsb := (hob s ho)
    have hfin : ∀ (r : zMe × Option Bool), (match r.2 with | none => (some (Value.int (nI 17)), meS h 107 r.1) | some t => if (some s : Option Nat) = none then (some (Value.int (nI 17)), meS h 107 r.1) else if t = false then (some (Value.int (nI 18)), meS h 107 r.1) else (some (Value.int (nI 0)), meS (meS h 107 r.1) (b + 5) (cpR qp r.1))) = (match r.2 with | none => (some (Value.int (nI 17)), meS h 107 r.1) | some t => if (true : Bool) = false then (some (Value.int (nI 17)), meS h 107 r.1) else if t = false then (some (Value.int (nI 18)), meS h 107 r.1) else (some (Value.int (nI 0)), meS (meS h 107 r.1) (b + 5) (cpR qp r.1))) := by
      intro r
      cases r.2 with
      | none => rfl
      | some t => dsimp only; rw [if_neg (show ¬ (some s : Option Nat) = none by simp), if_neg (show ¬ (true : Bool) = false by decide)]
    rw [hfin]
    refine zr_aload_n i_Hosp_measure_0 rfl ?_
    refine zr_iload_n i_Hosp_measure_1 rfl ?_
    refine zr_cv1 i_Hosp_measure_2 rfl (by decide) (zrcv_of hH.1) (Nat.le_of_ble_eq_true rfl) (Nat.le_of_ble_eq_true rfl) (hfi) ?_
    refine zr_astore_n i_Hosp_measure_5 rfl ?_
    refine zr_aload_n i_Hosp_measure_6 rfl ?_
    refine zr_ifnull i_Hosp_measure_7 ?_
    refine zr_aload_n i_Hosp_measure_10 rfl ?_
    refine zr_getf i_Hosp_measure_11 hB rfl rfl ?_
    refine zr_iconst i_Hosp_measure_14 (v := (-1)) (by decide) ?_
    refine zr_icmp_ne 21 i_Hosp_measure_15 (by decide) (fun c_15 => ?_) (fun q => absurd q (nI_neg1 (by omega)))
    refine zr_aload_n i_Hosp_measure_21 rfl ?_
    refine zr_getf i_Hosp_measure_22 hH.1 rfl rfl ?_
    refine zr_aload_n i_Hosp_measure_25 rfl ?_
    refine zr_getf i_Hosp_measure_26 hB rfl rfl ?_
    refine zr_cv10 i_Hosp_measure_29 rfl (by decide) (zrcv_of hQ.1) (Nat.le_of_ble_eq_true rfl) (Nat.le_of_ble_eq_true rfl) (hc1) ?_
    refine zr_aload_n i_Hosp_measure_32 rfl ?_
    refine zr_ldc i_Hosp_measure_33 rfl ?_
    refine zn_iconst 1 i_Hosp_measure_35 (by decide) ?_
    refine zr_cv2 i_Hosp_measure_36 rfl (by decide) (zrcv_of hM2.1) (Nat.le_of_ble_eq_true rfl) (Nat.le_of_ble_eq_true rfl) hnx ?_
    refine zr_istore i_Hosp_measure_39 rfl ?_
    refine zr_iload i_Hosp_measure_41 rfl ?_
    refine zr_iconst i_Hosp_measure_43 (v := (-1)) (by decide) ?_
    refine zr_icmp_eq 51 i_Hosp_measure_44 (by decide) (fun q => absurd q (nI_neg1 (w := s) (by omega))) (fun c_44 => ?_)
    refine zr_iconst i_Hosp_measure_47 (v := 1) (by decide) ?_
    refine zr_goto 52 i_Hosp_measure_48 (by decide) ?_
    refine zr_istore i_Hosp_measure_52 rfl ?_
    refine zr_iconst i_Hosp_measure_54 (v := 1) (by decide) ?_
    refine zr_istore i_Hosp_measure_55 rfl ?_
    refine zn_iconst 0 i_Hosp_measure_57 (by decide) ?_
    refine zr_istore i_Hosp_measure_58 rfl ?_
    exact hl0
theorem i_Hosp_take_0 : zins 46 0 = some (.aload_n 1) := by decide +kernel
theorem i_Hosp_take_1 : zins 46 1 = some (.invokevirtual 28) := by decide +kernel
theorem i_Hosp_take_4 : zins 46 4 = some (.astore_n 2) := by decide +kernel
theorem i_Hosp_take_5 : zins 46 5 = some (.aload_n 2) := by decide +kernel
theorem i_Hosp_take_6 : zins 46 6 = some (.ifnonnull 6) := by decide +kernel
theorem i_Hosp_take_9 : zins 46 9 = some (.bipush 6) := by decide +kernel
theorem i_Hosp_take_11 : zins 46 11 = some (.ireturn) := by decide +kernel
theorem i_Hosp_take_12 : zins 46 12 = some (.aload_n 1) := by decide +kernel
theorem i_Hosp_take_13 : zins 46 13 = some (.ldc 34) := by decide +kernel
theorem i_Hosp_take_15 : zins 46 15 = some (.iconst 1) := by decide +kernel
theorem i_Hosp_take_16 : zins 46 16 = some (.invokevirtual 36) := by decide +kernel
theorem i_Hosp_take_19 : zins 46 19 = some (.istore_n 3) := by decide +kernel
theorem i_Hosp_take_20 : zins 46 20 = some (.aload_n 1) := by decide +kernel
theorem i_Hosp_take_21 : zins 46 21 = some (.iload_n 3) := by decide +kernel
theorem i_Hosp_take_22 : zins 46 22 = some (.invokestatic 40) := by decide +kernel
theorem i_Hosp_take_25 : zins 46 25 = some (.istore 4) := by decide +kernel
theorem i_Hosp_take_27 : zins 46 27 = some (.iload 4) := by decide +kernel
theorem i_Hosp_take_29 : zins 46 29 = some (.iconst (-1)) := by decide +kernel
theorem i_Hosp_take_30 : zins 46 30 = some (.if_icmp .ne 6) := by decide +kernel
theorem i_Hosp_take_33 : zins 46 33 = some (.bipush 11) := by decide +kernel
theorem i_Hosp_take_35 : zins 46 35 = some (.ireturn) := by decide +kernel
theorem i_Hosp_take_36 : zins 46 36 = some (.aload_n 1) := by decide +kernel
theorem i_Hosp_take_37 : zins 46 37 = some (.invokestatic 44) := by decide +kernel
theorem i_Hosp_take_40 : zins 46 40 = some (.istore 5) := by decide +kernel
theorem i_Hosp_take_42 : zins 46 42 = some (.getstatic 48) := by decide +kernel
theorem i_Hosp_take_45 : zins 46 45 = some (.aload_n 2) := by decide +kernel
theorem i_Hosp_take_46 : zins 46 46 = some (.invokevirtual 53) := by decide +kernel
theorem i_Hosp_take_49 : zins 46 49 = some (.iaload) := by decide +kernel
theorem i_Hosp_take_50 : zins 46 50 = some (.tableswitch 66 1 4 #[30, 41, 50, 57]) := by decide +kernel
theorem i_Hosp_take_80 : zins 46 80 = some (.aload_n 0) := by decide +kernel
theorem i_Hosp_take_81 : zins 46 81 = some (.aload_n 1) := by decide +kernel
theorem i_Hosp_take_82 : zins 46 82 = some (.iload_n 3) := by decide +kernel
theorem i_Hosp_take_83 : zins 46 83 = some (.iload 4) := by decide +kernel
theorem i_Hosp_take_85 : zins 46 85 = some (.iload 5) := by decide +kernel
theorem i_Hosp_take_87 : zins 46 87 = some (.invokevirtual 59) := by decide +kernel
theorem i_Hosp_take_90 : zins 46 90 = some (.ireturn) := by decide +kernel
theorem i_Hosp_take_91 : zins 46 91 = some (.aload_n 0) := by decide +kernel
theorem i_Hosp_take_92 : zins 46 92 = some (.iload 4) := by decide +kernel
theorem i_Hosp_take_94 : zins 46 94 = some (.iload 5) := by decide +kernel
theorem i_Hosp_take_96 : zins 46 96 = some (.invokevirtual 63) := by decide +kernel
theorem i_Hosp_take_99 : zins 46 99 = some (.ireturn) := by decide +kernel
theorem i_Hosp_take_100 : zins 46 100 = some (.aload_n 0) := by decide +kernel
theorem i_Hosp_take_101 : zins 46 101 = some (.iload 4) := by decide +kernel
theorem i_Hosp_take_103 : zins 46 103 = some (.invokevirtual 67) := by decide +kernel
theorem i_Hosp_take_106 : zins 46 106 = some (.ireturn) := by decide +kernel
theorem i_Hosp_take_107 : zins 46 107 = some (.aload_n 0) := by decide +kernel
theorem i_Hosp_take_108 : zins 46 108 = some (.aload_n 1) := by decide +kernel
theorem i_Hosp_take_109 : zins 46 109 = some (.iload_n 3) := by decide +kernel
theorem i_Hosp_take_110 : zins 46 110 = some (.iload 4) := by decide +kernel
theorem i_Hosp_take_112 : zins 46 112 = some (.invokevirtual 71) := by decide +kernel
theorem i_Hosp_take_115 : zins 46 115 = some (.ireturn) := by decide +kernel
theorem i_Hosp_take_116 : zins 46 116 = some (.aload_n 0) := by decide +kernel
theorem i_Hosp_take_117 : zins 46 117 = some (.aload_n 1) := by decide +kernel
theorem i_Hosp_take_118 : zins 46 118 = some (.iload 4) := by decide +kernel
theorem i_Hosp_take_120 : zins 46 120 = some (.invokevirtual 75) := by decide +kernel
theorem i_Hosp_take_123 : zins 46 123 = some (.ireturn) := by decide +kernel
theorem t6_Hosp_take (X : zX) (d : Nat) (h : zH) (hX : X.2.2.category = 1) (hz : zlow h) (a : Nat) (f : Nat → Int32) (n : Nat) (st : Nat → Int32) (cn : Nat) (hM : isM h a f n st cn) (hn : n ≤ 200) (P : Nat → Nat) (hP : ∀ s, 1 ≤ s → s ≤ cn → st (s - 1) = nI (P s) ∧ P s ≤ n) (hcn : cn ≤ 8) (hc1 : 1 ≤ cn) (hk : (kd0 (txo f n (fdo f n P (some 1) 3 1 1)) (txo f n (fdo f n P (some 1) 3 1 2))) = none) : zR X (d + 7) 46 0 (zent 6 [.ref 104, .ref a]) [] h (some (.int (nI 6)), h) := by
  have h1b : ∀ s, (some 1 : Option Nat) = some s → 1 ≤ s ∧ s ≤ cn := fun s hs => by cases hs; omega
  have h1p : ∀ s, (some 1 : Option Nat) = some s → P s ≤ n := fun s hs => by cases hs; exact (hP 1 (by decide) hc1).2
  have hf1 := e1_Mess_find X (d + 5) h a f n st cn hM hn P hP hcn (some 1) h1b 3 1 1
  have hf2 := e1_Mess_find X (d + 5) h a f n st cn hM hn P hP hcn (some 1) h1b 3 1 2
  have hkd := e_Mess_kind X (d + 1) hX h hz a f n st cn hM hn _ _ (fdo_le (f := f) (F := 3) (R := 1) (C := 1) h1p) (fdo_le (f := f) (F := 3) (R := 1) (C := 2) h1p) hf1 hf2
  rw [hk] at hkd

  have hkd2 : zR X (d + 6) 80 0 (zent 4 [.ref a]) [] h (some .null, h) := hkd
  refine zr_aload_n i_Hosp_take_0 rfl ?_
  refine zr_cv0 i_Hosp_take_1 rfl (by decide) (zrcv_of hM.1) (Nat.le_of_ble_eq_true rfl) (Nat.le_of_ble_eq_true rfl) (hkd2) ?_
  refine zr_aNstore_n i_Hosp_take_4 rfl ?_
  refine zr_aloadN_n i_Hosp_take_5 rfl ?_
  refine zr_ifnonnullN i_Hosp_take_6 ?_
  refine zr_bipush i_Hosp_take_9 (v := 6) (by decide) ?_
  exact zR.retE i_Hosp_take_11 rfl rfl
theorem t11_Hosp_take (X : zX) (d : Nat) (h : zH) (hX : X.2.2.category = 1) (hz : zlow h) (a : Nat) (f : Nat → Int32) (n : Nat) (st : Nat → Int32) (cn : Nat) (hM : isM h a f n st cn) (hn : n ≤ 200) (P : Nat → Nat) (hP : ∀ s, 1 ≤ s → s ≤ cn → st (s - 1) = nI (P s) ∧ P s ≤ n) (hcn : cn ≤ 8) (hc1 : 1 ≤ cn) (g : Nat) (hk : (kd0 (txo f n (fdo f n P (some 1) 3 1 1)) (txo f n (fdo f n P (some 1) 3 1 2))) = some g) (hpe : (pnF (txo f n (fdo f n P (nnF f n P (sT 4) 1 cn) 1 1 1))) = -1) : zR X (d + 7) 46 0 (zent 6 [.ref 104, .ref a]) [] h (some (.int (nI 11)), h) := by
  have h1b : ∀ s, (some 1 : Option Nat) = some s → 1 ≤ s ∧ s ≤ cn := fun s hs => by cases hs; omega
  have h1p : ∀ s, (some 1 : Option Nat) = some s → P s ≤ n := fun s hs => by cases hs; exact (hP 1 (by decide) hc1).2
  have hf1 := e1_Mess_find X (d + 5) h a f n st cn hM hn P hP hcn (some 1) h1b 3 1 1
  have hf2 := e1_Mess_find X (d + 5) h a f n st cn hM hn P hP hcn (some 1) h1b 3 1 2
  have hkd := e_Mess_kind X (d + 1) hX h hz a f n st cn hM hn _ _ (fdo_le (f := f) (F := 3) (R := 1) (C := 1) h1p) (fdo_le (f := f) (F := 3) (R := 1) (C := 2) h1p) hf1 hf2
  rw [hk] at hkd
  have hnx := e_Mess_nextNamed X (d + 1) hX h hz a f n st cn hM hn P hP hcn 4 ⟨by decide, by decide⟩ (by decide) 1 (by decide) (by omega)
  rw [show cn + 1 - 1 = cn by omega] at hnx
  have hpb : ∀ s, (nnF f n P (sT 4) 1 cn) = some s → 1 ≤ s ∧ s ≤ cn := fun s hs => by have := nnF_b s hs; omega
  have hpn := e_Hosp_patientNumber X (d + 4) h a f n st cn hM hn P hP hcn (nnF f n P (sT 4) 1 cn) hpb

  rw [hpe] at hpn
  have hkd2 : zR X (d + 6) 80 0 (zent 4 [.ref a]) [] h (some (.ref g), h) := hkd
  refine zr_aload_n i_Hosp_take_0 rfl ?_
  refine zr_cv0 i_Hosp_take_1 rfl (by decide) (zrcv_of hM.1) (Nat.le_of_ble_eq_true rfl) (Nat.le_of_ble_eq_true rfl) (hkd2) ?_
  refine zr_astore_n i_Hosp_take_4 rfl ?_
  refine zr_aload_n i_Hosp_take_5 rfl ?_
  refine zr_ifnonnull 12 i_Hosp_take_6 (by decide) ?_
  refine zr_aload_n i_Hosp_take_12 rfl ?_
  refine zr_ldc i_Hosp_take_13 rfl ?_
  refine zn_iconst 1 i_Hosp_take_15 (by decide) ?_
  refine zr_cv2 i_Hosp_take_16 rfl (by decide) (zrcv_of hM.1) (Nat.le_of_ble_eq_true rfl) (Nat.le_of_ble_eq_true rfl) (hnx) ?_
  refine zr_istore_n i_Hosp_take_19 rfl ?_
  refine zr_aload_n i_Hosp_take_20 rfl ?_
  refine zr_iload_n i_Hosp_take_21 rfl ?_
  refine zr_cs2 i_Hosp_take_22 rfl (by decide) (Nat.le_of_ble_eq_true rfl) (Nat.le_of_ble_eq_true rfl) (hpn) ?_
  refine zr_istore i_Hosp_take_25 rfl ?_
  refine zr_iload i_Hosp_take_27 rfl ?_
  refine zr_iconst i_Hosp_take_29 (v := (-1)) (by decide) ?_
  refine zr_icmp_ne 36 i_Hosp_take_30 (by decide) (fun q => absurd rfl q) (fun c_30 => ?_)
  refine zr_bipush i_Hosp_take_33 (v := 11) (by decide) ?_
  exact zR.retE i_Hosp_take_35 rfl rfl
theorem t70_Hosp_take (X : zX) (d : Nat) (h : zH) (hX : X.2.2.category = 1) (hz : zlow h) (a : Nat) (f : Nat → Int32) (n : Nat) (st : Nat → Int32) (cn : Nat) (hM : isM h a f n st cn) (hn : n ≤ 200) (P : Nat → Nat) (hP : ∀ s, 1 ≤ s → s ≤ cn → st (s - 1) = nI (P s) ∧ P s ≤ n) (hcn : cn ≤ 8) (hc1 : 1 ≤ cn) (hH : h.2.2 104 = some (.inr (3, [.ref 105, .ref 106, .ref 107]))) (p : Nat) (hp99 : p ≤ 99) (hk : (kd0 (txo f n (fdo f n P (some 1) 3 1 1)) (txo f n (fdo f n P (some 1) 3 1 2))) = some 70) (hpe : (pnF (txo f n (fdo f n P (nnF f n P (sT 4) 1 cn) 1 1 1))) = nI p) (v : Int32) (h' : zH) (hsub : zR X (d + 6) 49 0 (zent 6 [.ref 104, .ref a, .int (tI (nnF f n P (sT 4) 1 cn)), .int (nI p), .int (baF (txo f n (fdo f n P (nnF f n P (sT 5) 1 cn) 1 1 1)) (txo f n (fdo f n P (nnF f n P (sT 5) 1 cn) 1 1 2)))]) [] h (some (.int v), h')) : zR X (d + 7) 46 0 (zent 6 [.ref 104, .ref a]) [] h (some (.int v), h') := by
  have h1b : ∀ s, (some 1 : Option Nat) = some s → 1 ≤ s ∧ s ≤ cn := fun s hs => by cases hs; omega
  have h1p : ∀ s, (some 1 : Option Nat) = some s → P s ≤ n := fun s hs => by cases hs; exact (hP 1 (by decide) hc1).2
  have hf1 := e1_Mess_find X (d + 5) h a f n st cn hM hn P hP hcn (some 1) h1b 3 1 1
  have hf2 := e1_Mess_find X (d + 5) h a f n st cn hM hn P hP hcn (some 1) h1b 3 1 2
  have hkd := e_Mess_kind X (d + 1) hX h hz a f n st cn hM hn _ _ (fdo_le (f := f) (F := 3) (R := 1) (C := 1) h1p) (fdo_le (f := f) (F := 3) (R := 1) (C := 2) h1p) hf1 hf2
  rw [hk] at hkd
  have hnx := e_Mess_nextNamed X (d + 1) hX h hz a f n st cn hM hn P hP hcn 4 ⟨by decide, by decide⟩ (by decide) 1 (by decide) (by omega)
  rw [show cn + 1 - 1 = cn by omega] at hnx
  have hpb : ∀ s, (nnF f n P (sT 4) 1 cn) = some s → 1 ≤ s ∧ s ≤ cn := fun s hs => by have := nnF_b s hs; omega
  have hpn := e_Hosp_patientNumber X (d + 4) h a f n st cn hM hn P hP hcn (nnF f n P (sT 4) 1 cn) hpb

  have hba := e_Hosp_bedAsked X d hX h a f n st cn hM hn P hP hcn hz
  have hkd2 : zR X (d + 6) 80 0 (zent 4 [.ref a]) [] h (some (.ref 70), h) := hkd
  refine zr_aload_n i_Hosp_take_0 rfl ?_
  refine zr_cv0 i_Hosp_take_1 rfl (by decide) (zrcv_of hM.1) (Nat.le_of_ble_eq_true rfl) (Nat.le_of_ble_eq_true rfl) (hkd2) ?_
  refine zr_astore_n i_Hosp_take_4 rfl ?_
  refine zr_aload_n i_Hosp_take_5 rfl ?_
  refine zr_ifnonnull 12 i_Hosp_take_6 (by decide) ?_
  refine zr_aload_n i_Hosp_take_12 rfl ?_
  refine zr_ldc i_Hosp_take_13 rfl ?_
  refine zn_iconst 1 i_Hosp_take_15 (by decide) ?_
  refine zr_cv2 i_Hosp_take_16 rfl (by decide) (zrcv_of hM.1) (Nat.le_of_ble_eq_true rfl) (Nat.le_of_ble_eq_true rfl) (hnx) ?_
  refine zr_istore_n i_Hosp_take_19 rfl ?_
  refine zr_aload_n i_Hosp_take_20 rfl ?_
  refine zr_iload_n i_Hosp_take_21 rfl ?_
  refine zr_cs2 i_Hosp_take_22 rfl (by decide) (Nat.le_of_ble_eq_true rfl) (Nat.le_of_ble_eq_true rfl) (hpn) ?_
  refine zr_top (y := nI p) hpe ?_
  refine zr_istore i_Hosp_take_25 rfl ?_
  refine zr_iload i_Hosp_take_27 rfl ?_
  refine zr_iconst i_Hosp_take_29 (v := (-1)) (by decide) ?_
  refine zr_icmp_ne 36 i_Hosp_take_30 (by decide) (fun c_30 => ?_) (fun q => absurd q (nI_neg1 (by omega)))
  refine zr_aload_n i_Hosp_take_36 rfl ?_
  refine zr_cs1 i_Hosp_take_37 rfl (by decide) (Nat.le_of_ble_eq_true rfl) (Nat.le_of_ble_eq_true rfl) (hba) ?_
  refine zr_istore i_Hosp_take_40 rfl ?_
  refine zr_gets i_Hosp_take_42 rfl ?_
  refine zr_aload_n i_Hosp_take_45 rfl ?_
  refine zr_ord i_Hosp_take_46 rfl rfl rfl (Nat.le_of_ble_eq_true rfl) ?_
  refine zr_ialoadK i_Hosp_take_49 (hz 76 (by decide)) rfl (by decide) ?_
  refine zr_tabIn 80 i_Hosp_take_50 (by decide) rfl (by decide) ?_
  refine zr_aload_n i_Hosp_take_80 rfl ?_
  refine zr_aload_n i_Hosp_take_81 rfl ?_
  refine zr_iload_n i_Hosp_take_82 rfl ?_
  refine zr_iload i_Hosp_take_83 rfl ?_
  refine zr_iload i_Hosp_take_85 rfl ?_
  refine zr_cv4 i_Hosp_take_87 rfl (by decide) (zrcv_of hH) (Nat.le_of_ble_eq_true rfl) (Nat.le_of_ble_eq_true rfl) (hsub) ?_
  exact zR.retE i_Hosp_take_90 rfl rfl
theorem t71_Hosp_take (X : zX) (d : Nat) (h : zH) (hX : X.2.2.category = 1) (hz : zlow h) (a : Nat) (f : Nat → Int32) (n : Nat) (st : Nat → Int32) (cn : Nat) (hM : isM h a f n st cn) (hn : n ≤ 200) (P : Nat → Nat) (hP : ∀ s, 1 ≤ s → s ≤ cn → st (s - 1) = nI (P s) ∧ P s ≤ n) (hcn : cn ≤ 8) (hc1 : 1 ≤ cn) (hH : h.2.2 104 = some (.inr (3, [.ref 105, .ref 106, .ref 107]))) (p : Nat) (hp99 : p ≤ 99) (hk : (kd0 (txo f n (fdo f n P (some 1) 3 1 1)) (txo f n (fdo f n P (some 1) 3 1 2))) = some 71) (hpe : (pnF (txo f n (fdo f n P (nnF f n P (sT 4) 1 cn) 1 1 1))) = nI p) (v : Int32) (h' : zH) (hsub : zR X (d + 6) 55 0 (zent 4 [.ref 104, .int (nI p), .int (baF (txo f n (fdo f n P (nnF f n P (sT 5) 1 cn) 1 1 1)) (txo f n (fdo f n P (nnF f n P (sT 5) 1 cn) 1 1 2)))]) [] h (some (.int v), h')) : zR X (d + 7) 46 0 (zent 6 [.ref 104, .ref a]) [] h (some (.int v), h') := by
  have h1b : ∀ s, (some 1 : Option Nat) = some s → 1 ≤ s ∧ s ≤ cn := fun s hs => by cases hs; omega
  have h1p : ∀ s, (some 1 : Option Nat) = some s → P s ≤ n := fun s hs => by cases hs; exact (hP 1 (by decide) hc1).2
  have hf1 := e1_Mess_find X (d + 5) h a f n st cn hM hn P hP hcn (some 1) h1b 3 1 1
  have hf2 := e1_Mess_find X (d + 5) h a f n st cn hM hn P hP hcn (some 1) h1b 3 1 2
  have hkd := e_Mess_kind X (d + 1) hX h hz a f n st cn hM hn _ _ (fdo_le (f := f) (F := 3) (R := 1) (C := 1) h1p) (fdo_le (f := f) (F := 3) (R := 1) (C := 2) h1p) hf1 hf2
  rw [hk] at hkd
  have hnx := e_Mess_nextNamed X (d + 1) hX h hz a f n st cn hM hn P hP hcn 4 ⟨by decide, by decide⟩ (by decide) 1 (by decide) (by omega)
  rw [show cn + 1 - 1 = cn by omega] at hnx
  have hpb : ∀ s, (nnF f n P (sT 4) 1 cn) = some s → 1 ≤ s ∧ s ≤ cn := fun s hs => by have := nnF_b s hs; omega
  have hpn := e_Hosp_patientNumber X (d + 4) h a f n st cn hM hn P hP hcn (nnF f n P (sT 4) 1 cn) hpb

  have hba := e_Hosp_bedAsked X d hX h a f n st cn hM hn P hP hcn hz
  have hkd2 : zR X (d + 6) 80 0 (zent 4 [.ref a]) [] h (some (.ref 71), h) := hkd
  refine zr_aload_n i_Hosp_take_0 rfl ?_
  refine zr_cv0 i_Hosp_take_1 rfl (by decide) (zrcv_of hM.1) (Nat.le_of_ble_eq_true rfl) (Nat.le_of_ble_eq_true rfl) (hkd2) ?_
  refine zr_astore_n i_Hosp_take_4 rfl ?_
  refine zr_aload_n i_Hosp_take_5 rfl ?_
  refine zr_ifnonnull 12 i_Hosp_take_6 (by decide) ?_
  refine zr_aload_n i_Hosp_take_12 rfl ?_
  refine zr_ldc i_Hosp_take_13 rfl ?_
  refine zn_iconst 1 i_Hosp_take_15 (by decide) ?_
  refine zr_cv2 i_Hosp_take_16 rfl (by decide) (zrcv_of hM.1) (Nat.le_of_ble_eq_true rfl) (Nat.le_of_ble_eq_true rfl) (hnx) ?_
  refine zr_istore_n i_Hosp_take_19 rfl ?_
  refine zr_aload_n i_Hosp_take_20 rfl ?_
  refine zr_iload_n i_Hosp_take_21 rfl ?_
  refine zr_cs2 i_Hosp_take_22 rfl (by decide) (Nat.le_of_ble_eq_true rfl) (Nat.le_of_ble_eq_true rfl) (hpn) ?_
  refine zr_top (y := nI p) hpe ?_
  refine zr_istore i_Hosp_take_25 rfl ?_
  refine zr_iload i_Hosp_take_27 rfl ?_
  refine zr_iconst i_Hosp_take_29 (v := (-1)) (by decide) ?_
  refine zr_icmp_ne 36 i_Hosp_take_30 (by decide) (fun c_30 => ?_) (fun q => absurd q (nI_neg1 (by omega)))
  refine zr_aload_n i_Hosp_take_36 rfl ?_
  refine zr_cs1 i_Hosp_take_37 rfl (by decide) (Nat.le_of_ble_eq_true rfl) (Nat.le_of_ble_eq_true rfl) (hba) ?_
  refine zr_istore i_Hosp_take_40 rfl ?_
  refine zr_gets i_Hosp_take_42 rfl ?_
  refine zr_aload_n i_Hosp_take_45 rfl ?_
  refine zr_ord i_Hosp_take_46 rfl rfl rfl (Nat.le_of_ble_eq_true rfl) ?_
  refine zr_ialoadK i_Hosp_take_49 (hz 76 (by decide)) rfl (by decide) ?_
  refine zr_tabIn 91 i_Hosp_take_50 (by decide) rfl (by decide) ?_
  refine zr_aload_n i_Hosp_take_91 rfl ?_
  refine zr_iload i_Hosp_take_92 rfl ?_
  refine zr_iload i_Hosp_take_94 rfl ?_
  refine zr_cv2 i_Hosp_take_96 rfl (by decide) (zrcv_of hH) (Nat.le_of_ble_eq_true rfl) (Nat.le_of_ble_eq_true rfl) (hsub) ?_
  exact zR.retE i_Hosp_take_99 rfl rfl
theorem t72_Hosp_take (X : zX) (d : Nat) (h : zH) (hX : X.2.2.category = 1) (hz : zlow h) (a : Nat) (f : Nat → Int32) (n : Nat) (st : Nat → Int32) (cn : Nat) (hM : isM h a f n st cn) (hn : n ≤ 200) (P : Nat → Nat) (hP : ∀ s, 1 ≤ s → s ≤ cn → st (s - 1) = nI (P s) ∧ P s ≤ n) (hcn : cn ≤ 8) (hc1 : 1 ≤ cn) (hH : h.2.2 104 = some (.inr (3, [.ref 105, .ref 106, .ref 107]))) (p : Nat) (hp99 : p ≤ 99) (hk : (kd0 (txo f n (fdo f n P (some 1) 3 1 1)) (txo f n (fdo f n P (some 1) 3 1 2))) = some 72) (hpe : (pnF (txo f n (fdo f n P (nnF f n P (sT 4) 1 cn) 1 1 1))) = nI p) (v : Int32) (h' : zH) (hsub : zR X (d + 6) 57 0 (zent 3 [.ref 104, .int (nI p)]) [] h (some (.int v), h')) : zR X (d + 7) 46 0 (zent 6 [.ref 104, .ref a]) [] h (some (.int v), h') := by
  have h1b : ∀ s, (some 1 : Option Nat) = some s → 1 ≤ s ∧ s ≤ cn := fun s hs => by cases hs; omega
  have h1p : ∀ s, (some 1 : Option Nat) = some s → P s ≤ n := fun s hs => by cases hs; exact (hP 1 (by decide) hc1).2
  have hf1 := e1_Mess_find X (d + 5) h a f n st cn hM hn P hP hcn (some 1) h1b 3 1 1
  have hf2 := e1_Mess_find X (d + 5) h a f n st cn hM hn P hP hcn (some 1) h1b 3 1 2
  have hkd := e_Mess_kind X (d + 1) hX h hz a f n st cn hM hn _ _ (fdo_le (f := f) (F := 3) (R := 1) (C := 1) h1p) (fdo_le (f := f) (F := 3) (R := 1) (C := 2) h1p) hf1 hf2
  rw [hk] at hkd
  have hnx := e_Mess_nextNamed X (d + 1) hX h hz a f n st cn hM hn P hP hcn 4 ⟨by decide, by decide⟩ (by decide) 1 (by decide) (by omega)
  rw [show cn + 1 - 1 = cn by omega] at hnx
  have hpb : ∀ s, (nnF f n P (sT 4) 1 cn) = some s → 1 ≤ s ∧ s ≤ cn := fun s hs => by have := nnF_b s hs; omega
  have hpn := e_Hosp_patientNumber X (d + 4) h a f n st cn hM hn P hP hcn (nnF f n P (sT 4) 1 cn) hpb

  have hba := e_Hosp_bedAsked X d hX h a f n st cn hM hn P hP hcn hz
  have hkd2 : zR X (d + 6) 80 0 (zent 4 [.ref a]) [] h (some (.ref 72), h) := hkd
  refine zr_aload_n i_Hosp_take_0 rfl ?_
  refine zr_cv0 i_Hosp_take_1 rfl (by decide) (zrcv_of hM.1) (Nat.le_of_ble_eq_true rfl) (Nat.le_of_ble_eq_true rfl) (hkd2) ?_
  refine zr_astore_n i_Hosp_take_4 rfl ?_
  refine zr_aload_n i_Hosp_take_5 rfl ?_
  refine zr_ifnonnull 12 i_Hosp_take_6 (by decide) ?_
  refine zr_aload_n i_Hosp_take_12 rfl ?_
  refine zr_ldc i_Hosp_take_13 rfl ?_
  refine zn_iconst 1 i_Hosp_take_15 (by decide) ?_
  refine zr_cv2 i_Hosp_take_16 rfl (by decide) (zrcv_of hM.1) (Nat.le_of_ble_eq_true rfl) (Nat.le_of_ble_eq_true rfl) (hnx) ?_
  refine zr_istore_n i_Hosp_take_19 rfl ?_
  refine zr_aload_n i_Hosp_take_20 rfl ?_
  refine zr_iload_n i_Hosp_take_21 rfl ?_
  refine zr_cs2 i_Hosp_take_22 rfl (by decide) (Nat.le_of_ble_eq_true rfl) (Nat.le_of_ble_eq_true rfl) (hpn) ?_
  refine zr_top (y := nI p) hpe ?_
  refine zr_istore i_Hosp_take_25 rfl ?_
  refine zr_iload i_Hosp_take_27 rfl ?_
  refine zr_iconst i_Hosp_take_29 (v := (-1)) (by decide) ?_
  refine zr_icmp_ne 36 i_Hosp_take_30 (by decide) (fun c_30 => ?_) (fun q => absurd q (nI_neg1 (by omega)))
  refine zr_aload_n i_Hosp_take_36 rfl ?_
  refine zr_cs1 i_Hosp_take_37 rfl (by decide) (Nat.le_of_ble_eq_true rfl) (Nat.le_of_ble_eq_true rfl) (hba) ?_
  refine zr_istore i_Hosp_take_40 rfl ?_
  refine zr_gets i_Hosp_take_42 rfl ?_
  refine zr_aload_n i_Hosp_take_45 rfl ?_
  refine zr_ord i_Hosp_take_46 rfl rfl rfl (Nat.le_of_ble_eq_true rfl) ?_
  refine zr_ialoadK i_Hosp_take_49 (hz 76 (by decide)) rfl (by decide) ?_
  refine zr_tabIn 100 i_Hosp_take_50 (by decide) rfl (by decide) ?_
  refine zr_aload_n i_Hosp_take_100 rfl ?_
  refine zr_iload i_Hosp_take_101 rfl ?_
  refine zr_cv1 i_Hosp_take_103 rfl (by decide) (zrcv_of hH) (Nat.le_of_ble_eq_true rfl) (Nat.le_of_ble_eq_true rfl) (hsub) ?_
  exact zR.retE i_Hosp_take_106 rfl rfl
theorem t73_Hosp_take (X : zX) (d : Nat) (h : zH) (hX : X.2.2.category = 1) (hz : zlow h) (a : Nat) (f : Nat → Int32) (n : Nat) (st : Nat → Int32) (cn : Nat) (hM : isM h a f n st cn) (hn : n ≤ 200) (P : Nat → Nat) (hP : ∀ s, 1 ≤ s → s ≤ cn → st (s - 1) = nI (P s) ∧ P s ≤ n) (hcn : cn ≤ 8) (hc1 : 1 ≤ cn) (hH : h.2.2 104 = some (.inr (3, [.ref 105, .ref 106, .ref 107]))) (p : Nat) (hp99 : p ≤ 99) (hk : (kd0 (txo f n (fdo f n P (some 1) 3 1 1)) (txo f n (fdo f n P (some 1) 3 1 2))) = some 73) (hpe : (pnF (txo f n (fdo f n P (nnF f n P (sT 4) 1 cn) 1 1 1))) = nI p) (v : Int32) (h' : zH) (hsub : zR X (d + 6) 58 0 (zent 5 [.ref 104, .ref a, .int (tI (nnF f n P (sT 4) 1 cn)), .int (nI p)]) [] h (some (.int v), h')) : zR X (d + 7) 46 0 (zent 6 [.ref 104, .ref a]) [] h (some (.int v), h') := by
  have h1b : ∀ s, (some 1 : Option Nat) = some s → 1 ≤ s ∧ s ≤ cn := fun s hs => by cases hs; omega
  have h1p : ∀ s, (some 1 : Option Nat) = some s → P s ≤ n := fun s hs => by cases hs; exact (hP 1 (by decide) hc1).2
  have hf1 := e1_Mess_find X (d + 5) h a f n st cn hM hn P hP hcn (some 1) h1b 3 1 1
  have hf2 := e1_Mess_find X (d + 5) h a f n st cn hM hn P hP hcn (some 1) h1b 3 1 2
  have hkd := e_Mess_kind X (d + 1) hX h hz a f n st cn hM hn _ _ (fdo_le (f := f) (F := 3) (R := 1) (C := 1) h1p) (fdo_le (f := f) (F := 3) (R := 1) (C := 2) h1p) hf1 hf2
  rw [hk] at hkd
  have hnx := e_Mess_nextNamed X (d + 1) hX h hz a f n st cn hM hn P hP hcn 4 ⟨by decide, by decide⟩ (by decide) 1 (by decide) (by omega)
  rw [show cn + 1 - 1 = cn by omega] at hnx
  have hpb : ∀ s, (nnF f n P (sT 4) 1 cn) = some s → 1 ≤ s ∧ s ≤ cn := fun s hs => by have := nnF_b s hs; omega
  have hpn := e_Hosp_patientNumber X (d + 4) h a f n st cn hM hn P hP hcn (nnF f n P (sT 4) 1 cn) hpb

  have hba := e_Hosp_bedAsked X d hX h a f n st cn hM hn P hP hcn hz
  have hkd2 : zR X (d + 6) 80 0 (zent 4 [.ref a]) [] h (some (.ref 73), h) := hkd
  refine zr_aload_n i_Hosp_take_0 rfl ?_
  refine zr_cv0 i_Hosp_take_1 rfl (by decide) (zrcv_of hM.1) (Nat.le_of_ble_eq_true rfl) (Nat.le_of_ble_eq_true rfl) (hkd2) ?_
  refine zr_astore_n i_Hosp_take_4 rfl ?_
  refine zr_aload_n i_Hosp_take_5 rfl ?_
  refine zr_ifnonnull 12 i_Hosp_take_6 (by decide) ?_
  refine zr_aload_n i_Hosp_take_12 rfl ?_
  refine zr_ldc i_Hosp_take_13 rfl ?_
  refine zn_iconst 1 i_Hosp_take_15 (by decide) ?_
  refine zr_cv2 i_Hosp_take_16 rfl (by decide) (zrcv_of hM.1) (Nat.le_of_ble_eq_true rfl) (Nat.le_of_ble_eq_true rfl) (hnx) ?_
  refine zr_istore_n i_Hosp_take_19 rfl ?_
  refine zr_aload_n i_Hosp_take_20 rfl ?_
  refine zr_iload_n i_Hosp_take_21 rfl ?_
  refine zr_cs2 i_Hosp_take_22 rfl (by decide) (Nat.le_of_ble_eq_true rfl) (Nat.le_of_ble_eq_true rfl) (hpn) ?_
  refine zr_top (y := nI p) hpe ?_
  refine zr_istore i_Hosp_take_25 rfl ?_
  refine zr_iload i_Hosp_take_27 rfl ?_
  refine zr_iconst i_Hosp_take_29 (v := (-1)) (by decide) ?_
  refine zr_icmp_ne 36 i_Hosp_take_30 (by decide) (fun c_30 => ?_) (fun q => absurd q (nI_neg1 (by omega)))
  refine zr_aload_n i_Hosp_take_36 rfl ?_
  refine zr_cs1 i_Hosp_take_37 rfl (by decide) (Nat.le_of_ble_eq_true rfl) (Nat.le_of_ble_eq_true rfl) (hba) ?_
  refine zr_istore i_Hosp_take_40 rfl ?_
  refine zr_gets i_Hosp_take_42 rfl ?_
  refine zr_aload_n i_Hosp_take_45 rfl ?_
  refine zr_ord i_Hosp_take_46 rfl rfl rfl (Nat.le_of_ble_eq_true rfl) ?_
  refine zr_ialoadK i_Hosp_take_49 (hz 76 (by decide)) rfl (by decide) ?_
  refine zr_tabIn 107 i_Hosp_take_50 (by decide) rfl (by decide) ?_
  refine zr_aload_n i_Hosp_take_107 rfl ?_
  refine zr_aload_n i_Hosp_take_108 rfl ?_
  refine zr_iload_n i_Hosp_take_109 rfl ?_
  refine zr_iload i_Hosp_take_110 rfl ?_
  refine zr_cv3 i_Hosp_take_112 rfl (by decide) (zrcv_of hH) (Nat.le_of_ble_eq_true rfl) (Nat.le_of_ble_eq_true rfl) (hsub) ?_
  exact zR.retE i_Hosp_take_115 rfl rfl
theorem t74_Hosp_take (X : zX) (d : Nat) (h : zH) (hX : X.2.2.category = 1) (hz : zlow h) (a : Nat) (f : Nat → Int32) (n : Nat) (st : Nat → Int32) (cn : Nat) (hM : isM h a f n st cn) (hn : n ≤ 200) (P : Nat → Nat) (hP : ∀ s, 1 ≤ s → s ≤ cn → st (s - 1) = nI (P s) ∧ P s ≤ n) (hcn : cn ≤ 8) (hc1 : 1 ≤ cn) (hH : h.2.2 104 = some (.inr (3, [.ref 105, .ref 106, .ref 107]))) (p : Nat) (hp99 : p ≤ 99) (hk : (kd0 (txo f n (fdo f n P (some 1) 3 1 1)) (txo f n (fdo f n P (some 1) 3 1 2))) = some 74) (hpe : (pnF (txo f n (fdo f n P (nnF f n P (sT 4) 1 cn) 1 1 1))) = nI p) (v : Int32) (h' : zH) (hsub : zR X (d + 6) 59 0 (zent 10 [.ref 104, .ref a, .int (nI p)]) [] h (some (.int v), h')) : zR X (d + 7) 46 0 (zent 6 [.ref 104, .ref a]) [] h (some (.int v), h') := by
  have h1b : ∀ s, (some 1 : Option Nat) = some s → 1 ≤ s ∧ s ≤ cn := fun s hs => by cases hs; omega
  have h1p : ∀ s, (some 1 : Option Nat) = some s → P s ≤ n := fun s hs => by cases hs; exact (hP 1 (by decide) hc1).2
  have hf1 := e1_Mess_find X (d + 5) h a f n st cn hM hn P hP hcn (some 1) h1b 3 1 1
  have hf2 := e1_Mess_find X (d + 5) h a f n st cn hM hn P hP hcn (some 1) h1b 3 1 2
  have hkd := e_Mess_kind X (d + 1) hX h hz a f n st cn hM hn _ _ (fdo_le (f := f) (F := 3) (R := 1) (C := 1) h1p) (fdo_le (f := f) (F := 3) (R := 1) (C := 2) h1p) hf1 hf2
  rw [hk] at hkd
  have hnx := e_Mess_nextNamed X (d + 1) hX h hz a f n st cn hM hn P hP hcn 4 ⟨by decide, by decide⟩ (by decide) 1 (by decide) (by omega)
  rw [show cn + 1 - 1 = cn by omega] at hnx
  have hpb : ∀ s, (nnF f n P (sT 4) 1 cn) = some s → 1 ≤ s ∧ s ≤ cn := fun s hs => by have := nnF_b s hs; omega
  have hpn := e_Hosp_patientNumber X (d + 4) h a f n st cn hM hn P hP hcn (nnF f n P (sT 4) 1 cn) hpb

  have hba := e_Hosp_bedAsked X d hX h a f n st cn hM hn P hP hcn hz
  have hkd2 : zR X (d + 6) 80 0 (zent 4 [.ref a]) [] h (some (.ref 74), h) := hkd
  refine zr_aload_n i_Hosp_take_0 rfl ?_
  refine zr_cv0 i_Hosp_take_1 rfl (by decide) (zrcv_of hM.1) (Nat.le_of_ble_eq_true rfl) (Nat.le_of_ble_eq_true rfl) (hkd2) ?_
  refine zr_astore_n i_Hosp_take_4 rfl ?_
  refine zr_aload_n i_Hosp_take_5 rfl ?_
  refine zr_ifnonnull 12 i_Hosp_take_6 (by decide) ?_
  refine zr_aload_n i_Hosp_take_12 rfl ?_
  refine zr_ldc i_Hosp_take_13 rfl ?_
  refine zn_iconst 1 i_Hosp_take_15 (by decide) ?_
  refine zr_cv2 i_Hosp_take_16 rfl (by decide) (zrcv_of hM.1) (Nat.le_of_ble_eq_true rfl) (Nat.le_of_ble_eq_true rfl) (hnx) ?_
  refine zr_istore_n i_Hosp_take_19 rfl ?_
  refine zr_aload_n i_Hosp_take_20 rfl ?_
  refine zr_iload_n i_Hosp_take_21 rfl ?_
  refine zr_cs2 i_Hosp_take_22 rfl (by decide) (Nat.le_of_ble_eq_true rfl) (Nat.le_of_ble_eq_true rfl) (hpn) ?_
  refine zr_top (y := nI p) hpe ?_
  refine zr_istore i_Hosp_take_25 rfl ?_
  refine zr_iload i_Hosp_take_27 rfl ?_
  refine zr_iconst i_Hosp_take_29 (v := (-1)) (by decide) ?_
  refine zr_icmp_ne 36 i_Hosp_take_30 (by decide) (fun c_30 => ?_) (fun q => absurd q (nI_neg1 (by omega)))
  refine zr_aload_n i_Hosp_take_36 rfl ?_
  refine zr_cs1 i_Hosp_take_37 rfl (by decide) (Nat.le_of_ble_eq_true rfl) (Nat.le_of_ble_eq_true rfl) (hba) ?_
  refine zr_istore i_Hosp_take_40 rfl ?_
  refine zr_gets i_Hosp_take_42 rfl ?_
  refine zr_aload_n i_Hosp_take_45 rfl ?_
  refine zr_ord i_Hosp_take_46 rfl rfl rfl (Nat.le_of_ble_eq_true rfl) ?_
  refine zr_ialoadK i_Hosp_take_49 (hz 76 (by decide)) rfl (by decide) ?_
  refine zr_tabOut 116 i_Hosp_take_50 (by decide) (by decide) ?_
  refine zr_aload_n i_Hosp_take_116 rfl ?_
  refine zr_aload_n i_Hosp_take_117 rfl ?_
  refine zr_iload i_Hosp_take_118 rfl ?_
  refine zr_cv2 i_Hosp_take_120 rfl (by decide) (zrcv_of hH) (Nat.le_of_ble_eq_true rfl) (Nat.le_of_ble_eq_true rfl) (hsub) ?_
  exact zR.retE i_Hosp_take_123 rfl rfl
