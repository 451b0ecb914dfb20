/-! THE CLASS: what is asked of it; typing -/
/-- the object itself: its messages, its reason, whether it was replayed -/
def bmO (sp la : Nat) (rs rp : Int32) : zC := .inr (0, [.ref 101, .ref 104, .ref 110, .ref 113, .ref 115, .ref 117, .ref sp, .ref la, .int rs, .int rp])
theorem i_B_reason_0 : zins 16 0 = some (.aload_n 0) := by decide +kernel
theorem i_B_reason_1 : zins 16 1 = some (.getfield 59) := by decide +kernel
theorem i_B_reason_4 : zins 16 4 = some (.ireturn) := by decide +kernel
theorem e_B_reason (X : zX) (d : Nat) (h : zH) (sp la : Nat) (rs rp : Int32) (hO : h.2.2 100 = some (bmO sp la rs rp))  : zR X (d + 2) 16 0 (zent 1 [.ref 100]) [] h (some (.int (rs)), h) := by
  refine zr_aload_n i_B_reason_0 rfl ?_
  refine zr_getf i_B_reason_1 hO rfl rfl ?_
  exact zR.retE i_B_reason_4 rfl rfl
theorem i_B_replayed_0 : zins 17 0 = some (.aload_n 0) := by decide +kernel
theorem i_B_replayed_1 : zins 17 1 = some (.getfield 63) := by decide +kernel
theorem i_B_replayed_4 : zins 17 4 = some (.ireturn) := by decide +kernel
theorem e_B_replayed (X : zX) (d : Nat) (h : zH) (sp la : Nat) (rs rp : Int32) (hO : h.2.2 100 = some (bmO sp la rs rp)) (b : Bool) (hb : rp = zb b) : zR X (d + 2) 17 0 (zent 1 [.ref 100]) [] h (some (.int (zb b)), h) := by
  refine zr_aload_n i_B_replayed_0 rfl ?_
  refine zr_getf i_B_replayed_1 hO rfl rfl ?_
  refine zr_top (y := zb b) hb ?_
  exact zR.retE i_B_replayed_4 (zretB _) rfl
theorem i_B_receiptLength_0 : zins 18 0 = some (.aload_n 0) := by decide +kernel
theorem i_B_receiptLength_1 : zins 18 1 = some (.getfield 42) := by decide +kernel
theorem i_B_receiptLength_4 : zins 18 4 = some (.getfield 117) := by decide +kernel
theorem i_B_receiptLength_7 : zins 18 7 = some (.ireturn) := by decide +kernel
theorem e_B_receiptLength (X : zX) (d : Nat) (h : zH) (sp la : Nat) (rs rp : Int32) (hO : h.2.2 100 = some (bmO sp la rs rp)) (N n : Nat) (f : Nat → Int32) (hC : isCh h 115 N n f) : zR X (d + 2) 18 0 (zent 1 [.ref 100]) [] h (some (.int (nI n)), h) := by
  refine zr_aload_n i_B_receiptLength_0 rfl ?_
  refine zr_getf i_B_receiptLength_1 hO rfl rfl ?_
  refine zr_getf i_B_receiptLength_4 hC.1 rfl rfl ?_
  exact zR.retE i_B_receiptLength_7 rfl rfl
theorem i_B_receipt_0 : zins 19 0 = some (.aload_n 0) := by decide +kernel
theorem i_B_receipt_1 : zins 19 1 = some (.getfield 42) := by decide +kernel
theorem i_B_receipt_4 : zins 19 4 = some (.iload_n 1) := by decide +kernel
theorem i_B_receipt_5 : zins 19 5 = some (.invokevirtual 120) := by decide +kernel
theorem i_B_receipt_8 : zins 19 8 = some (.ireturn) := by decide +kernel
theorem e_B_receipt (X : zX) (d : Nat) (h : zH) (sp la : Nat) (rs rp : Int32) (hO : h.2.2 100 = some (bmO sp la rs rp)) (N n : Nat) (f : Nat → Int32) (hC : isCh h 115 N n f) (hn : n ≤ N) (hN : N ≤ 700) (i : Int32) : zR X (d + 2) 19 0 (zent 2 [.ref 100, .int i]) [] h (some (.int (getF f n i)), h) := by
  refine zr_aload_n i_B_receipt_0 rfl ?_
  refine zr_getf i_B_receipt_1 hO rfl rfl ?_
  refine zr_iload_n i_B_receipt_4 rfl ?_
  refine zr_cv1 i_B_receipt_5 rfl (by decide) (zrcv_of hC.1) (Nat.le_of_ble_eq_true rfl) (Nat.le_of_ble_eq_true rfl) (e_Chars_at X _ h 115 N n f hC hn hN i) ?_
  exact zR.retE i_B_receipt_8 rfl rfl
theorem i_B_written_0 : zins 30 0 = some (.aload_n 0) := by decide +kernel
theorem i_B_written_1 : zins 30 1 = some (.getfield 46) := by decide +kernel
theorem i_B_written_4 : zins 30 4 = some (.iload_n 1) := by decide +kernel
theorem i_B_written_5 : zins 30 5 = some (.invokevirtual 120) := by decide +kernel
theorem i_B_written_8 : zins 30 8 = some (.ireturn) := by decide +kernel
theorem e_B_written (X : zX) (d : Nat) (h : zH) (sp la : Nat) (rs rp : Int32) (hO : h.2.2 100 = some (bmO sp la rs rp)) (N n : Nat) (f : Nat → Int32) (hC : isCh h 117 N n f) (hn : n ≤ N) (hN : N ≤ 700) (i : Int32) : zR X (d + 2) 30 0 (zent 2 [.ref 100, .int i]) [] h (some (.int (getF f n i)), h) := by
  refine zr_aload_n i_B_written_0 rfl ?_
  refine zr_getf i_B_written_1 hO rfl rfl ?_
  refine zr_iload_n i_B_written_4 rfl ?_
  refine zr_cv1 i_B_written_5 rfl (by decide) (zrcv_of hC.1) (Nat.le_of_ble_eq_true rfl) (Nat.le_of_ble_eq_true rfl) (e_Chars_at X _ h 117 N n f hC hn hN i) ?_
  exact zR.retE i_B_written_8 rfl rfl
theorem i_B_patient_0 : zins 20 0 = some (.iload_n 1) := by decide +kernel
theorem i_B_patient_1 : zins 20 1 = some (.ifCond .lt 18) := by decide +kernel
theorem i_B_patient_4 : zins 20 4 = some (.iload_n 1) := by decide +kernel
theorem i_B_patient_5 : zins 20 5 = some (.iconst 4) := by decide +kernel
theorem i_B_patient_6 : zins 20 6 = some (.if_icmp .ge 13) := by decide +kernel
theorem i_B_patient_9 : zins 20 9 = some (.iload_n 2) := by decide +kernel
theorem i_B_patient_10 : zins 20 10 = some (.ifCond .lt 9) := by decide +kernel
theorem i_B_patient_13 : zins 20 13 = some (.iload_n 2) := by decide +kernel
theorem i_B_patient_14 : zins 20 14 = some (.bipush 8) := by decide +kernel
theorem i_B_patient_16 : zins 20 16 = some (.if_icmp .lt 5) := by decide +kernel
theorem i_B_patient_19 : zins 20 19 = some (.iconst (-1)) := by decide +kernel
theorem i_B_patient_20 : zins 20 20 = some (.ireturn) := by decide +kernel
theorem i_B_patient_21 : zins 20 21 = some (.aload_n 0) := by decide +kernel
theorem i_B_patient_22 : zins 20 22 = some (.getfield 19) := by decide +kernel
theorem i_B_patient_25 : zins 20 25 = some (.bipush 8) := by decide +kernel
theorem i_B_patient_27 : zins 20 27 = some (.iload_n 1) := by decide +kernel
theorem i_B_patient_28 : zins 20 28 = some (.imul) := by decide +kernel
theorem i_B_patient_29 : zins 20 29 = some (.iload_n 2) := by decide +kernel
theorem i_B_patient_30 : zins 20 30 = some (.iadd) := by decide +kernel
theorem i_B_patient_31 : zins 20 31 = some (.invokevirtual 123) := by decide +kernel
theorem i_B_patient_34 : zins 20 34 = some (.ireturn) := by decide +kernel
theorem e_B_patient (X : zX) (d : Nat) (h : zH) (sp la : Nat) (rs rp : Int32) (hO : h.2.2 100 = some (bmO sp la rs rp)) (oc : Nat → Int32) (pt : Nat → Option Nat) (hH : isHo h oc pt) (w b : Int32) : zR X (d + 2) 20 0 (zent 3 [.ref 100, .int w, .int b]) [] h (some (.int (if ((¬ w < 0 ∧ ¬ 4 ≤ w) ∧ ¬ b < 0) ∧ b < 8 then getF oc 32 (8 * w + b) else -1)), h) := by
  refine zr_iload_n i_B_patient_0 rfl ?_
  refine zr_if_lt 19 i_B_patient_1 (by decide) (fun c_1 => ?_) (fun c_1 => ?_)
  · skip
    refine zr_iconst i_B_patient_19 (v := (-1)) (by decide) ?_
    exact zR.retE i_B_patient_20 rfl (by simp [*])
  · skip
    refine zr_iload_n i_B_patient_4 rfl ?_
    refine zr_iconst i_B_patient_5 (v := 4) (by decide) ?_
    refine zr_icmp_ge 19 i_B_patient_6 (by decide) (fun c_6 => ?_) (fun c_6 => ?_)
    · skip
      refine zr_iconst i_B_patient_19 (v := (-1)) (by decide) ?_
      exact zR.retE i_B_patient_20 rfl (by simp [*])
    · skip
      refine zr_iload_n i_B_patient_9 rfl ?_
      refine zr_if_lt 19 i_B_patient_10 (by decide) (fun c_10 => ?_) (fun c_10 => ?_)
      · skip
        refine zr_iconst i_B_patient_19 (v := (-1)) (by decide) ?_
        exact zR.retE i_B_patient_20 rfl (by simp [*])
      · skip
        refine zr_iload_n i_B_patient_13 rfl ?_
        refine zr_bipush i_B_patient_14 (v := 8) (by decide) ?_
        refine zr_icmp_lt 21 i_B_patient_16 (by decide) (fun c_16 => ?_) (fun c_16 => ?_)
        · skip
          refine zr_aload_n i_B_patient_21 rfl ?_
          refine zr_getf i_B_patient_22 hO rfl rfl ?_
          refine zr_bipush i_B_patient_25 (v := 8) (by decide) ?_
          refine zr_iload_n i_B_patient_27 rfl ?_
          refine zr_imul i_B_patient_28 ?_
          refine zr_iload_n i_B_patient_29 rfl ?_
          refine zr_iadd i_B_patient_30 ?_
          refine zr_cv1 i_B_patient_31 rfl (by decide) (zrcv_of hH.1) (Nat.le_of_ble_eq_true rfl) (Nat.le_of_ble_eq_true rfl) (e_Hosp_patientIn X _ h oc pt hH _) ?_
          exact zR.retE i_B_patient_34 rfl (by simp [*])
        · skip
          refine zr_iconst i_B_patient_19 (v := (-1)) (by decide) ?_
          exact zR.retE i_B_patient_20 rfl (by simp [*])
theorem i_B_bedOf_0 : zins 21 0 = some (.aload_n 0) := by decide +kernel
theorem i_B_bedOf_1 : zins 21 1 = some (.getfield 19) := by decide +kernel
theorem i_B_bedOf_4 : zins 21 4 = some (.iload_n 1) := by decide +kernel
theorem i_B_bedOf_5 : zins 21 5 = some (.invokevirtual 126) := by decide +kernel
theorem i_B_bedOf_8 : zins 21 8 = some (.astore_n 2) := by decide +kernel
theorem i_B_bedOf_9 : zins 21 9 = some (.aload_n 2) := by decide +kernel
theorem i_B_bedOf_10 : zins 21 10 = some (.ifnonnull 7) := by decide +kernel
theorem i_B_bedOf_13 : zins 21 13 = some (.iconst (-1)) := by decide +kernel
theorem i_B_bedOf_14 : zins 21 14 = some (.goto 7) := by decide +kernel
theorem i_B_bedOf_17 : zins 21 17 = some (.aload_n 2) := by decide +kernel
theorem i_B_bedOf_18 : zins 21 18 = some (.getfield 130) := by decide +kernel
theorem i_B_bedOf_21 : zins 21 21 = some (.ireturn) := by decide +kernel
theorem n_B_bedOf (X : zX) (d : Nat) (h : zH) (sp la : Nat) (rs rp : Int32) (hO : h.2.2 100 = some (bmO sp la rs rp)) (oc : Nat → Int32) (pt : Nat → Option Nat) (hH : isHo h oc pt) (p : Int32) (hp : fndP pt p = none)  : zR X (d + 2) 21 0 (zent 3 [.ref 100, .int p]) [] h (some (.int (-1)), h) := by
  have hfi : zR X (d + 1) 50 0 (zent 2 [.ref 104, .int p]) [] h (some .null, h) := by
    have e := e_Hosp_find X (d + 1) h oc pt hH p
    rw [hp] at e
    exact e
  refine zr_aload_n i_B_bedOf_0 rfl ?_
  refine zr_getf i_B_bedOf_1 hO rfl rfl ?_
  refine zr_iload_n i_B_bedOf_4 rfl ?_
  refine zr_cv1 i_B_bedOf_5 rfl (by decide) (zrcv_of hH.1) (Nat.le_of_ble_eq_true rfl) (Nat.le_of_ble_eq_true rfl) (hfi) ?_
  refine zr_aNstore_n i_B_bedOf_8 rfl ?_
  refine zr_aloadN_n i_B_bedOf_9 rfl ?_
  refine zr_ifnonnullN i_B_bedOf_10 ?_
  refine zr_iconst i_B_bedOf_13 (v := (-1)) (by decide) ?_
  refine zr_goto 21 i_B_bedOf_14 (by decide) ?_
  exact zR.retE i_B_bedOf_21 rfl rfl
theorem e_B_bedOf (X : zX) (d : Nat) (h : zH) (sp la : Nat) (rs rp : Int32) (hO : h.2.2 100 = some (bmO sp la rs rp)) (oc : Nat → Int32) (pt : Nat → Option Nat) (hH : isHo h oc pt) (p : Int32) (b : Nat) (hp : fndP pt p = some b) (bed : Int32) (hB : h.2.2 b = some (paO b bed)) : zR X (d + 2) 21 0 (zent 3 [.ref 100, .int p]) [] h (some (.int (bed)), h) := by
  have hfi : zR X (d + 1) 50 0 (zent 2 [.ref 104, .int p]) [] h (some (.ref b), h) := by
    have e := e_Hosp_find X (d + 1) h oc pt hH p
    rw [hp] at e
    exact e
  refine zr_aload_n i_B_bedOf_0 rfl ?_
  refine zr_getf i_B_bedOf_1 hO rfl rfl ?_
  refine zr_iload_n i_B_bedOf_4 rfl ?_
  refine zr_cv1 i_B_bedOf_5 rfl (by decide) (zrcv_of hH.1) (Nat.le_of_ble_eq_true rfl) (Nat.le_of_ble_eq_true rfl) (hfi) ?_
  refine zr_astore_n i_B_bedOf_8 rfl ?_
  refine zr_aload_n i_B_bedOf_9 rfl ?_
  refine zr_ifnonnull 17 i_B_bedOf_10 (by decide) ?_
  refine zr_aload_n i_B_bedOf_17 rfl ?_
  refine zr_getf i_B_bedOf_18 hB rfl rfl ?_
  exact zR.retE i_B_bedOf_21 rfl rfl
theorem i_B_known_0 : zins 23 0 = some (.aload_n 0) := by decide +kernel
theorem i_B_known_1 : zins 23 1 = some (.getfield 19) := by decide +kernel
theorem i_B_known_4 : zins 23 4 = some (.iload_n 1) := by decide +kernel
theorem i_B_known_5 : zins 23 5 = some (.invokevirtual 126) := by decide +kernel
theorem i_B_known_8 : zins 23 8 = some (.ifnull 7) := by decide +kernel
theorem i_B_known_11 : zins 23 11 = some (.iconst 1) := by decide +kernel
theorem i_B_known_12 : zins 23 12 = some (.goto 4) := by decide +kernel
theorem i_B_known_15 : zins 23 15 = some (.iconst 0) := by decide +kernel
theorem i_B_known_16 : zins 23 16 = some (.ireturn) := by decide +kernel
theorem n_B_known (X : zX) (d : Nat) (h : zH) (sp la : Nat) (rs rp : Int32) (hO : h.2.2 100 = some (bmO sp la rs rp)) (oc : Nat → Int32) (pt : Nat → Option Nat) (hH : isHo h oc pt) (p : Int32) (hp : fndP pt p = none)  : zR X (d + 2) 23 0 (zent 2 [.ref 100, .int p]) [] h (some (.int (zb false)), h) := by
  have hfi : zR X (d + 1) 50 0 (zent 2 [.ref 104, .int p]) [] h (some .null, h) := by
    have e := e_Hosp_find X (d + 1) h oc pt hH p
    rw [hp] at e
    exact e
  refine zr_aload_n i_B_known_0 rfl ?_
  refine zr_getf i_B_known_1 hO rfl rfl ?_
  refine zr_iload_n i_B_known_4 rfl ?_
  refine zr_cv1 i_B_known_5 rfl (by decide) (zrcv_of hH.1) (Nat.le_of_ble_eq_true rfl) (Nat.le_of_ble_eq_true rfl) (hfi) ?_
  refine zr_ifnullN 15 i_B_known_8 (by decide) ?_
  refine zr_iconst i_B_known_15 (v := 0) (by decide) ?_
  exact zR.retE i_B_known_16 rfl rfl
theorem e_B_known (X : zX) (d : Nat) (h : zH) (sp la : Nat) (rs rp : Int32) (hO : h.2.2 100 = some (bmO sp la rs rp)) (oc : Nat → Int32) (pt : Nat → Option Nat) (hH : isHo h oc pt) (p : Int32) (b : Nat) (hp : fndP pt p = some b)  : zR X (d + 2) 23 0 (zent 2 [.ref 100, .int p]) [] h (some (.int (zb true)), h) := by
  have hfi : zR X (d + 1) 50 0 (zent 2 [.ref 104, .int p]) [] h (some (.ref b), h) := by
    have e := e_Hosp_find X (d + 1) h oc pt hH p
    rw [hp] at e
    exact e
  refine zr_aload_n i_B_known_0 rfl ?_
  refine zr_getf i_B_known_1 hO rfl rfl ?_
  refine zr_iload_n i_B_known_4 rfl ?_
  refine zr_cv1 i_B_known_5 rfl (by decide) (zrcv_of hH.1) (Nat.le_of_ble_eq_true rfl) (Nat.le_of_ble_eq_true rfl) (hfi) ?_
  refine zr_ifnull i_B_known_8 ?_
  refine zr_iconst i_B_known_11 (v := 1) (by decide) ?_
  refine zr_goto 16 i_B_known_12 (by decide) ?_
  exact zR.retE i_B_known_16 rfl rfl
theorem i_B_results_0 : zins 26 0 = some (.aload_n 0) := by decide +kernel
theorem i_B_results_1 : zins 26 1 = some (.getfield 19) := by decide +kernel
theorem i_B_results_4 : zins 26 4 = some (.iload_n 1) := by decide +kernel
theorem i_B_results_5 : zins 26 5 = some (.invokevirtual 126) := by decide +kernel
theorem i_B_results_8 : zins 26 8 = some (.astore_n 2) := by decide +kernel
theorem i_B_results_9 : zins 26 9 = some (.aload_n 2) := by decide +kernel
theorem i_B_results_10 : zins 26 10 = some (.ifnonnull 7) := by decide +kernel
theorem i_B_results_13 : zins 26 13 = some (.iconst 0) := by decide +kernel
theorem i_B_results_14 : zins 26 14 = some (.goto 10) := by decide +kernel
theorem i_B_results_17 : zins 26 17 = some (.aload_n 2) := by decide +kernel
theorem i_B_results_18 : zins 26 18 = some (.getfield 144) := by decide +kernel
theorem i_B_results_21 : zins 26 21 = some (.getfield 157) := by decide +kernel
theorem i_B_results_24 : zins 26 24 = some (.ireturn) := by decide +kernel
theorem n_B_results (X : zX) (d : Nat) (h : zH) (sp la : Nat) (rs rp : Int32) (hO : h.2.2 100 = some (bmO sp la rs rp)) (oc : Nat → Int32) (pt : Nat → Option Nat) (hH : isHo h oc pt) (p : Int32) (hp : fndP pt p = none)  : zR X (d + 2) 26 0 (zent 3 [.ref 100, .int p]) [] h (some (.int (0)), h) := by
  have hfi : zR X (d + 1) 50 0 (zent 2 [.ref 104, .int p]) [] h (some .null, h) := by
    have e := e_Hosp_find X (d + 1) h oc pt hH p
    rw [hp] at e
    exact e
  refine zr_aload_n i_B_results_0 rfl ?_
  refine zr_getf i_B_results_1 hO rfl rfl ?_
  refine zr_iload_n i_B_results_4 rfl ?_
  refine zr_cv1 i_B_results_5 rfl (by decide) (zrcv_of hH.1) (Nat.le_of_ble_eq_true rfl) (Nat.le_of_ble_eq_true rfl) (hfi) ?_
  refine zr_aNstore_n i_B_results_8 rfl ?_
  refine zr_aloadN_n i_B_results_9 rfl ?_
  refine zr_ifnonnullN i_B_results_10 ?_
  refine zr_iconst i_B_results_13 (v := 0) (by decide) ?_
  refine zr_goto 24 i_B_results_14 (by decide) ?_
  exact zR.retE i_B_results_24 rfl rfl
theorem e_B_results (X : zX) (d : Nat) (h : zH) (sp la : Nat) (rs rp : Int32) (hO : h.2.2 100 = some (bmO sp la rs rp)) (oc : Nat → Int32) (pt : Nat → Option Nat) (hH : isHo h oc pt) (p : Int32) (b : Nat) (hp : fndP pt p = some b) (bed : Int32) (hB : h.2.2 b = some (paO b bed)) (q : zMe) (hQ : isMe h (b + 5) q) : zR X (d + 2) 26 0 (zent 3 [.ref 100, .int p]) [] h (some (.int (nI q.1)), h) := by
  have hfi : zR X (d + 1) 50 0 (zent 2 [.ref 104, .int p]) [] h (some (.ref b), h) := by
    have e := e_Hosp_find X (d + 1) h oc pt hH p
    rw [hp] at e
    exact e
  refine zr_aload_n i_B_results_0 rfl ?_
  refine zr_getf i_B_results_1 hO rfl rfl ?_
  refine zr_iload_n i_B_results_4 rfl ?_
  refine zr_cv1 i_B_results_5 rfl (by decide) (zrcv_of hH.1) (Nat.le_of_ble_eq_true rfl) (Nat.le_of_ble_eq_true rfl) (hfi) ?_
  refine zr_astore_n i_B_results_8 rfl ?_
  refine zr_aload_n i_B_results_9 rfl ?_
  refine zr_ifnonnull 17 i_B_results_10 (by decide) ?_
  refine zr_aload_n i_B_results_17 rfl ?_
  refine zr_getf i_B_results_18 hB rfl rfl ?_
  refine zr_getf i_B_results_21 hQ.1 rfl rfl ?_
  exact zR.retE i_B_results_24 rfl rfl
theorem i_B_result_0 : zins 25 0 = some (.aload_n 0) := by decide +kernel
theorem i_B_result_1 : zins 25 1 = some (.getfield 19) := by decide +kernel
theorem i_B_result_4 : zins 25 4 = some (.iload_n 1) := by decide +kernel
theorem i_B_result_5 : zins 25 5 = some (.invokevirtual 126) := by decide +kernel
theorem i_B_result_8 : zins 25 8 = some (.astore 4) := by decide +kernel
theorem i_B_result_10 : zins 25 10 = some (.aload 4) := by decide +kernel
theorem i_B_result_12 : zins 25 12 = some (.ifnonnull 7) := by decide +kernel
theorem i_B_result_15 : zins 25 15 = some (.iconst (-1)) := by decide +kernel
theorem i_B_result_16 : zins 25 16 = some (.goto 16) := by decide +kernel
theorem i_B_result_19 : zins 25 19 = some (.aload 4) := by decide +kernel
theorem i_B_result_21 : zins 25 21 = some (.getfield 144) := by decide +kernel
theorem i_B_result_24 : zins 25 24 = some (.iload_n 2) := by decide +kernel
theorem i_B_result_25 : zins 25 25 = some (.iload_n 3) := by decide +kernel
theorem i_B_result_26 : zins 25 26 = some (.invokestatic 148) := by decide +kernel
theorem i_B_result_29 : zins 25 29 = some (.invokevirtual 152) := by decide +kernel
theorem i_B_result_32 : zins 25 32 = some (.ireturn) := by decide +kernel
theorem n_B_result (X : zX) (d : Nat) (h : zH) (sp la : Nat) (rs rp : Int32) (hO : h.2.2 100 = some (bmO sp la rs rp)) (oc : Nat → Int32) (pt : Nat → Option Nat) (hH : isHo h oc pt) (p : Int32) (hp : fndP pt p = none) (x y : Int32) : zR X (d + 2) 25 0 (zent 5 [.ref 100, .int p, .int x, .int y]) [] h (some (.int (-1)), h) := by
  have hfi : zR X (d + 1) 50 0 (zent 2 [.ref 104, .int p]) [] h (some .null, h) := by
    have e := e_Hosp_find X (d + 1) h oc pt hH p
    rw [hp] at e
    exact e
  refine zr_aload_n i_B_result_0 rfl ?_
  refine zr_getf i_B_result_1 hO rfl rfl ?_
  refine zr_iload_n i_B_result_4 rfl ?_
  refine zr_cv1 i_B_result_5 rfl (by decide) (zrcv_of hH.1) (Nat.le_of_ble_eq_true rfl) (Nat.le_of_ble_eq_true rfl) (hfi) ?_
  refine zr_aNstore i_B_result_8 rfl ?_
  refine zr_aloadN i_B_result_10 rfl ?_
  refine zr_ifnonnullN i_B_result_12 ?_
  refine zr_iconst i_B_result_15 (v := (-1)) (by decide) ?_
  refine zr_goto 32 i_B_result_16 (by decide) ?_
  exact zR.retE i_B_result_32 rfl rfl
theorem e_B_result (X : zX) (d : Nat) (h : zH) (sp la : Nat) (rs rp : Int32) (hO : h.2.2 100 = some (bmO sp la rs rp)) (oc : Nat → Int32) (pt : Nat → Option Nat) (hH : isHo h oc pt) (p : Int32) (b : Nat) (hp : fndP pt p = some b) (bed : Int32) (hB : h.2.2 b = some (paO b bed)) (q : zMe) (hQ : isMe h (b + 5) q) (hq : q.1 ≤ 12) (x y : Int32) : zR X (d + 3) 25 0 (zent 5 [.ref 100, .int p, .int x, .int y]) [] h (some (.int (valR q (codeQ x y))), h) := by
  have hfi : zR X (d + 2) 50 0 (zent 2 [.ref 104, .int p]) [] h (some (.ref b), h) := by
    have e := e_Hosp_find X (d + 2) h oc pt hH p
    rw [hp] at e
    exact e
  have hco := e_B_codeOf X d h x y
  have hva := e_Meas_valueOf X (d + 1) h (b + 5) q hQ hq (codeQ x y)
  refine zr_aload_n i_B_result_0 rfl ?_
  refine zr_getf i_B_result_1 hO rfl rfl ?_
  refine zr_iload_n i_B_result_4 rfl ?_
  refine zr_cv1 i_B_result_5 rfl (by decide) (zrcv_of hH.1) (Nat.le_of_ble_eq_true rfl) (Nat.le_of_ble_eq_true rfl) (hfi) ?_
  refine zr_astore i_B_result_8 rfl ?_
  refine zr_aload i_B_result_10 rfl ?_
  refine zr_ifnonnull 19 i_B_result_12 (by decide) ?_
  refine zr_aload i_B_result_19 rfl ?_
  refine zr_getf i_B_result_21 hB rfl rfl ?_
  refine zr_iload_n i_B_result_24 rfl ?_
  refine zr_iload_n i_B_result_25 rfl ?_
  refine zr_cs2 i_B_result_26 rfl (by decide) (Nat.le_of_ble_eq_true rfl) (Nat.le_of_ble_eq_true rfl) (hco) ?_
  refine zr_cv1 i_B_result_29 rfl (by decide) (zrcv_of hQ.1) (Nat.le_of_ble_eq_true rfl) (Nat.le_of_ble_eq_true rfl) (hva) ?_
  exact zR.retE i_B_result_32 rfl rfl
theorem i_B_inBeds_0 : zins 22 0 = some (.aload_n 0) := by decide +kernel
theorem i_B_inBeds_1 : zins 22 1 = some (.getfield 19) := by decide +kernel
theorem i_B_inBeds_4 : zins 22 4 = some (.invokevirtual 135) := by decide +kernel
theorem i_B_inBeds_7 : zins 22 7 = some (.ireturn) := by decide +kernel
theorem e_B_inBeds (X : zX) (d : Nat) (h : zH) (sp la : Nat) (rs rp : Int32) (hO : h.2.2 100 = some (bmO sp la rs rp)) (oc : Nat → Int32) (pt : Nat → Option Nat) (hH : isHo h oc pt) : zR X (d + 2) 22 0 (zent 1 [.ref 100]) [] h (some (.int (nI (cntL oc 0 32 0))), h) := by
  refine zr_aload_n i_B_inBeds_0 rfl ?_
  refine zr_getf i_B_inBeds_1 hO rfl rfl ?_
  refine zr_cv0 i_B_inBeds_4 rfl (by decide) (zrcv_of hH.1) (Nat.le_of_ble_eq_true rfl) (Nat.le_of_ble_eq_true rfl) (e_Hosp_countInBeds X _ h oc pt hH) ?_
  exact zR.retE i_B_inBeds_7 rfl rfl
theorem i_B_name_0 : zins 24 0 = some (.aload_n 0) := by decide +kernel
theorem i_B_name_1 : zins 24 1 = some (.getfield 19) := by decide +kernel
theorem i_B_name_4 : zins 24 4 = some (.iload_n 1) := by decide +kernel
theorem i_B_name_5 : zins 24 5 = some (.invokevirtual 126) := by decide +kernel
theorem i_B_name_8 : zins 24 8 = some (.astore 4) := by decide +kernel
theorem i_B_name_10 : zins 24 10 = some (.aload 4) := by decide +kernel
theorem i_B_name_12 : zins 24 12 = some (.ifnull 13) := by decide +kernel
theorem i_B_name_15 : zins 24 15 = some (.iload_n 2) := by decide +kernel
theorem i_B_name_16 : zins 24 16 = some (.iconst 1) := by decide +kernel
theorem i_B_name_17 : zins 24 17 = some (.if_icmp .lt 8) := by decide +kernel
theorem i_B_name_20 : zins 24 20 = some (.iload_n 2) := by decide +kernel
theorem i_B_name_21 : zins 24 21 = some (.iconst 2) := by decide +kernel
theorem i_B_name_22 : zins 24 22 = some (.if_icmp .le 5) := by decide +kernel
theorem i_B_name_25 : zins 24 25 = some (.iconst (-1)) := by decide +kernel
theorem i_B_name_26 : zins 24 26 = some (.ireturn) := by decide +kernel
theorem i_B_name_27 : zins 24 27 = some (.iload_n 2) := by decide +kernel
theorem i_B_name_28 : zins 24 28 = some (.iconst 1) := by decide +kernel
theorem i_B_name_29 : zins 24 29 = some (.if_icmp .ne 15) := by decide +kernel
theorem i_B_name_32 : zins 24 32 = some (.aload 4) := by decide +kernel
theorem i_B_name_34 : zins 24 34 = some (.getfield 138) := by decide +kernel
theorem i_B_name_37 : zins 24 37 = some (.iload_n 3) := by decide +kernel
theorem i_B_name_38 : zins 24 38 = some (.invokevirtual 120) := by decide +kernel
theorem i_B_name_41 : zins 24 41 = some (.goto 12) := by decide +kernel
theorem i_B_name_44 : zins 24 44 = some (.aload 4) := by decide +kernel
theorem i_B_name_46 : zins 24 46 = some (.getfield 141) := by decide +kernel
theorem i_B_name_49 : zins 24 49 = some (.iload_n 3) := by decide +kernel
theorem i_B_name_50 : zins 24 50 = some (.invokevirtual 120) := by decide +kernel
theorem i_B_name_53 : zins 24 53 = some (.ireturn) := by decide +kernel
theorem n_B_name (X : zX) (d : Nat) (h : zH) (sp la : Nat) (rs rp : Int32) (hO : h.2.2 100 = some (bmO sp la rs rp)) (oc : Nat → Int32) (pt : Nat → Option Nat) (hH : isHo h oc pt) (p : Int32) (hp : fndP pt p = none) (part i : Int32) : zR X (d + 2) 24 0 (zent 5 [.ref 100, .int p, .int part, .int i]) [] h (some (.int (-1)), h) := by
  have hfi : zR X (d + 1) 50 0 (zent 2 [.ref 104, .int p]) [] h (some .null, h) := by
    have e := e_Hosp_find X (d + 1) h oc pt hH p
    rw [hp] at e
    exact e
  refine zr_aload_n i_B_name_0 rfl ?_
  refine zr_getf i_B_name_1 hO rfl rfl ?_
  refine zr_iload_n i_B_name_4 rfl ?_
  refine zr_cv1 i_B_name_5 rfl (by decide) (zrcv_of hH.1) (Nat.le_of_ble_eq_true rfl) (Nat.le_of_ble_eq_true rfl) (hfi) ?_
  refine zr_aNstore i_B_name_8 rfl ?_
  refine zr_aloadN i_B_name_10 rfl ?_
  refine zr_ifnullN 25 i_B_name_12 (by decide) ?_
  refine zr_iconst i_B_name_25 (v := (-1)) (by decide) ?_
  exact zR.retE i_B_name_26 rfl rfl
theorem o_B_name (X : zX) (d : Nat) (h : zH) (sp la : Nat) (rs rp : Int32) (hO : h.2.2 100 = some (bmO sp la rs rp)) (oc : Nat → Int32) (pt : Nat → Option Nat) (hH : isHo h oc pt) (p : Int32) (b : Nat) (hp : fndP pt p = some b) (part i : Int32) (hpa : part < 1 ∨ 2 < part) : zR X (d + 2) 24 0 (zent 5 [.ref 100, .int p, .int part, .int i]) [] h (some (.int (-1)), h) := by
  have hfi : zR X (d + 1) 50 0 (zent 2 [.ref 104, .int p]) [] h (some (.ref b), h) := by
    have e := e_Hosp_find X (d + 1) h oc pt hH p
    rw [hp] at e
    exact e
  refine zr_aload_n i_B_name_0 rfl ?_
  refine zr_getf i_B_name_1 hO rfl rfl ?_
  refine zr_iload_n i_B_name_4 rfl ?_
  refine zr_cv1 i_B_name_5 rfl (by decide) (zrcv_of hH.1) (Nat.le_of_ble_eq_true rfl) (Nat.le_of_ble_eq_true rfl) (hfi) ?_
  refine zr_astore i_B_name_8 rfl ?_
  refine zr_aload i_B_name_10 rfl ?_
  refine zr_ifnull i_B_name_12 ?_
  refine zr_iload_n i_B_name_15 rfl ?_
  refine zr_iconst i_B_name_16 (v := 1) (by decide) ?_
  refine zr_icmp_lt 25 i_B_name_17 (by decide) (fun c_17 => ?_) (fun c_17 => ?_)
  · skip
    refine zr_iconst i_B_name_25 (v := (-1)) (by decide) ?_
    exact zR.retE i_B_name_26 rfl rfl
  · skip
    refine zr_iload_n i_B_name_20 rfl ?_
    refine zr_iconst i_B_name_21 (v := 2) (by decide) ?_
    refine zr_icmp_le 27 i_B_name_22 (by decide) (fun c_22 => ?_) (fun c_22 => ?_)
    · skip
      exact hpa.elim (fun q => absurd q c_17) (fun q => absurd q (Int32.not_lt.mpr c_22))
    · skip
      refine zr_iconst i_B_name_25 (v := (-1)) (by decide) ?_
      exact zR.retE i_B_name_26 rfl rfl
theorem f_B_name (X : zX) (d : Nat) (h : zH) (sp la : Nat) (rs rp : Int32) (hO : h.2.2 100 = some (bmO sp la rs rp)) (oc : Nat → Int32) (pt : Nat → Option Nat) (hH : isHo h oc pt) (p : Int32) (b : Nat) (hp : fndP pt p = some b) (bed : Int32) (hB : h.2.2 b = some (paO b bed)) (n : Nat) (f : Nat → Int32) (hf : isCh h (b + 1) 12 n f) (hn : n ≤ 12) (i : Int32) : zR X (d + 2) 24 0 (zent 5 [.ref 100, .int p, .int 1, .int i]) [] h (some (.int (getF f n i)), h) := by
  have hfi : zR X (d + 1) 50 0 (zent 2 [.ref 104, .int p]) [] h (some (.ref b), h) := by
    have e := e_Hosp_find X (d + 1) h oc pt hH p
    rw [hp] at e
    exact e
  refine zr_aload_n i_B_name_0 rfl ?_
  refine zr_getf i_B_name_1 hO rfl rfl ?_
  refine zr_iload_n i_B_name_4 rfl ?_
  refine zr_cv1 i_B_name_5 rfl (by decide) (zrcv_of hH.1) (Nat.le_of_ble_eq_true rfl) (Nat.le_of_ble_eq_true rfl) (hfi) ?_
  refine zr_astore i_B_name_8 rfl ?_
  refine zr_aload i_B_name_10 rfl ?_
  refine zr_ifnull i_B_name_12 ?_
  refine zr_iload_n i_B_name_15 rfl ?_
  refine zr_iconst i_B_name_16 (v := 1) (by decide) ?_
  refine zr_icmp_lt 25 i_B_name_17 (by decide) (fun q => absurd q (by decide)) (fun c_17 => ?_)
  refine zr_iload_n i_B_name_20 rfl ?_
  refine zr_iconst i_B_name_21 (v := 2) (by decide) ?_
  refine zr_icmp_le 27 i_B_name_22 (by decide) (fun c_22 => ?_) (fun q => absurd q (by decide))
  refine zr_iload_n i_B_name_27 rfl ?_
  refine zr_iconst i_B_name_28 (v := 1) (by decide) ?_
  refine zr_icmp_ne 44 i_B_name_29 (by decide) (fun q => absurd rfl q) (fun c_29 => ?_)
  refine zr_aload i_B_name_32 rfl ?_
  refine zr_getf i_B_name_34 hB rfl rfl ?_
  refine zr_iload_n i_B_name_37 rfl ?_
  refine zr_cv1 i_B_name_38 rfl (by decide) (zrcv_of hf.1) (Nat.le_of_ble_eq_true rfl) (Nat.le_of_ble_eq_true rfl) (e_Chars_at X _ h (b + 1) 12 n f hf hn (by decide) i) ?_
  refine zr_goto 53 i_B_name_41 (by decide) ?_
  exact zR.retE i_B_name_53 rfl rfl
theorem g_B_name (X : zX) (d : Nat) (h : zH) (sp la : Nat) (rs rp : Int32) (hO : h.2.2 100 = some (bmO sp la rs rp)) (oc : Nat → Int32) (pt : Nat → Option Nat) (hH : isHo h oc pt) (p : Int32) (b : Nat) (hp : fndP pt p = some b) (bed : Int32) (hB : h.2.2 b = some (paO b bed)) (n : Nat) (f : Nat → Int32) (hf : isCh h (b + 3) 12 n f) (hn : n ≤ 12) (i : Int32) : zR X (d + 2) 24 0 (zent 5 [.ref 100, .int p, .int 2, .int i]) [] h (some (.int (getF f n i)), h) := by
  have hfi : zR X (d + 1) 50 0 (zent 2 [.ref 104, .int p]) [] h (some (.ref b), h) := by
    have e := e_Hosp_find X (d + 1) h oc pt hH p
    rw [hp] at e
    exact e
  refine zr_aload_n i_B_name_0 rfl ?_
  refine zr_getf i_B_name_1 hO rfl rfl ?_
  refine zr_iload_n i_B_name_4 rfl ?_
  refine zr_cv1 i_B_name_5 rfl (by decide) (zrcv_of hH.1) (Nat.le_of_ble_eq_true rfl) (Nat.le_of_ble_eq_true rfl) (hfi) ?_
  refine zr_astore i_B_name_8 rfl ?_
  refine zr_aload i_B_name_10 rfl ?_
  refine zr_ifnull i_B_name_12 ?_
  refine zr_iload_n i_B_name_15 rfl ?_
  refine zr_iconst i_B_name_16 (v := 1) (by decide) ?_
  refine zr_icmp_lt 25 i_B_name_17 (by decide) (fun q => absurd q (by decide)) (fun c_17 => ?_)
  refine zr_iload_n i_B_name_20 rfl ?_
  refine zr_iconst i_B_name_21 (v := 2) (by decide) ?_
  refine zr_icmp_le 27 i_B_name_22 (by decide) (fun c_22 => ?_) (fun q => absurd q (by decide))
  refine zr_iload_n i_B_name_27 rfl ?_
  refine zr_iconst i_B_name_28 (v := 1) (by decide) ?_
  refine zr_icmp_ne 44 i_B_name_29 (by decide) (fun c_29 => ?_) (fun q => absurd q (by decide))
  refine zr_aload i_B_name_44 rfl ?_
  refine zr_getf i_B_name_46 hB rfl rfl ?_
  refine zr_iload_n i_B_name_49 rfl ?_
  refine zr_cv1 i_B_name_50 rfl (by decide) (zrcv_of hf.1) (Nat.le_of_ble_eq_true rfl) (Nat.le_of_ble_eq_true rfl) (e_Chars_at X _ h (b + 3) 12 n f hf hn (by decide) i) ?_
  exact zR.retE i_B_name_53 rfl rfl
theorem i_B_segments_0 : zins 27 0 = some (.aload_n 0) := by decide +kernel
theorem i_B_segments_1 : zins 27 1 = some (.getfield 56) := by decide +kernel
theorem i_B_segments_4 : zins 27 4 = some (.getfield 160) := by decide +kernel
theorem i_B_segments_7 : zins 27 7 = some (.ireturn) := by decide +kernel
theorem e_B_segments (X : zX) (d : Nat) (h : zH) (sp la : Nat) (rs rp : Int32) (hO : h.2.2 100 = some (bmO sp la rs rp)) (f : Nat → Int32) (n : Nat) (st : Nat → Int32) (cn : Nat) (hM : isM h la f n st cn) : zR X (d + 2) 27 0 (zent 1 [.ref 100]) [] h (some (.int (nI cn)), h) := by
  refine zr_aload_n i_B_segments_0 rfl ?_
  refine zr_getf i_B_segments_1 hO rfl rfl ?_
  refine zr_getf i_B_segments_4 hM.1 rfl rfl ?_
  exact zR.retE i_B_segments_7 rfl rfl
theorem i_B_text_0 : zins 28 0 = some (.aload_n 0) := by decide +kernel
theorem i_B_text_1 : zins 28 1 = some (.getfield 56) := by decide +kernel
theorem i_B_text_4 : zins 28 4 = some (.aload_n 0) := by decide +kernel
theorem i_B_text_5 : zins 28 5 = some (.getfield 56) := by decide +kernel
theorem i_B_text_8 : zins 28 8 = some (.iload_n 1) := by decide +kernel
theorem i_B_text_9 : zins 28 9 = some (.iload_n 2) := by decide +kernel
theorem i_B_text_10 : zins 28 10 = some (.iload_n 3) := by decide +kernel
theorem i_B_text_11 : zins 28 11 = some (.iload 4) := by decide +kernel
theorem i_B_text_13 : zins 28 13 = some (.invokevirtual 163) := by decide +kernel
theorem i_B_text_16 : zins 28 16 = some (.iload 5) := by decide +kernel
theorem i_B_text_18 : zins 28 18 = some (.invokevirtual 166) := by decide +kernel
theorem i_B_text_21 : zins 28 21 = some (.ireturn) := by decide +kernel
theorem e_B_text (X : zX) (d : Nat) (h : zH) (sp la : Nat) (rs rp : Int32) (hO : h.2.2 100 = some (bmO sp la rs rp)) (f : Nat → Int32) (n : Nat) (st : Nat → Int32) (cn : Nat) (hM : isM h la f n st cn) (hn : n ≤ 200) (s F R C i : Int32) (o : Option Nat) (ho : ∀ p, o = some p → p ≤ n) (hfd : zR X (d + 1) 78 0 (zent 10 [.ref la, .int s, .int F, .int R, .int C]) [] h (some (.int (tI o)), h)) : zR X (d + 2) 28 0 (zent 6 [.ref 100, .int s, .int F, .int R, .int C, .int i]) [] h (some (.int (tgt (txo f n o) i)), h) := by
  refine zr_aload_n i_B_text_0 rfl ?_
  refine zr_getf i_B_text_1 hO rfl rfl ?_
  refine zr_aload_n i_B_text_4 rfl ?_
  refine zr_getf i_B_text_5 hO rfl rfl ?_
  refine zr_iload_n i_B_text_8 rfl ?_
  refine zr_iload_n i_B_text_9 rfl ?_
  refine zr_iload_n i_B_text_10 rfl ?_
  refine zr_iload i_B_text_11 rfl ?_
  refine zr_cv4 i_B_text_13 rfl (by decide) (zrcv_of hM.1) (Nat.le_of_ble_eq_true rfl) (Nat.le_of_ble_eq_true rfl) (hfd) ?_
  refine zr_iload i_B_text_16 rfl ?_
  refine zr_cv2 i_B_text_18 rfl (by decide) (zrcv_of hM.1) (Nat.le_of_ble_eq_true rfl) (Nat.le_of_ble_eq_true rfl) (e_Mess_character X _ h la f n st cn hM hn o ho i) ?_
  exact zR.retE i_B_text_21 rfl rfl
theorem i_B_type_0 : zins 1 0 = some (.iconst 0) := by decide +kernel
theorem i_B_type_1 : zins 1 1 = some (.istore_n 3) := by decide +kernel
theorem i_B_type_2 : zins 1 2 = some (.iload_n 3) := by decide +kernel
theorem i_B_type_3 : zins 1 3 = some (.bipush 8) := by decide +kernel
theorem i_B_type_5 : zins 1 5 = some (.if_icmp .ge 30) := by decide +kernel
theorem i_B_type_8 : zins 1 8 = some (.lload_n 1) := by decide +kernel
theorem i_B_type_9 : zins 1 9 = some (.iload_n 3) := by decide +kernel
theorem i_B_type_10 : zins 1 10 = some (.invokestatic 67) := by decide +kernel
theorem i_B_type_13 : zins 1 13 = some (.ifCond .eq 22) := by decide +kernel
theorem i_B_type_16 : zins 1 16 = some (.lload_n 1) := by decide +kernel
theorem i_B_type_17 : zins 1 17 = some (.iload_n 3) := by decide +kernel
theorem i_B_type_18 : zins 1 18 = some (.invokestatic 67) := by decide +kernel
theorem i_B_type_21 : zins 1 21 = some (.invokestatic 71) := by decide +kernel
theorem i_B_type_24 : zins 1 24 = some (.ifCond .ne 5) := by decide +kernel
theorem i_B_type_27 : zins 1 27 = some (.iconst (-1)) := by decide +kernel
theorem i_B_type_28 : zins 1 28 = some (.ireturn) := by decide +kernel
theorem i_B_type_29 : zins 1 29 = some (.iinc 3 1) := by decide +kernel
theorem i_B_type_32 : zins 1 32 = some (.goto (-30)) := by decide +kernel
theorem i_B_type_35 : zins 1 35 = some (.iload_n 3) := by decide +kernel
theorem i_B_type_36 : zins 1 36 = some (.aload_n 0) := by decide +kernel
theorem i_B_type_37 : zins 1 37 = some (.getfield 12) := by decide +kernel
theorem i_B_type_40 : zins 1 40 = some (.getfield 75) := by decide +kernel
theorem i_B_type_43 : zins 1 43 = some (.invokevirtual 78) := by decide +kernel
theorem i_B_type_46 : zins 1 46 = some (.if_icmp .le 5) := by decide +kernel
theorem i_B_type_49 : zins 1 49 = some (.iconst (-1)) := by decide +kernel
theorem i_B_type_50 : zins 1 50 = some (.ireturn) := by decide +kernel
theorem i_B_type_51 : zins 1 51 = some (.iconst 0) := by decide +kernel
theorem i_B_type_52 : zins 1 52 = some (.istore 4) := by decide +kernel
theorem i_B_type_54 : zins 1 54 = some (.iload 4) := by decide +kernel
theorem i_B_type_56 : zins 1 56 = some (.iload_n 3) := by decide +kernel
theorem i_B_type_57 : zins 1 57 = some (.if_icmp .ge 25) := by decide +kernel
theorem i_B_type_60 : zins 1 60 = some (.aload_n 0) := by decide +kernel
theorem i_B_type_61 : zins 1 61 = some (.getfield 12) := by decide +kernel
theorem i_B_type_64 : zins 1 64 = some (.getfield 75) := by decide +kernel
theorem i_B_type_67 : zins 1 67 = some (.lload_n 1) := by decide +kernel
theorem i_B_type_68 : zins 1 68 = some (.iload 4) := by decide +kernel
theorem i_B_type_70 : zins 1 70 = some (.invokestatic 67) := by decide +kernel
theorem i_B_type_73 : zins 1 73 = some (.invokevirtual 82) := by decide +kernel
theorem i_B_type_76 : zins 1 76 = some (.iinc 4 1) := by decide +kernel
theorem i_B_type_79 : zins 1 79 = some (.goto (-25)) := by decide +kernel
theorem i_B_type_82 : zins 1 82 = some (.iload_n 3) := by decide +kernel
theorem i_B_type_83 : zins 1 83 = some (.ireturn) := by decide +kernel
theorem l_B_type (X : zX) (d : Nat) (H : zH) (x : Int64) (U : Nat → Option Value × zH) (y : Option Value) : ∀ (m k : Nat), k + m = 8 → (∀ n, tyL x k m = some n → zR X (d + 2) 1 35 [some (.ref 100), some (.long x), none, some (.int (nI n)), y] [] H (U n)) → zR X (d + 2) 1 2 [some (.ref 100), some (.long x), none, some (.int (nI k)), y] [] H (match tyL x k m with | none => (some (Value.int (-1)), H) | some n => U n) := by
  intro m
  induction m with
  | zero =>
    intro k hk K
    have K := K k rfl
    show zR X (d + 2) 1 2 _ [] _ (U k)
    refine zr_iload_n i_B_type_2 rfl ?_
    refine zn_bipush 8 i_B_type_3 (by decide) ?_
    refine zn_icmp_ge 35 i_B_type_5 (by decide) (by omega) (by omega) (fun c_5 => ?_) (fun q => absurd q (by omega))
    exact K
  | succ m ih =>
    intro k hk K
    have hb := bt_lt x k
    have hmy := e_B_mayStandInFrame X d H (bt x k) hb
    by_cases h0 : bt x k = 0
    · have K := K k (by rw [tyL, if_pos h0])
      rw [tyL, if_pos h0]
      show zR X (d + 2) 1 2 _ [] _ (U k)
      refine zr_iload_n i_B_type_2 rfl ?_
      refine zn_bipush 8 i_B_type_3 (by decide) ?_
      refine zn_icmp_ge 35 i_B_type_5 (by decide) (by omega) (by omega) (fun q => absurd q (by omega)) (fun c_5 => ?_)
      refine zr_lload_n i_B_type_8 rfl ?_
      refine zr_iload_n i_B_type_9 rfl ?_
      refine zr_cs2 i_B_type_10 rfl (by decide) (Nat.le_of_ble_eq_true rfl) (Nat.le_of_ble_eq_true rfl) (e_B_byteOf X _ H x k (by omega)) ?_
      refine zN_if_eq 35 i_B_type_13 (by decide) (by omega) (fun _ => ?_) (fun q => absurd h0 q)
      exact K
    · rw [tyL, if_neg h0] at K ⊢
      cases hok : okB (bt x k) with
      | true =>
        rw [hok] at hmy
        rw [hok, if_pos rfl] at K
        rw [if_pos rfl]
        refine zr_iload_n i_B_type_2 rfl ?_
        refine zn_bipush 8 i_B_type_3 (by decide) ?_
        refine zn_icmp_ge 35 i_B_type_5 (by decide) (by omega) (by omega) (fun q => absurd q (by omega)) (fun c_5 => ?_)
        refine zr_lload_n i_B_type_8 rfl ?_
        refine zr_iload_n i_B_type_9 rfl ?_
        refine zr_cs2 i_B_type_10 rfl (by decide) (Nat.le_of_ble_eq_true rfl) (Nat.le_of_ble_eq_true rfl) (e_B_byteOf X _ H x k (by omega)) ?_
        refine zN_if_eq 35 i_B_type_13 (by decide) (by omega) (fun q => absurd q h0) (fun _ => ?_)
        refine zr_lload_n i_B_type_16 rfl ?_
        refine zr_iload_n i_B_type_17 rfl ?_
        refine zr_cs2 i_B_type_18 rfl (by decide) (Nat.le_of_ble_eq_true rfl) (Nat.le_of_ble_eq_true rfl) (e_B_byteOf X _ H x k (by omega)) ?_
        refine zr_cs1 i_B_type_21 rfl (by decide) (Nat.le_of_ble_eq_true rfl) (Nat.le_of_ble_eq_true rfl) (hmy) ?_
        refine zB_if_ne 29 i_B_type_24 (by decide) (fun _ => ?_) (fun q => absurd q (by decide))
        refine zn_iinc i_B_type_29 rfl rfl ?_
        refine zr_goto 2 i_B_type_32 (by decide) ?_
        exact ih (k + 1) (by omega) K
      | false =>
        rw [hok] at hmy
        rw [if_neg (by decide)]
        refine zr_iload_n i_B_type_2 rfl ?_
        refine zn_bipush 8 i_B_type_3 (by decide) ?_
        refine zn_icmp_ge 35 i_B_type_5 (by decide) (by omega) (by omega) (fun q => absurd q (by omega)) (fun c_5 => ?_)
        refine zr_lload_n i_B_type_8 rfl ?_
        refine zr_iload_n i_B_type_9 rfl ?_
        refine zr_cs2 i_B_type_10 rfl (by decide) (Nat.le_of_ble_eq_true rfl) (Nat.le_of_ble_eq_true rfl) (e_B_byteOf X _ H x k (by omega)) ?_
        refine zN_if_eq 35 i_B_type_13 (by decide) (by omega) (fun q => absurd q h0) (fun _ => ?_)
        refine zr_lload_n i_B_type_16 rfl ?_
        refine zr_iload_n i_B_type_17 rfl ?_
        refine zr_cs2 i_B_type_18 rfl (by decide) (Nat.le_of_ble_eq_true rfl) (Nat.le_of_ble_eq_true rfl) (e_B_byteOf X _ H x k (by omega)) ?_
        refine zr_cs1 i_B_type_21 rfl (by decide) (Nat.le_of_ble_eq_true rfl) (Nat.le_of_ble_eq_true rfl) (hmy) ?_
        refine zB_if_ne 29 i_B_type_24 (by decide) (fun q => absurd q (by decide)) (fun _ => ?_)
        refine zr_iconst i_B_type_27 (v := (-1)) (by decide) ?_
        exact zR.retE i_B_type_28 rfl rfl
theorem l2_B_type (X : zX) (d : Nat) (h : zH) (sp la : Nat) (rs rp : Int32) (hO : h.2.2 100 = some (bmO sp la rs rp)) (hF : h.2.2 101 = some (.inr (2, [.ref 102]))) (x : Int64) (sz n : Nat) (hsz : sz + n ≤ 200) (hn8 : n ≤ 8) (f : Nat → Int32) : ∀ (m k : Nat), k + m = n → zR X (d + 2) 1 54 [some (.ref 100), some (.long x), none, some (.int (nI n)), some (.int (nI k))] [] (chS h 102 200 (sz + k) (zpas f sz (fun i => nI (bt x i)) k)) (some (.int (nI n)), chS h 102 200 (sz + n) (zpas f sz (fun i => nI (bt x i)) n)) := by
  intro m
  induction m with
  | zero =>
    intro k hk
    have : k = n := by omega
    subst this
    refine zr_iload i_B_type_54 rfl ?_
    refine zr_iload_n i_B_type_56 rfl ?_
    refine zn_icmp_ge 82 i_B_type_57 (by decide) (by omega) (by omega) (fun c_57 => ?_) (fun q => absurd q (by omega))
    refine zr_iload_n i_B_type_82 rfl ?_
    exact zR.retE i_B_type_83 rfl rfl
  | succ m ih =>
    intro k hk
    have hn2 := ih (k + 1) (by omega)
    rw [← zpas_s] at hn2
    have hpu := e_Chars_put X (d + 1) h 102 200 (sz + k) (zpas f sz (fun i => nI (bt x i)) k) (by omega) (by decide) (nI (bt x k)) (zch_bt (bt_lt x k))
    rw [if_pos (by omega)] at hpu
    refine zr_iload i_B_type_54 rfl ?_
    refine zr_iload_n i_B_type_56 rfl ?_
    refine zn_icmp_ge 82 i_B_type_57 (by decide) (by omega) (by omega) (fun q => absurd q (by omega)) (fun c_57 => ?_)
    refine zr_aload_n i_B_type_60 rfl ?_
    refine zr_getf i_B_type_61 ((chS_ne (by decide) (by decide)).trans hO) rfl rfl ?_
    refine zr_getf i_B_type_64 ((chS_ne (by decide) (by decide)).trans hF) rfl rfl ?_
    refine zr_lload_n i_B_type_67 rfl ?_
    refine zr_iload i_B_type_68 rfl ?_
    refine zr_cs2 i_B_type_70 rfl (by decide) (Nat.le_of_ble_eq_true rfl) (Nat.le_of_ble_eq_true rfl) (e_B_byteOf X _ _ x k (by omega)) ?_
    refine zr_cv10 i_B_type_73 rfl (by decide) (zrcv_of chS_o) (Nat.le_of_ble_eq_true rfl) (Nat.le_of_ble_eq_true rfl) (hpu) ?_
    refine zn_iinc i_B_type_76 rfl rfl ?_
    refine zr_goto 54 i_B_type_79 (by decide) ?_
    exact hn2
theorem e_B_type (X : zX) (d : Nat) (h : zH) (sp la : Nat) (rs rp : Int32) (hO : h.2.2 100 = some (bmO sp la rs rp)) (hF : h.2.2 101 = some (.inr (2, [.ref 102]))) (x : Int64) (sz : Nat) (hsz : sz ≤ 200) (f : Nat → Int32) : zR X (d + 2) 1 0 (zent 5 [.ref 100, .long x]) [] (chS h 102 200 sz f) (match tyF x with | none => (some (.int (-1)), chS h 102 200 sz f) | some n => if 200 < sz + n then (some (.int (-1)), chS h 102 200 sz f) else (some (.int (nI n)), chS h 102 200 (sz + n) (zpas f sz (fun i => nI (bt x i)) n))) := by
  have hl := l_B_type X d (chS h 102 200 sz f) x (fun n => if 200 < sz + n then (some (.int (-1)), chS h 102 200 sz f) else (some (.int (nI n)), chS h 102 200 (sz + n) (zpas f sz (fun i => nI (bt x i)) n))) none 8 0 rfl (by
    intro n hn
    have hn8 : n ≤ 8 := by have := tyL_le hn; omega
    have hro := e_Chars_room X (d + 1) h 102 200 sz f hsz (by decide)
    show zR X (d + 2) 1 35 _ [] _ (if 200 < sz + n then _ else _)
    by_cases hc : 200 < sz + n
    · rw [if_pos hc]
      refine zr_iload_n i_B_type_35 rfl ?_
      refine zr_aload_n i_B_type_36 rfl ?_
      refine zr_getf i_B_type_37 ((chS_ne (by decide) (by decide)).trans hO) rfl rfl ?_
      refine zr_getf i_B_type_40 ((chS_ne (by decide) (by decide)).trans hF) rfl rfl ?_
      refine zr_cv0 i_B_type_43 rfl (by decide) (zrcv_of chS_o) (Nat.le_of_ble_eq_true rfl) (Nat.le_of_ble_eq_true rfl) (hro) ?_
      refine zn_icmp_le 51 i_B_type_46 (by decide) (by omega) (by omega) (fun q => absurd q (by omega)) (fun c_46 => ?_)
      refine zr_iconst i_B_type_49 (v := (-1)) (by decide) ?_
      exact zR.retE i_B_type_50 rfl rfl
    · rw [if_neg hc]
      have hl2 := l2_B_type X d h sp la rs rp hO hF x sz n (by omega) hn8 f n 0 (by omega)
      rw [zpas_0, Nat.add_zero] at hl2
      refine zr_iload_n i_B_type_35 rfl ?_
      refine zr_aload_n i_B_type_36 rfl ?_
      refine zr_getf i_B_type_37 ((chS_ne (by decide) (by decide)).trans hO) rfl rfl ?_
      refine zr_getf i_B_type_40 ((chS_ne (by decide) (by decide)).trans hF) rfl rfl ?_
      refine zr_cv0 i_B_type_43 rfl (by decide) (zrcv_of chS_o) (Nat.le_of_ble_eq_true rfl) (Nat.le_of_ble_eq_true rfl) (hro) ?_
      refine zn_icmp_le 51 i_B_type_46 (by decide) (by omega) (by omega) (fun c_46 => ?_) (fun q => absurd q (by omega))
      refine zn_iconst 0 i_B_type_51 (by decide) ?_
      refine zr_istore i_B_type_52 rfl ?_
      exact hl2)
  refine zn_iconst 0 i_B_type_0 (by decide) ?_
  refine zr_istore_n i_B_type_1 rfl ?_
  exact hl
