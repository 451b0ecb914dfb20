/-! THE CLASS: reading a frame into a message -/
theorem escF_congr {F S S' : Nat → Int32} {n a : Nat} (h : ∀ k, k < 5 → S k = S' k) : escF F n S a = escF F n S' a := by
  have h3 := h 3 (by decide)
  unfold escF hexOk
  rw [h3]
  cases hw : whichL (nowF F n (a + 1)) with
  | none => rfl
  | some w => dsimp only; rw [h w (whichL_lt hw).1]
theorem whichS_congr {S S' : Nat → Int32} (h : ∀ k, k < 5 → S k = S' k) (c : Int32) : whichS S c = whichS S' c := by
  unfold whichS
  rw [h 0 (by decide), h 1 (by decide), h 2 (by decide), h 4 (by decide)]
theorem bodyF_congr {F S S' : Nat → Int32} {n : Nat} (h : ∀ k, k < 5 → S k = S' k) : ∀ (q a : Nat), bodyF F n S q a = bodyF F n S' q a := by
  intro q
  induction q with
  | zero => intro a; rfl
  | succ q ih =>
    intro a
    rw [bodyF, bodyF, h 3 (by decide), escF_congr h, whichS_congr h]
    simp only [ih]
theorem restF_congr {F S S' : Nat → Int32} {n : Nat} (h : ∀ k, k < 5 → S k = S' k) (a : Nat) : restF F n S a = restF F n S' a := by
  unfold restF
  rw [h 0 (by decide), bodyF_congr h]
theorem segsF_congr {F S S' : Nat → Int32} {n : Nat} (h : ∀ k, k < 5 → S k = S' k) : ∀ (q e : Nat), segsF F n S q e = segsF F n S' q e := by
  intro q
  induction q with
  | zero => intro e; rfl
  | succ q ih =>
    intro e
    rw [segsF, segsF, restF_congr h]
    simp only [ih]
theorem msgF_congr {F S S' : Nat → Int32} {n : Nat} (h : ∀ k, k < 5 → S k = S' k) : msgF F n S = msgF F n S' := by
  unfold msgF
  rw [restF_congr h]
  simp only [segsF_congr h]
theorem fitF_of {f : Nat → Int32} (h : ∀ j, j < 5 → prop1 (f j) = true ∧ ∀ i, i < j → ¬ f i = f j) : fitF f = true := fitL_of 5 0 true rfl (fun j _ hj => h j (by omega))
theorem fitF_congr {S S' : Nat → Int32} (h : ∀ k, k < 5 → S k = S' k) (hf : fitF S = true) : fitF S' = true := by
  refine fitF_of (fun j hj => ?_)
  obtain ⟨h1, h2⟩ := fitF_true hf j hj
  rw [← h j hj]
  exact ⟨h1, fun i hi => by rw [← h i (by omega)]; exact h2 i hi⟩
/-- the five separators as the class reads them -/
def sp5 (F : Nat → Int32) (n : Nat) (S : Nat → Int32) : Nat → Int32 := upd (upd (upd (upd (upd S 0 (clF F n 3)) 1 (clF F n 4)) 2 (clF F n 5)) 3 (clF F n 6)) 4 (clF F n 7)
theorem sp5_at (F : Nat → Int32) (n : Nat) (S : Nat → Int32) (k : Nat) (hk : k < 5) : sp5 F n S k = clF F n (3 + k) := by
  rcases (show k = 0 ∨ k = 1 ∨ k = 2 ∨ k = 3 ∨ k = 4 by omega) with rfl | rfl | rfl | rfl | rfl <;> rfl
theorem sp_fit {F : Nat → Int32} {n : Nat} {S Sm : Nat → Int32} (hm : ∀ k, k < 5 → Sm k = nowF F n (3 + k)) : fitF (sp5 F n S) = fitF Sm ∧ (fitF Sm = true → 8 ≤ n ∧ (∀ k, k < 5 → sp5 F n S k = Sm k) ∧ ∀ k, k < 5 → F (3 + k) = sp5 F n S k) := by
  have a1 : fitF Sm = true → 8 ≤ n ∧ (∀ k, k < 5 → sp5 F n S k = Sm k) ∧ ∀ k, k < 5 → F (3 + k) = sp5 F n S k := by
    intro hf
    have h8 : 8 ≤ n := by
      have h4 := (fit_ne hf (k := 4) (by decide)).1
      rw [hm 4 (by decide)] at h4
      have := now_pos h4
      omega
    refine ⟨h8, fun k hk => ?_, fun k hk => ?_⟩
    · rw [sp5_at F n S k hk, hm k hk]
      unfold clF nowF
      rw [if_pos (by omega), if_pos (by omega)]
    · rw [sp5_at F n S k hk]
      unfold clF
      rw [if_pos (by omega)]
  refine ⟨?_, a1⟩
  cases h1 : fitF Sm with
  | true => exact fitF_congr (fun k hk => ((a1 h1).2.1 k hk).symm) h1
  | false =>
    cases h2 : fitF (sp5 F n S) with
    | false => rfl
    | true =>
      exfalso
      have h4 := (fit_ne h2 (k := 4) (by decide)).2.1
      rw [sp5_at F n S 4 (by decide)] at h4
      have h7 : 7 < n := by
        rcases Nat.lt_or_ge 7 n with q | q
        · exact q
        · exact absurd (if_neg (by omega)) h4
      have := fitF_congr (S' := Sm) (fun k hk => by
        rw [sp5_at F n S k hk, hm k hk]
        unfold clF nowF
        rw [if_pos (by omega), if_pos (by omega)]) h2
      rw [h1] at this
      cases this
theorem ms_sp (h : zH) (m : Nat) (S f st : Nat → Int32) (n k : Nat) : spS (msS h m f n st k) (m + 1) S = msS (spS h (m + 1) S) m f n st k := by
  unfold spS msS
  rw [zwr_comm (a := m) (b := m + 1 + 1) (by omega), zwr_comm (a := m + 4) (b := m + 1 + 1) (by omega), zwr_comm (a := m + 3) (b := m + 1 + 1) (by omega)]
theorem isF_sp {h : zH} {n : Nat} {F S : Nat → Int32} {m : Nat} (hm : 110 ≤ m) (hF : isF h n F) : isF (spS h (m + 1) S) n F := ⟨(spS_ne (by omega)).trans hF.1, (spS_ne (by omega)).trans hF.2.1, (spS_ne (by omega)).trans hF.2.2⟩
/-- a message that holds segments -/
def isMl (h : zH) (a : Nat) (l : List zSeg) : Prop := ∃ f st, isM h a f (encM l).length st l.length ∧ agr f 0 (encM l) ∧ (encM l).length ≤ 200 ∧ l.length ≤ 8 ∧ (∀ s, s ∈ l → segOk s) ∧ ∀ i, i < l.length → st i = nI (stP l i)
theorem i_Frame_readInto_0 : zins 39 0 = some (.aload_n 1) := by decide +kernel
theorem i_Frame_readInto_1 : zins 39 1 = some (.invokevirtual 20) := by decide +kernel
theorem i_Frame_readInto_4 : zins 39 4 = some (.aload_n 0) := by decide +kernel
theorem i_Frame_readInto_5 : zins 39 5 = some (.getfield 14) := by decide +kernel
theorem i_Frame_readInto_8 : zins 39 8 = some (.ldc 25) := by decide +kernel
theorem i_Frame_readInto_10 : zins 39 10 = some (.invokevirtual 27) := by decide +kernel
theorem i_Frame_readInto_13 : zins 39 13 = some (.ifCond .ne 5) := by decide +kernel
theorem i_Frame_readInto_16 : zins 39 16 = some (.iconst 1) := by decide +kernel
theorem i_Frame_readInto_17 : zins 39 17 = some (.ireturn) := by decide +kernel
theorem i_Frame_readInto_18 : zins 39 18 = some (.iconst 0) := by decide +kernel
theorem i_Frame_readInto_19 : zins 39 19 = some (.istore_n 2) := by decide +kernel
theorem i_Frame_readInto_20 : zins 39 20 = some (.iload_n 2) := by decide +kernel
theorem i_Frame_readInto_21 : zins 39 21 = some (.iconst 5) := by decide +kernel
theorem i_Frame_readInto_22 : zins 39 22 = some (.if_icmp .ge 27) := by decide +kernel
theorem i_Frame_readInto_25 : zins 39 25 = some (.aload_n 1) := by decide +kernel
theorem i_Frame_readInto_26 : zins 39 26 = some (.getfield 31) := by decide +kernel
theorem i_Frame_readInto_29 : zins 39 29 = some (.iload_n 2) := by decide +kernel
theorem i_Frame_readInto_30 : zins 39 30 = some (.aload_n 0) := by decide +kernel
theorem i_Frame_readInto_31 : zins 39 31 = some (.getfield 14) := by decide +kernel
theorem i_Frame_readInto_34 : zins 39 34 = some (.iconst 3) := by decide +kernel
theorem i_Frame_readInto_35 : zins 39 35 = some (.iload_n 2) := by decide +kernel
theorem i_Frame_readInto_36 : zins 39 36 = some (.iadd) := by decide +kernel
theorem i_Frame_readInto_37 : zins 39 37 = some (.invokevirtual 35) := by decide +kernel
theorem i_Frame_readInto_40 : zins 39 40 = some (.invokevirtual 39) := by decide +kernel
theorem i_Frame_readInto_43 : zins 39 43 = some (.iinc 2 1) := by decide +kernel
theorem i_Frame_readInto_46 : zins 39 46 = some (.goto (-26)) := by decide +kernel
theorem i_Frame_readInto_49 : zins 39 49 = some (.aload_n 1) := by decide +kernel
theorem i_Frame_readInto_50 : zins 39 50 = some (.getfield 31) := by decide +kernel
theorem i_Frame_readInto_53 : zins 39 53 = some (.invokevirtual 45) := by decide +kernel
theorem i_Frame_readInto_56 : zins 39 56 = some (.ifCond .ne 5) := by decide +kernel
theorem i_Frame_readInto_59 : zins 39 59 = some (.iconst 2) := by decide +kernel
theorem i_Frame_readInto_60 : zins 39 60 = some (.ireturn) := by decide +kernel
theorem i_Frame_readInto_61 : zins 39 61 = some (.aload_n 0) := by decide +kernel
theorem i_Frame_readInto_62 : zins 39 62 = some (.aload_n 1) := by decide +kernel
theorem i_Frame_readInto_63 : zins 39 63 = some (.invokevirtual 49) := by decide +kernel
theorem i_Frame_readInto_66 : zins 39 66 = some (.ifCond .ne 5) := by decide +kernel
theorem i_Frame_readInto_69 : zins 39 69 = some (.iconst 3) := by decide +kernel
theorem i_Frame_readInto_70 : zins 39 70 = some (.ireturn) := by decide +kernel
theorem i_Frame_readInto_71 : zins 39 71 = some (.aload_n 1) := by decide +kernel
theorem i_Frame_readInto_72 : zins 39 72 = some (.getfield 53) := by decide +kernel
theorem i_Frame_readInto_75 : zins 39 75 = some (.bipush 8) := by decide +kernel
theorem i_Frame_readInto_77 : zins 39 77 = some (.if_icmp .le 5) := by decide +kernel
theorem i_Frame_readInto_80 : zins 39 80 = some (.iconst 4) := by decide +kernel
theorem i_Frame_readInto_81 : zins 39 81 = some (.ireturn) := by decide +kernel
theorem i_Frame_readInto_82 : zins 39 82 = some (.aload_n 1) := by decide +kernel
theorem i_Frame_readInto_83 : zins 39 83 = some (.invokevirtual 57) := by decide +kernel
theorem i_Frame_readInto_86 : zins 39 86 = some (.lconst 0) := by decide +kernel
theorem i_Frame_readInto_87 : zins 39 87 = some (.lcmp) := by decide +kernel
theorem i_Frame_readInto_88 : zins 39 88 = some (.ifCond .ne 7) := by decide +kernel
theorem i_Frame_readInto_91 : zins 39 91 = some (.iconst 5) := by decide +kernel
theorem i_Frame_readInto_92 : zins 39 92 = some (.goto 4) := by decide +kernel
theorem i_Frame_readInto_95 : zins 39 95 = some (.iconst 0) := by decide +kernel
theorem i_Frame_readInto_96 : zins 39 96 = some (.ireturn) := by decide +kernel
theorem a_Frame_readInto (X : zX) (d : Nat) (hX : X.2.2.category = 1) (h : zH) (n : Nat) (F : Nat → Int32) (hF0 : isF h n F) (hn : n ≤ 200) (hz0 : zlow h) (hB : byt F n) (m : Nat) (hm : 110 ≤ m) (S : Nat → Int32) (hS0 : isSp h (m + 1) S) (f st : Nat → Int32) (n0 k0 : Nat) (r : Option Value × zH) (hH : headF F n = true) (K : zR X (d + 10) 39 49 [some (.ref 101), some (.ref m), some (.int (nI 5))] [] (msS (spS h (m + 1) (sp5 F n S)) m f 0 st 0) r) : zR X (d + 10) 39 0 (zent 3 [.ref 101, .ref m]) [] (msS h m f n0 st k0) r := by
  have hbw := e_Chars_beginsWith X (d + 5) hX (msS h m f 0 st 0) (msS_low hz0 (by omega)) 102 200 n F (isF_ms hm hF0).2 hn (by decide) 1 ⟨by decide, by decide⟩
  rw [bw_head F n hn, hH] at hbw
  rw [← ms_sp] at K
  have hself : (msS h m f 0 st 0) = (spS (msS h m f 0 st 0) (m + 1) S) := by
    rw [ms_sp]
    unfold spS
    rw [zwr_self (show h.2.2 (m + 1 + 1) = some (spR S) from hS0.2)]
  refine zr_aload_n i_Frame_readInto_0 rfl ?_
  refine zr_cv00 i_Frame_readInto_1 rfl (by decide) (zrcv_of msS_o) (Nat.le_of_ble_eq_true rfl) (Nat.le_of_ble_eq_true rfl) (e_Mess_clear X _ h m f n0 st k0) ?_
  refine zr_aload_n i_Frame_readInto_4 rfl ?_
  refine zr_getf i_Frame_readInto_5 (isF_ms hm hF0).1 rfl rfl ?_
  refine zr_ldc i_Frame_readInto_8 rfl ?_
  refine zr_cv1 i_Frame_readInto_10 rfl (by decide) (zrcv_of (isF_ms hm hF0).2.1) (Nat.le_of_ble_eq_true rfl) (Nat.le_of_ble_eq_true rfl) hbw ?_
  refine zB_if_ne 18 i_Frame_readInto_13 (by decide) (fun _ => ?_) (fun q => absurd q (by decide))
  refine zn_iconst 0 i_Frame_readInto_18 (by decide) ?_
  refine zr_istore_n i_Frame_readInto_19 rfl ?_
  rw [hself]
  refine zr_iload_n i_Frame_readInto_20 rfl ?_
  refine zn_iconst 5 i_Frame_readInto_21 (by decide) ?_
  refine zr_icmp_ge 49 i_Frame_readInto_22 (by decide) (fun q => absurd q (by decide)) (fun _ => ?_)
  refine zr_aload_n i_Frame_readInto_25 rfl ?_
  refine zr_getf i_Frame_readInto_26 ((spS_ne (by omega)).trans msS_o) rfl rfl ?_
  refine zr_iload_n i_Frame_readInto_29 rfl ?_
  refine zr_aload_n i_Frame_readInto_30 rfl ?_
  refine zr_getf i_Frame_readInto_31 (isF_sp hm (isF_ms hm hF0)).1 rfl rfl ?_
  refine zn_iconst 3 i_Frame_readInto_34 (by decide) ?_
  refine zr_iload_n i_Frame_readInto_35 rfl ?_
  refine zn_iadd i_Frame_readInto_36 ?_
  refine zr_cv1 i_Frame_readInto_37 rfl (by decide) (zrcv_of (isF_sp hm (isF_ms hm hF0)).2.1) (Nat.le_of_ble_eq_true rfl) (Nat.le_of_ble_eq_true rfl) (e2_Chars_at X _ (spS (msS h m f 0 st 0) (m + 1) S) n F (isF_sp hm (isF_ms hm hF0)) hn (3 + 0) (by omega)) ?_
  refine zr_cv20 i_Frame_readInto_40 rfl (by decide) (zrcv_of ((spS_ne (by omega)).trans ((msS_ne (by omega) (by omega) (by omega)).trans hS0.1))) (Nat.le_of_ble_eq_true rfl) (Nat.le_of_ble_eq_true rfl) (e_Seps_set X _ (msS h m f 0 st 0) (m + 1) S ((msS_ne (by omega) (by omega) (by omega)).trans hS0.1) 0 (by decide) (clF F n 3)) ?_
  refine zn_iinc i_Frame_readInto_43 rfl rfl ?_
  refine zr_goto 20 i_Frame_readInto_46 (by decide) ?_
  refine zr_iload_n i_Frame_readInto_20 rfl ?_
  refine zn_iconst 5 i_Frame_readInto_21 (by decide) ?_
  refine zr_icmp_ge 49 i_Frame_readInto_22 (by decide) (fun q => absurd q (by decide)) (fun _ => ?_)
  refine zr_aload_n i_Frame_readInto_25 rfl ?_
  refine zr_getf i_Frame_readInto_26 ((spS_ne (by omega)).trans msS_o) rfl rfl ?_
  refine zr_iload_n i_Frame_readInto_29 rfl ?_
  refine zr_aload_n i_Frame_readInto_30 rfl ?_
  refine zr_getf i_Frame_readInto_31 (isF_sp hm (isF_ms hm hF0)).1 rfl rfl ?_
  refine zn_iconst 3 i_Frame_readInto_34 (by decide) ?_
  refine zr_iload_n i_Frame_readInto_35 rfl ?_
  refine zn_iadd i_Frame_readInto_36 ?_
  refine zr_cv1 i_Frame_readInto_37 rfl (by decide) (zrcv_of (isF_sp hm (isF_ms hm hF0)).2.1) (Nat.le_of_ble_eq_true rfl) (Nat.le_of_ble_eq_true rfl) (e2_Chars_at X _ (spS (msS h m f 0 st 0) (m + 1) (upd S 0 (clF F n 3))) n F (isF_sp hm (isF_ms hm hF0)) hn (3 + 1) (by omega)) ?_
  refine zr_cv20 i_Frame_readInto_40 rfl (by decide) (zrcv_of ((spS_ne (by omega)).trans ((msS_ne (by omega) (by omega) (by omega)).trans hS0.1))) (Nat.le_of_ble_eq_true rfl) (Nat.le_of_ble_eq_true rfl) (e_Seps_set X _ (msS h m f 0 st 0) (m + 1) (upd S 0 (clF F n 3)) ((msS_ne (by omega) (by omega) (by omega)).trans hS0.1) 1 (by decide) (clF F n 4)) ?_
  refine zn_iinc i_Frame_readInto_43 rfl rfl ?_
  refine zr_goto 20 i_Frame_readInto_46 (by decide) ?_
  refine zr_iload_n i_Frame_readInto_20 rfl ?_
  refine zn_iconst 5 i_Frame_readInto_21 (by decide) ?_
  refine zr_icmp_ge 49 i_Frame_readInto_22 (by decide) (fun q => absurd q (by decide)) (fun _ => ?_)
  refine zr_aload_n i_Frame_readInto_25 rfl ?_
  refine zr_getf i_Frame_readInto_26 ((spS_ne (by omega)).trans msS_o) rfl rfl ?_
  refine zr_iload_n i_Frame_readInto_29 rfl ?_
  refine zr_aload_n i_Frame_readInto_30 rfl ?_
  refine zr_getf i_Frame_readInto_31 (isF_sp hm (isF_ms hm hF0)).1 rfl rfl ?_
  refine zn_iconst 3 i_Frame_readInto_34 (by decide) ?_
  refine zr_iload_n i_Frame_readInto_35 rfl ?_
  refine zn_iadd i_Frame_readInto_36 ?_
  refine zr_cv1 i_Frame_readInto_37 rfl (by decide) (zrcv_of (isF_sp hm (isF_ms hm hF0)).2.1) (Nat.le_of_ble_eq_true rfl) (Nat.le_of_ble_eq_true rfl) (e2_Chars_at X _ (spS (msS h m f 0 st 0) (m + 1) (upd (upd S 0 (clF F n 3)) 1 (clF F n 4))) n F (isF_sp hm (isF_ms hm hF0)) hn (3 + 2) (by omega)) ?_
  refine zr_cv20 i_Frame_readInto_40 rfl (by decide) (zrcv_of ((spS_ne (by omega)).trans ((msS_ne (by omega) (by omega) (by omega)).trans hS0.1))) (Nat.le_of_ble_eq_true rfl) (Nat.le_of_ble_eq_true rfl) (e_Seps_set X _ (msS h m f 0 st 0) (m + 1) (upd (upd S 0 (clF F n 3)) 1 (clF F n 4)) ((msS_ne (by omega) (by omega) (by omega)).trans hS0.1) 2 (by decide) (clF F n 5)) ?_
  refine zn_iinc i_Frame_readInto_43 rfl rfl ?_
  refine zr_goto 20 i_Frame_readInto_46 (by decide) ?_
  refine zr_iload_n i_Frame_readInto_20 rfl ?_
  refine zn_iconst 5 i_Frame_readInto_21 (by decide) ?_
  refine zr_icmp_ge 49 i_Frame_readInto_22 (by decide) (fun q => absurd q (by decide)) (fun _ => ?_)
  refine zr_aload_n i_Frame_readInto_25 rfl ?_
  refine zr_getf i_Frame_readInto_26 ((spS_ne (by omega)).trans msS_o) rfl rfl ?_
  refine zr_iload_n i_Frame_readInto_29 rfl ?_
  refine zr_aload_n i_Frame_readInto_30 rfl ?_
  refine zr_getf i_Frame_readInto_31 (isF_sp hm (isF_ms hm hF0)).1 rfl rfl ?_
  refine zn_iconst 3 i_Frame_readInto_34 (by decide) ?_
  refine zr_iload_n i_Frame_readInto_35 rfl ?_
  refine zn_iadd i_Frame_readInto_36 ?_
  refine zr_cv1 i_Frame_readInto_37 rfl (by decide) (zrcv_of (isF_sp hm (isF_ms hm hF0)).2.1) (Nat.le_of_ble_eq_true rfl) (Nat.le_of_ble_eq_true rfl) (e2_Chars_at X _ (spS (msS h m f 0 st 0) (m + 1) (upd (upd (upd S 0 (clF F n 3)) 1 (clF F n 4)) 2 (clF F n 5))) n F (isF_sp hm (isF_ms hm hF0)) hn (3 + 3) (by omega)) ?_
  refine zr_cv20 i_Frame_readInto_40 rfl (by decide) (zrcv_of ((spS_ne (by omega)).trans ((msS_ne (by omega) (by omega) (by omega)).trans hS0.1))) (Nat.le_of_ble_eq_true rfl) (Nat.le_of_ble_eq_true rfl) (e_Seps_set X _ (msS h m f 0 st 0) (m + 1) (upd (upd (upd S 0 (clF F n 3)) 1 (clF F n 4)) 2 (clF F n 5)) ((msS_ne (by omega) (by omega) (by omega)).trans hS0.1) 3 (by decide) (clF F n 6)) ?_
  refine zn_iinc i_Frame_readInto_43 rfl rfl ?_
  refine zr_goto 20 i_Frame_readInto_46 (by decide) ?_
  refine zr_iload_n i_Frame_readInto_20 rfl ?_
  refine zn_iconst 5 i_Frame_readInto_21 (by decide) ?_
  refine zr_icmp_ge 49 i_Frame_readInto_22 (by decide) (fun q => absurd q (by decide)) (fun _ => ?_)
  refine zr_aload_n i_Frame_readInto_25 rfl ?_
  refine zr_getf i_Frame_readInto_26 ((spS_ne (by omega)).trans msS_o) rfl rfl ?_
  refine zr_iload_n i_Frame_readInto_29 rfl ?_
  refine zr_aload_n i_Frame_readInto_30 rfl ?_
  refine zr_getf i_Frame_readInto_31 (isF_sp hm (isF_ms hm hF0)).1 rfl rfl ?_
  refine zn_iconst 3 i_Frame_readInto_34 (by decide) ?_
  refine zr_iload_n i_Frame_readInto_35 rfl ?_
  refine zn_iadd i_Frame_readInto_36 ?_
  refine zr_cv1 i_Frame_readInto_37 rfl (by decide) (zrcv_of (isF_sp hm (isF_ms hm hF0)).2.1) (Nat.le_of_ble_eq_true rfl) (Nat.le_of_ble_eq_true rfl) (e2_Chars_at X _ (spS (msS h m f 0 st 0) (m + 1) (upd (upd (upd (upd S 0 (clF F n 3)) 1 (clF F n 4)) 2 (clF F n 5)) 3 (clF F n 6))) n F (isF_sp hm (isF_ms hm hF0)) hn (3 + 4) (by omega)) ?_
  refine zr_cv20 i_Frame_readInto_40 rfl (by decide) (zrcv_of ((spS_ne (by omega)).trans ((msS_ne (by omega) (by omega) (by omega)).trans hS0.1))) (Nat.le_of_ble_eq_true rfl) (Nat.le_of_ble_eq_true rfl) (e_Seps_set X _ (msS h m f 0 st 0) (m + 1) (upd (upd (upd (upd S 0 (clF F n 3)) 1 (clF F n 4)) 2 (clF F n 5)) 3 (clF F n 6)) ((msS_ne (by omega) (by omega) (by omega)).trans hS0.1) 4 (by decide) (clF F n 7)) ?_
  refine zn_iinc i_Frame_readInto_43 rfl rfl ?_
  refine zr_goto 20 i_Frame_readInto_46 (by decide) ?_
  refine zr_iload_n i_Frame_readInto_20 rfl ?_
  refine zn_iconst 5 i_Frame_readInto_21 (by decide) ?_
  refine zr_icmp_ge 49 i_Frame_readInto_22 (by decide) (fun _ => ?_) (fun q => absurd q (by decide))
  exact K
theorem b_Frame_readInto (X : zX) (d : Nat) (hX : X.2.2.category = 1) (h : zH) (n : Nat) (F : Nat → Int32) (hF0 : isF h n F) (hn : n ≤ 200) (hz0 : zlow h) (hB : byt F n) (m : Nat) (hm : 110 ≤ m) (S : Nat → Int32) (hS0 : isSp h (m + 1) S) (f st : Nat → Int32) (n0 k0 : Nat) (hH : headF F n = false) : zR X (d + 10) 39 0 (zent 3 [.ref 101, .ref m]) [] (msS h m f n0 st k0) (some (.int (nI 1)), (msS h m f 0 st 0)) := by
  have hbw := e_Chars_beginsWith X (d + 5) hX (msS h m f 0 st 0) (msS_low hz0 (by omega)) 102 200 n F (isF_ms hm hF0).2 hn (by decide) 1 ⟨by decide, by decide⟩
  rw [bw_head F n hn, hH] at hbw
  refine zr_aload_n i_Frame_readInto_0 rfl ?_
  refine zr_cv00 i_Frame_readInto_1 rfl (by decide) (zrcv_of msS_o) (Nat.le_of_ble_eq_true rfl) (Nat.le_of_ble_eq_true rfl) (e_Mess_clear X _ h m f n0 st k0) ?_
  refine zr_aload_n i_Frame_readInto_4 rfl ?_
  refine zr_getf i_Frame_readInto_5 (isF_ms hm hF0).1 rfl rfl ?_
  refine zr_ldc i_Frame_readInto_8 rfl ?_
  refine zr_cv1 i_Frame_readInto_10 rfl (by decide) (zrcv_of (isF_ms hm hF0).2.1) (Nat.le_of_ble_eq_true rfl) (Nat.le_of_ble_eq_true rfl) hbw ?_
  refine zB_if_ne 18 i_Frame_readInto_13 (by decide) (fun q => absurd q (by decide)) (fun _ => ?_)
  refine zr_iconst i_Frame_readInto_16 (v := 1) (by decide) ?_
  exact zR.retE i_Frame_readInto_17 rfl rfl
/-- the frame read into a message: the reason why it isn't one, the message where it is one -/
theorem e_Frame_readInto (X : zX) (d : Nat) (hX : X.2.2.category = 1) (h : zH) (n : Nat) (F : Nat → Int32) (hF0 : isF h n F) (hn : n ≤ 200) (hz0 : zlow h) (hB : byt F n) (m : Nat) (hm : 110 ≤ m) (S : Nat → Int32) (hS0 : isSp h (m + 1) S) (f st : Nat → Int32) (n0 k0 : Nat) (Sm : Nat → Int32) (hSm : ∀ k, k < 5 → Sm k = nowF F n (3 + k)) : ∃ h', zR X (d + 10) 39 0 (zent 3 [.ref 101, .ref m]) [] (msS h m f n0 st k0) (some (.int (nI (rejF F n Sm))), h') ∧ (∃ S' f' n' st' k', h' = msS (spS h (m + 1) S') m f' n' st' k') ∧ (rejF F n Sm = 0 → isSp h' (m + 1) (sp5 F n S) ∧ (∀ k, k < 5 → (sp5 F n S) k = Sm k) ∧ ∃ l, msgF F n Sm = some l ∧ isMl h' m l) := by
  have hss : (msS h m f 0 st 0) = msS (spS h (m + 1) S) m f 0 st 0 := by
    unfold spS
    rw [zwr_self (show h.2.2 (m + 1 + 1) = some (spR S) from hS0.2)]
  cases hH : headF F n with
  | false =>
    have hr : rejF F n Sm = 1 := by unfold rejF; rw [hH, if_pos rfl]
    rw [hr]
    exact ⟨_, b_Frame_readInto X d hX h n F hF0 hn hz0 hB m hm S hS0 f st n0 k0 hH, ⟨S, f, 0, st, 0, hss⟩, fun z => absurd z (by decide)⟩
  | true =>
    have A := fun r => a_Frame_readInto X d hX h n F hF0 hn hz0 hB m hm S hS0 f st n0 k0 r hH
    have hF5 : isF (spS h (m + 1) (sp5 F n S)) n F := isF_sp hm hF0
    have hS5 : isSp (spS h (m + 1) (sp5 F n S)) (m + 1) (sp5 F n S) := ⟨(spS_ne (by omega)).trans hS0.1, spS_r⟩
    have hz5 : zlow (spS h (m + 1) (sp5 F n S)) := zlow_wr hz0 (by omega)
    have hFz : ∀ i, i < n → ¬ F i = -1 := fun i hi => by
      obtain ⟨c, hc, e⟩ := hB i hi
      rw [e]; exact nI_neg1 (by omega)
    have hpr := e_Seps_areProper X (d + 6) (msS (spS h (m + 1) (sp5 F n S)) m f 0 st 0) (m + 1) (sp5 F n S) (isSp_ms hS5)
    have hrd := e_Frame_readSegments X d (spS h (m + 1) (sp5 F n S)) n F hF5 hn hz5 hFz m hm (sp5 F n S) hS5 f ([], st, 0) rfl

    obtain ⟨hfe, hfp⟩ := sp_fit (S := S) hSm
    cases hf : fitF Sm with
    | false =>
      have hr : rejF F n Sm = 2 := by unfold rejF; rw [hH, hf, if_neg (by decide), if_pos rfl]
      rw [hfe, hf] at hpr
      rw [hr]
      refine ⟨(msS (spS h (m + 1) (sp5 F n S)) m f 0 st 0), A _ ?_, ⟨(sp5 F n S), f, 0, st, 0, rfl⟩, fun z => absurd z (by decide)⟩
      refine zr_aload_n i_Frame_readInto_49 rfl ?_
      refine zr_getf i_Frame_readInto_50 msS_o rfl rfl ?_
      refine zr_cv0 i_Frame_readInto_53 rfl (by decide) (zrcv_of (isSp_ms hS5).1) (Nat.le_of_ble_eq_true rfl) (Nat.le_of_ble_eq_true rfl) (hpr) ?_
      refine zB_if_ne 61 i_Frame_readInto_56 (by decide) (fun q => absurd q (by decide)) (fun _ => ?_)
      refine zr_iconst i_Frame_readInto_59 (v := 2) (by decide) ?_
      exact zR.retE i_Frame_readInto_60 rfl rfl
    | true =>
      obtain ⟨h8, hs1, hs2⟩ := hfp hf
      rw [hfe, hf] at hpr
      have hf5 : fitF (sp5 F n S) = true := by rw [hfe]; exact hf
      have hmr := msg_rd hf5 hB hH h8 hs2 st
      rw [msgF_congr hs1] at hmr
      cases hmg : msgF F n Sm with
      | none =>
        have hr : rejF F n Sm = 3 := by unfold rejF; rw [hH, hf, if_neg (by decide), if_neg (by decide), hmg]
        rw [hmg] at hmr
        dsimp only at hmr
        rw [hmr] at hrd
        rw [hr]
        refine ⟨msZ (spS h (m + 1) (sp5 F n S)) m f (rdA F n (sp5 F n S) n 0 0 ([], st, 0)).1, A _ ?_, ⟨(sp5 F n S), lrow f ((rdA F n (sp5 F n S) n 0 0 ([], st, 0)).1.1.take 200), ((rdA F n (sp5 F n S) n 0 0 ([], st, 0)).1.1.take 200).length, (rdA F n (sp5 F n S) n 0 0 ([], st, 0)).1.2.1, (rdA F n (sp5 F n S) n 0 0 ([], st, 0)).1.2.2, rfl⟩, fun z => absurd z (by decide)⟩
        refine zr_aload_n i_Frame_readInto_49 rfl ?_
        refine zr_getf i_Frame_readInto_50 msS_o rfl rfl ?_
        refine zr_cv0 i_Frame_readInto_53 rfl (by decide) (zrcv_of (isSp_ms hS5).1) (Nat.le_of_ble_eq_true rfl) (Nat.le_of_ble_eq_true rfl) (hpr) ?_
        refine zB_if_ne 61 i_Frame_readInto_56 (by decide) (fun _ => ?_) (fun q => absurd q (by decide))
        refine zr_aload_n i_Frame_readInto_61 rfl ?_
        refine zr_aload_n i_Frame_readInto_62 rfl ?_
        refine zr_cv1 i_Frame_readInto_63 rfl (by decide) (zrcv_of (isF_ms hm hF5).1) (Nat.le_of_ble_eq_true rfl) (Nat.le_of_ble_eq_true rfl) (hrd) ?_
        refine zB_if_ne 71 i_Frame_readInto_66 (by decide) (fun q => absurd q (by decide)) (fun _ => ?_)
        refine zr_iconst i_Frame_readInto_69 (v := 3) (by decide) ?_
        exact zR.retE i_Frame_readInto_70 rfl rfl
      | some l =>
        rw [hmg] at hmr
        obtain ⟨hok, hcls⟩ := hmr
        rw [hok] at hrd
        have hlen := msg_len (fit_ne hf (k := 3) (by decide)).1 h8 hmg
        have hk : (rdA F n (sp5 F n S) n 0 0 ([], st, 0)).1.2.2 = l.length := hcls.2.1
        by_cases hl8 : 8 < l.length
        · have hr : rejF F n Sm = 4 := by unfold rejF; rw [hH, hf, if_neg (by decide), if_neg (by decide), hmg]; exact if_pos hl8
          rw [hr]
          refine ⟨msZ (spS h (m + 1) (sp5 F n S)) m f (rdA F n (sp5 F n S) n 0 0 ([], st, 0)).1, A _ ?_, ⟨(sp5 F n S), lrow f ((rdA F n (sp5 F n S) n 0 0 ([], st, 0)).1.1.take 200), ((rdA F n (sp5 F n S) n 0 0 ([], st, 0)).1.1.take 200).length, (rdA F n (sp5 F n S) n 0 0 ([], st, 0)).1.2.1, (rdA F n (sp5 F n S) n 0 0 ([], st, 0)).1.2.2, rfl⟩, fun z => absurd z (by decide)⟩
          refine zr_aload_n i_Frame_readInto_49 rfl ?_
          refine zr_getf i_Frame_readInto_50 msS_o rfl rfl ?_
          refine zr_cv0 i_Frame_readInto_53 rfl (by decide) (zrcv_of (isSp_ms hS5).1) (Nat.le_of_ble_eq_true rfl) (Nat.le_of_ble_eq_true rfl) (hpr) ?_
          refine zB_if_ne 61 i_Frame_readInto_56 (by decide) (fun _ => ?_) (fun q => absurd q (by decide))
          refine zr_aload_n i_Frame_readInto_61 rfl ?_
          refine zr_aload_n i_Frame_readInto_62 rfl ?_
          refine zr_cv1 i_Frame_readInto_63 rfl (by decide) (zrcv_of (isF_ms hm hF5).1) (Nat.le_of_ble_eq_true rfl) (Nat.le_of_ble_eq_true rfl) (hrd) ?_
          refine zB_if_ne 71 i_Frame_readInto_66 (by decide) (fun _ => ?_) (fun q => absurd q (by decide))
          refine zr_aload_n i_Frame_readInto_71 rfl ?_
          refine zr_getf i_Frame_readInto_72 msS_o rfl rfl ?_
          refine zr_top (y := nI l.length) (by rw [hk]) ?_
          refine zn_bipush 8 i_Frame_readInto_75 (by decide) ?_
          refine zn_icmp_le 82 i_Frame_readInto_77 (by decide) (by omega) (by omega) (fun q => absurd q (by omega)) (fun c_77 => ?_)
          refine zr_iconst i_Frame_readInto_80 (v := 4) (by decide) ?_
          exact zR.retE i_Frame_readInto_81 rfl rfl
        · have hokl : ∀ s, s ∈ l → segOk s := msg_ok hf hB hmg
          have hel := enc_len (l := l) (by intro q; rw [q] at hlen; exact absurd hlen.2 (by decide)) hokl
          have h200 : (encM l).length ≤ 200 := by omega
          have htk : (rdA F n (sp5 F n S) n 0 0 ([], st, 0)).1.1.take 200 = encM l := by rw [hcls.1]; exact List.take_of_length_le h200
          have hM : isM (msZ (spS h (m + 1) (sp5 F n S)) m f (rdA F n (sp5 F n S) n 0 0 ([], st, 0)).1) m (lrow f (encM l)) (encM l).length (rdA F n (sp5 F n S) n 0 0 ([], st, 0)).1.2.1 l.length := by
            have := msS_is (h := (spS h (m + 1) (sp5 F n S))) (a := m) (f := lrow f ((rdA F n (sp5 F n S) n 0 0 ([], st, 0)).1.1.take 200)) (n := ((rdA F n (sp5 F n S) n 0 0 ([], st, 0)).1.1.take 200).length) (st := (rdA F n (sp5 F n S) n 0 0 ([], st, 0)).1.2.1) (k := (rdA F n (sp5 F n S) n 0 0 ([], st, 0)).1.2.2)
            rw [htk, hk] at this
            unfold msZ msL
            rw [htk, hk]
            exact this
          have hag : agr (lrow f (encM l)) 0 (encM l) := fun i x hx => by
            rw [Nat.zero_add]
            unfold lrow
            rw [hx]; rfl
          have hst := hcls.2.2 h200
          have hMl : isMl (msZ (spS h (m + 1) (sp5 F n S)) m f (rdA F n (sp5 F n S) n 0 0 ([], st, 0)).1) m l := ⟨_, _, hM, hag, h200, by omega, hokl, fun i hi => hst i hi (by omega)⟩
          have hP : ∀ s, 1 ≤ s → s ≤ l.length → (rdA F n (sp5 F n S) n 0 0 ([], st, 0)).1.2.1 (s - 1) = nI (PS l s) ∧ PS l s ≤ (encM l).length := fun s q1 q2 => ⟨hst (s - 1) (by omega) (by omega), stP_le (by omega)⟩
          have hl1 := hlen.2
          have hfd := e1_Mess_find X (d + 8) (msZ (spS h (m + 1) (sp5 F n S)) m f (rdA F n (sp5 F n S) n 0 0 ([], st, 0)).1) m _ _ _ _ hM h200 (PS l) hP (by omega) (some 1) (fun s hs => by cases hs; omega) 2 1 1
          have hle := fdo_le (f := lrow f (encM l)) (n := (encM l).length) (P := PS l) (o := some 1) (F := 2) (R := 1) (C := 1) (fun s hs => by cases hs; exact (hP 1 (by decide) (by omega)).2)
          have hid := e_Mess_identity X (d + 6) (msZ (spS h (m + 1) (sp5 F n S)) m f (rdA F n (sp5 F n S) n 0 0 ([], st, 0)).1) m _ _ _ _ hM h200 _ hle hfd
          have hv := view_txt hag rfl (by omega) hokl (some 1) (fun s hs => by cases hs; omega) (F := 2) (R := 1) (C := 1) (by decide)
          rw [hv] at hid
          by_cases hio : idOk (vE (entA 1 l) 1 2 1 1)
          · have hr : rejF F n Sm = 0 := by unfold rejF; rw [hH, hf, if_neg (by decide), if_neg (by decide), hmg]; dsimp only; rw [if_neg hl8, if_pos ((idF_iff _).mpr hio)]
            rw [hr]
            have hne : ¬ lg_cmp (idP (vE (entA 1 l) (nI (sN (some 1))) 2 1 1)) 0 = 0 := fun z => idP_ne hio ((lg0 _ _).mp z)
            refine ⟨msZ (spS h (m + 1) (sp5 F n S)) m f (rdA F n (sp5 F n S) n 0 0 ([], st, 0)).1, A _ ?_, ⟨(sp5 F n S), lrow f ((rdA F n (sp5 F n S) n 0 0 ([], st, 0)).1.1.take 200), ((rdA F n (sp5 F n S) n 0 0 ([], st, 0)).1.1.take 200).length, (rdA F n (sp5 F n S) n 0 0 ([], st, 0)).1.2.1, (rdA F n (sp5 F n S) n 0 0 ([], st, 0)).1.2.2, rfl⟩, fun _ => ⟨isSp_ms hS5, hs1, l, rfl, hMl⟩⟩
            refine zr_aload_n i_Frame_readInto_49 rfl ?_
            refine zr_getf i_Frame_readInto_50 msS_o rfl rfl ?_
            refine zr_cv0 i_Frame_readInto_53 rfl (by decide) (zrcv_of (isSp_ms hS5).1) (Nat.le_of_ble_eq_true rfl) (Nat.le_of_ble_eq_true rfl) (hpr) ?_
            refine zB_if_ne 61 i_Frame_readInto_56 (by decide) (fun _ => ?_) (fun q => absurd q (by decide))
            refine zr_aload_n i_Frame_readInto_61 rfl ?_
            refine zr_aload_n i_Frame_readInto_62 rfl ?_
            refine zr_cv1 i_Frame_readInto_63 rfl (by decide) (zrcv_of (isF_ms hm hF5).1) (Nat.le_of_ble_eq_true rfl) (Nat.le_of_ble_eq_true rfl) (hrd) ?_
            refine zB_if_ne 71 i_Frame_readInto_66 (by decide) (fun _ => ?_) (fun q => absurd q (by decide))
            refine zr_aload_n i_Frame_readInto_71 rfl ?_
            refine zr_getf i_Frame_readInto_72 msS_o rfl rfl ?_
            refine zr_top (y := nI l.length) (by rw [hk]) ?_
            refine zn_bipush 8 i_Frame_readInto_75 (by decide) ?_
            refine zn_icmp_le 82 i_Frame_readInto_77 (by decide) (by omega) (by omega) (fun c_77 => ?_) (fun q => absurd q (by omega))
            refine zr_aload_n i_Frame_readInto_82 rfl ?_
            refine zr_cv0 i_Frame_readInto_83 rfl (by decide) (zrcv_of msS_o) (Nat.le_of_ble_eq_true rfl) (Nat.le_of_ble_eq_true rfl) (hid) ?_
            refine zr_lconst i_Frame_readInto_86 (v := 0) (by decide) ?_
            refine zr_lcmp i_Frame_readInto_87 ?_
            refine zr_if_ne 95 i_Frame_readInto_88 (by decide) (fun _ => ?_) (fun q => absurd q hne)
            refine zr_iconst i_Frame_readInto_95 (v := 0) (by decide) ?_
            exact zR.retE i_Frame_readInto_96 rfl rfl
          · have hr : rejF F n Sm = 5 := by unfold rejF; rw [hH, hf, if_neg (by decide), if_neg (by decide), hmg]; dsimp only; rw [if_neg hl8, if_neg (fun q => hio ((idF_iff _).mp q))]
            rw [hr]
            have hz : lg_cmp (idP (vE (entA 1 l) (nI (sN (some 1))) 2 1 1)) 0 = 0 := (lg0 _ _).mpr (idP_bad hio)
            refine ⟨msZ (spS h (m + 1) (sp5 F n S)) m f (rdA F n (sp5 F n S) n 0 0 ([], st, 0)).1, A _ ?_, ⟨(sp5 F n S), lrow f ((rdA F n (sp5 F n S) n 0 0 ([], st, 0)).1.1.take 200), ((rdA F n (sp5 F n S) n 0 0 ([], st, 0)).1.1.take 200).length, (rdA F n (sp5 F n S) n 0 0 ([], st, 0)).1.2.1, (rdA F n (sp5 F n S) n 0 0 ([], st, 0)).1.2.2, rfl⟩, fun z => absurd z (by decide)⟩
            refine zr_aload_n i_Frame_readInto_49 rfl ?_
            refine zr_getf i_Frame_readInto_50 msS_o rfl rfl ?_
            refine zr_cv0 i_Frame_readInto_53 rfl (by decide) (zrcv_of (isSp_ms hS5).1) (Nat.le_of_ble_eq_true rfl) (Nat.le_of_ble_eq_true rfl) (hpr) ?_
            refine zB_if_ne 61 i_Frame_readInto_56 (by decide) (fun _ => ?_) (fun q => absurd q (by decide))
            refine zr_aload_n i_Frame_readInto_61 rfl ?_
            refine zr_aload_n i_Frame_readInto_62 rfl ?_
            refine zr_cv1 i_Frame_readInto_63 rfl (by decide) (zrcv_of (isF_ms hm hF5).1) (Nat.le_of_ble_eq_true rfl) (Nat.le_of_ble_eq_true rfl) (hrd) ?_
            refine zB_if_ne 71 i_Frame_readInto_66 (by decide) (fun _ => ?_) (fun q => absurd q (by decide))
            refine zr_aload_n i_Frame_readInto_71 rfl ?_
            refine zr_getf i_Frame_readInto_72 msS_o rfl rfl ?_
            refine zr_top (y := nI l.length) (by rw [hk]) ?_
            refine zn_bipush 8 i_Frame_readInto_75 (by decide) ?_
            refine zn_icmp_le 82 i_Frame_readInto_77 (by decide) (by omega) (by omega) (fun c_77 => ?_) (fun q => absurd q (by omega))
            refine zr_aload_n i_Frame_readInto_82 rfl ?_
            refine zr_cv0 i_Frame_readInto_83 rfl (by decide) (zrcv_of msS_o) (Nat.le_of_ble_eq_true rfl) (Nat.le_of_ble_eq_true rfl) (hid) ?_
            refine zr_lconst i_Frame_readInto_86 (v := 0) (by decide) ?_
            refine zr_lcmp i_Frame_readInto_87 ?_
            refine zr_if_ne 95 i_Frame_readInto_88 (by decide) (fun q => absurd hz q) (fun _ => ?_)
            refine zr_iconst i_Frame_readInto_91 (v := 5) (by decide) ?_
            refine zr_goto 96 i_Frame_readInto_92 (by decide) ?_
            exact zR.retE i_Frame_readInto_96 rfl rfl
