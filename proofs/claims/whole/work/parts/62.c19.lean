/-! THE CLASS: writing; receipts -/
theorem i_B_write_0 : zins 29 0 = some (.aload_n 0) := by decide +kernel
theorem i_B_write_1 : zins 29 1 = some (.getfield 33) := by decide +kernel
theorem i_B_write_4 : zins 29 4 = some (.iconst 0) := by decide +kernel
theorem i_B_write_5 : zins 29 5 = some (.iload_n 1) := by decide +kernel
theorem i_B_write_6 : zins 29 6 = some (.invokevirtual 169) := by decide +kernel
theorem i_B_write_9 : zins 29 9 = some (.aload_n 0) := by decide +kernel
theorem i_B_write_10 : zins 29 10 = some (.getfield 33) := by decide +kernel
theorem i_B_write_13 : zins 29 13 = some (.iconst 1) := by decide +kernel
theorem i_B_write_14 : zins 29 14 = some (.iload_n 2) := by decide +kernel
theorem i_B_write_15 : zins 29 15 = some (.invokevirtual 169) := by decide +kernel
theorem i_B_write_18 : zins 29 18 = some (.aload_n 0) := by decide +kernel
theorem i_B_write_19 : zins 29 19 = some (.getfield 33) := by decide +kernel
theorem i_B_write_22 : zins 29 22 = some (.iconst 2) := by decide +kernel
theorem i_B_write_23 : zins 29 23 = some (.iload_n 3) := by decide +kernel
theorem i_B_write_24 : zins 29 24 = some (.invokevirtual 169) := by decide +kernel
theorem i_B_write_27 : zins 29 27 = some (.aload_n 0) := by decide +kernel
theorem i_B_write_28 : zins 29 28 = some (.getfield 33) := by decide +kernel
theorem i_B_write_31 : zins 29 31 = some (.iconst 3) := by decide +kernel
theorem i_B_write_32 : zins 29 32 = some (.iload 4) := by decide +kernel
theorem i_B_write_34 : zins 29 34 = some (.invokevirtual 169) := by decide +kernel
theorem i_B_write_37 : zins 29 37 = some (.aload_n 0) := by decide +kernel
theorem i_B_write_38 : zins 29 38 = some (.getfield 33) := by decide +kernel
theorem i_B_write_41 : zins 29 41 = some (.iconst 4) := by decide +kernel
theorem i_B_write_42 : zins 29 42 = some (.iload 5) := by decide +kernel
theorem i_B_write_44 : zins 29 44 = some (.invokevirtual 169) := by decide +kernel
theorem i_B_write_47 : zins 29 47 = some (.aload_n 0) := by decide +kernel
theorem i_B_write_48 : zins 29 48 = some (.getfield 56) := by decide +kernel
theorem i_B_write_51 : zins 29 51 = some (.getfield 160) := by decide +kernel
theorem i_B_write_54 : zins 29 54 = some (.ifCond .eq 13) := by decide +kernel
theorem i_B_write_57 : zins 29 57 = some (.aload_n 0) := by decide +kernel
theorem i_B_write_58 : zins 29 58 = some (.getfield 33) := by decide +kernel
theorem i_B_write_61 : zins 29 61 = some (.invokevirtual 173) := by decide +kernel
theorem i_B_write_64 : zins 29 64 = some (.ifCond .ne 5) := by decide +kernel
theorem i_B_write_67 : zins 29 67 = some (.iconst (-1)) := by decide +kernel
theorem i_B_write_68 : zins 29 68 = some (.ireturn) := by decide +kernel
theorem i_B_write_69 : zins 29 69 = some (.aload_n 0) := by decide +kernel
theorem i_B_write_70 : zins 29 70 = some (.getfield 46) := by decide +kernel
theorem i_B_write_73 : zins 29 73 = some (.invokevirtual 85) := by decide +kernel
theorem i_B_write_76 : zins 29 76 = some (.aload_n 0) := by decide +kernel
theorem i_B_write_77 : zins 29 77 = some (.getfield 56) := by decide +kernel
theorem i_B_write_80 : zins 29 80 = some (.aload_n 0) := by decide +kernel
theorem i_B_write_81 : zins 29 81 = some (.getfield 46) := by decide +kernel
theorem i_B_write_84 : zins 29 84 = some (.aload_n 0) := by decide +kernel
theorem i_B_write_85 : zins 29 85 = some (.getfield 33) := by decide +kernel
theorem i_B_write_88 : zins 29 88 = some (.invokevirtual 177) := by decide +kernel
theorem i_B_write_91 : zins 29 91 = some (.aload_n 0) := by decide +kernel
theorem i_B_write_92 : zins 29 92 = some (.getfield 46) := by decide +kernel
theorem i_B_write_95 : zins 29 95 = some (.getfield 117) := by decide +kernel
theorem i_B_write_98 : zins 29 98 = some (.ireturn) := by decide +kernel
theorem a_B_write (X : zX) (d : Nat) (hX : X.2.2.category = 1) (h : zH) (hz : zlow h) (sp la : Nat) (rs rp : Int32) (hO : h.2.2 100 = some (bmO sp la rs rp)) (hla : 119 ≤ la ∧ la < 125) (f : Nat → Int32) (n : Nat) (st : Nat → Int32) (cn : Nat) (hM : isM h la f n st cn) (hn : n ≤ 200) (hcn : cn < 1000) (S : Nat → Int32) (hS : isSp h 113 S) (n0 : Nat) (g : Nat → Int32) (hC : isCh h 117 600 n0 g) (a b c e u : Int32) (r : Option Value × zH) (K : zR X (d + 6) 29 47 [some (.ref 100), some (.int a), some (.int b), some (.int c), some (.int e), some (.int u)] [] (spS h 113 (gvF S a b c e u)) r) : zR X (d + 6) 29 0 (zent 6 [.ref 100, .int a, .int b, .int c, .int e, .int u]) [] h r := by
  have hs : h = spS h 113 S := (zwr_self (show h.2.2 (113 + 1) = some (spR S) from hS.2)).symm
  have go : zR X (d + 6) 29 0 (zent 6 [.ref 100, .int a, .int b, .int c, .int e, .int u]) [] (spS h 113 S) r := by
    refine zr_aload_n i_B_write_0 rfl ?_
    refine zr_getf i_B_write_1 ((spS_ne (by decide)).trans hO) rfl rfl ?_
    refine zr_iconst i_B_write_4 (v := 0) (by decide) ?_
    refine zr_iload_n i_B_write_5 rfl ?_
    refine zr_cv20 i_B_write_6 rfl (by decide) (zrcv_of ((spS_ne (by decide)).trans hS.1)) (Nat.le_of_ble_eq_true rfl) (Nat.le_of_ble_eq_true rfl) (e_Seps_set X _ h 113 S hS.1 0 (by decide) a) ?_
    refine zr_aload_n i_B_write_9 rfl ?_
    refine zr_getf i_B_write_10 ((spS_ne (by decide)).trans hO) rfl rfl ?_
    refine zr_iconst i_B_write_13 (v := 1) (by decide) ?_
    refine zr_iload_n i_B_write_14 rfl ?_
    refine zr_cv20 i_B_write_15 rfl (by decide) (zrcv_of ((spS_ne (by decide)).trans hS.1)) (Nat.le_of_ble_eq_true rfl) (Nat.le_of_ble_eq_true rfl) (e_Seps_set X _ h 113 (upd S 0 a) hS.1 1 (by decide) b) ?_
    refine zr_aload_n i_B_write_18 rfl ?_
    refine zr_getf i_B_write_19 ((spS_ne (by decide)).trans hO) rfl rfl ?_
    refine zr_iconst i_B_write_22 (v := 2) (by decide) ?_
    refine zr_iload_n i_B_write_23 rfl ?_
    refine zr_cv20 i_B_write_24 rfl (by decide) (zrcv_of ((spS_ne (by decide)).trans hS.1)) (Nat.le_of_ble_eq_true rfl) (Nat.le_of_ble_eq_true rfl) (e_Seps_set X _ h 113 (upd (upd S 0 a) 1 b) hS.1 2 (by decide) c) ?_
    refine zr_aload_n i_B_write_27 rfl ?_
    refine zr_getf i_B_write_28 ((spS_ne (by decide)).trans hO) rfl rfl ?_
    refine zr_iconst i_B_write_31 (v := 3) (by decide) ?_
    refine zr_iload i_B_write_32 rfl ?_
    refine zr_cv20 i_B_write_34 rfl (by decide) (zrcv_of ((spS_ne (by decide)).trans hS.1)) (Nat.le_of_ble_eq_true rfl) (Nat.le_of_ble_eq_true rfl) (e_Seps_set X _ h 113 (upd (upd (upd S 0 a) 1 b) 2 c) hS.1 3 (by decide) e) ?_
    refine zr_aload_n i_B_write_37 rfl ?_
    refine zr_getf i_B_write_38 ((spS_ne (by decide)).trans hO) rfl rfl ?_
    refine zr_iconst i_B_write_41 (v := 4) (by decide) ?_
    refine zr_iload i_B_write_42 rfl ?_
    refine zr_cv20 i_B_write_44 rfl (by decide) (zrcv_of ((spS_ne (by decide)).trans hS.1)) (Nat.le_of_ble_eq_true rfl) (Nat.le_of_ble_eq_true rfl) (e_Seps_set X _ h 113 (upd (upd (upd (upd S 0 a) 1 b) 2 c) 3 e) hS.1 4 (by decide) u) ?_
    exact K
  rw [← hs] at go
  exact go
theorem n_B_write (X : zX) (d : Nat) (hX : X.2.2.category = 1) (h : zH) (hz : zlow h) (sp la : Nat) (rs rp : Int32) (hO : h.2.2 100 = some (bmO sp la rs rp)) (hla : 119 ≤ la ∧ la < 125) (f : Nat → Int32) (n : Nat) (st : Nat → Int32) (cn : Nat) (hM : isM h la f n st cn) (hn : n ≤ 200) (hcn : cn < 1000) (S : Nat → Int32) (hS : isSp h 113 S) (n0 : Nat) (g : Nat → Int32) (hC : isCh h 117 600 n0 g) (a b c e u : Int32) (hno : cn = 0 ∨ fitF (gvF S a b c e u) = false) : zR X (d + 6) 29 0 (zent 6 [.ref 100, .int a, .int b, .int c, .int e, .int u]) [] h (some (.int (-1)), (spS h 113 (gvF S a b c e u))) := by
  refine a_B_write X d hX h hz sp la rs rp hO hla f n st cn hM hn hcn S hS n0 g hC a b c e u _ ?_
  have hpr := e_Seps_areProper X (d + 2) (spS h 113 (gvF S a b c e u)) 113 (gvF S a b c e u) ⟨(spS_ne (by decide)).trans hS.1, spS_r⟩
  by_cases h0 : cn = 0
  · skip
    refine zr_aload_n i_B_write_47 rfl ?_
    refine zr_getf i_B_write_48 ((spS_ne (by decide)).trans hO) rfl rfl ?_
    refine zr_getf i_B_write_51 ((spS_ne (by omega)).trans hM.1) rfl rfl ?_
    refine zN_if_eq 67 i_B_write_54 (by decide) (by omega) (fun _ => ?_) (fun q => absurd h0 q)
    refine zr_iconst i_B_write_67 (v := (-1)) (by decide) ?_
    exact zR.retE i_B_write_68 rfl rfl
  · have hf : fitF (gvF S a b c e u) = false := hno.elim (fun q => absurd q h0) id
    rw [hf] at hpr
    refine zr_aload_n i_B_write_47 rfl ?_
    refine zr_getf i_B_write_48 ((spS_ne (by decide)).trans hO) rfl rfl ?_
    refine zr_getf i_B_write_51 ((spS_ne (by omega)).trans hM.1) rfl rfl ?_
    refine zN_if_eq 67 i_B_write_54 (by decide) (by omega) (fun q => absurd q h0) (fun _ => ?_)
    refine zr_aload_n i_B_write_57 rfl ?_
    refine zr_getf i_B_write_58 ((spS_ne (by decide)).trans hO) rfl rfl ?_
    refine zr_cv0 i_B_write_61 rfl (by decide) (zrcv_of ((spS_ne (by decide)).trans hS.1)) (Nat.le_of_ble_eq_true rfl) (Nat.le_of_ble_eq_true rfl) (hpr) ?_
    refine zB_if_ne 69 i_B_write_64 (by decide) (fun q => absurd q (by decide)) (fun _ => ?_)
    refine zr_iconst i_B_write_67 (v := (-1)) (by decide) ?_
    exact zR.retE i_B_write_68 rfl rfl
theorem e_B_write (X : zX) (d : Nat) (hX : X.2.2.category = 1) (h : zH) (hz : zlow h) (sp la : Nat) (rs rp : Int32) (hO : h.2.2 100 = some (bmO sp la rs rp)) (hla : 119 ≤ la ∧ la < 125) (f : Nat → Int32) (n : Nat) (st : Nat → Int32) (cn : Nat) (hM : isM h la f n st cn) (hn : n ≤ 200) (hcn : cn < 1000) (S : Nat → Int32) (hS : isSp h 113 S) (n0 : Nat) (g : Nat → Int32) (hC : isCh h 117 600 n0 g) (a b c e u : Int32) (h0 : ¬ cn = 0) (hf : fitF (gvF S a b c e u) = true) (h3 : 3 ≤ n) (hg : ∀ i, i < n → (f i < 256 ∧ zch (f i)) ∨ (¬ f i < 256 ∧ (f i = 261 ∨ ∃ w, w < 5 ∧ f i = nI (256 + w)))) : zR X (d + 6) 29 0 (zent 6 [.ref 100, .int a, .int b, .int c, .int e, .int u]) [] h (some (.int (nI ((sT 1 ++ [(gvF S a b c e u) 0, (gvF S a b c e u) 1, (gvF S a b c e u) 2, (gvF S a b c e u) 3, (gvF S a b c e u) 4] ++ wtL f (gvF S a b c e u) 3 (n - 3)).take 600).length)), chL (spS h 113 (gvF S a b c e u)) 117 600 (sT 1 ++ [(gvF S a b c e u) 0, (gvF S a b c e u) 1, (gvF S a b c e u) 2, (gvF S a b c e u) 3, (gvF S a b c e u) 4] ++ wtL f (gvF S a b c e u) 3 (n - 3)) g) := by
  refine a_B_write X d hX h hz sp la rs rp hO hla f n st cn hM hn hcn S hS n0 g hC a b c e u _ ?_
  have hS1 : isSp (spS h 113 (gvF S a b c e u)) 113 (gvF S a b c e u) := ⟨(spS_ne (by decide)).trans hS.1, spS_r⟩
  have hpr := e_Seps_areProper X (d + 2) (spS h 113 (gvF S a b c e u)) 113 (gvF S a b c e u) hS1
  rw [hf] at hpr
  have hC1 : isCh (spS h 113 (gvF S a b c e u)) 117 600 n0 g := ⟨(spS_ne (by decide)).trans hC.1, (spS_ne (by decide)).trans hC.2⟩
  have hcl := e_Chars_clear X (d + 5) (spS h 113 (gvF S a b c e u)) 117 600 n0 g
  rw [chS_self hC1] at hcl
  have hcl2 : zR X (d + 5) 34 0 (zent 1 [.ref 117]) [] (spS h 113 (gvF S a b c e u)) (none, chL (spS h 113 (gvF S a b c e u)) 117 600 [] g) := hcl
  have hM1 : isM (spS h 113 (gvF S a b c e u)) la f n st cn := ⟨(spS_ne (by omega)).trans hM.1, (spS_ne (by omega)).trans hM.2.1, (spS_ne (by omega)).trans hM.2.2⟩
  have hwr := e_Mess_writeTo X d hX (spS h 113 (gvF S a b c e u)) (zlow_wr hz (by decide)) la f n st cn hM1 hn 113 (gvF S a b c e u) 117 600 (by decide) g (by decide) hS1 (by decide) (by decide) (by decide) (fun k hk => (prop1_ne (fitF_true hf k hk).1).2.2.1) ⟨by omega, by omega, by omega, by omega⟩ hg h3
  refine zr_aload_n i_B_write_47 rfl ?_
  refine zr_getf i_B_write_48 ((spS_ne (by decide)).trans hO) rfl rfl ?_
  refine zr_getf i_B_write_51 ((spS_ne (by omega)).trans hM.1) rfl rfl ?_
  refine zN_if_eq 67 i_B_write_54 (by decide) (by omega) (fun q => absurd q h0) (fun _ => ?_)
  refine zr_aload_n i_B_write_57 rfl ?_
  refine zr_getf i_B_write_58 ((spS_ne (by decide)).trans hO) rfl rfl ?_
  refine zr_cv0 i_B_write_61 rfl (by decide) (zrcv_of ((spS_ne (by decide)).trans hS.1)) (Nat.le_of_ble_eq_true rfl) (Nat.le_of_ble_eq_true rfl) (hpr) ?_
  refine zB_if_ne 69 i_B_write_64 (by decide) (fun _ => ?_) (fun q => absurd q (by decide))
  refine zr_aload_n i_B_write_69 rfl ?_
  refine zr_getf i_B_write_70 ((spS_ne (by decide)).trans hO) rfl rfl ?_
  refine zr_cv00 i_B_write_73 rfl (by decide) (zrcv_of hC1.1) (Nat.le_of_ble_eq_true rfl) (Nat.le_of_ble_eq_true rfl) (hcl2) ?_
  refine zr_aload_n i_B_write_76 rfl ?_
  refine zr_getf i_B_write_77 ((chS_ne (by decide) (by decide)).trans ((spS_ne (by decide)).trans hO)) rfl rfl ?_
  refine zr_aload_n i_B_write_80 rfl ?_
  refine zr_getf i_B_write_81 ((chS_ne (by decide) (by decide)).trans ((spS_ne (by decide)).trans hO)) rfl rfl ?_
  refine zr_aload_n i_B_write_84 rfl ?_
  refine zr_getf i_B_write_85 ((chS_ne (by decide) (by decide)).trans ((spS_ne (by decide)).trans hO)) rfl rfl ?_
  refine zr_cv20 i_B_write_88 rfl (by decide) (zrcv_of ((chS_ne (by omega) (by omega)).trans ((spS_ne (by omega)).trans hM.1))) (Nat.le_of_ble_eq_true rfl) (Nat.le_of_ble_eq_true rfl) (hwr) ?_
  refine zr_aload_n i_B_write_91 rfl ?_
  refine zr_getf i_B_write_92 ((chS_ne (by decide) (by decide)).trans ((spS_ne (by decide)).trans hO)) rfl rfl ?_
  refine zr_getf i_B_write_95 chS_o rfl rfl ?_
  exact zR.retE i_B_write_98 rfl rfl
theorem i_B_writeReceiptField_0 : zins 14 0 = some (.aload_n 0) := by decide +kernel
theorem i_B_writeReceiptField_1 : zins 14 1 = some (.getfield 42) := by decide +kernel
theorem i_B_writeReceiptField_4 : zins 14 4 = some (.aload_n 0) := by decide +kernel
theorem i_B_writeReceiptField_5 : zins 14 5 = some (.getfield 56) := by decide +kernel
theorem i_B_writeReceiptField_8 : zins 14 8 = some (.getfield 200) := by decide +kernel
theorem i_B_writeReceiptField_11 : zins 14 11 = some (.iconst 0) := by decide +kernel
theorem i_B_writeReceiptField_12 : zins 14 12 = some (.invokevirtual 227) := by decide +kernel
theorem i_B_writeReceiptField_15 : zins 14 15 = some (.invokevirtual 82) := by decide +kernel
theorem i_B_writeReceiptField_18 : zins 14 18 = some (.aload_n 0) := by decide +kernel
theorem i_B_writeReceiptField_19 : zins 14 19 = some (.getfield 42) := by decide +kernel
theorem i_B_writeReceiptField_22 : zins 14 22 = some (.aload_n 1) := by decide +kernel
theorem i_B_writeReceiptField_23 : zins 14 23 = some (.invokevirtual 196) := by decide +kernel
theorem i_B_writeReceiptField_26 : zins 14 26 = some (.return_) := by decide +kernel
theorem e_B_writeReceiptField (X : zX) (d : Nat) (hX : X.2.2.category = 1) (h : zH) (hz : zlow h) (sp la : Nat) (rs rp : Int32) (hO : h.2.2 100 = some (bmO sp la rs rp)) (hla : 119 ≤ la ∧ la < 125) (f : Nat → Int32) (n : Nat) (st : Nat → Int32) (cn : Nat) (hM : isM h la f n st cn) (hn : n ≤ 200) (S : Nat → Int32) (hS : isSp h (la + 1) S) (hzS : ∀ k, k < 5 → zch (S k)) (g : Nat → Int32) (l : List Int32) (k : Nat) (hk : zsk k) : zR X (d + 5) 14 0 (zent 2 [.ref 100, .ref k]) [] (chL h 115 40 l g) (none, (chL h 115 40 (l ++ [S 0] ++ sT k) g)) := by
  have hat : zR X (d + 4) 70 0 (zent 2 [.ref (la + 1), .int 0]) [] (chL h 115 40 l g) (some (.int (S 0)), (chL h 115 40 l g)) := (by rw [show S 0 = getF S 5 0 from (getF_in (j := 0) (by decide) (by decide)).symm]; exact e_Seps_at X _ (chL h 115 40 l g) (la + 1) S ⟨(chS_ne (by omega) (by omega)).trans hS.1, (chS_ne (by omega) (by omega)).trans hS.2⟩ 0)
  refine zr_aload_n i_B_writeReceiptField_0 rfl ?_
  refine zr_getf i_B_writeReceiptField_1 ((chS_ne (by decide) (by decide)).trans hO) rfl rfl ?_
  refine zr_aload_n i_B_writeReceiptField_4 rfl ?_
  refine zr_getf i_B_writeReceiptField_5 ((chS_ne (by decide) (by decide)).trans hO) rfl rfl ?_
  refine zr_getf i_B_writeReceiptField_8 ((chS_ne (by omega) (by omega)).trans hM.1) rfl rfl ?_
  refine zr_iconst i_B_writeReceiptField_11 (v := 0) (by decide) ?_
  refine zr_cv1 i_B_writeReceiptField_12 rfl (by decide) (zrcv_of ((chS_ne (by omega) (by omega)).trans hS.1)) (Nat.le_of_ble_eq_true rfl) (Nat.le_of_ble_eq_true rfl) (hat) ?_
  refine zr_cv10 i_B_writeReceiptField_15 rfl (by decide) (zrcv_of chS_o) (Nat.le_of_ble_eq_true rfl) (Nat.le_of_ble_eq_true rfl) (e1_Chars_put X _ h 115 40 l g (by decide) (S 0) (hzS 0 (by decide))) ?_
  refine zr_aload_n i_B_writeReceiptField_18 rfl ?_
  refine zr_getf i_B_writeReceiptField_19 ((chS_ne (by decide) (by decide)).trans hO) rfl rfl ?_
  refine zr_aload_n i_B_writeReceiptField_22 rfl ?_
  refine zr_cv10 i_B_writeReceiptField_23 rfl (by decide) (zrcv_of chS_o) (Nat.le_of_ble_eq_true rfl) (Nat.le_of_ble_eq_true rfl) (e_Chars_putAll X d hX h hz 115 40 (by decide) (by decide) (l ++ [S 0]) g k hk) ?_
  exact zR.retE i_B_writeReceiptField_26 rfl rfl
theorem i_B_writeReceiptIdentity_0 : zins 15 0 = some (.aload_n 0) := by decide +kernel
theorem i_B_writeReceiptIdentity_1 : zins 15 1 = some (.getfield 42) := by decide +kernel
theorem i_B_writeReceiptIdentity_4 : zins 15 4 = some (.aload_n 0) := by decide +kernel
theorem i_B_writeReceiptIdentity_5 : zins 15 5 = some (.getfield 56) := by decide +kernel
theorem i_B_writeReceiptIdentity_8 : zins 15 8 = some (.getfield 200) := by decide +kernel
theorem i_B_writeReceiptIdentity_11 : zins 15 11 = some (.iconst 0) := by decide +kernel
theorem i_B_writeReceiptIdentity_12 : zins 15 12 = some (.invokevirtual 227) := by decide +kernel
theorem i_B_writeReceiptIdentity_15 : zins 15 15 = some (.invokevirtual 82) := by decide +kernel
theorem i_B_writeReceiptIdentity_18 : zins 15 18 = some (.aload_n 0) := by decide +kernel
theorem i_B_writeReceiptIdentity_19 : zins 15 19 = some (.getfield 56) := by decide +kernel
theorem i_B_writeReceiptIdentity_22 : zins 15 22 = some (.aload_n 0) := by decide +kernel
theorem i_B_writeReceiptIdentity_23 : zins 15 23 = some (.getfield 56) := by decide +kernel
theorem i_B_writeReceiptIdentity_26 : zins 15 26 = some (.iconst 1) := by decide +kernel
theorem i_B_writeReceiptIdentity_27 : zins 15 27 = some (.iconst 2) := by decide +kernel
theorem i_B_writeReceiptIdentity_28 : zins 15 28 = some (.iconst 1) := by decide +kernel
theorem i_B_writeReceiptIdentity_29 : zins 15 29 = some (.iconst 1) := by decide +kernel
theorem i_B_writeReceiptIdentity_30 : zins 15 30 = some (.invokevirtual 163) := by decide +kernel
theorem i_B_writeReceiptIdentity_33 : zins 15 33 = some (.aload_n 0) := by decide +kernel
theorem i_B_writeReceiptIdentity_34 : zins 15 34 = some (.getfield 42) := by decide +kernel
theorem i_B_writeReceiptIdentity_37 : zins 15 37 = some (.invokevirtual 228) := by decide +kernel
theorem i_B_writeReceiptIdentity_40 : zins 15 40 = some (.return_) := by decide +kernel
theorem e_B_writeReceiptIdentity (X : zX) (d : Nat) (hX : X.2.2.category = 1) (h : zH) (hz : zlow h) (sp la : Nat) (rs rp : Int32) (hO : h.2.2 100 = some (bmO sp la rs rp)) (hla : 119 ≤ la ∧ la < 125) (f : Nat → Int32) (n : Nat) (st : Nat → Int32) (cn : Nat) (hM : isM h la f n st cn) (hn : n ≤ 200) (S : Nat → Int32) (hS : isSp h (la + 1) S) (hzS : ∀ k, k < 5 → zch (S k)) (g : Nat → Int32) (o : Option Nat) (ho : ∀ p, o = some p → p ≤ n) (hz2 : ∀ i, i < n → f i < 256 → zch (f i)) (hfd : ∀ l, zR X (d + 4) 78 0 (zent 10 [.ref la, .int 1, .int 2, .int 1, .int 1]) [] (chL h 115 40 l g) (some (.int (tI o)), (chL h 115 40 l g))) (l : List Int32) : zR X (d + 5) 15 0 (zent 1 [.ref 100]) [] (chL h 115 40 l g) (none, (chL h 115 40 (l ++ [S 0] ++ ((txo f n o).getD [])) g)) := by
  have hat : zR X (d + 4) 70 0 (zent 2 [.ref (la + 1), .int 0]) [] (chL h 115 40 l g) (some (.int (S 0)), (chL h 115 40 l g)) := (by rw [show S 0 = getF S 5 0 from (getF_in (j := 0) (by decide) (by decide)).symm]; exact e_Seps_at X _ (chL h 115 40 l g) (la + 1) S ⟨(chS_ne (by omega) (by omega)).trans hS.1, (chS_ne (by omega) (by omega)).trans hS.2⟩ 0)
  have hco := e_Mess_copyText X (d + 3) h la f n st cn hM hn 115 40 (by decide) ⟨by omega, by omega, by omega, by omega, by omega, by omega⟩ hz2 (l ++ [S 0]) g o ho
  refine zr_aload_n i_B_writeReceiptIdentity_0 rfl ?_
  refine zr_getf i_B_writeReceiptIdentity_1 ((chS_ne (by decide) (by decide)).trans hO) rfl rfl ?_
  refine zr_aload_n i_B_writeReceiptIdentity_4 rfl ?_
  refine zr_getf i_B_writeReceiptIdentity_5 ((chS_ne (by decide) (by decide)).trans hO) rfl rfl ?_
  refine zr_getf i_B_writeReceiptIdentity_8 ((chS_ne (by omega) (by omega)).trans hM.1) rfl rfl ?_
  refine zr_iconst i_B_writeReceiptIdentity_11 (v := 0) (by decide) ?_
  refine zr_cv1 i_B_writeReceiptIdentity_12 rfl (by decide) (zrcv_of ((chS_ne (by omega) (by omega)).trans hS.1)) (Nat.le_of_ble_eq_true rfl) (Nat.le_of_ble_eq_true rfl) (hat) ?_
  refine zr_cv10 i_B_writeReceiptIdentity_15 rfl (by decide) (zrcv_of chS_o) (Nat.le_of_ble_eq_true rfl) (Nat.le_of_ble_eq_true rfl) (e1_Chars_put X _ h 115 40 l g (by decide) (S 0) (hzS 0 (by decide))) ?_
  refine zr_aload_n i_B_writeReceiptIdentity_18 rfl ?_
  refine zr_getf i_B_writeReceiptIdentity_19 ((chS_ne (by decide) (by decide)).trans hO) rfl rfl ?_
  refine zr_aload_n i_B_writeReceiptIdentity_22 rfl ?_
  refine zr_getf i_B_writeReceiptIdentity_23 ((chS_ne (by decide) (by decide)).trans hO) rfl rfl ?_
  refine zr_iconst i_B_writeReceiptIdentity_26 (v := 1) (by decide) ?_
  refine zr_iconst i_B_writeReceiptIdentity_27 (v := 2) (by decide) ?_
  refine zr_iconst i_B_writeReceiptIdentity_28 (v := 1) (by decide) ?_
  refine zr_iconst i_B_writeReceiptIdentity_29 (v := 1) (by decide) ?_
  refine zr_cv4 i_B_writeReceiptIdentity_30 rfl (by decide) (zrcv_of ((chS_ne (by omega) (by omega)).trans hM.1)) (Nat.le_of_ble_eq_true rfl) (Nat.le_of_ble_eq_true rfl) (hfd (l ++ [S 0])) ?_
  refine zr_aload_n i_B_writeReceiptIdentity_33 rfl ?_
  refine zr_getf i_B_writeReceiptIdentity_34 ((chS_ne (by decide) (by decide)).trans hO) rfl rfl ?_
  refine zr_cv20 i_B_writeReceiptIdentity_37 rfl (by decide) (zrcv_of ((chS_ne (by omega) (by omega)).trans hM.1)) (Nat.le_of_ble_eq_true rfl) (Nat.le_of_ble_eq_true rfl) (hco) ?_
  exact zR.retE i_B_writeReceiptIdentity_40 rfl rfl
theorem i_B_writeReceipt_0 : zins 13 0 = some (.aload_n 0) := by decide +kernel
theorem i_B_writeReceipt_1 : zins 13 1 = some (.getfield 42) := by decide +kernel
theorem i_B_writeReceipt_4 : zins 13 4 = some (.ldc 194) := by decide +kernel
theorem i_B_writeReceipt_6 : zins 13 6 = some (.invokevirtual 196) := by decide +kernel
theorem i_B_writeReceipt_9 : zins 13 9 = some (.aload_n 0) := by decide +kernel
theorem i_B_writeReceipt_10 : zins 13 10 = some (.getfield 56) := by decide +kernel
theorem i_B_writeReceipt_13 : zins 13 13 = some (.getfield 200) := by decide +kernel
theorem i_B_writeReceipt_16 : zins 13 16 = some (.aload_n 0) := by decide +kernel
theorem i_B_writeReceipt_17 : zins 13 17 = some (.getfield 42) := by decide +kernel
theorem i_B_writeReceipt_20 : zins 13 20 = some (.invokevirtual 203) := by decide +kernel
theorem i_B_writeReceipt_23 : zins 13 23 = some (.aload_n 0) := by decide +kernel
theorem i_B_writeReceipt_24 : zins 13 24 = some (.ldc 207) := by decide +kernel
theorem i_B_writeReceipt_26 : zins 13 26 = some (.invokevirtual 209) := by decide +kernel
theorem i_B_writeReceipt_29 : zins 13 29 = some (.aload_n 0) := by decide +kernel
theorem i_B_writeReceipt_30 : zins 13 30 = some (.invokevirtual 212) := by decide +kernel
theorem i_B_writeReceipt_33 : zins 13 33 = some (.aload_n 0) := by decide +kernel
theorem i_B_writeReceipt_34 : zins 13 34 = some (.ldc 215) := by decide +kernel
theorem i_B_writeReceipt_36 : zins 13 36 = some (.invokevirtual 209) := by decide +kernel
theorem i_B_writeReceipt_39 : zins 13 39 = some (.aload_n 0) := by decide +kernel
theorem i_B_writeReceipt_40 : zins 13 40 = some (.getfield 42) := by decide +kernel
theorem i_B_writeReceipt_43 : zins 13 43 = some (.bipush 13) := by decide +kernel
theorem i_B_writeReceipt_45 : zins 13 45 = some (.invokevirtual 82) := by decide +kernel
theorem i_B_writeReceipt_48 : zins 13 48 = some (.aload_n 0) := by decide +kernel
theorem i_B_writeReceipt_49 : zins 13 49 = some (.getfield 42) := by decide +kernel
theorem i_B_writeReceipt_52 : zins 13 52 = some (.ldc 217) := by decide +kernel
theorem i_B_writeReceipt_54 : zins 13 54 = some (.invokevirtual 196) := by decide +kernel
theorem i_B_writeReceipt_57 : zins 13 57 = some (.aload_n 0) := by decide +kernel
theorem i_B_writeReceipt_58 : zins 13 58 = some (.getfield 59) := by decide +kernel
theorem i_B_writeReceipt_61 : zins 13 61 = some (.invokestatic 113) := by decide +kernel
theorem i_B_writeReceipt_64 : zins 13 64 = some (.istore_n 1) := by decide +kernel
theorem i_B_writeReceipt_65 : zins 13 65 = some (.aload_n 0) := by decide +kernel
theorem i_B_writeReceipt_66 : zins 13 66 = some (.iload_n 1) := by decide +kernel
theorem i_B_writeReceipt_67 : zins 13 67 = some (.ifCond .ne 8) := by decide +kernel
theorem i_B_writeReceipt_70 : zins 13 70 = some (.ldc 219) := by decide +kernel
theorem i_B_writeReceipt_72 : zins 13 72 = some (.goto 15) := by decide +kernel
theorem i_B_writeReceipt_75 : zins 13 75 = some (.iload_n 1) := by decide +kernel
theorem i_B_writeReceipt_76 : zins 13 76 = some (.iconst 1) := by decide +kernel
theorem i_B_writeReceipt_77 : zins 13 77 = some (.if_icmp .ne 8) := by decide +kernel
theorem i_B_writeReceipt_80 : zins 13 80 = some (.ldc 221) := by decide +kernel
theorem i_B_writeReceipt_82 : zins 13 82 = some (.goto 5) := by decide +kernel
theorem i_B_writeReceipt_85 : zins 13 85 = some (.ldc 223) := by decide +kernel
theorem i_B_writeReceipt_87 : zins 13 87 = some (.invokevirtual 209) := by decide +kernel
theorem i_B_writeReceipt_90 : zins 13 90 = some (.aload_n 0) := by decide +kernel
theorem i_B_writeReceipt_91 : zins 13 91 = some (.invokevirtual 212) := by decide +kernel
theorem i_B_writeReceipt_94 : zins 13 94 = some (.aload_n 0) := by decide +kernel
theorem i_B_writeReceipt_95 : zins 13 95 = some (.ldc 225) := by decide +kernel
theorem i_B_writeReceipt_97 : zins 13 97 = some (.invokevirtual 209) := by decide +kernel
theorem i_B_writeReceipt_100 : zins 13 100 = some (.aload_n 0) := by decide +kernel
theorem i_B_writeReceipt_101 : zins 13 101 = some (.getfield 59) := by decide +kernel
theorem i_B_writeReceipt_104 : zins 13 104 = some (.bipush 10) := by decide +kernel
theorem i_B_writeReceipt_106 : zins 13 106 = some (.if_icmp .lt 20) := by decide +kernel
theorem i_B_writeReceipt_109 : zins 13 109 = some (.aload_n 0) := by decide +kernel
theorem i_B_writeReceipt_110 : zins 13 110 = some (.getfield 42) := by decide +kernel
theorem i_B_writeReceipt_113 : zins 13 113 = some (.bipush 48) := by decide +kernel
theorem i_B_writeReceipt_115 : zins 13 115 = some (.aload_n 0) := by decide +kernel
theorem i_B_writeReceipt_116 : zins 13 116 = some (.getfield 59) := by decide +kernel
theorem i_B_writeReceipt_119 : zins 13 119 = some (.bipush 10) := by decide +kernel
theorem i_B_writeReceipt_121 : zins 13 121 = some (.idiv) := by decide +kernel
theorem i_B_writeReceipt_122 : zins 13 122 = some (.iadd) := by decide +kernel
theorem i_B_writeReceipt_123 : zins 13 123 = some (.invokevirtual 82) := by decide +kernel
theorem i_B_writeReceipt_126 : zins 13 126 = some (.aload_n 0) := by decide +kernel
theorem i_B_writeReceipt_127 : zins 13 127 = some (.getfield 42) := by decide +kernel
theorem i_B_writeReceipt_130 : zins 13 130 = some (.bipush 48) := by decide +kernel
theorem i_B_writeReceipt_132 : zins 13 132 = some (.aload_n 0) := by decide +kernel
theorem i_B_writeReceipt_133 : zins 13 133 = some (.getfield 59) := by decide +kernel
theorem i_B_writeReceipt_136 : zins 13 136 = some (.bipush 10) := by decide +kernel
theorem i_B_writeReceipt_138 : zins 13 138 = some (.irem) := by decide +kernel
theorem i_B_writeReceipt_139 : zins 13 139 = some (.iadd) := by decide +kernel
theorem i_B_writeReceipt_140 : zins 13 140 = some (.invokevirtual 82) := by decide +kernel
theorem i_B_writeReceipt_143 : zins 13 143 = some (.return_) := by decide +kernel
/-- a receipt's text -/
def recC (S : Nat → Int32) (id : List Int32) (r : Nat) : List Int32 := sT 1 ++ [S 0, S 1, S 2, S 3, S 4] ++ [S 0] ++ sT 8 ++ [S 0] ++ id ++ [S 0] ++ sT 9 ++ [13] ++ sT 10 ++ [S 0] ++ (if ansF r = 0 then sT 11 else if ansF r = 1 then sT 12 else sT 13) ++ [S 0] ++ id ++ [S 0] ++ sT 14 ++ (if 10 ≤ r then [nI (48 + r / 10)] else []) ++ [nI (48 + r % 10)]
theorem recC_F (S : Nat → Int32) (id : List Int32) (r : Nat) (hr : r < 20) : recC S id r = recF S id r := by
  unfold recC recF ansF
  by_cases h0 : r = 0
  · subst h0; simp [sT, zbyt]
  · by_cases h9 : 9 < r
    · have hd : r / 10 = 1 := by omega
      by_cases h10 : 10 < r
      · simp [sT, zbyt, h0, h10, h9, hd, show 10 ≤ r by omega]; rfl
      · simp [sT, zbyt, h0, h10, h9, hd, show 10 ≤ r by omega]; rfl
    · simp [sT, zbyt, h0, h9, show ¬ 10 < r by omega, show ¬ 10 ≤ r by omega]
theorem e_B_writeReceipt (X : zX) (d : Nat) (hX : X.2.2.category = 1) (h : zH) (hz : zlow h) (sp la r : Nat) (hr : r < 20) (rp : Int32) (hO : h.2.2 100 = some (bmO sp la (nI r) rp)) (hla : 119 ≤ la ∧ la < 125) (f : Nat → Int32) (n : Nat) (st : Nat → Int32) (cn : Nat) (hM : isM h la f n st cn) (hn : n ≤ 200) (S : Nat → Int32) (hS : isSp h (la + 1) S) (hzS : ∀ k, k < 5 → zch (S k)) (g : Nat → Int32) (o : Option Nat) (ho : ∀ p, o = some p → p ≤ n) (hz2 : ∀ i, i < n → f i < 256 → zch (f i)) (hfd : ∀ l, zR X (d + 4) 78 0 (zent 10 [.ref la, .int 1, .int 2, .int 1, .int 1]) [] (chL h 115 40 l g) (some (.int (tI o)), (chL h 115 40 l g))) : zR X (d + 6) 13 0 (zent 2 [.ref 100]) [] (chL h 115 40 [] g) (none, (chL h 115 40 (recC S ((txo f n o).getD []) r) g)) := by
  have hab : ansF r < 3 := by unfold ansF; (split; · decide); (split <;> decide)
  by_cases hA : ansF r = 0
  · have hr0 : r = 0 := by
      unfold ansF at hA
      by_cases h0 : r = 0
      · exact h0
      · rw [if_neg h0] at hA
        split at hA <;> omega
    have h10 : ¬ 10 ≤ r := by omega
    refine zr_aload_n i_B_writeReceipt_0 rfl ?_
    refine zr_getf i_B_writeReceipt_1 ((chS_ne (by decide) (by decide)).trans hO) rfl rfl ?_
    refine zr_ldc i_B_writeReceipt_4 rfl ?_
    refine zr_cv10 i_B_writeReceipt_6 rfl (by decide) (zrcv_of chS_o) (Nat.le_of_ble_eq_true rfl) (Nat.le_of_ble_eq_true rfl) (e_Chars_putAll X _ hX h hz 115 40 (by decide) (by decide) ([] : List Int32) g 1 ⟨by decide, by decide⟩) ?_
    refine zr_aload_n i_B_writeReceipt_9 rfl ?_
    refine zr_getf i_B_writeReceipt_10 ((chS_ne (by decide) (by decide)).trans hO) rfl rfl ?_
    refine zr_getf i_B_writeReceipt_13 ((chS_ne (by omega) (by omega)).trans hM.1) rfl rfl ?_
    refine zr_aload_n i_B_writeReceipt_16 rfl ?_
    refine zr_getf i_B_writeReceipt_17 ((chS_ne (by decide) (by decide)).trans hO) rfl rfl ?_
    refine zr_cv10 i_B_writeReceipt_20 rfl (by decide) (zrcv_of ((chS_ne (by omega) (by omega)).trans hS.1)) (Nat.le_of_ble_eq_true rfl) (Nat.le_of_ble_eq_true rfl) (e_Seps_putAllTo X _ h (la + 1) S 115 40 (([] : List Int32) ++ sT 1) g (by decide) hS (by omega) (by omega) (by omega) hzS) ?_
    refine zr_aload_n i_B_writeReceipt_23 rfl ?_
    refine zr_ldc i_B_writeReceipt_24 rfl ?_
    refine zr_cv10 i_B_writeReceipt_26 rfl (by decide) (zrcv_of ((chS_ne (by decide) (by decide)).trans hO)) (Nat.le_of_ble_eq_true rfl) (Nat.le_of_ble_eq_true rfl) (e_B_writeReceiptField X _ hX h hz sp la (nI r) rp hO hla f n st cn hM hn S hS hzS g ((([] : List Int32) ++ sT 1) ++ [S 0, S 1, S 2, S 3, S 4]) 8 ⟨by decide, by decide⟩) ?_
    refine zr_aload_n i_B_writeReceipt_29 rfl ?_
    refine zr_cv00 i_B_writeReceipt_30 rfl (by decide) (zrcv_of ((chS_ne (by decide) (by decide)).trans hO)) (Nat.le_of_ble_eq_true rfl) (Nat.le_of_ble_eq_true rfl) (e_B_writeReceiptIdentity X _ hX h hz sp la (nI r) rp hO hla f n st cn hM hn S hS hzS g o ho hz2 hfd (((([] : List Int32) ++ sT 1) ++ [S 0, S 1, S 2, S 3, S 4]) ++ [S 0] ++ sT 8)) ?_
    refine zr_aload_n i_B_writeReceipt_33 rfl ?_
    refine zr_ldc i_B_writeReceipt_34 rfl ?_
    refine zr_cv10 i_B_writeReceipt_36 rfl (by decide) (zrcv_of ((chS_ne (by decide) (by decide)).trans hO)) (Nat.le_of_ble_eq_true rfl) (Nat.le_of_ble_eq_true rfl) (e_B_writeReceiptField X _ hX h hz sp la (nI r) rp hO hla f n st cn hM hn S hS hzS g ((((([] : List Int32) ++ sT 1) ++ [S 0, S 1, S 2, S 3, S 4]) ++ [S 0] ++ sT 8) ++ [S 0] ++ ((txo f n o).getD [])) 9 ⟨by decide, by decide⟩) ?_
    refine zr_aload_n i_B_writeReceipt_39 rfl ?_
    refine zr_getf i_B_writeReceipt_40 ((chS_ne (by decide) (by decide)).trans hO) rfl rfl ?_
    refine zr_bipush i_B_writeReceipt_43 (v := 13) (by decide) ?_
    refine zr_cv10 i_B_writeReceipt_45 rfl (by decide) (zrcv_of chS_o) (Nat.le_of_ble_eq_true rfl) (Nat.le_of_ble_eq_true rfl) (e1_Chars_put X _ h 115 40 (((((([] : List Int32) ++ sT 1) ++ [S 0, S 1, S 2, S 3, S 4]) ++ [S 0] ++ sT 8) ++ [S 0] ++ ((txo f n o).getD [])) ++ [S 0] ++ sT 9) g (by decide) 13 (by first | exact zch_n (by omega) | (unfold zch; decide))) ?_
    refine zr_aload_n i_B_writeReceipt_48 rfl ?_
    refine zr_getf i_B_writeReceipt_49 ((chS_ne (by decide) (by decide)).trans hO) rfl rfl ?_
    refine zr_ldc i_B_writeReceipt_52 rfl ?_
    refine zr_cv10 i_B_writeReceipt_54 rfl (by decide) (zrcv_of chS_o) (Nat.le_of_ble_eq_true rfl) (Nat.le_of_ble_eq_true rfl) (e_Chars_putAll X _ hX h hz 115 40 (by decide) (by decide) ((((((([] : List Int32) ++ sT 1) ++ [S 0, S 1, S 2, S 3, S 4]) ++ [S 0] ++ sT 8) ++ [S 0] ++ ((txo f n o).getD [])) ++ [S 0] ++ sT 9) ++ [13]) g 10 ⟨by decide, by decide⟩) ?_
    refine zr_aload_n i_B_writeReceipt_57 rfl ?_
    refine zr_getf i_B_writeReceipt_58 ((chS_ne (by decide) (by decide)).trans hO) rfl rfl ?_
    refine zr_top (y := nI r) rfl ?_
    refine zr_cs1 i_B_writeReceipt_61 rfl (by decide) (Nat.le_of_ble_eq_true rfl) (Nat.le_of_ble_eq_true rfl) (e_B_receiptFor X _ _ r hr) ?_
    refine zr_istore_n i_B_writeReceipt_64 rfl ?_
    refine zr_aload_n i_B_writeReceipt_65 rfl ?_
    refine zr_iload_n i_B_writeReceipt_66 rfl ?_
    refine zN_if_ne 75 i_B_writeReceipt_67 (by decide) (by omega) (fun q => absurd q (by omega)) (fun _ => ?_)
    refine zr_ldc i_B_writeReceipt_70 rfl ?_
    refine zr_goto 87 i_B_writeReceipt_72 (by decide) ?_
    refine zr_cv10 i_B_writeReceipt_87 rfl (by decide) (zrcv_of ((chS_ne (by decide) (by decide)).trans hO)) (Nat.le_of_ble_eq_true rfl) (Nat.le_of_ble_eq_true rfl) (e_B_writeReceiptField X _ hX h hz sp la (nI r) rp hO hla f n st cn hM hn S hS hzS g (((((((([] : List Int32) ++ sT 1) ++ [S 0, S 1, S 2, S 3, S 4]) ++ [S 0] ++ sT 8) ++ [S 0] ++ ((txo f n o).getD [])) ++ [S 0] ++ sT 9) ++ [13]) ++ sT 10) 11 ⟨by decide, by decide⟩) ?_
    refine zr_aload_n i_B_writeReceipt_90 rfl ?_
    refine zr_cv00 i_B_writeReceipt_91 rfl (by decide) (zrcv_of ((chS_ne (by decide) (by decide)).trans hO)) (Nat.le_of_ble_eq_true rfl) (Nat.le_of_ble_eq_true rfl) (e_B_writeReceiptIdentity X _ hX h hz sp la (nI r) rp hO hla f n st cn hM hn S hS hzS g o ho hz2 hfd ((((((((([] : List Int32) ++ sT 1) ++ [S 0, S 1, S 2, S 3, S 4]) ++ [S 0] ++ sT 8) ++ [S 0] ++ ((txo f n o).getD [])) ++ [S 0] ++ sT 9) ++ [13]) ++ sT 10) ++ [S 0] ++ sT 11)) ?_
    refine zr_aload_n i_B_writeReceipt_94 rfl ?_
    refine zr_ldc i_B_writeReceipt_95 rfl ?_
    refine zr_cv10 i_B_writeReceipt_97 rfl (by decide) (zrcv_of ((chS_ne (by decide) (by decide)).trans hO)) (Nat.le_of_ble_eq_true rfl) (Nat.le_of_ble_eq_true rfl) (e_B_writeReceiptField X _ hX h hz sp la (nI r) rp hO hla f n st cn hM hn S hS hzS g (((((((((([] : List Int32) ++ sT 1) ++ [S 0, S 1, S 2, S 3, S 4]) ++ [S 0] ++ sT 8) ++ [S 0] ++ ((txo f n o).getD [])) ++ [S 0] ++ sT 9) ++ [13]) ++ sT 10) ++ [S 0] ++ sT 11) ++ [S 0] ++ ((txo f n o).getD [])) 14 ⟨by decide, by decide⟩) ?_
    refine zr_aload_n i_B_writeReceipt_100 rfl ?_
    refine zr_getf i_B_writeReceipt_101 ((chS_ne (by decide) (by decide)).trans hO) rfl rfl ?_
    refine zr_top (y := nI r) rfl ?_
    refine zn_bipush 10 i_B_writeReceipt_104 (by decide) ?_
    refine zn_icmp_lt 126 i_B_writeReceipt_106 (by decide) (by omega) (by omega) (fun c_106 => ?_) (fun q => absurd q (by omega))
    refine zr_aload_n i_B_writeReceipt_126 rfl ?_
    refine zr_getf i_B_writeReceipt_127 ((chS_ne (by decide) (by decide)).trans hO) rfl rfl ?_
    refine zn_bipush 48 i_B_writeReceipt_130 (by decide) ?_
    refine zr_aload_n i_B_writeReceipt_132 rfl ?_
    refine zr_getf i_B_writeReceipt_133 ((chS_ne (by decide) (by decide)).trans hO) rfl rfl ?_
    refine zr_top (y := nI r) rfl ?_
    refine zn_bipush 10 i_B_writeReceipt_136 (by decide) ?_
    refine zn_irem i_B_writeReceipt_138 (by omega) (by decide) (by decide) ?_
    refine zn_iadd i_B_writeReceipt_139 ?_
    refine zr_cv10 i_B_writeReceipt_140 rfl (by decide) (zrcv_of chS_o) (Nat.le_of_ble_eq_true rfl) (Nat.le_of_ble_eq_true rfl) (e1_Chars_put X _ h 115 40 ((((((((((([] : List Int32) ++ sT 1) ++ [S 0, S 1, S 2, S 3, S 4]) ++ [S 0] ++ sT 8) ++ [S 0] ++ ((txo f n o).getD [])) ++ [S 0] ++ sT 9) ++ [13]) ++ sT 10) ++ [S 0] ++ sT 11) ++ [S 0] ++ ((txo f n o).getD [])) ++ [S 0] ++ sT 14) g (by decide) (nI (48 + r % 10)) (by first | exact zch_n (by omega) | (unfold zch; decide))) ?_
    exact zR.retE i_B_writeReceipt_143 rfl (by unfold recC; rw [if_pos hA, if_neg h10]; simp only [List.append_assoc, List.nil_append, List.append_nil])
  · by_cases hA1 : ansF r = 1
    · have h11 : 10 < r := by
        unfold ansF at hA1
        split at hA1
        · omega
        · split at hA1
          · assumption
          · omega
      have h10 : 10 ≤ r := by omega
      refine zr_aload_n i_B_writeReceipt_0 rfl ?_
      refine zr_getf i_B_writeReceipt_1 ((chS_ne (by decide) (by decide)).trans hO) rfl rfl ?_
      refine zr_ldc i_B_writeReceipt_4 rfl ?_
      refine zr_cv10 i_B_writeReceipt_6 rfl (by decide) (zrcv_of chS_o) (Nat.le_of_ble_eq_true rfl) (Nat.le_of_ble_eq_true rfl) (e_Chars_putAll X _ hX h hz 115 40 (by decide) (by decide) ([] : List Int32) g 1 ⟨by decide, by decide⟩) ?_
      refine zr_aload_n i_B_writeReceipt_9 rfl ?_
      refine zr_getf i_B_writeReceipt_10 ((chS_ne (by decide) (by decide)).trans hO) rfl rfl ?_
      refine zr_getf i_B_writeReceipt_13 ((chS_ne (by omega) (by omega)).trans hM.1) rfl rfl ?_
      refine zr_aload_n i_B_writeReceipt_16 rfl ?_
      refine zr_getf i_B_writeReceipt_17 ((chS_ne (by decide) (by decide)).trans hO) rfl rfl ?_
      refine zr_cv10 i_B_writeReceipt_20 rfl (by decide) (zrcv_of ((chS_ne (by omega) (by omega)).trans hS.1)) (Nat.le_of_ble_eq_true rfl) (Nat.le_of_ble_eq_true rfl) (e_Seps_putAllTo X _ h (la + 1) S 115 40 (([] : List Int32) ++ sT 1) g (by decide) hS (by omega) (by omega) (by omega) hzS) ?_
      refine zr_aload_n i_B_writeReceipt_23 rfl ?_
      refine zr_ldc i_B_writeReceipt_24 rfl ?_
      refine zr_cv10 i_B_writeReceipt_26 rfl (by decide) (zrcv_of ((chS_ne (by decide) (by decide)).trans hO)) (Nat.le_of_ble_eq_true rfl) (Nat.le_of_ble_eq_true rfl) (e_B_writeReceiptField X _ hX h hz sp la (nI r) rp hO hla f n st cn hM hn S hS hzS g ((([] : List Int32) ++ sT 1) ++ [S 0, S 1, S 2, S 3, S 4]) 8 ⟨by decide, by decide⟩) ?_
      refine zr_aload_n i_B_writeReceipt_29 rfl ?_
      refine zr_cv00 i_B_writeReceipt_30 rfl (by decide) (zrcv_of ((chS_ne (by decide) (by decide)).trans hO)) (Nat.le_of_ble_eq_true rfl) (Nat.le_of_ble_eq_true rfl) (e_B_writeReceiptIdentity X _ hX h hz sp la (nI r) rp hO hla f n st cn hM hn S hS hzS g o ho hz2 hfd (((([] : List Int32) ++ sT 1) ++ [S 0, S 1, S 2, S 3, S 4]) ++ [S 0] ++ sT 8)) ?_
      refine zr_aload_n i_B_writeReceipt_33 rfl ?_
      refine zr_ldc i_B_writeReceipt_34 rfl ?_
      refine zr_cv10 i_B_writeReceipt_36 rfl (by decide) (zrcv_of ((chS_ne (by decide) (by decide)).trans hO)) (Nat.le_of_ble_eq_true rfl) (Nat.le_of_ble_eq_true rfl) (e_B_writeReceiptField X _ hX h hz sp la (nI r) rp hO hla f n st cn hM hn S hS hzS g ((((([] : List Int32) ++ sT 1) ++ [S 0, S 1, S 2, S 3, S 4]) ++ [S 0] ++ sT 8) ++ [S 0] ++ ((txo f n o).getD [])) 9 ⟨by decide, by decide⟩) ?_
      refine zr_aload_n i_B_writeReceipt_39 rfl ?_
      refine zr_getf i_B_writeReceipt_40 ((chS_ne (by decide) (by decide)).trans hO) rfl rfl ?_
      refine zr_bipush i_B_writeReceipt_43 (v := 13) (by decide) ?_
      refine zr_cv10 i_B_writeReceipt_45 rfl (by decide) (zrcv_of chS_o) (Nat.le_of_ble_eq_true rfl) (Nat.le_of_ble_eq_true rfl) (e1_Chars_put X _ h 115 40 (((((([] : List Int32) ++ sT 1) ++ [S 0, S 1, S 2, S 3, S 4]) ++ [S 0] ++ sT 8) ++ [S 0] ++ ((txo f n o).getD [])) ++ [S 0] ++ sT 9) g (by decide) 13 (by first | exact zch_n (by omega) | (unfold zch; decide))) ?_
      refine zr_aload_n i_B_writeReceipt_48 rfl ?_
      refine zr_getf i_B_writeReceipt_49 ((chS_ne (by decide) (by decide)).trans hO) rfl rfl ?_
      refine zr_ldc i_B_writeReceipt_52 rfl ?_
      refine zr_cv10 i_B_writeReceipt_54 rfl (by decide) (zrcv_of chS_o) (Nat.le_of_ble_eq_true rfl) (Nat.le_of_ble_eq_true rfl) (e_Chars_putAll X _ hX h hz 115 40 (by decide) (by decide) ((((((([] : List Int32) ++ sT 1) ++ [S 0, S 1, S 2, S 3, S 4]) ++ [S 0] ++ sT 8) ++ [S 0] ++ ((txo f n o).getD [])) ++ [S 0] ++ sT 9) ++ [13]) g 10 ⟨by decide, by decide⟩) ?_
      refine zr_aload_n i_B_writeReceipt_57 rfl ?_
      refine zr_getf i_B_writeReceipt_58 ((chS_ne (by decide) (by decide)).trans hO) rfl rfl ?_
      refine zr_top (y := nI r) rfl ?_
      refine zr_cs1 i_B_writeReceipt_61 rfl (by decide) (Nat.le_of_ble_eq_true rfl) (Nat.le_of_ble_eq_true rfl) (e_B_receiptFor X _ _ r hr) ?_
      refine zr_istore_n i_B_writeReceipt_64 rfl ?_
      refine zr_aload_n i_B_writeReceipt_65 rfl ?_
      refine zr_iload_n i_B_writeReceipt_66 rfl ?_
      refine zN_if_ne 75 i_B_writeReceipt_67 (by decide) (by omega) (fun _ => ?_) (fun q => absurd q hA)
      refine zr_iload_n i_B_writeReceipt_75 rfl ?_
      refine zn_iconst 1 i_B_writeReceipt_76 (by decide) ?_
      refine zn_icmp_ne 85 i_B_writeReceipt_77 (by decide) (by omega) (by omega) (fun q => absurd q (by omega)) (fun c_77 => ?_)
      refine zr_ldc i_B_writeReceipt_80 rfl ?_
      refine zr_goto 87 i_B_writeReceipt_82 (by decide) ?_
      refine zr_cv10 i_B_writeReceipt_87 rfl (by decide) (zrcv_of ((chS_ne (by decide) (by decide)).trans hO)) (Nat.le_of_ble_eq_true rfl) (Nat.le_of_ble_eq_true rfl) (e_B_writeReceiptField X _ hX h hz sp la (nI r) rp hO hla f n st cn hM hn S hS hzS g (((((((([] : List Int32) ++ sT 1) ++ [S 0, S 1, S 2, S 3, S 4]) ++ [S 0] ++ sT 8) ++ [S 0] ++ ((txo f n o).getD [])) ++ [S 0] ++ sT 9) ++ [13]) ++ sT 10) 12 ⟨by decide, by decide⟩) ?_
      refine zr_aload_n i_B_writeReceipt_90 rfl ?_
      refine zr_cv00 i_B_writeReceipt_91 rfl (by decide) (zrcv_of ((chS_ne (by decide) (by decide)).trans hO)) (Nat.le_of_ble_eq_true rfl) (Nat.le_of_ble_eq_true rfl) (e_B_writeReceiptIdentity X _ hX h hz sp la (nI r) rp hO hla f n st cn hM hn S hS hzS g o ho hz2 hfd ((((((((([] : List Int32) ++ sT 1) ++ [S 0, S 1, S 2, S 3, S 4]) ++ [S 0] ++ sT 8) ++ [S 0] ++ ((txo f n o).getD [])) ++ [S 0] ++ sT 9) ++ [13]) ++ sT 10) ++ [S 0] ++ sT 12)) ?_
      refine zr_aload_n i_B_writeReceipt_94 rfl ?_
      refine zr_ldc i_B_writeReceipt_95 rfl ?_
      refine zr_cv10 i_B_writeReceipt_97 rfl (by decide) (zrcv_of ((chS_ne (by decide) (by decide)).trans hO)) (Nat.le_of_ble_eq_true rfl) (Nat.le_of_ble_eq_true rfl) (e_B_writeReceiptField X _ hX h hz sp la (nI r) rp hO hla f n st cn hM hn S hS hzS g (((((((((([] : List Int32) ++ sT 1) ++ [S 0, S 1, S 2, S 3, S 4]) ++ [S 0] ++ sT 8) ++ [S 0] ++ ((txo f n o).getD [])) ++ [S 0] ++ sT 9) ++ [13]) ++ sT 10) ++ [S 0] ++ sT 12) ++ [S 0] ++ ((txo f n o).getD [])) 14 ⟨by decide, by decide⟩) ?_
      refine zr_aload_n i_B_writeReceipt_100 rfl ?_
      refine zr_getf i_B_writeReceipt_101 ((chS_ne (by decide) (by decide)).trans hO) rfl rfl ?_
      refine zr_top (y := nI r) rfl ?_
      refine zn_bipush 10 i_B_writeReceipt_104 (by decide) ?_
      refine zn_icmp_lt 126 i_B_writeReceipt_106 (by decide) (by omega) (by omega) (fun q => absurd q (by omega)) (fun c_106 => ?_)
      refine zr_aload_n i_B_writeReceipt_109 rfl ?_
      refine zr_getf i_B_writeReceipt_110 ((chS_ne (by decide) (by decide)).trans hO) rfl rfl ?_
      refine zn_bipush 48 i_B_writeReceipt_113 (by decide) ?_
      refine zr_aload_n i_B_writeReceipt_115 rfl ?_
      refine zr_getf i_B_writeReceipt_116 ((chS_ne (by decide) (by decide)).trans hO) rfl rfl ?_
      refine zr_top (y := nI r) rfl ?_
      refine zn_bipush 10 i_B_writeReceipt_119 (by decide) ?_
      refine zn_idiv i_B_writeReceipt_121 (by omega) (by decide) (by decide) ?_
      refine zn_iadd i_B_writeReceipt_122 ?_
      refine zr_cv10 i_B_writeReceipt_123 rfl (by decide) (zrcv_of chS_o) (Nat.le_of_ble_eq_true rfl) (Nat.le_of_ble_eq_true rfl) (e1_Chars_put X _ h 115 40 ((((((((((([] : List Int32) ++ sT 1) ++ [S 0, S 1, S 2, S 3, S 4]) ++ [S 0] ++ sT 8) ++ [S 0] ++ ((txo f n o).getD [])) ++ [S 0] ++ sT 9) ++ [13]) ++ sT 10) ++ [S 0] ++ sT 12) ++ [S 0] ++ ((txo f n o).getD [])) ++ [S 0] ++ sT 14) g (by decide) (nI (48 + r / 10)) (by first | exact zch_n (by omega) | (unfold zch; decide))) ?_
      refine zr_aload_n i_B_writeReceipt_126 rfl ?_
      refine zr_getf i_B_writeReceipt_127 ((chS_ne (by decide) (by decide)).trans hO) rfl rfl ?_
      refine zn_bipush 48 i_B_writeReceipt_130 (by decide) ?_
      refine zr_aload_n i_B_writeReceipt_132 rfl ?_
      refine zr_getf i_B_writeReceipt_133 ((chS_ne (by decide) (by decide)).trans hO) rfl rfl ?_
      refine zr_top (y := nI r) rfl ?_
      refine zn_bipush 10 i_B_writeReceipt_136 (by decide) ?_
      refine zn_irem i_B_writeReceipt_138 (by omega) (by decide) (by decide) ?_
      refine zn_iadd i_B_writeReceipt_139 ?_
      refine zr_cv10 i_B_writeReceipt_140 rfl (by decide) (zrcv_of chS_o) (Nat.le_of_ble_eq_true rfl) (Nat.le_of_ble_eq_true rfl) (e1_Chars_put X _ h 115 40 (((((((((((([] : List Int32) ++ sT 1) ++ [S 0, S 1, S 2, S 3, S 4]) ++ [S 0] ++ sT 8) ++ [S 0] ++ ((txo f n o).getD [])) ++ [S 0] ++ sT 9) ++ [13]) ++ sT 10) ++ [S 0] ++ sT 12) ++ [S 0] ++ ((txo f n o).getD [])) ++ [S 0] ++ sT 14) ++ [(nI (48 + r / 10))]) g (by decide) (nI (48 + r % 10)) (by first | exact zch_n (by omega) | (unfold zch; decide))) ?_
      exact zR.retE i_B_writeReceipt_143 rfl (by unfold recC; rw [if_neg hA, if_pos hA1, if_pos h10]; simp only [List.append_assoc, List.nil_append, List.append_nil])
    · by_cases h10 : 10 ≤ r
      · skip
        refine zr_aload_n i_B_writeReceipt_0 rfl ?_
        refine zr_getf i_B_writeReceipt_1 ((chS_ne (by decide) (by decide)).trans hO) rfl rfl ?_
        refine zr_ldc i_B_writeReceipt_4 rfl ?_
        refine zr_cv10 i_B_writeReceipt_6 rfl (by decide) (zrcv_of chS_o) (Nat.le_of_ble_eq_true rfl) (Nat.le_of_ble_eq_true rfl) (e_Chars_putAll X _ hX h hz 115 40 (by decide) (by decide) ([] : List Int32) g 1 ⟨by decide, by decide⟩) ?_
        refine zr_aload_n i_B_writeReceipt_9 rfl ?_
        refine zr_getf i_B_writeReceipt_10 ((chS_ne (by decide) (by decide)).trans hO) rfl rfl ?_
        refine zr_getf i_B_writeReceipt_13 ((chS_ne (by omega) (by omega)).trans hM.1) rfl rfl ?_
        refine zr_aload_n i_B_writeReceipt_16 rfl ?_
        refine zr_getf i_B_writeReceipt_17 ((chS_ne (by decide) (by decide)).trans hO) rfl rfl ?_
        refine zr_cv10 i_B_writeReceipt_20 rfl (by decide) (zrcv_of ((chS_ne (by omega) (by omega)).trans hS.1)) (Nat.le_of_ble_eq_true rfl) (Nat.le_of_ble_eq_true rfl) (e_Seps_putAllTo X _ h (la + 1) S 115 40 (([] : List Int32) ++ sT 1) g (by decide) hS (by omega) (by omega) (by omega) hzS) ?_
        refine zr_aload_n i_B_writeReceipt_23 rfl ?_
        refine zr_ldc i_B_writeReceipt_24 rfl ?_
        refine zr_cv10 i_B_writeReceipt_26 rfl (by decide) (zrcv_of ((chS_ne (by decide) (by decide)).trans hO)) (Nat.le_of_ble_eq_true rfl) (Nat.le_of_ble_eq_true rfl) (e_B_writeReceiptField X _ hX h hz sp la (nI r) rp hO hla f n st cn hM hn S hS hzS g ((([] : List Int32) ++ sT 1) ++ [S 0, S 1, S 2, S 3, S 4]) 8 ⟨by decide, by decide⟩) ?_
        refine zr_aload_n i_B_writeReceipt_29 rfl ?_
        refine zr_cv00 i_B_writeReceipt_30 rfl (by decide) (zrcv_of ((chS_ne (by decide) (by decide)).trans hO)) (Nat.le_of_ble_eq_true rfl) (Nat.le_of_ble_eq_true rfl) (e_B_writeReceiptIdentity X _ hX h hz sp la (nI r) rp hO hla f n st cn hM hn S hS hzS g o ho hz2 hfd (((([] : List Int32) ++ sT 1) ++ [S 0, S 1, S 2, S 3, S 4]) ++ [S 0] ++ sT 8)) ?_
        refine zr_aload_n i_B_writeReceipt_33 rfl ?_
        refine zr_ldc i_B_writeReceipt_34 rfl ?_
        refine zr_cv10 i_B_writeReceipt_36 rfl (by decide) (zrcv_of ((chS_ne (by decide) (by decide)).trans hO)) (Nat.le_of_ble_eq_true rfl) (Nat.le_of_ble_eq_true rfl) (e_B_writeReceiptField X _ hX h hz sp la (nI r) rp hO hla f n st cn hM hn S hS hzS g ((((([] : List Int32) ++ sT 1) ++ [S 0, S 1, S 2, S 3, S 4]) ++ [S 0] ++ sT 8) ++ [S 0] ++ ((txo f n o).getD [])) 9 ⟨by decide, by decide⟩) ?_
        refine zr_aload_n i_B_writeReceipt_39 rfl ?_
        refine zr_getf i_B_writeReceipt_40 ((chS_ne (by decide) (by decide)).trans hO) rfl rfl ?_
        refine zr_bipush i_B_writeReceipt_43 (v := 13) (by decide) ?_
        refine zr_cv10 i_B_writeReceipt_45 rfl (by decide) (zrcv_of chS_o) (Nat.le_of_ble_eq_true rfl) (Nat.le_of_ble_eq_true rfl) (e1_Chars_put X _ h 115 40 (((((([] : List Int32) ++ sT 1) ++ [S 0, S 1, S 2, S 3, S 4]) ++ [S 0] ++ sT 8) ++ [S 0] ++ ((txo f n o).getD [])) ++ [S 0] ++ sT 9) g (by decide) 13 (by first | exact zch_n (by omega) | (unfold zch; decide))) ?_
        refine zr_aload_n i_B_writeReceipt_48 rfl ?_
        refine zr_getf i_B_writeReceipt_49 ((chS_ne (by decide) (by decide)).trans hO) rfl rfl ?_
        refine zr_ldc i_B_writeReceipt_52 rfl ?_
        refine zr_cv10 i_B_writeReceipt_54 rfl (by decide) (zrcv_of chS_o) (Nat.le_of_ble_eq_true rfl) (Nat.le_of_ble_eq_true rfl) (e_Chars_putAll X _ hX h hz 115 40 (by decide) (by decide) ((((((([] : List Int32) ++ sT 1) ++ [S 0, S 1, S 2, S 3, S 4]) ++ [S 0] ++ sT 8) ++ [S 0] ++ ((txo f n o).getD [])) ++ [S 0] ++ sT 9) ++ [13]) g 10 ⟨by decide, by decide⟩) ?_
        refine zr_aload_n i_B_writeReceipt_57 rfl ?_
        refine zr_getf i_B_writeReceipt_58 ((chS_ne (by decide) (by decide)).trans hO) rfl rfl ?_
        refine zr_top (y := nI r) rfl ?_
        refine zr_cs1 i_B_writeReceipt_61 rfl (by decide) (Nat.le_of_ble_eq_true rfl) (Nat.le_of_ble_eq_true rfl) (e_B_receiptFor X _ _ r hr) ?_
        refine zr_istore_n i_B_writeReceipt_64 rfl ?_
        refine zr_aload_n i_B_writeReceipt_65 rfl ?_
        refine zr_iload_n i_B_writeReceipt_66 rfl ?_
        refine zN_if_ne 75 i_B_writeReceipt_67 (by decide) (by omega) (fun _ => ?_) (fun q => absurd q hA)
        refine zr_iload_n i_B_writeReceipt_75 rfl ?_
        refine zn_iconst 1 i_B_writeReceipt_76 (by decide) ?_
        refine zn_icmp_ne 85 i_B_writeReceipt_77 (by decide) (by omega) (by omega) (fun c_77 => ?_) (fun q => absurd q hA1)
        refine zr_ldc i_B_writeReceipt_85 rfl ?_
        refine zr_cv10 i_B_writeReceipt_87 rfl (by decide) (zrcv_of ((chS_ne (by decide) (by decide)).trans hO)) (Nat.le_of_ble_eq_true rfl) (Nat.le_of_ble_eq_true rfl) (e_B_writeReceiptField X _ hX h hz sp la (nI r) rp hO hla f n st cn hM hn S hS hzS g (((((((([] : List Int32) ++ sT 1) ++ [S 0, S 1, S 2, S 3, S 4]) ++ [S 0] ++ sT 8) ++ [S 0] ++ ((txo f n o).getD [])) ++ [S 0] ++ sT 9) ++ [13]) ++ sT 10) 13 ⟨by decide, by decide⟩) ?_
        refine zr_aload_n i_B_writeReceipt_90 rfl ?_
        refine zr_cv00 i_B_writeReceipt_91 rfl (by decide) (zrcv_of ((chS_ne (by decide) (by decide)).trans hO)) (Nat.le_of_ble_eq_true rfl) (Nat.le_of_ble_eq_true rfl) (e_B_writeReceiptIdentity X _ hX h hz sp la (nI r) rp hO hla f n st cn hM hn S hS hzS g o ho hz2 hfd ((((((((([] : List Int32) ++ sT 1) ++ [S 0, S 1, S 2, S 3, S 4]) ++ [S 0] ++ sT 8) ++ [S 0] ++ ((txo f n o).getD [])) ++ [S 0] ++ sT 9) ++ [13]) ++ sT 10) ++ [S 0] ++ sT 13)) ?_
        refine zr_aload_n i_B_writeReceipt_94 rfl ?_
        refine zr_ldc i_B_writeReceipt_95 rfl ?_
        refine zr_cv10 i_B_writeReceipt_97 rfl (by decide) (zrcv_of ((chS_ne (by decide) (by decide)).trans hO)) (Nat.le_of_ble_eq_true rfl) (Nat.le_of_ble_eq_true rfl) (e_B_writeReceiptField X _ hX h hz sp la (nI r) rp hO hla f n st cn hM hn S hS hzS g (((((((((([] : List Int32) ++ sT 1) ++ [S 0, S 1, S 2, S 3, S 4]) ++ [S 0] ++ sT 8) ++ [S 0] ++ ((txo f n o).getD [])) ++ [S 0] ++ sT 9) ++ [13]) ++ sT 10) ++ [S 0] ++ sT 13) ++ [S 0] ++ ((txo f n o).getD [])) 14 ⟨by decide, by decide⟩) ?_
        refine zr_aload_n i_B_writeReceipt_100 rfl ?_
        refine zr_getf i_B_writeReceipt_101 ((chS_ne (by decide) (by decide)).trans hO) rfl rfl ?_
        refine zr_top (y := nI r) rfl ?_
        refine zn_bipush 10 i_B_writeReceipt_104 (by decide) ?_
        refine zn_icmp_lt 126 i_B_writeReceipt_106 (by decide) (by omega) (by omega) (fun q => absurd q (by omega)) (fun c_106 => ?_)
        refine zr_aload_n i_B_writeReceipt_109 rfl ?_
        refine zr_getf i_B_writeReceipt_110 ((chS_ne (by decide) (by decide)).trans hO) rfl rfl ?_
        refine zn_bipush 48 i_B_writeReceipt_113 (by decide) ?_
        refine zr_aload_n i_B_writeReceipt_115 rfl ?_
        refine zr_getf i_B_writeReceipt_116 ((chS_ne (by decide) (by decide)).trans hO) rfl rfl ?_
        refine zr_top (y := nI r) rfl ?_
        refine zn_bipush 10 i_B_writeReceipt_119 (by decide) ?_
        refine zn_idiv i_B_writeReceipt_121 (by omega) (by decide) (by decide) ?_
        refine zn_iadd i_B_writeReceipt_122 ?_
        refine zr_cv10 i_B_writeReceipt_123 rfl (by decide) (zrcv_of chS_o) (Nat.le_of_ble_eq_true rfl) (Nat.le_of_ble_eq_true rfl) (e1_Chars_put X _ h 115 40 ((((((((((([] : List Int32) ++ sT 1) ++ [S 0, S 1, S 2, S 3, S 4]) ++ [S 0] ++ sT 8) ++ [S 0] ++ ((txo f n o).getD [])) ++ [S 0] ++ sT 9) ++ [13]) ++ sT 10) ++ [S 0] ++ sT 13) ++ [S 0] ++ ((txo f n o).getD [])) ++ [S 0] ++ sT 14) g (by decide) (nI (48 + r / 10)) (by first | exact zch_n (by omega) | (unfold zch; decide))) ?_
        refine zr_aload_n i_B_writeReceipt_126 rfl ?_
        refine zr_getf i_B_writeReceipt_127 ((chS_ne (by decide) (by decide)).trans hO) rfl rfl ?_
        refine zn_bipush 48 i_B_writeReceipt_130 (by decide) ?_
        refine zr_aload_n i_B_writeReceipt_132 rfl ?_
        refine zr_getf i_B_writeReceipt_133 ((chS_ne (by decide) (by decide)).trans hO) rfl rfl ?_
        refine zr_top (y := nI r) rfl ?_
        refine zn_bipush 10 i_B_writeReceipt_136 (by decide) ?_
        refine zn_irem i_B_writeReceipt_138 (by omega) (by decide) (by decide) ?_
        refine zn_iadd i_B_writeReceipt_139 ?_
        refine zr_cv10 i_B_writeReceipt_140 rfl (by decide) (zrcv_of chS_o) (Nat.le_of_ble_eq_true rfl) (Nat.le_of_ble_eq_true rfl) (e1_Chars_put X _ h 115 40 (((((((((((([] : List Int32) ++ sT 1) ++ [S 0, S 1, S 2, S 3, S 4]) ++ [S 0] ++ sT 8) ++ [S 0] ++ ((txo f n o).getD [])) ++ [S 0] ++ sT 9) ++ [13]) ++ sT 10) ++ [S 0] ++ sT 13) ++ [S 0] ++ ((txo f n o).getD [])) ++ [S 0] ++ sT 14) ++ [(nI (48 + r / 10))]) g (by decide) (nI (48 + r % 10)) (by first | exact zch_n (by omega) | (unfold zch; decide))) ?_
        exact zR.retE i_B_writeReceipt_143 rfl (by unfold recC; rw [if_neg hA, if_neg hA1, if_pos h10]; simp only [List.append_assoc, List.nil_append, List.append_nil])
      · skip
        refine zr_aload_n i_B_writeReceipt_0 rfl ?_
        refine zr_getf i_B_writeReceipt_1 ((chS_ne (by decide) (by decide)).trans hO) rfl rfl ?_
        refine zr_ldc i_B_writeReceipt_4 rfl ?_
        refine zr_cv10 i_B_writeReceipt_6 rfl (by decide) (zrcv_of chS_o) (Nat.le_of_ble_eq_true rfl) (Nat.le_of_ble_eq_true rfl) (e_Chars_putAll X _ hX h hz 115 40 (by decide) (by decide) ([] : List Int32) g 1 ⟨by decide, by decide⟩) ?_
        refine zr_aload_n i_B_writeReceipt_9 rfl ?_
        refine zr_getf i_B_writeReceipt_10 ((chS_ne (by decide) (by decide)).trans hO) rfl rfl ?_
        refine zr_getf i_B_writeReceipt_13 ((chS_ne (by omega) (by omega)).trans hM.1) rfl rfl ?_
        refine zr_aload_n i_B_writeReceipt_16 rfl ?_
        refine zr_getf i_B_writeReceipt_17 ((chS_ne (by decide) (by decide)).trans hO) rfl rfl ?_
        refine zr_cv10 i_B_writeReceipt_20 rfl (by decide) (zrcv_of ((chS_ne (by omega) (by omega)).trans hS.1)) (Nat.le_of_ble_eq_true rfl) (Nat.le_of_ble_eq_true rfl) (e_Seps_putAllTo X _ h (la + 1) S 115 40 (([] : List Int32) ++ sT 1) g (by decide) hS (by omega) (by omega) (by omega) hzS) ?_
        refine zr_aload_n i_B_writeReceipt_23 rfl ?_
        refine zr_ldc i_B_writeReceipt_24 rfl ?_
        refine zr_cv10 i_B_writeReceipt_26 rfl (by decide) (zrcv_of ((chS_ne (by decide) (by decide)).trans hO)) (Nat.le_of_ble_eq_true rfl) (Nat.le_of_ble_eq_true rfl) (e_B_writeReceiptField X _ hX h hz sp la (nI r) rp hO hla f n st cn hM hn S hS hzS g ((([] : List Int32) ++ sT 1) ++ [S 0, S 1, S 2, S 3, S 4]) 8 ⟨by decide, by decide⟩) ?_
        refine zr_aload_n i_B_writeReceipt_29 rfl ?_
        refine zr_cv00 i_B_writeReceipt_30 rfl (by decide) (zrcv_of ((chS_ne (by decide) (by decide)).trans hO)) (Nat.le_of_ble_eq_true rfl) (Nat.le_of_ble_eq_true rfl) (e_B_writeReceiptIdentity X _ hX h hz sp la (nI r) rp hO hla f n st cn hM hn S hS hzS g o ho hz2 hfd (((([] : List Int32) ++ sT 1) ++ [S 0, S 1, S 2, S 3, S 4]) ++ [S 0] ++ sT 8)) ?_
        refine zr_aload_n i_B_writeReceipt_33 rfl ?_
        refine zr_ldc i_B_writeReceipt_34 rfl ?_
        refine zr_cv10 i_B_writeReceipt_36 rfl (by decide) (zrcv_of ((chS_ne (by decide) (by decide)).trans hO)) (Nat.le_of_ble_eq_true rfl) (Nat.le_of_ble_eq_true rfl) (e_B_writeReceiptField X _ hX h hz sp la (nI r) rp hO hla f n st cn hM hn S hS hzS g ((((([] : List Int32) ++ sT 1) ++ [S 0, S 1, S 2, S 3, S 4]) ++ [S 0] ++ sT 8) ++ [S 0] ++ ((txo f n o).getD [])) 9 ⟨by decide, by decide⟩) ?_
        refine zr_aload_n i_B_writeReceipt_39 rfl ?_
        refine zr_getf i_B_writeReceipt_40 ((chS_ne (by decide) (by decide)).trans hO) rfl rfl ?_
        refine zr_bipush i_B_writeReceipt_43 (v := 13) (by decide) ?_
        refine zr_cv10 i_B_writeReceipt_45 rfl (by decide) (zrcv_of chS_o) (Nat.le_of_ble_eq_true rfl) (Nat.le_of_ble_eq_true rfl) (e1_Chars_put X _ h 115 40 (((((([] : List Int32) ++ sT 1) ++ [S 0, S 1, S 2, S 3, S 4]) ++ [S 0] ++ sT 8) ++ [S 0] ++ ((txo f n o).getD [])) ++ [S 0] ++ sT 9) g (by decide) 13 (by first | exact zch_n (by omega) | (unfold zch; decide))) ?_
        refine zr_aload_n i_B_writeReceipt_48 rfl ?_
        refine zr_getf i_B_writeReceipt_49 ((chS_ne (by decide) (by decide)).trans hO) rfl rfl ?_
        refine zr_ldc i_B_writeReceipt_52 rfl ?_
        refine zr_cv10 i_B_writeReceipt_54 rfl (by decide) (zrcv_of chS_o) (Nat.le_of_ble_eq_true rfl) (Nat.le_of_ble_eq_true rfl) (e_Chars_putAll X _ hX h hz 115 40 (by decide) (by decide) ((((((([] : List Int32) ++ sT 1) ++ [S 0, S 1, S 2, S 3, S 4]) ++ [S 0] ++ sT 8) ++ [S 0] ++ ((txo f n o).getD [])) ++ [S 0] ++ sT 9) ++ [13]) g 10 ⟨by decide, by decide⟩) ?_
        refine zr_aload_n i_B_writeReceipt_57 rfl ?_
        refine zr_getf i_B_writeReceipt_58 ((chS_ne (by decide) (by decide)).trans hO) rfl rfl ?_
        refine zr_top (y := nI r) rfl ?_
        refine zr_cs1 i_B_writeReceipt_61 rfl (by decide) (Nat.le_of_ble_eq_true rfl) (Nat.le_of_ble_eq_true rfl) (e_B_receiptFor X _ _ r hr) ?_
        refine zr_istore_n i_B_writeReceipt_64 rfl ?_
        refine zr_aload_n i_B_writeReceipt_65 rfl ?_
        refine zr_iload_n i_B_writeReceipt_66 rfl ?_
        refine zN_if_ne 75 i_B_writeReceipt_67 (by decide) (by omega) (fun _ => ?_) (fun q => absurd q hA)
        refine zr_iload_n i_B_writeReceipt_75 rfl ?_
        refine zn_iconst 1 i_B_writeReceipt_76 (by decide) ?_
        refine zn_icmp_ne 85 i_B_writeReceipt_77 (by decide) (by omega) (by omega) (fun c_77 => ?_) (fun q => absurd q hA1)
        refine zr_ldc i_B_writeReceipt_85 rfl ?_
        refine zr_cv10 i_B_writeReceipt_87 rfl (by decide) (zrcv_of ((chS_ne (by decide) (by decide)).trans hO)) (Nat.le_of_ble_eq_true rfl) (Nat.le_of_ble_eq_true rfl) (e_B_writeReceiptField X _ hX h hz sp la (nI r) rp hO hla f n st cn hM hn S hS hzS g (((((((([] : List Int32) ++ sT 1) ++ [S 0, S 1, S 2, S 3, S 4]) ++ [S 0] ++ sT 8) ++ [S 0] ++ ((txo f n o).getD [])) ++ [S 0] ++ sT 9) ++ [13]) ++ sT 10) 13 ⟨by decide, by decide⟩) ?_
        refine zr_aload_n i_B_writeReceipt_90 rfl ?_
        refine zr_cv00 i_B_writeReceipt_91 rfl (by decide) (zrcv_of ((chS_ne (by decide) (by decide)).trans hO)) (Nat.le_of_ble_eq_true rfl) (Nat.le_of_ble_eq_true rfl) (e_B_writeReceiptIdentity X _ hX h hz sp la (nI r) rp hO hla f n st cn hM hn S hS hzS g o ho hz2 hfd ((((((((([] : List Int32) ++ sT 1) ++ [S 0, S 1, S 2, S 3, S 4]) ++ [S 0] ++ sT 8) ++ [S 0] ++ ((txo f n o).getD [])) ++ [S 0] ++ sT 9) ++ [13]) ++ sT 10) ++ [S 0] ++ sT 13)) ?_
        refine zr_aload_n i_B_writeReceipt_94 rfl ?_
        refine zr_ldc i_B_writeReceipt_95 rfl ?_
        refine zr_cv10 i_B_writeReceipt_97 rfl (by decide) (zrcv_of ((chS_ne (by decide) (by decide)).trans hO)) (Nat.le_of_ble_eq_true rfl) (Nat.le_of_ble_eq_true rfl) (e_B_writeReceiptField X _ hX h hz sp la (nI r) rp hO hla f n st cn hM hn S hS hzS g (((((((((([] : List Int32) ++ sT 1) ++ [S 0, S 1, S 2, S 3, S 4]) ++ [S 0] ++ sT 8) ++ [S 0] ++ ((txo f n o).getD [])) ++ [S 0] ++ sT 9) ++ [13]) ++ sT 10) ++ [S 0] ++ sT 13) ++ [S 0] ++ ((txo f n o).getD [])) 14 ⟨by decide, by decide⟩) ?_
        refine zr_aload_n i_B_writeReceipt_100 rfl ?_
        refine zr_getf i_B_writeReceipt_101 ((chS_ne (by decide) (by decide)).trans hO) rfl rfl ?_
        refine zr_top (y := nI r) rfl ?_
        refine zn_bipush 10 i_B_writeReceipt_104 (by decide) ?_
        refine zn_icmp_lt 126 i_B_writeReceipt_106 (by decide) (by omega) (by omega) (fun c_106 => ?_) (fun q => absurd q (by omega))
        refine zr_aload_n i_B_writeReceipt_126 rfl ?_
        refine zr_getf i_B_writeReceipt_127 ((chS_ne (by decide) (by decide)).trans hO) rfl rfl ?_
        refine zn_bipush 48 i_B_writeReceipt_130 (by decide) ?_
        refine zr_aload_n i_B_writeReceipt_132 rfl ?_
        refine zr_getf i_B_writeReceipt_133 ((chS_ne (by decide) (by decide)).trans hO) rfl rfl ?_
        refine zr_top (y := nI r) rfl ?_
        refine zn_bipush 10 i_B_writeReceipt_136 (by decide) ?_
        refine zn_irem i_B_writeReceipt_138 (by omega) (by decide) (by decide) ?_
        refine zn_iadd i_B_writeReceipt_139 ?_
        refine zr_cv10 i_B_writeReceipt_140 rfl (by decide) (zrcv_of chS_o) (Nat.le_of_ble_eq_true rfl) (Nat.le_of_ble_eq_true rfl) (e1_Chars_put X _ h 115 40 ((((((((((([] : List Int32) ++ sT 1) ++ [S 0, S 1, S 2, S 3, S 4]) ++ [S 0] ++ sT 8) ++ [S 0] ++ ((txo f n o).getD [])) ++ [S 0] ++ sT 9) ++ [13]) ++ sT 10) ++ [S 0] ++ sT 13) ++ [S 0] ++ ((txo f n o).getD [])) ++ [S 0] ++ sT 14) g (by decide) (nI (48 + r % 10)) (by first | exact zch_n (by omega) | (unfold zch; decide))) ?_
        exact zR.retE i_B_writeReceipt_143 rfl (by unfold recC; rw [if_neg hA, if_neg hA1, if_neg h10]; simp only [List.append_assoc, List.nil_append, List.append_nil])
theorem i_B_makeSpareLatest_0 : zins 10 0 = some (.aload_n 0) := by decide +kernel
theorem i_B_makeSpareLatest_1 : zins 10 1 = some (.getfield 52) := by decide +kernel
theorem i_B_makeSpareLatest_4 : zins 10 4 = some (.astore_n 1) := by decide +kernel
theorem i_B_makeSpareLatest_5 : zins 10 5 = some (.aload_n 0) := by decide +kernel
theorem i_B_makeSpareLatest_6 : zins 10 6 = some (.aload_n 0) := by decide +kernel
theorem i_B_makeSpareLatest_7 : zins 10 7 = some (.getfield 56) := by decide +kernel
theorem i_B_makeSpareLatest_10 : zins 10 10 = some (.putfield 52) := by decide +kernel
theorem i_B_makeSpareLatest_13 : zins 10 13 = some (.aload_n 0) := by decide +kernel
theorem i_B_makeSpareLatest_14 : zins 10 14 = some (.aload_n 1) := by decide +kernel
theorem i_B_makeSpareLatest_15 : zins 10 15 = some (.putfield 56) := by decide +kernel
theorem i_B_makeSpareLatest_18 : zins 10 18 = some (.return_) := by decide +kernel
theorem e_B_makeSpareLatest (X : zX) (d : Nat) (h : zH) (sp la : Nat) (rs rp : Int32) (hO : h.2.2 100 = some (bmO sp la rs rp)) : zR X d 10 0 (zent 2 [.ref 100]) [] h (none, zwr h 100 (bmO la sp rs rp)) := by
  refine zr_aload_n i_B_makeSpareLatest_0 rfl ?_
  refine zr_getf i_B_makeSpareLatest_1 hO rfl rfl ?_
  refine zr_astore_n i_B_makeSpareLatest_4 rfl ?_
  refine zr_aload_n i_B_makeSpareLatest_5 rfl ?_
  refine zr_aload_n i_B_makeSpareLatest_6 rfl ?_
  refine zr_getf i_B_makeSpareLatest_7 hO rfl rfl ?_
  refine zr_putf i_B_makeSpareLatest_10 hO rfl (Nat.le_of_ble_eq_true rfl) rfl (Or.inl rfl) ?_
  refine zr_aload_n i_B_makeSpareLatest_13 rfl ?_
  refine zr_aload_n i_B_makeSpareLatest_14 rfl ?_
  refine zr_putf i_B_makeSpareLatest_15 (zwr_at _ _ _) rfl (Nat.le_of_ble_eq_true rfl) rfl (Or.inl rfl) ?_
  exact zR.retE i_B_makeSpareLatest_18 rfl (by rw [zwr_zwr]; rfl)
