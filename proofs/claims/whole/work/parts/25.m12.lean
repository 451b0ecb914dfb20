/-! THE REFERENCE: reading a frame, its head and separators -/
def prop1 (c : Int32) : Bool := !decide (c < 33) && (!decide (126 < c) && (!zcap c && (!zsml c && (!zdig c && !decide (c = 34)))))
def okL (f : Nat → Int32) (k i m : Nat) (ok : Bool) : Bool := match m with
  | 0 => ok
  | m + 1 => okL f k (i + 1) m (ok && !decide (f i = f k))
def fitL (f : Nat → Int32) (k m : Nat) (ok : Bool) : Bool := match m with
  | 0 => ok
  | m + 1 => fitL f (k + 1) m (okL f k 0 k (ok && prop1 (f k)))
def fitF (f : Nat → Int32) : Bool := fitL f 0 5 true
def nowF (F : Nat → Int32) (n k : Nat) : Int32 := if k < n then F k else 0
theorem i_Mod_fitting_0 : zins 103 0 = some (.iconst 1) := by decide +kernel
theorem i_Mod_fitting_1 : zins 103 1 = some (.istore_n 1) := by decide +kernel
theorem i_Mod_fitting_2 : zins 103 2 = some (.iconst 0) := by decide +kernel
theorem i_Mod_fitting_3 : zins 103 3 = some (.istore_n 2) := by decide +kernel
theorem i_Mod_fitting_4 : zins 103 4 = some (.iload_n 2) := by decide +kernel
theorem i_Mod_fitting_5 : zins 103 5 = some (.iconst 5) := by decide +kernel
theorem i_Mod_fitting_6 : zins 103 6 = some (.if_icmp .ge 95) := by decide +kernel
theorem i_Mod_fitting_9 : zins 103 9 = some (.aload_n 0) := by decide +kernel
theorem i_Mod_fitting_10 : zins 103 10 = some (.iload_n 2) := by decide +kernel
theorem i_Mod_fitting_11 : zins 103 11 = some (.caload) := by decide +kernel
theorem i_Mod_fitting_12 : zins 103 12 = some (.istore_n 3) := by decide +kernel
theorem i_Mod_fitting_13 : zins 103 13 = some (.iload_n 1) := by decide +kernel
theorem i_Mod_fitting_14 : zins 103 14 = some (.ifCond .eq 46) := by decide +kernel
theorem i_Mod_fitting_17 : zins 103 17 = some (.iload_n 3) := by decide +kernel
theorem i_Mod_fitting_18 : zins 103 18 = some (.bipush 33) := by decide +kernel
theorem i_Mod_fitting_20 : zins 103 20 = some (.if_icmp .lt 40) := by decide +kernel
theorem i_Mod_fitting_23 : zins 103 23 = some (.iload_n 3) := by decide +kernel
theorem i_Mod_fitting_24 : zins 103 24 = some (.bipush 126) := by decide +kernel
theorem i_Mod_fitting_26 : zins 103 26 = some (.if_icmp .gt 34) := by decide +kernel
theorem i_Mod_fitting_29 : zins 103 29 = some (.iload_n 3) := by decide +kernel
theorem i_Mod_fitting_30 : zins 103 30 = some (.invokestatic 102) := by decide +kernel
theorem i_Mod_fitting_33 : zins 103 33 = some (.ifCond .ne 27) := by decide +kernel
theorem i_Mod_fitting_36 : zins 103 36 = some (.iload_n 3) := by decide +kernel
theorem i_Mod_fitting_37 : zins 103 37 = some (.invokestatic 106) := by decide +kernel
theorem i_Mod_fitting_40 : zins 103 40 = some (.ifCond .ne 20) := by decide +kernel
theorem i_Mod_fitting_43 : zins 103 43 = some (.iload_n 3) := by decide +kernel
theorem i_Mod_fitting_44 : zins 103 44 = some (.invokestatic 109) := by decide +kernel
theorem i_Mod_fitting_47 : zins 103 47 = some (.ifCond .ne 13) := by decide +kernel
theorem i_Mod_fitting_50 : zins 103 50 = some (.iload_n 3) := by decide +kernel
theorem i_Mod_fitting_51 : zins 103 51 = some (.bipush 34) := by decide +kernel
theorem i_Mod_fitting_53 : zins 103 53 = some (.if_icmp .eq 7) := by decide +kernel
theorem i_Mod_fitting_56 : zins 103 56 = some (.iconst 1) := by decide +kernel
theorem i_Mod_fitting_57 : zins 103 57 = some (.goto 4) := by decide +kernel
theorem i_Mod_fitting_60 : zins 103 60 = some (.iconst 0) := by decide +kernel
theorem i_Mod_fitting_61 : zins 103 61 = some (.istore_n 1) := by decide +kernel
theorem i_Mod_fitting_62 : zins 103 62 = some (.iconst 0) := by decide +kernel
theorem i_Mod_fitting_63 : zins 103 63 = some (.istore 4) := by decide +kernel
theorem i_Mod_fitting_65 : zins 103 65 = some (.iload 4) := by decide +kernel
theorem i_Mod_fitting_67 : zins 103 67 = some (.iload_n 2) := by decide +kernel
theorem i_Mod_fitting_68 : zins 103 68 = some (.if_icmp .ge 27) := by decide +kernel
theorem i_Mod_fitting_71 : zins 103 71 = some (.iload_n 1) := by decide +kernel
theorem i_Mod_fitting_72 : zins 103 72 = some (.ifCond .eq 15) := by decide +kernel
theorem i_Mod_fitting_75 : zins 103 75 = some (.aload_n 0) := by decide +kernel
theorem i_Mod_fitting_76 : zins 103 76 = some (.iload 4) := by decide +kernel
theorem i_Mod_fitting_78 : zins 103 78 = some (.caload) := by decide +kernel
theorem i_Mod_fitting_79 : zins 103 79 = some (.iload_n 3) := by decide +kernel
theorem i_Mod_fitting_80 : zins 103 80 = some (.if_icmp .eq 7) := by decide +kernel
theorem i_Mod_fitting_83 : zins 103 83 = some (.iconst 1) := by decide +kernel
theorem i_Mod_fitting_84 : zins 103 84 = some (.goto 4) := by decide +kernel
theorem i_Mod_fitting_87 : zins 103 87 = some (.iconst 0) := by decide +kernel
theorem i_Mod_fitting_88 : zins 103 88 = some (.istore_n 1) := by decide +kernel
theorem i_Mod_fitting_89 : zins 103 89 = some (.iinc 4 1) := by decide +kernel
theorem i_Mod_fitting_92 : zins 103 92 = some (.goto (-27)) := by decide +kernel
theorem i_Mod_fitting_95 : zins 103 95 = some (.iinc 2 1) := by decide +kernel
theorem i_Mod_fitting_98 : zins 103 98 = some (.goto (-94)) := by decide +kernel
theorem i_Mod_fitting_101 : zins 103 101 = some (.iload_n 1) := by decide +kernel
theorem i_Mod_fitting_102 : zins 103 102 = some (.ireturn) := by decide +kernel
theorem l1_Mod_fitting (X : zX) (d : Nat) (h : zH) (a : Nat) (f : Nat → Int32) (hr : h.2.2 a = some (.inl (1, 5, .inl f))) (k : Nat) (hk : k < 5) (u : Option Value × zH) : ∀ (m i : Nat) (ok : Bool), i + m = k → (∀ x, zR X d 103 95 [some (.ref a), some (.int (zb (okL f k i m ok))), some (.int (nI k)), some (.int (f k)), some (.int x)] [] h u) → zR X d 103 65 [some (.ref a), some (.int (zb ok)), some (.int (nI k)), some (.int (f k)), some (.int (nI i))] [] h u := by
  intro m
  induction m with
  | zero =>
    intro i ok hik K
    refine zr_iload i_Mod_fitting_65 rfl ?_
    refine zr_iload_n i_Mod_fitting_67 rfl ?_
    refine zn_icmp_ge 95 i_Mod_fitting_68 (by decide) (by omega) (by omega) (fun c_68 => ?_) (fun q => absurd q (by first | assumption | omega | simp_all))
    exact K _
  | succ m ih =>
    intro i ok hik K
    refine zr_iload i_Mod_fitting_65 rfl ?_
    refine zr_iload_n i_Mod_fitting_67 rfl ?_
    refine zn_icmp_ge 95 i_Mod_fitting_68 (by decide) (by omega) (by omega) (fun q => absurd q (by first | assumption | omega | simp_all)) (fun c_68 => ?_)
    refine zr_iload_n i_Mod_fitting_71 rfl ?_
    refine zB_if_eq 87 i_Mod_fitting_72 (by decide) (fun c_72 => ?_) (fun c_72 => ?_)
    · skip
      refine zr_iconst i_Mod_fitting_87 (v := 0) (by decide) ?_
      refine zr_istore_n i_Mod_fitting_88 rfl ?_
      refine zn_iinc i_Mod_fitting_89 rfl rfl ?_
      refine zr_goto 65 i_Mod_fitting_92 (by decide) ?_
      (rw [okL] at K; have e : (ok && !decide (f i = f k)) = false := by simp [*]
       rw [e] at K; exact ih (i + 1) false (by omega) K)
    · skip
      refine zr_aload_n i_Mod_fitting_75 rfl ?_
      refine zr_iload i_Mod_fitting_76 rfl ?_
      refine zn_caload i_Mod_fitting_78 hr (by omega) (by decide) ?_
      refine zr_iload_n i_Mod_fitting_79 rfl ?_
      refine zr_icmp_eq 87 i_Mod_fitting_80 (by decide) (fun c_80 => ?_) (fun c_80 => ?_)
      · skip
        refine zr_iconst i_Mod_fitting_87 (v := 0) (by decide) ?_
        refine zr_istore_n i_Mod_fitting_88 rfl ?_
        refine zn_iinc i_Mod_fitting_89 rfl rfl ?_
        refine zr_goto 65 i_Mod_fitting_92 (by decide) ?_
        (rw [okL] at K; have e : (ok && !decide (f i = f k)) = false := by simp [*]
         rw [e] at K; exact ih (i + 1) false (by omega) K)
      · skip
        refine zr_iconst i_Mod_fitting_83 (v := 1) (by decide) ?_
        refine zr_goto 88 i_Mod_fitting_84 (by decide) ?_
        refine zr_istore_n i_Mod_fitting_88 rfl ?_
        refine zn_iinc i_Mod_fitting_89 rfl rfl ?_
        refine zr_goto 65 i_Mod_fitting_92 (by decide) ?_
        (rw [okL] at K; have e : (ok && !decide (f i = f k)) = true := by simp [*]
         rw [e] at K; exact ih (i + 1) true (by omega) K)
theorem l2_Mod_fitting (X : zX) (d : Nat) (h : zH) (a : Nat) (f : Nat → Int32) (hr : h.2.2 a = some (.inl (1, 5, .inl f))) : ∀ (m k : Nat) (ok : Bool) (x3 x4 : Option Value), k + m = 5 → zR X (d + 1) 103 4 [some (.ref a), some (.int (zb ok)), some (.int (nI k)), x3, x4] [] h (some (.int (zb (fitL f k m ok))), h) := by
  intro m
  induction m with
  | zero =>
    intro k ok x3 x4 hik
    refine zr_iload_n i_Mod_fitting_4 rfl ?_
    refine zn_iconst 5 i_Mod_fitting_5 (by decide) ?_
    refine zn_icmp_ge 101 i_Mod_fitting_6 (by decide) (by omega) (by omega) (fun c_6 => ?_) (fun q => absurd q (by first | assumption | omega | simp_all))
    refine zr_iload_n i_Mod_fitting_101 rfl ?_
    exact zR.retE i_Mod_fitting_102 (zretB _) rfl
  | succ m ih =>
    intro k ok x3 x4 hik
    refine zr_iload_n i_Mod_fitting_4 rfl ?_
    refine zn_iconst 5 i_Mod_fitting_5 (by decide) ?_
    refine zn_icmp_ge 101 i_Mod_fitting_6 (by decide) (by omega) (by omega) (fun q => absurd q (by first | assumption | omega | simp_all)) (fun c_6 => ?_)
    refine zr_aload_n i_Mod_fitting_9 rfl ?_
    refine zr_iload_n i_Mod_fitting_10 rfl ?_
    refine zn_caload i_Mod_fitting_11 hr (by omega) (by decide) ?_
    refine zr_istore_n i_Mod_fitting_12 rfl ?_
    refine zr_iload_n i_Mod_fitting_13 rfl ?_
    refine zB_if_eq 60 i_Mod_fitting_14 (by decide) (fun c_14 => ?_) (fun c_14 => ?_)
    · skip
      refine zr_iconst i_Mod_fitting_60 (v := 0) (by decide) ?_
      refine zr_istore_n i_Mod_fitting_61 rfl ?_
      refine zn_iconst 0 i_Mod_fitting_62 (by decide) ?_
      refine zr_istore i_Mod_fitting_63 rfl ?_
      (have e : (ok && prop1 (f k)) = false := by simp [prop1, *]
       rw [fitL, e]
       refine l1_Mod_fitting X (d + 1) h a f hr k (by omega) _ k 0 false (by omega) (fun x => ?_)
       refine zn_iinc i_Mod_fitting_95 rfl rfl ?_
       refine zr_goto 4 i_Mod_fitting_98 (by decide) ?_
       exact ih (k + 1) _ _ _ (by omega))
    · skip
      refine zr_iload_n i_Mod_fitting_17 rfl ?_
      refine zr_bipush i_Mod_fitting_18 (v := 33) (by decide) ?_
      refine zr_icmp_lt 60 i_Mod_fitting_20 (by decide) (fun c_20 => ?_) (fun c_20 => ?_)
      · skip
        refine zr_iconst i_Mod_fitting_60 (v := 0) (by decide) ?_
        refine zr_istore_n i_Mod_fitting_61 rfl ?_
        refine zn_iconst 0 i_Mod_fitting_62 (by decide) ?_
        refine zr_istore i_Mod_fitting_63 rfl ?_
        (have e : (ok && prop1 (f k)) = false := by simp [prop1, *]
         rw [fitL, e]
         refine l1_Mod_fitting X (d + 1) h a f hr k (by omega) _ k 0 false (by omega) (fun x => ?_)
         refine zn_iinc i_Mod_fitting_95 rfl rfl ?_
         refine zr_goto 4 i_Mod_fitting_98 (by decide) ?_
         exact ih (k + 1) _ _ _ (by omega))
      · skip
        refine zr_iload_n i_Mod_fitting_23 rfl ?_
        refine zr_bipush i_Mod_fitting_24 (v := 126) (by decide) ?_
        refine zr_icmp_gt 60 i_Mod_fitting_26 (by decide) (fun c_26 => ?_) (fun c_26 => ?_)
        · skip
          refine zr_iconst i_Mod_fitting_60 (v := 0) (by decide) ?_
          refine zr_istore_n i_Mod_fitting_61 rfl ?_
          refine zn_iconst 0 i_Mod_fitting_62 (by decide) ?_
          refine zr_istore i_Mod_fitting_63 rfl ?_
          (have e : (ok && prop1 (f k)) = false := by simp [prop1, *]
           rw [fitL, e]
           refine l1_Mod_fitting X (d + 1) h a f hr k (by omega) _ k 0 false (by omega) (fun x => ?_)
           refine zn_iinc i_Mod_fitting_95 rfl rfl ?_
           refine zr_goto 4 i_Mod_fitting_98 (by decide) ?_
           exact ih (k + 1) _ _ _ (by omega))
        · skip
          refine zr_iload_n i_Mod_fitting_29 rfl ?_
          refine zr_cs1 i_Mod_fitting_30 rfl (by decide) (Nat.le_of_ble_eq_true rfl) (Nat.le_of_ble_eq_true rfl) (e_Mod_capital X _ h _) ?_
          refine zB_if_ne 60 i_Mod_fitting_33 (by decide) (fun c_33 => ?_) (fun c_33 => ?_)
          · skip
            refine zr_iconst i_Mod_fitting_60 (v := 0) (by decide) ?_
            refine zr_istore_n i_Mod_fitting_61 rfl ?_
            refine zn_iconst 0 i_Mod_fitting_62 (by decide) ?_
            refine zr_istore i_Mod_fitting_63 rfl ?_
            (have e : (ok && prop1 (f k)) = false := by simp [prop1, *]
             rw [fitL, e]
             refine l1_Mod_fitting X (d + 1) h a f hr k (by omega) _ k 0 false (by omega) (fun x => ?_)
             refine zn_iinc i_Mod_fitting_95 rfl rfl ?_
             refine zr_goto 4 i_Mod_fitting_98 (by decide) ?_
             exact ih (k + 1) _ _ _ (by omega))
          · skip
            refine zr_iload_n i_Mod_fitting_36 rfl ?_
            refine zr_cs1 i_Mod_fitting_37 rfl (by decide) (Nat.le_of_ble_eq_true rfl) (Nat.le_of_ble_eq_true rfl) (e_Mod_small X _ h _) ?_
            refine zB_if_ne 60 i_Mod_fitting_40 (by decide) (fun c_40 => ?_) (fun c_40 => ?_)
            · skip
              refine zr_iconst i_Mod_fitting_60 (v := 0) (by decide) ?_
              refine zr_istore_n i_Mod_fitting_61 rfl ?_
              refine zn_iconst 0 i_Mod_fitting_62 (by decide) ?_
              refine zr_istore i_Mod_fitting_63 rfl ?_
              (have e : (ok && prop1 (f k)) = false := by simp [prop1, *]
               rw [fitL, e]
               refine l1_Mod_fitting X (d + 1) h a f hr k (by omega) _ k 0 false (by omega) (fun x => ?_)
               refine zn_iinc i_Mod_fitting_95 rfl rfl ?_
               refine zr_goto 4 i_Mod_fitting_98 (by decide) ?_
               exact ih (k + 1) _ _ _ (by omega))
            · skip
              refine zr_iload_n i_Mod_fitting_43 rfl ?_
              refine zr_cs1 i_Mod_fitting_44 rfl (by decide) (Nat.le_of_ble_eq_true rfl) (Nat.le_of_ble_eq_true rfl) (e_Mod_digit X _ h _) ?_
              refine zB_if_ne 60 i_Mod_fitting_47 (by decide) (fun c_47 => ?_) (fun c_47 => ?_)
              · skip
                refine zr_iconst i_Mod_fitting_60 (v := 0) (by decide) ?_
                refine zr_istore_n i_Mod_fitting_61 rfl ?_
                refine zn_iconst 0 i_Mod_fitting_62 (by decide) ?_
                refine zr_istore i_Mod_fitting_63 rfl ?_
                (have e : (ok && prop1 (f k)) = false := by simp [prop1, *]
                 rw [fitL, e]
                 refine l1_Mod_fitting X (d + 1) h a f hr k (by omega) _ k 0 false (by omega) (fun x => ?_)
                 refine zn_iinc i_Mod_fitting_95 rfl rfl ?_
                 refine zr_goto 4 i_Mod_fitting_98 (by decide) ?_
                 exact ih (k + 1) _ _ _ (by omega))
              · skip
                refine zr_iload_n i_Mod_fitting_50 rfl ?_
                refine zr_bipush i_Mod_fitting_51 (v := 34) (by decide) ?_
                refine zr_icmp_eq 60 i_Mod_fitting_53 (by decide) (fun c_53 => ?_) (fun c_53 => ?_)
                · skip
                  refine zr_iconst i_Mod_fitting_60 (v := 0) (by decide) ?_
                  refine zr_istore_n i_Mod_fitting_61 rfl ?_
                  refine zn_iconst 0 i_Mod_fitting_62 (by decide) ?_
                  refine zr_istore i_Mod_fitting_63 rfl ?_
                  (have e : (ok && prop1 (f k)) = false := by simp [prop1, *]
                   rw [fitL, e]
                   refine l1_Mod_fitting X (d + 1) h a f hr k (by omega) _ k 0 false (by omega) (fun x => ?_)
                   refine zn_iinc i_Mod_fitting_95 rfl rfl ?_
                   refine zr_goto 4 i_Mod_fitting_98 (by decide) ?_
                   exact ih (k + 1) _ _ _ (by omega))
                · skip
                  refine zr_iconst i_Mod_fitting_56 (v := 1) (by decide) ?_
                  refine zr_goto 61 i_Mod_fitting_57 (by decide) ?_
                  refine zr_istore_n i_Mod_fitting_61 rfl ?_
                  refine zn_iconst 0 i_Mod_fitting_62 (by decide) ?_
                  refine zr_istore i_Mod_fitting_63 rfl ?_
                  (have e : (ok && prop1 (f k)) = true := by simp [prop1, *]
                   rw [fitL, e]
                   refine l1_Mod_fitting X (d + 1) h a f hr k (by omega) _ k 0 true (by omega) (fun x => ?_)
                   refine zn_iinc i_Mod_fitting_95 rfl rfl ?_
                   refine zr_goto 4 i_Mod_fitting_98 (by decide) ?_
                   exact ih (k + 1) _ _ _ (by omega))
theorem e_Mod_fitting (X : zX) (d : Nat) (h : zH) (a : Nat) (f : Nat → Int32) (hr : h.2.2 a = some (.inl (1, 5, .inl f))) : zR X (d + 1) 103 0 (zent 5 [.ref a]) [] h (some (.int (zb (fitF f))), h) := by
  refine zr_iconst i_Mod_fitting_0 (v := 1) (by decide) ?_
  refine zr_istore_n i_Mod_fitting_1 rfl ?_
  refine zn_iconst 0 i_Mod_fitting_2 (by decide) ?_
  refine zr_istore_n i_Mod_fitting_3 rfl ?_
  exact l2_Mod_fitting X d h a f hr 5 0 true none none rfl
theorem i_Mod_begin_0 : zins 100 0 = some (.aload_n 0) := by decide +kernel
theorem i_Mod_begin_1 : zins 100 1 = some (.getfield 98) := by decide +kernel
theorem i_Mod_begin_4 : zins 100 4 = some (.iconst 3) := by decide +kernel
theorem i_Mod_begin_5 : zins 100 5 = some (.if_icmp .lt 40) := by decide +kernel
theorem i_Mod_begin_8 : zins 100 8 = some (.aload_n 0) := by decide +kernel
theorem i_Mod_begin_9 : zins 100 9 = some (.getfield 7) := by decide +kernel
theorem i_Mod_begin_12 : zins 100 12 = some (.iconst 0) := by decide +kernel
theorem i_Mod_begin_13 : zins 100 13 = some (.caload) := by decide +kernel
theorem i_Mod_begin_14 : zins 100 14 = some (.bipush 72) := by decide +kernel
theorem i_Mod_begin_16 : zins 100 16 = some (.if_icmp .ne 29) := by decide +kernel
theorem i_Mod_begin_19 : zins 100 19 = some (.aload_n 0) := by decide +kernel
theorem i_Mod_begin_20 : zins 100 20 = some (.getfield 7) := by decide +kernel
theorem i_Mod_begin_23 : zins 100 23 = some (.iconst 1) := by decide +kernel
theorem i_Mod_begin_24 : zins 100 24 = some (.caload) := by decide +kernel
theorem i_Mod_begin_25 : zins 100 25 = some (.bipush 68) := by decide +kernel
theorem i_Mod_begin_27 : zins 100 27 = some (.if_icmp .ne 18) := by decide +kernel
theorem i_Mod_begin_30 : zins 100 30 = some (.aload_n 0) := by decide +kernel
theorem i_Mod_begin_31 : zins 100 31 = some (.getfield 7) := by decide +kernel
theorem i_Mod_begin_34 : zins 100 34 = some (.iconst 2) := by decide +kernel
theorem i_Mod_begin_35 : zins 100 35 = some (.caload) := by decide +kernel
theorem i_Mod_begin_36 : zins 100 36 = some (.bipush 82) := by decide +kernel
theorem i_Mod_begin_38 : zins 100 38 = some (.if_icmp .ne 7) := by decide +kernel
theorem i_Mod_begin_41 : zins 100 41 = some (.iconst 1) := by decide +kernel
theorem i_Mod_begin_42 : zins 100 42 = some (.goto 4) := by decide +kernel
theorem i_Mod_begin_45 : zins 100 45 = some (.iconst 0) := by decide +kernel
theorem i_Mod_begin_46 : zins 100 46 = some (.istore_n 1) := by decide +kernel
theorem i_Mod_begin_47 : zins 100 47 = some (.aload_n 0) := by decide +kernel
theorem i_Mod_begin_48 : zins 100 48 = some (.getfield 13) := by decide +kernel
theorem i_Mod_begin_51 : zins 100 51 = some (.iconst 0) := by decide +kernel
theorem i_Mod_begin_52 : zins 100 52 = some (.iconst 1) := by decide +kernel
theorem i_Mod_begin_53 : zins 100 53 = some (.iastore) := by decide +kernel
theorem i_Mod_begin_54 : zins 100 54 = some (.aload_n 0) := by decide +kernel
theorem i_Mod_begin_55 : zins 100 55 = some (.getfield 17) := by decide +kernel
theorem i_Mod_begin_58 : zins 100 58 = some (.iconst 0) := by decide +kernel
theorem i_Mod_begin_59 : zins 100 59 = some (.iconst 0) := by decide +kernel
theorem i_Mod_begin_60 : zins 100 60 = some (.iastore) := by decide +kernel
theorem i_Mod_begin_61 : zins 100 61 = some (.aload_n 0) := by decide +kernel
theorem i_Mod_begin_62 : zins 100 62 = some (.getfield 20) := by decide +kernel
theorem i_Mod_begin_65 : zins 100 65 = some (.iconst 0) := by decide +kernel
theorem i_Mod_begin_66 : zins 100 66 = some (.iconst 0) := by decide +kernel
theorem i_Mod_begin_67 : zins 100 67 = some (.iastore) := by decide +kernel
theorem i_Mod_begin_68 : zins 100 68 = some (.aload_n 0) := by decide +kernel
theorem i_Mod_begin_69 : zins 100 69 = some (.getfield 47) := by decide +kernel
theorem i_Mod_begin_72 : zins 100 72 = some (.iconst 0) := by decide +kernel
theorem i_Mod_begin_73 : zins 100 73 = some (.bipush 72) := by decide +kernel
theorem i_Mod_begin_75 : zins 100 75 = some (.castore) := by decide +kernel
theorem i_Mod_begin_76 : zins 100 76 = some (.aload_n 0) := by decide +kernel
theorem i_Mod_begin_77 : zins 100 77 = some (.getfield 47) := by decide +kernel
theorem i_Mod_begin_80 : zins 100 80 = some (.iconst 1) := by decide +kernel
theorem i_Mod_begin_81 : zins 100 81 = some (.bipush 68) := by decide +kernel
theorem i_Mod_begin_83 : zins 100 83 = some (.castore) := by decide +kernel
theorem i_Mod_begin_84 : zins 100 84 = some (.aload_n 0) := by decide +kernel
theorem i_Mod_begin_85 : zins 100 85 = some (.getfield 47) := by decide +kernel
theorem i_Mod_begin_88 : zins 100 88 = some (.iconst 2) := by decide +kernel
theorem i_Mod_begin_89 : zins 100 89 = some (.bipush 82) := by decide +kernel
theorem i_Mod_begin_91 : zins 100 91 = some (.castore) := by decide +kernel
theorem i_Mod_begin_92 : zins 100 92 = some (.aload_n 0) := by decide +kernel
theorem i_Mod_begin_93 : zins 100 93 = some (.iconst 3) := by decide +kernel
theorem i_Mod_begin_94 : zins 100 94 = some (.putfield 112) := by decide +kernel
theorem i_Mod_begin_97 : zins 100 97 = some (.iload_n 1) := by decide +kernel
theorem i_Mod_begin_98 : zins 100 98 = some (.ireturn) := by decide +kernel
def mbeg (ms : zMS) : zMS := (va_up ms.1 1 3, va_up (va_up (va_up (va_up ms.2 2 (upd (ms.2 2) 0 1)) 3 (upd (ms.2 3) 0 0)) 4 (upd (ms.2 4) 0 0)) 13 (upd (upd (upd (ms.2 13) 0 72) 1 68) 2 82))
def headF (F : Nat → Int32) (n : Nat) : Bool := decide (3 ≤ n) && (decide (F 0 = 72) && (decide (F 1 = 68) && decide (F 2 = 82)))
theorem e_Mod_begin (X : zX) (d : Nat) (g : zH) (ms : zMS) (n : Nat) (h0 : ms.1 0 = nI n) (hn : n ≤ 200) : zR X d 100 0 (zent 2 [.ref 129]) [] (mset g ms) (some (.int (zb (headF (ms.2 1) n))), mset g (mbeg ms)) := by
  refine zr_aload_n i_Mod_begin_0 rfl ?_
  refine zr_getf i_Mod_begin_1 rfl rfl rfl ?_
  refine zr_top (y := nI n) h0 ?_
  refine zn_iconst 3 i_Mod_begin_4 (by decide) ?_
  refine zn_icmp_lt 45 i_Mod_begin_5 (by decide) (by omega) (by omega) (fun c_5 => ?_) (fun c_5 => ?_)
  · skip
    refine zr_iconst i_Mod_begin_45 (v := 0) (by decide) ?_
    refine zr_istore_n i_Mod_begin_46 rfl ?_
    refine zr_aload_n i_Mod_begin_47 rfl ?_
    refine zr_getf i_Mod_begin_48 rfl rfl rfl ?_
    refine zn_iconst 0 i_Mod_begin_51 (by decide) ?_
    refine zr_iconst i_Mod_begin_52 (v := 1) (by decide) ?_
    refine mn_iastore 2 2 i_Mod_begin_53 (fun _ => rfl) (by decide) (by omega) (by decide) ?_
    refine zr_aload_n i_Mod_begin_54 rfl ?_
    refine zr_getf i_Mod_begin_55 rfl rfl rfl ?_
    refine zn_iconst 0 i_Mod_begin_58 (by decide) ?_
    refine zr_iconst i_Mod_begin_59 (v := 0) (by decide) ?_
    refine mn_iastore 3 2 i_Mod_begin_60 (fun _ => rfl) (by decide) (by omega) (by decide) ?_
    refine zr_aload_n i_Mod_begin_61 rfl ?_
    refine zr_getf i_Mod_begin_62 rfl rfl rfl ?_
    refine zn_iconst 0 i_Mod_begin_65 (by decide) ?_
    refine zr_iconst i_Mod_begin_66 (v := 0) (by decide) ?_
    refine mn_iastore 4 2 i_Mod_begin_67 (fun _ => rfl) (by decide) (by omega) (by decide) ?_
    refine zr_aload_n i_Mod_begin_68 rfl ?_
    refine zr_getf i_Mod_begin_69 rfl rfl rfl ?_
    refine zn_iconst 0 i_Mod_begin_72 (by decide) ?_
    refine zr_bipush i_Mod_begin_73 (v := 72) (by decide) ?_
    refine mn_castore 13 1200 i_Mod_begin_75 (fun _ => rfl) (by decide) (by omega) (by decide) ?_
    refine zr_aload_n i_Mod_begin_76 rfl ?_
    refine zr_getf i_Mod_begin_77 rfl rfl rfl ?_
    refine zn_iconst 1 i_Mod_begin_80 (by decide) ?_
    refine zr_bipush i_Mod_begin_81 (v := 68) (by decide) ?_
    refine mn_castore 13 1200 i_Mod_begin_83 (fun _ => rfl) (by decide) (by omega) (by decide) ?_
    refine zr_aload_n i_Mod_begin_84 rfl ?_
    refine zr_getf i_Mod_begin_85 rfl rfl rfl ?_
    refine zn_iconst 2 i_Mod_begin_88 (by decide) ?_
    refine zr_bipush i_Mod_begin_89 (v := 82) (by decide) ?_
    refine mn_castore 13 1200 i_Mod_begin_91 (fun _ => rfl) (by decide) (by omega) (by decide) ?_
    refine zr_aload_n i_Mod_begin_92 rfl ?_
    refine zr_iconst i_Mod_begin_93 (v := 3) (by decide) ?_
    refine mr_putf (kk := 1) i_Mod_begin_94 rfl rfl (Nat.le_of_ble_eq_true rfl) rfl rfl rfl ?_
    refine zr_iload_n i_Mod_begin_97 rfl ?_
    exact zR.retE i_Mod_begin_98 rfl (by
      rw [show mbeg ms = (va_up ms.1 1 3, va_up (va_up (va_up (va_up (va_up (va_up ms.2 2 (upd (ms.2 2) 0 1)) 3 (upd (ms.2 3) 0 0)) 4 (upd (ms.2 4) 0 0)) 13 (upd (ms.2 13) 0 72)) 13 (upd (upd (ms.2 13) 0 72) 1 68)) 13 (upd (upd (upd (ms.2 13) 0 72) 1 68) 2 82)) by unfold mbeg; rw [up_same, up_same]]
      rw [show headF (ms.2 1) n = false by simp [headF, *] <;> omega]
      rfl)
  · skip
    refine zr_aload_n i_Mod_begin_8 rfl ?_
    refine zr_getf i_Mod_begin_9 rfl rfl rfl ?_
    refine zn_iconst 0 i_Mod_begin_12 (by decide) ?_
    refine zn_caload i_Mod_begin_13 rfl (by omega) (by decide) ?_
    refine zr_bipush i_Mod_begin_14 (v := 72) (by decide) ?_
    refine zr_icmp_ne 45 i_Mod_begin_16 (by decide) (fun c_16 => ?_) (fun c_16 => ?_)
    · skip
      refine zr_iconst i_Mod_begin_45 (v := 0) (by decide) ?_
      refine zr_istore_n i_Mod_begin_46 rfl ?_
      refine zr_aload_n i_Mod_begin_47 rfl ?_
      refine zr_getf i_Mod_begin_48 rfl rfl rfl ?_
      refine zn_iconst 0 i_Mod_begin_51 (by decide) ?_
      refine zr_iconst i_Mod_begin_52 (v := 1) (by decide) ?_
      refine mn_iastore 2 2 i_Mod_begin_53 (fun _ => rfl) (by decide) (by omega) (by decide) ?_
      refine zr_aload_n i_Mod_begin_54 rfl ?_
      refine zr_getf i_Mod_begin_55 rfl rfl rfl ?_
      refine zn_iconst 0 i_Mod_begin_58 (by decide) ?_
      refine zr_iconst i_Mod_begin_59 (v := 0) (by decide) ?_
      refine mn_iastore 3 2 i_Mod_begin_60 (fun _ => rfl) (by decide) (by omega) (by decide) ?_
      refine zr_aload_n i_Mod_begin_61 rfl ?_
      refine zr_getf i_Mod_begin_62 rfl rfl rfl ?_
      refine zn_iconst 0 i_Mod_begin_65 (by decide) ?_
      refine zr_iconst i_Mod_begin_66 (v := 0) (by decide) ?_
      refine mn_iastore 4 2 i_Mod_begin_67 (fun _ => rfl) (by decide) (by omega) (by decide) ?_
      refine zr_aload_n i_Mod_begin_68 rfl ?_
      refine zr_getf i_Mod_begin_69 rfl rfl rfl ?_
      refine zn_iconst 0 i_Mod_begin_72 (by decide) ?_
      refine zr_bipush i_Mod_begin_73 (v := 72) (by decide) ?_
      refine mn_castore 13 1200 i_Mod_begin_75 (fun _ => rfl) (by decide) (by omega) (by decide) ?_
      refine zr_aload_n i_Mod_begin_76 rfl ?_
      refine zr_getf i_Mod_begin_77 rfl rfl rfl ?_
      refine zn_iconst 1 i_Mod_begin_80 (by decide) ?_
      refine zr_bipush i_Mod_begin_81 (v := 68) (by decide) ?_
      refine mn_castore 13 1200 i_Mod_begin_83 (fun _ => rfl) (by decide) (by omega) (by decide) ?_
      refine zr_aload_n i_Mod_begin_84 rfl ?_
      refine zr_getf i_Mod_begin_85 rfl rfl rfl ?_
      refine zn_iconst 2 i_Mod_begin_88 (by decide) ?_
      refine zr_bipush i_Mod_begin_89 (v := 82) (by decide) ?_
      refine mn_castore 13 1200 i_Mod_begin_91 (fun _ => rfl) (by decide) (by omega) (by decide) ?_
      refine zr_aload_n i_Mod_begin_92 rfl ?_
      refine zr_iconst i_Mod_begin_93 (v := 3) (by decide) ?_
      refine mr_putf (kk := 1) i_Mod_begin_94 rfl rfl (Nat.le_of_ble_eq_true rfl) rfl rfl rfl ?_
      refine zr_iload_n i_Mod_begin_97 rfl ?_
      exact zR.retE i_Mod_begin_98 rfl (by
        rw [show mbeg ms = (va_up ms.1 1 3, va_up (va_up (va_up (va_up (va_up (va_up ms.2 2 (upd (ms.2 2) 0 1)) 3 (upd (ms.2 3) 0 0)) 4 (upd (ms.2 4) 0 0)) 13 (upd (ms.2 13) 0 72)) 13 (upd (upd (ms.2 13) 0 72) 1 68)) 13 (upd (upd (upd (ms.2 13) 0 72) 1 68) 2 82)) by unfold mbeg; rw [up_same, up_same]]
        rw [show headF (ms.2 1) n = false by simp [headF, *] <;> omega]
        rfl)
    · skip
      refine zr_aload_n i_Mod_begin_19 rfl ?_
      refine zr_getf i_Mod_begin_20 rfl rfl rfl ?_
      refine zn_iconst 1 i_Mod_begin_23 (by decide) ?_
      refine zn_caload i_Mod_begin_24 rfl (by omega) (by decide) ?_
      refine zr_bipush i_Mod_begin_25 (v := 68) (by decide) ?_
      refine zr_icmp_ne 45 i_Mod_begin_27 (by decide) (fun c_27 => ?_) (fun c_27 => ?_)
      · skip
        refine zr_iconst i_Mod_begin_45 (v := 0) (by decide) ?_
        refine zr_istore_n i_Mod_begin_46 rfl ?_
        refine zr_aload_n i_Mod_begin_47 rfl ?_
        refine zr_getf i_Mod_begin_48 rfl rfl rfl ?_
        refine zn_iconst 0 i_Mod_begin_51 (by decide) ?_
        refine zr_iconst i_Mod_begin_52 (v := 1) (by decide) ?_
        refine mn_iastore 2 2 i_Mod_begin_53 (fun _ => rfl) (by decide) (by omega) (by decide) ?_
        refine zr_aload_n i_Mod_begin_54 rfl ?_
        refine zr_getf i_Mod_begin_55 rfl rfl rfl ?_
        refine zn_iconst 0 i_Mod_begin_58 (by decide) ?_
        refine zr_iconst i_Mod_begin_59 (v := 0) (by decide) ?_
        refine mn_iastore 3 2 i_Mod_begin_60 (fun _ => rfl) (by decide) (by omega) (by decide) ?_
        refine zr_aload_n i_Mod_begin_61 rfl ?_
        refine zr_getf i_Mod_begin_62 rfl rfl rfl ?_
        refine zn_iconst 0 i_Mod_begin_65 (by decide) ?_
        refine zr_iconst i_Mod_begin_66 (v := 0) (by decide) ?_
        refine mn_iastore 4 2 i_Mod_begin_67 (fun _ => rfl) (by decide) (by omega) (by decide) ?_
        refine zr_aload_n i_Mod_begin_68 rfl ?_
        refine zr_getf i_Mod_begin_69 rfl rfl rfl ?_
        refine zn_iconst 0 i_Mod_begin_72 (by decide) ?_
        refine zr_bipush i_Mod_begin_73 (v := 72) (by decide) ?_
        refine mn_castore 13 1200 i_Mod_begin_75 (fun _ => rfl) (by decide) (by omega) (by decide) ?_
        refine zr_aload_n i_Mod_begin_76 rfl ?_
        refine zr_getf i_Mod_begin_77 rfl rfl rfl ?_
        refine zn_iconst 1 i_Mod_begin_80 (by decide) ?_
        refine zr_bipush i_Mod_begin_81 (v := 68) (by decide) ?_
        refine mn_castore 13 1200 i_Mod_begin_83 (fun _ => rfl) (by decide) (by omega) (by decide) ?_
        refine zr_aload_n i_Mod_begin_84 rfl ?_
        refine zr_getf i_Mod_begin_85 rfl rfl rfl ?_
        refine zn_iconst 2 i_Mod_begin_88 (by decide) ?_
        refine zr_bipush i_Mod_begin_89 (v := 82) (by decide) ?_
        refine mn_castore 13 1200 i_Mod_begin_91 (fun _ => rfl) (by decide) (by omega) (by decide) ?_
        refine zr_aload_n i_Mod_begin_92 rfl ?_
        refine zr_iconst i_Mod_begin_93 (v := 3) (by decide) ?_
        refine mr_putf (kk := 1) i_Mod_begin_94 rfl rfl (Nat.le_of_ble_eq_true rfl) rfl rfl rfl ?_
        refine zr_iload_n i_Mod_begin_97 rfl ?_
        exact zR.retE i_Mod_begin_98 rfl (by
          rw [show mbeg ms = (va_up ms.1 1 3, va_up (va_up (va_up (va_up (va_up (va_up ms.2 2 (upd (ms.2 2) 0 1)) 3 (upd (ms.2 3) 0 0)) 4 (upd (ms.2 4) 0 0)) 13 (upd (ms.2 13) 0 72)) 13 (upd (upd (ms.2 13) 0 72) 1 68)) 13 (upd (upd (upd (ms.2 13) 0 72) 1 68) 2 82)) by unfold mbeg; rw [up_same, up_same]]
          rw [show headF (ms.2 1) n = false by simp [headF, *] <;> omega]
          rfl)
      · skip
        refine zr_aload_n i_Mod_begin_30 rfl ?_
        refine zr_getf i_Mod_begin_31 rfl rfl rfl ?_
        refine zn_iconst 2 i_Mod_begin_34 (by decide) ?_
        refine zn_caload i_Mod_begin_35 rfl (by omega) (by decide) ?_
        refine zr_bipush i_Mod_begin_36 (v := 82) (by decide) ?_
        refine zr_icmp_ne 45 i_Mod_begin_38 (by decide) (fun c_38 => ?_) (fun c_38 => ?_)
        · skip
          refine zr_iconst i_Mod_begin_45 (v := 0) (by decide) ?_
          refine zr_istore_n i_Mod_begin_46 rfl ?_
          refine zr_aload_n i_Mod_begin_47 rfl ?_
          refine zr_getf i_Mod_begin_48 rfl rfl rfl ?_
          refine zn_iconst 0 i_Mod_begin_51 (by decide) ?_
          refine zr_iconst i_Mod_begin_52 (v := 1) (by decide) ?_
          refine mn_iastore 2 2 i_Mod_begin_53 (fun _ => rfl) (by decide) (by omega) (by decide) ?_
          refine zr_aload_n i_Mod_begin_54 rfl ?_
          refine zr_getf i_Mod_begin_55 rfl rfl rfl ?_
          refine zn_iconst 0 i_Mod_begin_58 (by decide) ?_
          refine zr_iconst i_Mod_begin_59 (v := 0) (by decide) ?_
          refine mn_iastore 3 2 i_Mod_begin_60 (fun _ => rfl) (by decide) (by omega) (by decide) ?_
          refine zr_aload_n i_Mod_begin_61 rfl ?_
          refine zr_getf i_Mod_begin_62 rfl rfl rfl ?_
          refine zn_iconst 0 i_Mod_begin_65 (by decide) ?_
          refine zr_iconst i_Mod_begin_66 (v := 0) (by decide) ?_
          refine mn_iastore 4 2 i_Mod_begin_67 (fun _ => rfl) (by decide) (by omega) (by decide) ?_
          refine zr_aload_n i_Mod_begin_68 rfl ?_
          refine zr_getf i_Mod_begin_69 rfl rfl rfl ?_
          refine zn_iconst 0 i_Mod_begin_72 (by decide) ?_
          refine zr_bipush i_Mod_begin_73 (v := 72) (by decide) ?_
          refine mn_castore 13 1200 i_Mod_begin_75 (fun _ => rfl) (by decide) (by omega) (by decide) ?_
          refine zr_aload_n i_Mod_begin_76 rfl ?_
          refine zr_getf i_Mod_begin_77 rfl rfl rfl ?_
          refine zn_iconst 1 i_Mod_begin_80 (by decide) ?_
          refine zr_bipush i_Mod_begin_81 (v := 68) (by decide) ?_
          refine mn_castore 13 1200 i_Mod_begin_83 (fun _ => rfl) (by decide) (by omega) (by decide) ?_
          refine zr_aload_n i_Mod_begin_84 rfl ?_
          refine zr_getf i_Mod_begin_85 rfl rfl rfl ?_
          refine zn_iconst 2 i_Mod_begin_88 (by decide) ?_
          refine zr_bipush i_Mod_begin_89 (v := 82) (by decide) ?_
          refine mn_castore 13 1200 i_Mod_begin_91 (fun _ => rfl) (by decide) (by omega) (by decide) ?_
          refine zr_aload_n i_Mod_begin_92 rfl ?_
          refine zr_iconst i_Mod_begin_93 (v := 3) (by decide) ?_
          refine mr_putf (kk := 1) i_Mod_begin_94 rfl rfl (Nat.le_of_ble_eq_true rfl) rfl rfl rfl ?_
          refine zr_iload_n i_Mod_begin_97 rfl ?_
          exact zR.retE i_Mod_begin_98 rfl (by
            rw [show mbeg ms = (va_up ms.1 1 3, va_up (va_up (va_up (va_up (va_up (va_up ms.2 2 (upd (ms.2 2) 0 1)) 3 (upd (ms.2 3) 0 0)) 4 (upd (ms.2 4) 0 0)) 13 (upd (ms.2 13) 0 72)) 13 (upd (upd (ms.2 13) 0 72) 1 68)) 13 (upd (upd (upd (ms.2 13) 0 72) 1 68) 2 82)) by unfold mbeg; rw [up_same, up_same]]
            rw [show headF (ms.2 1) n = false by simp [headF, *] <;> omega]
            rfl)
        · skip
          refine zr_iconst i_Mod_begin_41 (v := 1) (by decide) ?_
          refine zr_goto 46 i_Mod_begin_42 (by decide) ?_
          refine zr_istore_n i_Mod_begin_46 rfl ?_
          refine zr_aload_n i_Mod_begin_47 rfl ?_
          refine zr_getf i_Mod_begin_48 rfl rfl rfl ?_
          refine zn_iconst 0 i_Mod_begin_51 (by decide) ?_
          refine zr_iconst i_Mod_begin_52 (v := 1) (by decide) ?_
          refine mn_iastore 2 2 i_Mod_begin_53 (fun _ => rfl) (by decide) (by omega) (by decide) ?_
          refine zr_aload_n i_Mod_begin_54 rfl ?_
          refine zr_getf i_Mod_begin_55 rfl rfl rfl ?_
          refine zn_iconst 0 i_Mod_begin_58 (by decide) ?_
          refine zr_iconst i_Mod_begin_59 (v := 0) (by decide) ?_
          refine mn_iastore 3 2 i_Mod_begin_60 (fun _ => rfl) (by decide) (by omega) (by decide) ?_
          refine zr_aload_n i_Mod_begin_61 rfl ?_
          refine zr_getf i_Mod_begin_62 rfl rfl rfl ?_
          refine zn_iconst 0 i_Mod_begin_65 (by decide) ?_
          refine zr_iconst i_Mod_begin_66 (v := 0) (by decide) ?_
          refine mn_iastore 4 2 i_Mod_begin_67 (fun _ => rfl) (by decide) (by omega) (by decide) ?_
          refine zr_aload_n i_Mod_begin_68 rfl ?_
          refine zr_getf i_Mod_begin_69 rfl rfl rfl ?_
          refine zn_iconst 0 i_Mod_begin_72 (by decide) ?_
          refine zr_bipush i_Mod_begin_73 (v := 72) (by decide) ?_
          refine mn_castore 13 1200 i_Mod_begin_75 (fun _ => rfl) (by decide) (by omega) (by decide) ?_
          refine zr_aload_n i_Mod_begin_76 rfl ?_
          refine zr_getf i_Mod_begin_77 rfl rfl rfl ?_
          refine zn_iconst 1 i_Mod_begin_80 (by decide) ?_
          refine zr_bipush i_Mod_begin_81 (v := 68) (by decide) ?_
          refine mn_castore 13 1200 i_Mod_begin_83 (fun _ => rfl) (by decide) (by omega) (by decide) ?_
          refine zr_aload_n i_Mod_begin_84 rfl ?_
          refine zr_getf i_Mod_begin_85 rfl rfl rfl ?_
          refine zn_iconst 2 i_Mod_begin_88 (by decide) ?_
          refine zr_bipush i_Mod_begin_89 (v := 82) (by decide) ?_
          refine mn_castore 13 1200 i_Mod_begin_91 (fun _ => rfl) (by decide) (by omega) (by decide) ?_
          refine zr_aload_n i_Mod_begin_92 rfl ?_
          refine zr_iconst i_Mod_begin_93 (v := 3) (by decide) ?_
          refine mr_putf (kk := 1) i_Mod_begin_94 rfl rfl (Nat.le_of_ble_eq_true rfl) rfl rfl rfl ?_
          refine zr_iload_n i_Mod_begin_97 rfl ?_
          exact zR.retE i_Mod_begin_98 rfl (by
            rw [show mbeg ms = (va_up ms.1 1 3, va_up (va_up (va_up (va_up (va_up (va_up ms.2 2 (upd (ms.2 2) 0 1)) 3 (upd (ms.2 3) 0 0)) 4 (upd (ms.2 4) 0 0)) 13 (upd (ms.2 13) 0 72)) 13 (upd (upd (ms.2 13) 0 72) 1 68)) 13 (upd (upd (upd (ms.2 13) 0 72) 1 68) 2 82)) by unfold mbeg; rw [up_same, up_same]]
            rw [show headF (ms.2 1) n = true by simp [headF, *] <;> omega]
            rfl)
theorem i_Mod_readSeparators_0 : zins 101 0 = some (.iconst 0) := by decide +kernel
theorem i_Mod_readSeparators_1 : zins 101 1 = some (.istore_n 1) := by decide +kernel
theorem i_Mod_readSeparators_2 : zins 101 2 = some (.iload_n 1) := by decide +kernel
theorem i_Mod_readSeparators_3 : zins 101 3 = some (.iconst 5) := by decide +kernel
theorem i_Mod_readSeparators_4 : zins 101 4 = some (.if_icmp .ge 20) := by decide +kernel
theorem i_Mod_readSeparators_7 : zins 101 7 = some (.aload_n 0) := by decide +kernel
theorem i_Mod_readSeparators_8 : zins 101 8 = some (.getfield 50) := by decide +kernel
theorem i_Mod_readSeparators_11 : zins 101 11 = some (.iload_n 1) := by decide +kernel
theorem i_Mod_readSeparators_12 : zins 101 12 = some (.aload_n 0) := by decide +kernel
theorem i_Mod_readSeparators_13 : zins 101 13 = some (.iload_n 1) := by decide +kernel
theorem i_Mod_readSeparators_14 : zins 101 14 = some (.invokevirtual 115) := by decide +kernel
theorem i_Mod_readSeparators_17 : zins 101 17 = some (.castore) := by decide +kernel
theorem i_Mod_readSeparators_18 : zins 101 18 = some (.iinc 1 1) := by decide +kernel
theorem i_Mod_readSeparators_21 : zins 101 21 = some (.goto (-19)) := by decide +kernel
theorem i_Mod_readSeparators_24 : zins 101 24 = some (.aload_n 0) := by decide +kernel
theorem i_Mod_readSeparators_25 : zins 101 25 = some (.bipush 8) := by decide +kernel
theorem i_Mod_readSeparators_27 : zins 101 27 = some (.putfield 112) := by decide +kernel
theorem i_Mod_readSeparators_30 : zins 101 30 = some (.aload_n 0) := by decide +kernel
theorem i_Mod_readSeparators_31 : zins 101 31 = some (.getfield 50) := by decide +kernel
theorem i_Mod_readSeparators_34 : zins 101 34 = some (.invokestatic 119) := by decide +kernel
theorem i_Mod_readSeparators_37 : zins 101 37 = some (.ireturn) := by decide +kernel
def msep (ms : zMS) (f : Nat → Int32) : zMS := (ms.1, va_up ms.2 14 f)
theorem msep_14 (ms : zMS) (f f' : Nat → Int32) : ((msep ms f).1, va_up (msep ms f).2 14 f') = msep ms f' := by
  unfold msep
  dsimp only
  rw [up_same]
theorem msep_self (ms : zMS) : msep ms (ms.2 14) = ms := by unfold msep; rw [up_self]
/-- the five separators that a frame declares -/
def sepF (F : Nat → Int32) (n : Nat) (f : Nat → Int32) : Nat → Int32 := zpas f 0 (fun k => nowF F n (3 + k)) 5
theorem zch_nar {c : Int32} (h : zch c) : narrow .char (.int c) = .int c := by
  unfold zch vp_nar at h
  have e : narrow .char (.int c) = .int (c.toUInt32.toUInt16.toUInt32.toInt32) := rfl
  rw [e] at h ⊢
  exact congrArg _ h
theorem zch_now {F : Nat → Int32} (h : ∀ i, zch (F i)) (n k : Nat) : zch (nowF F n k) := by
  unfold nowF
  split
  · exact h _
  · exact zch_n (q := 0) (by decide)
theorem l_Mod_readSeparators (X : zX) (d : Nat) (g : zH) (ms : zMS) (n : Nat) (h0 : ms.1 0 = nI n) (hn : n ≤ 200) (h1 : ms.1 1 = nI 3) (hc : ∀ i, zch (ms.2 1 i)) : ∀ (k i : Nat), i + k = 5 → zR X (d + 2) 101 2 [some (.ref 129), some (.int (nI i))] [] (mset g (msep ms (zpas (ms.2 14) 0 (fun k => nowF (ms.2 1) n (3 + k)) i))) (some (.int (zb (fitF (sepF (ms.2 1) n (ms.2 14))))), mset g (va_up ms.1 1 8, va_up ms.2 14 (sepF (ms.2 1) n (ms.2 14)))) := by
  intro k
  induction k with
  | zero =>
    intro i hik
    have hi : i = 5 := by omega
    subst hi
    refine zr_iload_n i_Mod_readSeparators_2 rfl ?_
    refine zn_iconst 5 i_Mod_readSeparators_3 (by decide) ?_
    refine zn_icmp_ge 24 i_Mod_readSeparators_4 (by decide) (by omega) (by omega) (fun c_4 => ?_) (fun q => absurd q (by first | assumption | omega | simp_all))
    refine zr_aload_n i_Mod_readSeparators_24 rfl ?_
    refine zr_bipush i_Mod_readSeparators_25 (v := 8) (by decide) ?_
    refine mr_putf (kk := 1) i_Mod_readSeparators_27 rfl rfl (Nat.le_of_ble_eq_true rfl) rfl rfl rfl ?_
    refine zr_aload_n i_Mod_readSeparators_30 rfl ?_
    refine zr_getf i_Mod_readSeparators_31 rfl rfl rfl ?_
    refine zr_cs1 i_Mod_readSeparators_34 rfl (by decide) (Nat.le_of_ble_eq_true rfl) (Nat.le_of_ble_eq_true rfl) (e_Mod_fitting X _ (mset g (va_up ms.1 1 8, va_up ms.2 14 (sepF (ms.2 1) n (ms.2 14)))) 143 (sepF (ms.2 1) n (ms.2 14)) rfl) ?_
    exact zR.retE i_Mod_readSeparators_37 (zretB _) rfl
  | succ k ih =>
    intro i hik
    refine zr_iload_n i_Mod_readSeparators_2 rfl ?_
    refine zn_iconst 5 i_Mod_readSeparators_3 (by decide) ?_
    refine zn_icmp_ge 24 i_Mod_readSeparators_4 (by decide) (by omega) (by omega) (fun q => absurd q (by first | assumption | omega | simp_all)) (fun c_4 => ?_)
    refine zr_aload_n i_Mod_readSeparators_7 rfl ?_
    refine zr_getf i_Mod_readSeparators_8 rfl rfl rfl ?_
    refine zr_iload_n i_Mod_readSeparators_11 rfl ?_
    refine zr_aload_n i_Mod_readSeparators_12 rfl ?_
    refine zr_iload_n i_Mod_readSeparators_13 rfl ?_
    refine zr_cv1 i_Mod_readSeparators_14 rfl (by decide) rfl (Nat.le_of_ble_eq_true rfl) (Nat.le_of_ble_eq_true rfl) (e_Mod_now X _ g (msep ms (zpas (ms.2 14) 0 (fun k => nowF (ms.2 1) n (3 + k)) i)) n 3 i h0 h1 hn (by omega) (fun i _ => zch_nar (hc i))) ?_
    refine mn_castore 14 5 i_Mod_readSeparators_17 (fun _ => rfl) (by decide) (by omega) (by decide) ?_
    refine zn_iinc i_Mod_readSeparators_18 rfl rfl ?_
    refine zr_goto 2 i_Mod_readSeparators_21 (by decide) ?_
    (have e := ih (i + 1) (by omega)
     rw [← zpas_s, Nat.zero_add, ← msep_14 ms (zpas (ms.2 14) 0 (fun k => nowF (ms.2 1) n (3 + k)) i), ← show vp_nar .char (nowF (ms.2 1) n (3 + i)) = nowF (ms.2 1) n (3 + i) from zch_now hc _ _] at e
     exact e)
theorem e_Mod_readSeparators (X : zX) (d : Nat) (g : zH) (ms : zMS) (n : Nat) (h0 : ms.1 0 = nI n) (hn : n ≤ 200) (h1 : ms.1 1 = nI 3) (hc : ∀ i, zch (ms.2 1 i)) : zR X (d + 2) 101 0 (zent 2 [.ref 129]) [] (mset g ms) (some (.int (zb (fitF (sepF (ms.2 1) n (ms.2 14))))), mset g (va_up ms.1 1 8, va_up ms.2 14 (sepF (ms.2 1) n (ms.2 14)))) := by
  have e := l_Mod_readSeparators X d g ms n h0 hn h1 hc 5 0 rfl
  rw [zpas_0, msep_self] at e
  refine zn_iconst 0 i_Mod_readSeparators_0 (by decide) ?_
  refine zr_istore_n i_Mod_readSeparators_1 rfl ?_
  exact e
