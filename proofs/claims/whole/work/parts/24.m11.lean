/-! THE REFERENCE: messages seen before -/
def sameL (f : Nat → Int32) (t : zT) (k i m : Nat) (s : Bool) : Bool := match m with
  | 0 => s
  | m + 1 => sameL f t k (i + 1) m (s && decide (f (6 * k + i) = tc t i))
def same6 (f : Nat → Int32) (t : zT) (k : Nat) : Bool := sameL f t k 0 6 true
theorem i_Mod_seen_0 : zins 118 0 = some (.aload_n 0) := by decide +kernel
theorem i_Mod_seen_1 : zins 118 1 = some (.iconst 0) := by decide +kernel
theorem i_Mod_seen_2 : zins 118 2 = some (.iconst 1) := by decide +kernel
theorem i_Mod_seen_3 : zins 118 3 = some (.iconst 2) := by decide +kernel
theorem i_Mod_seen_4 : zins 118 4 = some (.iconst 1) := by decide +kernel
theorem i_Mod_seen_5 : zins 118 5 = some (.iconst 1) := by decide +kernel
theorem i_Mod_seen_6 : zins 118 6 = some (.invokevirtual 153) := by decide +kernel
theorem i_Mod_seen_9 : zins 118 9 = some (.istore_n 1) := by decide +kernel
theorem i_Mod_seen_10 : zins 118 10 = some (.iconst 0) := by decide +kernel
theorem i_Mod_seen_11 : zins 118 11 = some (.istore_n 2) := by decide +kernel
theorem i_Mod_seen_12 : zins 118 12 = some (.iload_n 2) := by decide +kernel
theorem i_Mod_seen_13 : zins 118 13 = some (.aload_n 0) := by decide +kernel
theorem i_Mod_seen_14 : zins 118 14 = some (.getfield 221) := by decide +kernel
theorem i_Mod_seen_17 : zins 118 17 = some (.if_icmp .ge 65) := by decide +kernel
theorem i_Mod_seen_20 : zins 118 20 = some (.iconst 1) := by decide +kernel
theorem i_Mod_seen_21 : zins 118 21 = some (.istore_n 3) := by decide +kernel
theorem i_Mod_seen_22 : zins 118 22 = some (.iconst 0) := by decide +kernel
theorem i_Mod_seen_23 : zins 118 23 = some (.istore 4) := by decide +kernel
theorem i_Mod_seen_25 : zins 118 25 = some (.iload 4) := by decide +kernel
theorem i_Mod_seen_27 : zins 118 27 = some (.bipush 6) := by decide +kernel
theorem i_Mod_seen_29 : zins 118 29 = some (.if_icmp .ge 41) := by decide +kernel
theorem i_Mod_seen_32 : zins 118 32 = some (.iload_n 3) := by decide +kernel
theorem i_Mod_seen_33 : zins 118 33 = some (.ifCond .eq 29) := by decide +kernel
theorem i_Mod_seen_36 : zins 118 36 = some (.aload_n 0) := by decide +kernel
theorem i_Mod_seen_37 : zins 118 37 = some (.getfield 56) := by decide +kernel
theorem i_Mod_seen_40 : zins 118 40 = some (.bipush 6) := by decide +kernel
theorem i_Mod_seen_42 : zins 118 42 = some (.iload_n 2) := by decide +kernel
theorem i_Mod_seen_43 : zins 118 43 = some (.imul) := by decide +kernel
theorem i_Mod_seen_44 : zins 118 44 = some (.iload 4) := by decide +kernel
theorem i_Mod_seen_46 : zins 118 46 = some (.iadd) := by decide +kernel
theorem i_Mod_seen_47 : zins 118 47 = some (.caload) := by decide +kernel
theorem i_Mod_seen_48 : zins 118 48 = some (.aload_n 0) := by decide +kernel
theorem i_Mod_seen_49 : zins 118 49 = some (.iload_n 1) := by decide +kernel
theorem i_Mod_seen_50 : zins 118 50 = some (.iload 4) := by decide +kernel
theorem i_Mod_seen_52 : zins 118 52 = some (.invokevirtual 149) := by decide +kernel
theorem i_Mod_seen_55 : zins 118 55 = some (.if_icmp .ne 7) := by decide +kernel
theorem i_Mod_seen_58 : zins 118 58 = some (.iconst 1) := by decide +kernel
theorem i_Mod_seen_59 : zins 118 59 = some (.goto 4) := by decide +kernel
theorem i_Mod_seen_62 : zins 118 62 = some (.iconst 0) := by decide +kernel
theorem i_Mod_seen_63 : zins 118 63 = some (.istore_n 3) := by decide +kernel
theorem i_Mod_seen_64 : zins 118 64 = some (.iinc 4 1) := by decide +kernel
theorem i_Mod_seen_67 : zins 118 67 = some (.goto (-42)) := by decide +kernel
theorem i_Mod_seen_70 : zins 118 70 = some (.iload_n 3) := by decide +kernel
theorem i_Mod_seen_71 : zins 118 71 = some (.ifCond .eq 5) := by decide +kernel
theorem i_Mod_seen_74 : zins 118 74 = some (.iload_n 2) := by decide +kernel
theorem i_Mod_seen_75 : zins 118 75 = some (.ireturn) := by decide +kernel
theorem i_Mod_seen_76 : zins 118 76 = some (.iinc 2 1) := by decide +kernel
theorem i_Mod_seen_79 : zins 118 79 = some (.goto (-67)) := by decide +kernel
theorem i_Mod_seen_82 : zins 118 82 = some (.iconst (-1)) := by decide +kernel
theorem i_Mod_seen_83 : zins 118 83 = some (.ireturn) := by decide +kernel
theorem i_Mod_seen_loop (X : zX) (d : Nat) (g : zH) (ms : zMS) (cnt : Nat) (hT : mTV ms 0 cnt) (u : Option Value × zH) (k : Nat) (hk : k < 16) : ∀ (m i : Nat) (s : Bool), i + m = 6 → (∀ x, zR X (d + 2) 118 70 [some (.ref 129), some (.int (tI (mfind ms 0 1 2 1 1))), some (.int (nI k)), some (.int (zb (sameL (ms.2 16) (mV ms 1 2 1 1) k i m s))), some (.int (nI x))] [] (mset g ms) u) → zR X (d + 2) 118 25 [some (.ref 129), some (.int (tI (mfind ms 0 1 2 1 1))), some (.int (nI k)), some (.int (zb s)), some (.int (nI i))] [] (mset g ms) u := by
  intro m
  induction m with
  | zero =>
    intro i s hik K
    refine zr_iload i_Mod_seen_25 rfl ?_
    refine zn_bipush 6 i_Mod_seen_27 (by decide) ?_
    refine zn_icmp_ge 70 i_Mod_seen_29 (by decide) (by omega) (by omega) (fun c_29 => ?_) (fun q => absurd q (by first | assumption | omega | simp_all))
    exact K _
  | succ m ih =>
    intro i s hik K
    refine zr_iload i_Mod_seen_25 rfl ?_
    refine zn_bipush 6 i_Mod_seen_27 (by decide) ?_
    refine zn_icmp_ge 70 i_Mod_seen_29 (by decide) (by omega) (by omega) (fun q => absurd q (by first | assumption | omega | simp_all)) (fun c_29 => ?_)
    refine zr_iload_n i_Mod_seen_32 rfl ?_
    refine zB_if_eq 62 i_Mod_seen_33 (by decide) (fun c_33 => ?_) (fun c_33 => ?_)
    · skip
      refine zr_iconst i_Mod_seen_62 (v := 0) (by decide) ?_
      refine zr_istore_n i_Mod_seen_63 rfl ?_
      refine zn_iinc i_Mod_seen_64 rfl rfl ?_
      refine zr_goto 25 i_Mod_seen_67 (by decide) ?_
      (rw [sameL] at K; have e : (s && decide (ms.2 16 (6 * k + i) = tc (mV ms 1 2 1 1) i)) = false := by simp [mV, *]
       rw [e] at K; exact ih (i + 1) false (by omega) K)
    · skip
      refine zr_aload_n i_Mod_seen_36 rfl ?_
      refine zr_getf i_Mod_seen_37 rfl rfl rfl ?_
      refine zn_bipush 6 i_Mod_seen_40 (by decide) ?_
      refine zr_iload_n i_Mod_seen_42 rfl ?_
      refine zn_imul i_Mod_seen_43 ?_
      refine zr_iload i_Mod_seen_44 rfl ?_
      refine zn_iadd i_Mod_seen_46 ?_
      refine zn_caload i_Mod_seen_47 rfl (by omega) (by decide) ?_
      refine zr_aload_n i_Mod_seen_48 rfl ?_
      refine zr_iload_n i_Mod_seen_49 rfl ?_
      refine zr_iload i_Mod_seen_50 rfl ?_
      refine zr_cv2 i_Mod_seen_52 rfl (by decide) rfl (Nat.le_of_ble_eq_true rfl) (Nat.le_of_ble_eq_true rfl) (v_charOf X _ g ms _ (mto_find hT _ _ _ _) _ (by first | decide | omega)) ?_
      refine zr_icmp_ne 62 i_Mod_seen_55 (by decide) (fun c_55 => ?_) (fun c_55 => ?_)
      · skip
        refine zr_iconst i_Mod_seen_62 (v := 0) (by decide) ?_
        refine zr_istore_n i_Mod_seen_63 rfl ?_
        refine zn_iinc i_Mod_seen_64 rfl rfl ?_
        refine zr_goto 25 i_Mod_seen_67 (by decide) ?_
        (rw [sameL] at K; have e : (s && decide (ms.2 16 (6 * k + i) = tc (mV ms 1 2 1 1) i)) = false := by simp [mV, *]
         rw [e] at K; exact ih (i + 1) false (by omega) K)
      · skip
        refine zr_iconst i_Mod_seen_58 (v := 1) (by decide) ?_
        refine zr_goto 63 i_Mod_seen_59 (by decide) ?_
        refine zr_istore_n i_Mod_seen_63 rfl ?_
        refine zn_iinc i_Mod_seen_64 rfl rfl ?_
        refine zr_goto 25 i_Mod_seen_67 (by decide) ?_
        (rw [sameL] at K; have e : (s && decide (ms.2 16 (6 * k + i) = tc (mV ms 1 2 1 1) i)) = true := by simp [mV, *]
         rw [e] at K; exact ih (i + 1) true (by omega) K)
theorem l_Mod_seen (X : zX) (d : Nat) (g : zH) (ms : zMS) (cnt : Nat) (hT : mTV ms 0 cnt) (kp : Nat) (hk : ms.1 6 = nI kp) (hkl : kp ≤ 16) : ∀ (m k : Nat) (x3 x4 : Option Value), k + m = kp → zR X (d + 2) 118 12 [some (.ref 129), some (.int (tI (mfind ms 0 1 2 1 1))), some (.int (nI k)), x3, x4] [] (mset g ms) (some (.int (tI (zfst (same6 (ms.2 16) (mV ms 1 2 1 1)) k m))), mset g ms) := by
  intro m
  induction m with
  | zero =>
    intro k x3 x4 hik
    refine zr_iload_n i_Mod_seen_12 rfl ?_
    refine zr_aload_n i_Mod_seen_13 rfl ?_
    refine zr_getf i_Mod_seen_14 rfl rfl rfl ?_
    refine zr_top (y := nI kp) hk ?_
    refine zn_icmp_ge 82 i_Mod_seen_17 (by decide) (by omega) (by omega) (fun c_17 => ?_) (fun q => absurd q (by first | assumption | omega | simp_all))
    refine zr_iconst i_Mod_seen_82 (v := (-1)) (by decide) ?_
    exact zR.retE i_Mod_seen_83 rfl rfl
  | succ m ih =>
    intro k x3 x4 hik
    refine zr_iload_n i_Mod_seen_12 rfl ?_
    refine zr_aload_n i_Mod_seen_13 rfl ?_
    refine zr_getf i_Mod_seen_14 rfl rfl rfl ?_
    refine zr_top (y := nI kp) hk ?_
    refine zn_icmp_ge 82 i_Mod_seen_17 (by decide) (by omega) (by omega) (fun q => absurd q (by first | assumption | omega | simp_all)) (fun c_17 => ?_)
    refine zr_iconst i_Mod_seen_20 (v := 1) (by decide) ?_
    refine zr_istore_n i_Mod_seen_21 rfl ?_
    refine zn_iconst 0 i_Mod_seen_22 (by decide) ?_
    refine zr_istore i_Mod_seen_23 rfl ?_
    refine i_Mod_seen_loop X d g ms cnt hT _ k (by omega) 6 0 true rfl (fun x => ?_)
    refine zr_iload_n i_Mod_seen_70 rfl ?_
    refine zB_if_eq 76 i_Mod_seen_71 (by decide) (fun c_71 => ?_) (fun c_71 => ?_)
    · skip
      refine zn_iinc i_Mod_seen_76 rfl rfl ?_
      refine zr_goto 12 i_Mod_seen_79 (by decide) ?_
      (rw [zfst, if_neg (by simp [same6, *])]; exact ih (k + 1) _ _ (by omega))
    · skip
      refine zr_iload_n i_Mod_seen_74 rfl ?_
      exact zR.retE i_Mod_seen_75 rfl (by rw [zfst, if_pos (by simp [same6, *])]; rfl)
theorem e_Mod_seen (X : zX) (d : Nat) (g : zH) (ms : zMS) (cnt : Nat) (hT : mTV ms 0 cnt) (kp : Nat) (hk : ms.1 6 = nI kp) (hkl : kp ≤ 16) : zR X (d + 2) 118 0 (zent 5 [.ref 129]) [] (mset g ms) (some (.int (tI (zfst (same6 (ms.2 16) (mV ms 1 2 1 1)) 0 kp))), mset g ms) := by
  refine zr_aload_n i_Mod_seen_0 rfl ?_
  refine zn_iconst 0 i_Mod_seen_1 (by decide) ?_
  refine zr_iconst i_Mod_seen_2 (v := 1) (by decide) ?_
  refine zr_iconst i_Mod_seen_3 (v := 2) (by decide) ?_
  refine zr_iconst i_Mod_seen_4 (v := 1) (by decide) ?_
  refine zr_iconst i_Mod_seen_5 (v := 1) (by decide) ?_
  refine zr_cv5 i_Mod_seen_6 rfl (by decide) rfl (Nat.le_of_ble_eq_true rfl) (Nat.le_of_ble_eq_true rfl) (e_Mod_find X _ g ms 0 cnt _ _ _ _ (by decide) hT.1 hT.2.1) ?_
  refine zr_istore_n i_Mod_seen_9 rfl ?_
  refine zn_iconst 0 i_Mod_seen_10 (by decide) ?_
  refine zr_istore_n i_Mod_seen_11 rfl ?_
  exact l_Mod_seen X d g ms cnt hT kp hk hkl kp 0 none none (by omega)
theorem zcpy_f {f : Nat → Int32} {a b i : Nat} (h : b ≤ a) : upd (va_cpy f f a b i) (b + i) (va_cpy f f a b i (a + i)) = va_cpy f f a b (i + 1) := by
  funext j
  have e : va_cpy f f a b i (a + i) = f (a + i) := pk_cpy_out (by omega)
  rw [e]
  by_cases h1 : j = b + i
  · subst h1
    rw [pk_us, pk_cpy_in (by omega) (by omega)]
    congr 1
    omega
  · rw [pk_un h1]
    by_cases h2 : b ≤ j ∧ j < b + i
    · rw [pk_cpy_in h2.1 h2.2, pk_cpy_in h2.1 (by omega)]
    · rw [pk_cpy_out (by omega), pk_cpy_out (by omega)]
def mkn (ms : zMS) (kp : Nat) (a b : Nat → Int32) : zMS := (va_up ms.1 6 (nI kp), va_up (va_up ms.2 16 a) 17 b)
theorem mkn_self {ms : zMS} {kp : Nat} (h : ms.1 6 = nI kp) : mkn ms kp (ms.2 16) (ms.2 17) = ms := by
  unfold mkn
  rw [← h, up_self, up_self, up_self (f := ms.2) (i := 17)]
theorem mkn_16 (ms : zMS) (kp : Nat) (a b a' : Nat → Int32) : ((mkn ms kp a b).1, va_up (mkn ms kp a b).2 16 a') = mkn ms kp a' b := by
  unfold mkn
  dsimp only
  rw [up_comm (i := 17) (j := 16) (by decide), up_same]
theorem mkn_17 (ms : zMS) (kp : Nat) (a b b' : Nat → Int32) : ((mkn ms kp a b).1, va_up (mkn ms kp a b).2 17 b') = mkn ms kp a b' := by
  unfold mkn
  dsimp only
  rw [up_same]
theorem mkn_k (ms : zMS) (kp kp' : Nat) (a b : Nat → Int32) : (va_up (mkn ms kp a b).1 6 (nI kp'), (mkn ms kp a b).2) = mkn ms kp' a b := by
  unfold mkn
  dsimp only
  rw [up_same]
/-- the last sixteen identities and their reasons, after a further one -/
def remF (ms : zMS) (t : zT) (kp : Nat) (r : Int32) : zMS :=
  if kp = 16 then mkn ms 16 (zpas (va_cpy (ms.2 16) (ms.2 16) 6 0 90) 90 (tc t) 6) (upd (va_cpy (ms.2 17) (ms.2 17) 1 0 15) 15 r)
  else mkn ms (kp + 1) (zpas (ms.2 16) (6 * kp) (tc t) 6) (upd (ms.2 17) kp r)
theorem i_Mod_remember_0 : zins 137 0 = some (.aload_n 0) := by decide +kernel
theorem i_Mod_remember_1 : zins 137 1 = some (.getfield 221) := by decide +kernel
theorem i_Mod_remember_4 : zins 137 4 = some (.bipush 16) := by decide +kernel
theorem i_Mod_remember_6 : zins 137 6 = some (.if_icmp .ne 66) := by decide +kernel
theorem i_Mod_remember_9 : zins 137 9 = some (.iconst 0) := by decide +kernel
theorem i_Mod_remember_10 : zins 137 10 = some (.istore_n 2) := by decide +kernel
theorem i_Mod_remember_11 : zins 137 11 = some (.iload_n 2) := by decide +kernel
theorem i_Mod_remember_12 : zins 137 12 = some (.bipush 90) := by decide +kernel
theorem i_Mod_remember_14 : zins 137 14 = some (.if_icmp .ge 24) := by decide +kernel
theorem i_Mod_remember_17 : zins 137 17 = some (.aload_n 0) := by decide +kernel
theorem i_Mod_remember_18 : zins 137 18 = some (.getfield 56) := by decide +kernel
theorem i_Mod_remember_21 : zins 137 21 = some (.iload_n 2) := by decide +kernel
theorem i_Mod_remember_22 : zins 137 22 = some (.aload_n 0) := by decide +kernel
theorem i_Mod_remember_23 : zins 137 23 = some (.getfield 56) := by decide +kernel
theorem i_Mod_remember_26 : zins 137 26 = some (.iload_n 2) := by decide +kernel
theorem i_Mod_remember_27 : zins 137 27 = some (.bipush 6) := by decide +kernel
theorem i_Mod_remember_29 : zins 137 29 = some (.iadd) := by decide +kernel
theorem i_Mod_remember_30 : zins 137 30 = some (.caload) := by decide +kernel
theorem i_Mod_remember_31 : zins 137 31 = some (.castore) := by decide +kernel
theorem i_Mod_remember_32 : zins 137 32 = some (.iinc 2 1) := by decide +kernel
theorem i_Mod_remember_35 : zins 137 35 = some (.goto (-24)) := by decide +kernel
theorem i_Mod_remember_38 : zins 137 38 = some (.iconst 0) := by decide +kernel
theorem i_Mod_remember_39 : zins 137 39 = some (.istore_n 2) := by decide +kernel
theorem i_Mod_remember_40 : zins 137 40 = some (.iload_n 2) := by decide +kernel
theorem i_Mod_remember_41 : zins 137 41 = some (.bipush 15) := by decide +kernel
theorem i_Mod_remember_43 : zins 137 43 = some (.if_icmp .ge 23) := by decide +kernel
theorem i_Mod_remember_46 : zins 137 46 = some (.aload_n 0) := by decide +kernel
theorem i_Mod_remember_47 : zins 137 47 = some (.getfield 59) := by decide +kernel
theorem i_Mod_remember_50 : zins 137 50 = some (.iload_n 2) := by decide +kernel
theorem i_Mod_remember_51 : zins 137 51 = some (.aload_n 0) := by decide +kernel
theorem i_Mod_remember_52 : zins 137 52 = some (.getfield 59) := by decide +kernel
theorem i_Mod_remember_55 : zins 137 55 = some (.iload_n 2) := by decide +kernel
theorem i_Mod_remember_56 : zins 137 56 = some (.iconst 1) := by decide +kernel
theorem i_Mod_remember_57 : zins 137 57 = some (.iadd) := by decide +kernel
theorem i_Mod_remember_58 : zins 137 58 = some (.iaload) := by decide +kernel
theorem i_Mod_remember_59 : zins 137 59 = some (.iastore) := by decide +kernel
theorem i_Mod_remember_60 : zins 137 60 = some (.iinc 2 1) := by decide +kernel
theorem i_Mod_remember_63 : zins 137 63 = some (.goto (-23)) := by decide +kernel
theorem i_Mod_remember_66 : zins 137 66 = some (.aload_n 0) := by decide +kernel
theorem i_Mod_remember_67 : zins 137 67 = some (.bipush 15) := by decide +kernel
theorem i_Mod_remember_69 : zins 137 69 = some (.putfield 221) := by decide +kernel
theorem i_Mod_remember_72 : zins 137 72 = some (.aload_n 0) := by decide +kernel
theorem i_Mod_remember_73 : zins 137 73 = some (.iconst 0) := by decide +kernel
theorem i_Mod_remember_74 : zins 137 74 = some (.iconst 1) := by decide +kernel
theorem i_Mod_remember_75 : zins 137 75 = some (.iconst 2) := by decide +kernel
theorem i_Mod_remember_76 : zins 137 76 = some (.iconst 1) := by decide +kernel
theorem i_Mod_remember_77 : zins 137 77 = some (.iconst 1) := by decide +kernel
theorem i_Mod_remember_78 : zins 137 78 = some (.invokevirtual 153) := by decide +kernel
theorem i_Mod_remember_81 : zins 137 81 = some (.istore_n 2) := by decide +kernel
theorem i_Mod_remember_82 : zins 137 82 = some (.iconst 0) := by decide +kernel
theorem i_Mod_remember_83 : zins 137 83 = some (.istore_n 3) := by decide +kernel
theorem i_Mod_remember_84 : zins 137 84 = some (.iload_n 3) := by decide +kernel
theorem i_Mod_remember_85 : zins 137 85 = some (.bipush 6) := by decide +kernel
theorem i_Mod_remember_87 : zins 137 87 = some (.if_icmp .ge 29) := by decide +kernel
theorem i_Mod_remember_90 : zins 137 90 = some (.aload_n 0) := by decide +kernel
theorem i_Mod_remember_91 : zins 137 91 = some (.getfield 56) := by decide +kernel
theorem i_Mod_remember_94 : zins 137 94 = some (.bipush 6) := by decide +kernel
theorem i_Mod_remember_96 : zins 137 96 = some (.aload_n 0) := by decide +kernel
theorem i_Mod_remember_97 : zins 137 97 = some (.getfield 221) := by decide +kernel
theorem i_Mod_remember_100 : zins 137 100 = some (.imul) := by decide +kernel
theorem i_Mod_remember_101 : zins 137 101 = some (.iload_n 3) := by decide +kernel
theorem i_Mod_remember_102 : zins 137 102 = some (.iadd) := by decide +kernel
theorem i_Mod_remember_103 : zins 137 103 = some (.aload_n 0) := by decide +kernel
theorem i_Mod_remember_104 : zins 137 104 = some (.iload_n 2) := by decide +kernel
theorem i_Mod_remember_105 : zins 137 105 = some (.iload_n 3) := by decide +kernel
theorem i_Mod_remember_106 : zins 137 106 = some (.invokevirtual 149) := by decide +kernel
theorem i_Mod_remember_109 : zins 137 109 = some (.castore) := by decide +kernel
theorem i_Mod_remember_110 : zins 137 110 = some (.iinc 3 1) := by decide +kernel
theorem i_Mod_remember_113 : zins 137 113 = some (.goto (-29)) := by decide +kernel
theorem i_Mod_remember_116 : zins 137 116 = some (.aload_n 0) := by decide +kernel
theorem i_Mod_remember_117 : zins 137 117 = some (.getfield 59) := by decide +kernel
theorem i_Mod_remember_120 : zins 137 120 = some (.aload_n 0) := by decide +kernel
theorem i_Mod_remember_121 : zins 137 121 = some (.getfield 221) := by decide +kernel
theorem i_Mod_remember_124 : zins 137 124 = some (.iload_n 1) := by decide +kernel
theorem i_Mod_remember_125 : zins 137 125 = some (.iastore) := by decide +kernel
theorem i_Mod_remember_126 : zins 137 126 = some (.aload_n 0) := by decide +kernel
theorem i_Mod_remember_127 : zins 137 127 = some (.dup) := by decide +kernel
theorem i_Mod_remember_128 : zins 137 128 = some (.getfield 221) := by decide +kernel
theorem i_Mod_remember_131 : zins 137 131 = some (.iconst 1) := by decide +kernel
theorem i_Mod_remember_132 : zins 137 132 = some (.iadd) := by decide +kernel
theorem i_Mod_remember_133 : zins 137 133 = some (.putfield 221) := by decide +kernel
theorem i_Mod_remember_136 : zins 137 136 = some (.return_) := by decide +kernel
theorem l1_Mod_remember (X : zX) (d : Nat) (g : zH) (ms : zMS) (r : Int32) (hK : ∀ j, j < 96 → zch (ms.2 16 j)) (u : Option Value × zH) (K : ∀ x, zR X d 137 38 [some (.ref 129), some (.int r), some (.int x), none] [] (mset g (mkn ms 16 (va_cpy (ms.2 16) (ms.2 16) 6 0 90) (ms.2 17))) u) : ∀ (k i : Nat), i + k = 90 → zR X d 137 11 [some (.ref 129), some (.int r), some (.int (nI i)), none] [] (mset g (mkn ms 16 (va_cpy (ms.2 16) (ms.2 16) 6 0 i) (ms.2 17))) u := by
  intro k
  induction k with
  | zero =>
    intro i hik
    have hi : i = 90 := by omega
    subst hi
    refine zr_iload_n i_Mod_remember_11 rfl ?_
    refine zn_bipush 90 i_Mod_remember_12 (by decide) ?_
    refine zn_icmp_ge 38 i_Mod_remember_14 (by decide) (by omega) (by omega) (fun c_14 => ?_) (fun q => absurd q (by first | assumption | omega | simp_all))
    exact K _
  | succ k ih =>
    intro i hik
    refine zr_iload_n i_Mod_remember_11 rfl ?_
    refine zn_bipush 90 i_Mod_remember_12 (by decide) ?_
    refine zn_icmp_ge 38 i_Mod_remember_14 (by decide) (by omega) (by omega) (fun q => absurd q (by first | assumption | omega | simp_all)) (fun c_14 => ?_)
    refine zr_aload_n i_Mod_remember_17 rfl ?_
    refine zr_getf i_Mod_remember_18 rfl rfl rfl ?_
    refine zr_iload_n i_Mod_remember_21 rfl ?_
    refine zr_aload_n i_Mod_remember_22 rfl ?_
    refine zr_getf i_Mod_remember_23 rfl rfl rfl ?_
    refine zr_iload_n i_Mod_remember_26 rfl ?_
    refine zn_bipush 6 i_Mod_remember_27 (by decide) ?_
    refine zn_iadd i_Mod_remember_29 ?_
    refine zn_caload i_Mod_remember_30 rfl (by omega) (by decide) ?_
    refine mn_castore 16 96 i_Mod_remember_31 (fun _ => rfl) (by decide) (by omega) (by decide) ?_
    refine zn_iinc i_Mod_remember_32 rfl rfl ?_
    refine zr_goto 11 i_Mod_remember_35 (by decide) ?_
    (have e := ih (i + 1) (by omega)
     rw [← zcpy_f (f := ms.2 16) (a := 6) (b := 0) (i := i) (by decide), Nat.zero_add, Nat.add_comm 6 i, ← show vp_nar .char ((va_cpy (ms.2 16) (ms.2 16) 6 0 i) (i + 6)) = (va_cpy (ms.2 16) (ms.2 16) 6 0 i) (i + 6) by
       rw [pk_cpy_out (by omega)]; exact hK _ (by omega), ← mkn_16 ms 16 (va_cpy (ms.2 16) (ms.2 16) 6 0 i) (ms.2 17)] at e
     exact e)
theorem l2_Mod_remember (X : zX) (d : Nat) (g : zH) (ms : zMS) (r : Int32) (u : Option Value × zH) (K : ∀ x, zR X d 137 66 [some (.ref 129), some (.int r), some (.int x), none] [] (mset g (mkn ms 16 (va_cpy (ms.2 16) (ms.2 16) 6 0 90) (va_cpy (ms.2 17) (ms.2 17) 1 0 15))) u) : ∀ (k i : Nat), i + k = 15 → zR X d 137 40 [some (.ref 129), some (.int r), some (.int (nI i)), none] [] (mset g (mkn ms 16 (va_cpy (ms.2 16) (ms.2 16) 6 0 90) (va_cpy (ms.2 17) (ms.2 17) 1 0 i))) u := by
  intro k
  induction k with
  | zero =>
    intro i hik
    have hi : i = 15 := by omega
    subst hi
    refine zr_iload_n i_Mod_remember_40 rfl ?_
    refine zn_bipush 15 i_Mod_remember_41 (by decide) ?_
    refine zn_icmp_ge 66 i_Mod_remember_43 (by decide) (by omega) (by omega) (fun c_43 => ?_) (fun q => absurd q (by first | assumption | omega | simp_all))
    exact K _
  | succ k ih =>
    intro i hik
    refine zr_iload_n i_Mod_remember_40 rfl ?_
    refine zn_bipush 15 i_Mod_remember_41 (by decide) ?_
    refine zn_icmp_ge 66 i_Mod_remember_43 (by decide) (by omega) (by omega) (fun q => absurd q (by first | assumption | omega | simp_all)) (fun c_43 => ?_)
    refine zr_aload_n i_Mod_remember_46 rfl ?_
    refine zr_getf i_Mod_remember_47 rfl rfl rfl ?_
    refine zr_iload_n i_Mod_remember_50 rfl ?_
    refine zr_aload_n i_Mod_remember_51 rfl ?_
    refine zr_getf i_Mod_remember_52 rfl rfl rfl ?_
    refine zr_iload_n i_Mod_remember_55 rfl ?_
    refine zn_iconst 1 i_Mod_remember_56 (by decide) ?_
    refine zn_iadd i_Mod_remember_57 ?_
    refine zn_iaload i_Mod_remember_58 rfl (by omega) (by decide) ?_
    refine mn_iastore 17 16 i_Mod_remember_59 (fun _ => rfl) (by decide) (by omega) (by decide) ?_
    refine zn_iinc i_Mod_remember_60 rfl rfl ?_
    refine zr_goto 40 i_Mod_remember_63 (by decide) ?_
    (have e := ih (i + 1) (by omega)
     rw [← zcpy_f (f := ms.2 17) (a := 1) (b := 0) (i := i) (by decide), Nat.zero_add, Nat.add_comm 1 i, ← mkn_17 ms 16 (va_cpy (ms.2 16) (ms.2 16) 6 0 90) (va_cpy (ms.2 17) (ms.2 17) 1 0 i)] at e
     exact e)
theorem l3_Mod_remember (X : zX) (d : Nat) (g : zH) (ms : zMS) (cnt : Nat) (hT : mTV ms 0 cnt) (hC : ∀ i, zch (tc (mV ms 1 2 1 1) i)) (r : Int32) (kp : Nat) (hkp : kp ≤ 15) (a b : Nat → Int32) : ∀ (k i : Nat), i + k = 6 → zR X (d + 2) 137 84 [some (.ref 129), some (.int r), some (.int (tI (mfind ms 0 1 2 1 1))), some (.int (nI i))] [] (mset g (mkn ms kp (zpas a (6 * kp) (tc (mV ms 1 2 1 1)) i) b)) (none, mset g (mkn ms (kp + 1) (zpas a (6 * kp) (tc (mV ms 1 2 1 1)) 6) (upd b kp r))) := by
  intro k
  induction k with
  | zero =>
    intro i hik
    have hi : i = 6 := by omega
    subst hi
    refine zr_iload_n i_Mod_remember_84 rfl ?_
    refine zn_bipush 6 i_Mod_remember_85 (by decide) ?_
    refine zn_icmp_ge 116 i_Mod_remember_87 (by decide) (by omega) (by omega) (fun c_87 => ?_) (fun q => absurd q (by first | assumption | omega | simp_all))
    refine zr_aload_n i_Mod_remember_116 rfl ?_
    refine zr_getf i_Mod_remember_117 rfl rfl rfl ?_
    refine zr_aload_n i_Mod_remember_120 rfl ?_
    refine zr_getf i_Mod_remember_121 rfl rfl rfl ?_
    refine zr_top (y := nI kp) rfl ?_
    refine zr_iload_n i_Mod_remember_124 rfl ?_
    refine mn_iastore 17 16 i_Mod_remember_125 (fun _ => rfl) (by decide) (by omega) (by decide) ?_
    refine zr_aload_n i_Mod_remember_126 rfl ?_
    refine zr_dup i_Mod_remember_127 rfl ?_
    refine zr_getf i_Mod_remember_128 rfl rfl rfl ?_
    refine zr_top (y := nI kp) rfl ?_
    refine zn_iconst 1 i_Mod_remember_131 (by decide) ?_
    refine zn_iadd i_Mod_remember_132 ?_
    refine mr_putf (kk := 6) i_Mod_remember_133 rfl rfl (Nat.le_of_ble_eq_true rfl) rfl rfl rfl ?_
    exact zR.retE i_Mod_remember_136 rfl (by rw [← mkn_k ms kp (kp + 1) (zpas a (6 * kp) (tc (mV ms 1 2 1 1)) 6) (upd b kp r), ← mkn_17 ms kp (zpas a (6 * kp) (tc (mV ms 1 2 1 1)) 6) b (upd b kp r)]; rfl)
  | succ k ih =>
    intro i hik
    refine zr_iload_n i_Mod_remember_84 rfl ?_
    refine zn_bipush 6 i_Mod_remember_85 (by decide) ?_
    refine zn_icmp_ge 116 i_Mod_remember_87 (by decide) (by omega) (by omega) (fun q => absurd q (by first | assumption | omega | simp_all)) (fun c_87 => ?_)
    refine zr_aload_n i_Mod_remember_90 rfl ?_
    refine zr_getf i_Mod_remember_91 rfl rfl rfl ?_
    refine zn_bipush 6 i_Mod_remember_94 (by decide) ?_
    refine zr_aload_n i_Mod_remember_96 rfl ?_
    refine zr_getf i_Mod_remember_97 rfl rfl rfl ?_
    refine zr_top (y := nI kp) rfl ?_
    refine zn_imul i_Mod_remember_100 ?_
    refine zr_iload_n i_Mod_remember_101 rfl ?_
    refine zn_iadd i_Mod_remember_102 ?_
    refine zr_aload_n i_Mod_remember_103 rfl ?_
    refine zr_iload_n i_Mod_remember_104 rfl ?_
    refine zr_iload_n i_Mod_remember_105 rfl ?_
    refine zr_cv2 i_Mod_remember_106 rfl (by decide) rfl (Nat.le_of_ble_eq_true rfl) (Nat.le_of_ble_eq_true rfl) (v_charOf X _ g (mkn ms kp (zpas a (6 * kp) (tc (mV ms 1 2 1 1)) i) b) (mfind ms 0 1 2 1 1) (mto_find hT _ _ _ _ : mto ms _) i (by omega)) ?_
    refine mn_castore 16 96 i_Mod_remember_109 (fun _ => rfl) (by decide) (by omega) (by decide) ?_
    refine zn_iinc i_Mod_remember_110 rfl rfl ?_
    refine zr_goto 84 i_Mod_remember_113 (by decide) ?_
    (have e := ih (i + 1) (by omega)
     rw [← zpas_s, ← mkn_16 ms kp (zpas a (6 * kp) (tc (mV ms 1 2 1 1)) i) b, ← show vp_nar .char (tc (mV ms 1 2 1 1) i) = tc (mV ms 1 2 1 1) i from hC i] at e
     exact e)
theorem x_Mod_remember (X : zX) (d : Nat) (g : zH) (ms : zMS) (cnt : Nat) (hT : mTV ms 0 cnt) (hC : ∀ i, zch (tc (mV ms 1 2 1 1) i)) (r : Int32) (kp : Nat) (hkp : kp ≤ 15) (a b : Nat → Int32) (x : Option Value) (hx : zlong x = false) : zR X (d + 2) 137 72 [some (.ref 129), some (.int r), x, none] [] (mset g (mkn ms kp a b)) (none, mset g (mkn ms (kp + 1) (zpas a (6 * kp) (tc (mV ms 1 2 1 1)) 6) (upd b kp r))) := by
  have e := l3_Mod_remember X d g ms cnt hT hC r kp hkp a b 6 0 rfl
  rw [zpas_0] at e
  refine zr_aload_n i_Mod_remember_72 rfl ?_
  refine zn_iconst 0 i_Mod_remember_73 (by decide) ?_
  refine zr_iconst i_Mod_remember_74 (v := 1) (by decide) ?_
  refine zr_iconst i_Mod_remember_75 (v := 2) (by decide) ?_
  refine zr_iconst i_Mod_remember_76 (v := 1) (by decide) ?_
  refine zr_iconst i_Mod_remember_77 (v := 1) (by decide) ?_
  refine zr_cv5 i_Mod_remember_78 rfl (by decide) rfl (Nat.le_of_ble_eq_true rfl) (Nat.le_of_ble_eq_true rfl) (e_Mod_find X _ g (mkn ms kp a b) 0 cnt _ _ _ _ (by decide) hT.1 hT.2.1) ?_
  refine zr_istore_n i_Mod_remember_81 rfl ?_
  refine zn_iconst 0 i_Mod_remember_82 (by decide) ?_
  refine zr_istore_n i_Mod_remember_83 rfl ?_
  exact e
theorem e_Mod_remember (X : zX) (d : Nat) (g : zH) (ms : zMS) (cnt : Nat) (hT : mTV ms 0 cnt) (hC : ∀ i, zch (tc (mV ms 1 2 1 1) i)) (kp : Nat) (hk : ms.1 6 = nI kp) (hkl : kp ≤ 16) (r : Int32) (hK : ∀ j, j < 96 → zch (ms.2 16 j)) : zR X (d + 2) 137 0 (zent 4 [.ref 129, .int r]) [] (mset g ms) (none, mset g (remF ms (mV ms 1 2 1 1) kp r)) := by
  unfold remF
  by_cases h16 : kp = 16
  · rw [if_pos h16]
    have key : zR X (d + 2) 137 11 [some (.ref 129), some (.int r), some (.int (nI 0)), none] [] (mset g (mkn ms 16 (va_cpy (ms.2 16) (ms.2 16) 6 0 0) (ms.2 17))) (none, mset g (mkn ms 16 (zpas (va_cpy (ms.2 16) (ms.2 16) 6 0 90) 90 (tc (mV ms 1 2 1 1)) 6) (upd (va_cpy (ms.2 17) (ms.2 17) 1 0 15) 15 r))) := by
      refine l1_Mod_remember X (d + 2) g ms r hK _ (fun x => ?_) 90 0 rfl
      refine zn_iconst 0 i_Mod_remember_38 (by decide) ?_
      refine zr_istore_n i_Mod_remember_39 rfl ?_
      skip
      have e := l2_Mod_remember X (d + 2) g ms r (none, mset g (mkn ms 16 (zpas (va_cpy (ms.2 16) (ms.2 16) 6 0 90) 90 (tc (mV ms 1 2 1 1)) 6) (upd (va_cpy (ms.2 17) (ms.2 17) 1 0 15) 15 r))) (fun x => ?_) 15 0 rfl
      · rw [zcpy_0] at e
        exact e
      refine zr_aload_n i_Mod_remember_66 rfl ?_
      refine zn_bipush 15 i_Mod_remember_67 (by decide) ?_
      refine mr_putf (kk := 6) i_Mod_remember_69 rfl rfl (Nat.le_of_ble_eq_true rfl) rfl rfl rfl ?_
      skip
      have e := x_Mod_remember X d g ms cnt hT hC r 15 (by decide) (va_cpy (ms.2 16) (ms.2 16) 6 0 90) (va_cpy (ms.2 17) (ms.2 17) 1 0 15) (some (.int x)) rfl
      rw [← mkn_k ms 16] at e
      exact e
    rw [zcpy_0, show mkn ms 16 (ms.2 16) (ms.2 17) = ms from mkn_self (by rw [hk, h16])] at key
    refine zr_aload_n i_Mod_remember_0 rfl ?_
    refine zr_getf i_Mod_remember_1 rfl rfl rfl ?_
    refine zr_top (y := nI kp) hk ?_
    refine zn_bipush 16 i_Mod_remember_4 (by decide) ?_
    refine zn_icmp_ne 72 i_Mod_remember_6 (by decide) (by omega) (by omega) (fun q => absurd q (by first | assumption | omega | simp_all)) (fun c_6 => ?_)
    refine zn_iconst 0 i_Mod_remember_9 (by decide) ?_
    refine zr_istore_n i_Mod_remember_10 rfl ?_
    exact key
  · rw [if_neg h16]
    have e := x_Mod_remember X d g ms cnt hT hC r kp (by omega) (ms.2 16) (ms.2 17) none rfl
    rw [mkn_self hk] at e
    refine zr_aload_n i_Mod_remember_0 rfl ?_
    refine zr_getf i_Mod_remember_1 rfl rfl rfl ?_
    refine zr_top (y := nI kp) hk ?_
    refine zn_bipush 16 i_Mod_remember_4 (by decide) ?_
    refine zn_icmp_ne 72 i_Mod_remember_6 (by decide) (by omega) (by omega) (fun c_6 => ?_) (fun q => absurd q (by first | assumption | omega | simp_all))
    exact e
