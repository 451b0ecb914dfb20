/-! THE REFERENCE: wrong results, trying results -/
theorem mseg_b {ms : zMS} {sg : Nat} (hs : ms.2 2 0 = nI sg) (hsl : sg ≤ 200) (a b c : Int32) (i : Nat) (hi : i ≤ sg + 1) : mseg ms a b c i ≤ sg ∧ (mseg ms a b c i = 0 ∨ i ≤ mseg ms a b c i) := by
  unfold mseg
  rw [hs, nI_clamp (by omega)]
  cases e : zfst (mnm ms a b c) i (sg + 1 - i) with
  | none => exact ⟨Nat.zero_le _, Or.inl rfl⟩
  | some t =>
    obtain ⟨h1, h2, -⟩ := zfst_some e
    exact ⟨show t ≤ sg by omega, Or.inr h1⟩
abbrev zV : Type := Int32 → Int32 → Int32 → Int32 → zT
abbrev zSg : Type := Int32 → Int32 → Int32 → Nat → Nat
/-- a value that is neither null nor a number -/
def badV (t : zT) : Bool := !vnull t && !decide (0 ≤ vnum t 4)
def wrongR (V : zV) (s r k : Nat) (w : Bool) : Bool := match k with
  | 0 => w
  | k + 1 => wrongR V s (r + 1) k (w || badV (V (nI s) 2 (nI r) 1))
def wrongS (V : zV) (S : zSg) (obx k : Nat) (w : Bool) : Bool := match k with
  | 0 => w
  | k + 1 => if obx = 0 then w else if w = true then w else wrongS V S (S 79 66 88 (obx + 1)) k (wrongR V obx 1 (repF V obx) (!decide (0 ≤ codeF V obx)))
def wrongF (V : zV) (S : zSg) (sg : Nat) : Bool := wrongS V S (S 79 66 88 1) (sg + 1) (decide (S 79 66 88 1 = 0))
theorem i_Mod_wrongResults_0 : zins 127 0 = some (.aload_n 0) := by decide +kernel
theorem i_Mod_wrongResults_1 : zins 127 1 = some (.bipush 79) := by decide +kernel
theorem i_Mod_wrongResults_3 : zins 127 3 = some (.bipush 66) := by decide +kernel
theorem i_Mod_wrongResults_5 : zins 127 5 = some (.bipush 88) := by decide +kernel
theorem i_Mod_wrongResults_7 : zins 127 7 = some (.iconst 1) := by decide +kernel
theorem i_Mod_wrongResults_8 : zins 127 8 = some (.invokevirtual 165) := by decide +kernel
theorem i_Mod_wrongResults_11 : zins 127 11 = some (.istore_n 1) := by decide +kernel
theorem i_Mod_wrongResults_12 : zins 127 12 = some (.iload_n 1) := by decide +kernel
theorem i_Mod_wrongResults_13 : zins 127 13 = some (.ifCond .ne 7) := by decide +kernel
theorem i_Mod_wrongResults_16 : zins 127 16 = some (.iconst 1) := by decide +kernel
theorem i_Mod_wrongResults_17 : zins 127 17 = some (.goto 4) := by decide +kernel
theorem i_Mod_wrongResults_20 : zins 127 20 = some (.iconst 0) := by decide +kernel
theorem i_Mod_wrongResults_21 : zins 127 21 = some (.istore_n 2) := by decide +kernel
theorem i_Mod_wrongResults_22 : zins 127 22 = some (.iload_n 1) := by decide +kernel
theorem i_Mod_wrongResults_23 : zins 127 23 = some (.ifCond .le 95) := by decide +kernel
theorem i_Mod_wrongResults_26 : zins 127 26 = some (.iload_n 2) := by decide +kernel
theorem i_Mod_wrongResults_27 : zins 127 27 = some (.ifCond .ne 91) := by decide +kernel
theorem i_Mod_wrongResults_30 : zins 127 30 = some (.aload_n 0) := by decide +kernel
theorem i_Mod_wrongResults_31 : zins 127 31 = some (.iload_n 1) := by decide +kernel
theorem i_Mod_wrongResults_32 : zins 127 32 = some (.invokevirtual 169) := by decide +kernel
theorem i_Mod_wrongResults_35 : zins 127 35 = some (.ifCond .ge 7) := by decide +kernel
theorem i_Mod_wrongResults_38 : zins 127 38 = some (.iconst 1) := by decide +kernel
theorem i_Mod_wrongResults_39 : zins 127 39 = some (.goto 4) := by decide +kernel
theorem i_Mod_wrongResults_42 : zins 127 42 = some (.iconst 0) := by decide +kernel
theorem i_Mod_wrongResults_43 : zins 127 43 = some (.istore_n 2) := by decide +kernel
theorem i_Mod_wrongResults_44 : zins 127 44 = some (.iconst 1) := by decide +kernel
theorem i_Mod_wrongResults_45 : zins 127 45 = some (.istore_n 3) := by decide +kernel
theorem i_Mod_wrongResults_46 : zins 127 46 = some (.iload_n 3) := by decide +kernel
theorem i_Mod_wrongResults_47 : zins 127 47 = some (.aload_n 0) := by decide +kernel
theorem i_Mod_wrongResults_48 : zins 127 48 = some (.iload_n 1) := by decide +kernel
theorem i_Mod_wrongResults_49 : zins 127 49 = some (.invokevirtual 172) := by decide +kernel
theorem i_Mod_wrongResults_52 : zins 127 52 = some (.if_icmp .gt 49) := by decide +kernel
theorem i_Mod_wrongResults_55 : zins 127 55 = some (.aload_n 0) := by decide +kernel
theorem i_Mod_wrongResults_56 : zins 127 56 = some (.iconst 0) := by decide +kernel
theorem i_Mod_wrongResults_57 : zins 127 57 = some (.iload_n 1) := by decide +kernel
theorem i_Mod_wrongResults_58 : zins 127 58 = some (.iconst 2) := by decide +kernel
theorem i_Mod_wrongResults_59 : zins 127 59 = some (.iload_n 3) := by decide +kernel
theorem i_Mod_wrongResults_60 : zins 127 60 = some (.iconst 1) := by decide +kernel
theorem i_Mod_wrongResults_61 : zins 127 61 = some (.invokevirtual 153) := by decide +kernel
theorem i_Mod_wrongResults_64 : zins 127 64 = some (.istore 4) := by decide +kernel
theorem i_Mod_wrongResults_66 : zins 127 66 = some (.iload_n 2) := by decide +kernel
theorem i_Mod_wrongResults_67 : zins 127 67 = some (.ifCond .ne 22) := by decide +kernel
theorem i_Mod_wrongResults_70 : zins 127 70 = some (.aload_n 0) := by decide +kernel
theorem i_Mod_wrongResults_71 : zins 127 71 = some (.iload 4) := by decide +kernel
theorem i_Mod_wrongResults_73 : zins 127 73 = some (.invokevirtual 175) := by decide +kernel
theorem i_Mod_wrongResults_76 : zins 127 76 = some (.ifCond .ne 17) := by decide +kernel
theorem i_Mod_wrongResults_79 : zins 127 79 = some (.aload_n 0) := by decide +kernel
theorem i_Mod_wrongResults_80 : zins 127 80 = some (.iload 4) := by decide +kernel
theorem i_Mod_wrongResults_82 : zins 127 82 = some (.iconst 4) := by decide +kernel
theorem i_Mod_wrongResults_83 : zins 127 83 = some (.invokevirtual 161) := by decide +kernel
theorem i_Mod_wrongResults_86 : zins 127 86 = some (.ifCond .ge 7) := by decide +kernel
theorem i_Mod_wrongResults_89 : zins 127 89 = some (.iconst 1) := by decide +kernel
theorem i_Mod_wrongResults_90 : zins 127 90 = some (.goto 4) := by decide +kernel
theorem i_Mod_wrongResults_93 : zins 127 93 = some (.iconst 0) := by decide +kernel
theorem i_Mod_wrongResults_94 : zins 127 94 = some (.istore_n 2) := by decide +kernel
theorem i_Mod_wrongResults_95 : zins 127 95 = some (.iinc 3 1) := by decide +kernel
theorem i_Mod_wrongResults_98 : zins 127 98 = some (.goto (-52)) := by decide +kernel
theorem i_Mod_wrongResults_101 : zins 127 101 = some (.aload_n 0) := by decide +kernel
theorem i_Mod_wrongResults_102 : zins 127 102 = some (.bipush 79) := by decide +kernel
theorem i_Mod_wrongResults_104 : zins 127 104 = some (.bipush 66) := by decide +kernel
theorem i_Mod_wrongResults_106 : zins 127 106 = some (.bipush 88) := by decide +kernel
theorem i_Mod_wrongResults_108 : zins 127 108 = some (.iload_n 1) := by decide +kernel
theorem i_Mod_wrongResults_109 : zins 127 109 = some (.iconst 1) := by decide +kernel
theorem i_Mod_wrongResults_110 : zins 127 110 = some (.iadd) := by decide +kernel
theorem i_Mod_wrongResults_111 : zins 127 111 = some (.invokevirtual 165) := by decide +kernel
theorem i_Mod_wrongResults_114 : zins 127 114 = some (.istore_n 1) := by decide +kernel
theorem i_Mod_wrongResults_115 : zins 127 115 = some (.goto (-93)) := by decide +kernel
theorem i_Mod_wrongResults_118 : zins 127 118 = some (.iload_n 2) := by decide +kernel
theorem i_Mod_wrongResults_119 : zins 127 119 = some (.ireturn) := by decide +kernel
theorem l_Mod_wrongResults (X : zX) (d : Nat) (g : zH) (ms : zMS) (cnt : Nat) (hT : mTV ms 0 cnt) (hR : ∀ s : Nat, mfind ms 0 (nI s) 2 (nI 222) 1 = none) (obx : Nat) (u : Option Value × zH) : ∀ (k r : Nat) (w : Bool) (x : Option Value), r + k = repF (mV ms) obx + 1 → (∀ x, zR X (d + 3) 127 101 [some (.ref 129), some (.int (nI obx)), some (.int (zb (wrongR (mV ms) obx r k w))), some (.int (nI (repF (mV ms) obx + 1))), x] [] (mset g ms) u) → zR X (d + 3) 127 46 [some (.ref 129), some (.int (nI obx)), some (.int (zb w)), some (.int (nI r)), x] [] (mset g ms) u := by
  have hrep : repF (mV ms) obx ≤ 221 := (repL_le (mV ms) (nI obx) 220 1).2
  intro k
  induction k with
  | zero =>
    intro r w x hik K
    have hr : r = repF (mV ms) obx + 1 := by omega
    subst hr
    refine zr_iload_n i_Mod_wrongResults_46 rfl ?_
    refine zr_aload_n i_Mod_wrongResults_47 rfl ?_
    refine zr_iload_n i_Mod_wrongResults_48 rfl ?_
    refine zr_cv1 i_Mod_wrongResults_49 rfl (by decide) rfl (Nat.le_of_ble_eq_true rfl) (Nat.le_of_ble_eq_true rfl) (e_Mod_repetitions X _ g ms cnt hT hR _) ?_
    refine zn_icmp_gt 101 i_Mod_wrongResults_52 (by decide) (by omega) (by omega) (fun c_52 => ?_) (fun q => absurd q (by first | assumption | omega | simp_all))
    exact K _
  | succ k ih =>
    intro r w x hik K
    refine zr_iload_n i_Mod_wrongResults_46 rfl ?_
    refine zr_aload_n i_Mod_wrongResults_47 rfl ?_
    refine zr_iload_n i_Mod_wrongResults_48 rfl ?_
    refine zr_cv1 i_Mod_wrongResults_49 rfl (by decide) rfl (Nat.le_of_ble_eq_true rfl) (Nat.le_of_ble_eq_true rfl) (e_Mod_repetitions X _ g ms cnt hT hR _) ?_
    refine zn_icmp_gt 101 i_Mod_wrongResults_52 (by decide) (by omega) (by omega) (fun q => absurd q (by first | assumption | omega | simp_all)) (fun c_52 => ?_)
    refine zr_aload_n i_Mod_wrongResults_55 rfl ?_
    refine zn_iconst 0 i_Mod_wrongResults_56 (by decide) ?_
    refine zr_iload_n i_Mod_wrongResults_57 rfl ?_
    refine zr_iconst i_Mod_wrongResults_58 (v := 2) (by decide) ?_
    refine zr_iload_n i_Mod_wrongResults_59 rfl ?_
    refine zr_iconst i_Mod_wrongResults_60 (v := 1) (by decide) ?_
    refine zr_cv5 i_Mod_wrongResults_61 rfl (by decide) rfl (Nat.le_of_ble_eq_true rfl) (Nat.le_of_ble_eq_true rfl) (e_Mod_find X _ g ms 0 cnt _ _ _ _ (by decide) hT.1 hT.2.1) ?_
    refine zr_istore i_Mod_wrongResults_64 rfl ?_
    refine zr_iload_n i_Mod_wrongResults_66 rfl ?_
    refine zB_if_ne 89 i_Mod_wrongResults_67 (by decide) (fun c_67 => ?_) (fun c_67 => ?_)
    · skip
      refine zr_iconst i_Mod_wrongResults_89 (v := 1) (by decide) ?_
      refine zr_goto 94 i_Mod_wrongResults_90 (by decide) ?_
      refine zr_istore_n i_Mod_wrongResults_94 rfl ?_
      refine zn_iinc i_Mod_wrongResults_95 rfl rfl ?_
      refine zr_goto 46 i_Mod_wrongResults_98 (by decide) ?_
      (rw [wrongR] at K; have e : (w || badV (mV ms (nI obx) 2 (nI r) 1)) = true := by simp [badV, mV, *]
       rw [e] at K; exact ih (r + 1) true _ (by omega) K)
    · skip
      refine zr_aload_n i_Mod_wrongResults_70 rfl ?_
      refine zr_iload i_Mod_wrongResults_71 rfl ?_
      refine zr_cv1 i_Mod_wrongResults_73 rfl (by decide) rfl (Nat.le_of_ble_eq_true rfl) (Nat.le_of_ble_eq_true rfl) (v_isNull X _ g ms _ (mto_find hT _ _ _ _)) ?_
      refine zB_if_ne 93 i_Mod_wrongResults_76 (by decide) (fun c_76 => ?_) (fun c_76 => ?_)
      · skip
        refine zr_iconst i_Mod_wrongResults_93 (v := 0) (by decide) ?_
        refine zr_istore_n i_Mod_wrongResults_94 rfl ?_
        refine zn_iinc i_Mod_wrongResults_95 rfl rfl ?_
        refine zr_goto 46 i_Mod_wrongResults_98 (by decide) ?_
        (rw [wrongR] at K; have e : (w || badV (mV ms (nI obx) 2 (nI r) 1)) = false := by simp [badV, mV, *]
         rw [e] at K; exact ih (r + 1) false _ (by omega) K)
      · skip
        refine zr_aload_n i_Mod_wrongResults_79 rfl ?_
        refine zr_iload i_Mod_wrongResults_80 rfl ?_
        refine zn_iconst 4 i_Mod_wrongResults_82 (by decide) ?_
        refine zr_cv2 i_Mod_wrongResults_83 rfl (by decide) rfl (Nat.le_of_ble_eq_true rfl) (Nat.le_of_ble_eq_true rfl) (v_number X _ g ms _ (mto_find hT _ _ _ _) _ (by decide)) ?_
        refine zr_if_ge 93 i_Mod_wrongResults_86 (by decide) (fun c_86 => ?_) (fun c_86 => ?_)
        · skip
          refine zr_iconst i_Mod_wrongResults_93 (v := 0) (by decide) ?_
          refine zr_istore_n i_Mod_wrongResults_94 rfl ?_
          refine zn_iinc i_Mod_wrongResults_95 rfl rfl ?_
          refine zr_goto 46 i_Mod_wrongResults_98 (by decide) ?_
          (rw [wrongR] at K; have e : (w || badV (mV ms (nI obx) 2 (nI r) 1)) = false := by simp [badV, mV, *]
           rw [e] at K; exact ih (r + 1) false _ (by omega) K)
        · skip
          refine zr_iconst i_Mod_wrongResults_89 (v := 1) (by decide) ?_
          refine zr_goto 94 i_Mod_wrongResults_90 (by decide) ?_
          refine zr_istore_n i_Mod_wrongResults_94 rfl ?_
          refine zn_iinc i_Mod_wrongResults_95 rfl rfl ?_
          refine zr_goto 46 i_Mod_wrongResults_98 (by decide) ?_
          (rw [wrongR] at K; have e : (w || badV (mV ms (nI obx) 2 (nI r) 1)) = true := by simp [badV, mV, *]
           rw [e] at K; exact ih (r + 1) true _ (by omega) K)
theorem m_Mod_wrongResults (X : zX) (d : Nat) (g : zH) (ms : zMS) (cnt : Nat) (hT : mTV ms 0 cnt) (hR : ∀ s : Nat, mfind ms 0 (nI s) 2 (nI 222) 1 = none) (sg : Nat) (hs : ms.2 2 0 = nI sg) (hsl : sg ≤ 200) : ∀ (k obx : Nat) (w : Bool) (x3 x4 : Option Value), obx ≤ sg → (obx = 0 ∨ sg < obx + k) → zR X (d + 3) 127 22 [some (.ref 129), some (.int (nI obx)), some (.int (zb w)), x3, x4] [] (mset g ms) (some (.int (zb (wrongS (mV ms) (mseg ms) obx k w))), mset g ms) := by
  intro k
  induction k with
  | zero =>
    intro obx w x3 x4 h1 h2
    have h0 : obx = 0 := by omega
    subst h0
    refine zr_iload_n i_Mod_wrongResults_22 rfl ?_
    refine zr_if_le 118 i_Mod_wrongResults_23 (by decide) (fun _ => ?_) (fun q => absurd (by decide) q)
    refine zr_iload_n i_Mod_wrongResults_118 rfl ?_
    exact zR.retE i_Mod_wrongResults_119 (zretB _) rfl
  | succ k ih =>
    intro obx w x3 x4 h1 h2
    refine zr_iload_n i_Mod_wrongResults_22 rfl ?_
    refine zN_if_le 118 i_Mod_wrongResults_23 (by decide) (by omega) (fun c_23 => ?_) (fun c_23 => ?_)
    · skip
      refine zr_iload_n i_Mod_wrongResults_118 rfl ?_
      exact zR.retE i_Mod_wrongResults_119 (zretB _) (by rw [wrongS]; simp [*])
    · skip
      refine zr_iload_n i_Mod_wrongResults_26 rfl ?_
      refine zB_if_ne 118 i_Mod_wrongResults_27 (by decide) (fun c_27 => ?_) (fun c_27 => ?_)
      · skip
        refine zr_iload_n i_Mod_wrongResults_118 rfl ?_
        exact zR.retE i_Mod_wrongResults_119 (zretB _) (by rw [wrongS]; simp [*])
      · skip
        refine zr_aload_n i_Mod_wrongResults_30 rfl ?_
        refine zr_iload_n i_Mod_wrongResults_31 rfl ?_
        refine zr_cv1 i_Mod_wrongResults_32 rfl (by decide) rfl (Nat.le_of_ble_eq_true rfl) (Nat.le_of_ble_eq_true rfl) (e_Mod_codeIn X _ g ms cnt hT _ (by omega)) ?_
        refine zr_if_ge 42 i_Mod_wrongResults_35 (by decide) (fun c_35 => ?_) (fun c_35 => ?_)
        · skip
          refine zr_iconst i_Mod_wrongResults_42 (v := 0) (by decide) ?_
          refine zr_istore_n i_Mod_wrongResults_43 rfl ?_
          refine zn_iconst 1 i_Mod_wrongResults_44 (by decide) ?_
          refine zr_istore_n i_Mod_wrongResults_45 rfl ?_
          (refine l_Mod_wrongResults X d g ms cnt hT hR obx _ (repF (mV ms) obx) 1 false _ (by omega) (fun x => ?_)
           have hb := mseg_b hs hsl 79 66 88 (obx + 1) (by omega)
           refine zr_aload_n i_Mod_wrongResults_101 rfl ?_
           refine zr_bipush i_Mod_wrongResults_102 (v := 79) (by decide) ?_
           refine zr_bipush i_Mod_wrongResults_104 (v := 66) (by decide) ?_
           refine zr_bipush i_Mod_wrongResults_106 (v := 88) (by decide) ?_
           refine zr_iload_n i_Mod_wrongResults_108 rfl ?_
           refine zn_iconst 1 i_Mod_wrongResults_109 (by decide) ?_
           refine zn_iadd i_Mod_wrongResults_110 ?_
           refine zr_cv4 i_Mod_wrongResults_111 rfl (by decide) rfl (Nat.le_of_ble_eq_true rfl) (Nat.le_of_ble_eq_true rfl) (e_Mod_segment X _ g ms sg _ _ _ _ hs hsl (by omega) (by omega)) ?_
           refine zr_istore_n i_Mod_wrongResults_114 rfl ?_
           refine zr_goto 22 i_Mod_wrongResults_115 (by decide) ?_
           (have e : (!decide (0 ≤ codeF (mV ms) obx)) = false := by simp [*]
            rw [wrongS, if_neg (by omega), if_neg (by simp [*]), e]
            exact ih (mseg ms 79 66 88 (obx + 1)) _ _ _ (by omega) (by omega)))
        · skip
          refine zr_iconst i_Mod_wrongResults_38 (v := 1) (by decide) ?_
          refine zr_goto 43 i_Mod_wrongResults_39 (by decide) ?_
          refine zr_istore_n i_Mod_wrongResults_43 rfl ?_
          refine zn_iconst 1 i_Mod_wrongResults_44 (by decide) ?_
          refine zr_istore_n i_Mod_wrongResults_45 rfl ?_
          (refine l_Mod_wrongResults X d g ms cnt hT hR obx _ (repF (mV ms) obx) 1 true _ (by omega) (fun x => ?_)
           have hb := mseg_b hs hsl 79 66 88 (obx + 1) (by omega)
           refine zr_aload_n i_Mod_wrongResults_101 rfl ?_
           refine zr_bipush i_Mod_wrongResults_102 (v := 79) (by decide) ?_
           refine zr_bipush i_Mod_wrongResults_104 (v := 66) (by decide) ?_
           refine zr_bipush i_Mod_wrongResults_106 (v := 88) (by decide) ?_
           refine zr_iload_n i_Mod_wrongResults_108 rfl ?_
           refine zn_iconst 1 i_Mod_wrongResults_109 (by decide) ?_
           refine zn_iadd i_Mod_wrongResults_110 ?_
           refine zr_cv4 i_Mod_wrongResults_111 rfl (by decide) rfl (Nat.le_of_ble_eq_true rfl) (Nat.le_of_ble_eq_true rfl) (e_Mod_segment X _ g ms sg _ _ _ _ hs hsl (by omega) (by omega)) ?_
           refine zr_istore_n i_Mod_wrongResults_114 rfl ?_
           refine zr_goto 22 i_Mod_wrongResults_115 (by decide) ?_
           (have e : (!decide (0 ≤ codeF (mV ms) obx)) = true := by simp [*]
            rw [wrongS, if_neg (by omega), if_neg (by simp [*]), e]
            exact ih (mseg ms 79 66 88 (obx + 1)) _ _ _ (by omega) (by omega)))
theorem e_Mod_wrongResults (X : zX) (d : Nat) (g : zH) (ms : zMS) (cnt : Nat) (hT : mTV ms 0 cnt) (hR : ∀ s : Nat, mfind ms 0 (nI s) 2 (nI 222) 1 = none) (sg : Nat) (hs : ms.2 2 0 = nI sg) (hsl : sg ≤ 200) : zR X (d + 3) 127 0 (zent 5 [.ref 129]) [] (mset g ms) (some (.int (zb (wrongF (mV ms) (mseg ms) sg))), mset g ms) := by
  have hb := mseg_b hs hsl 79 66 88 1 (by omega)
  refine zr_aload_n i_Mod_wrongResults_0 rfl ?_
  refine zr_bipush i_Mod_wrongResults_1 (v := 79) (by decide) ?_
  refine zr_bipush i_Mod_wrongResults_3 (v := 66) (by decide) ?_
  refine zr_bipush i_Mod_wrongResults_5 (v := 88) (by decide) ?_
  refine zn_iconst 1 i_Mod_wrongResults_7 (by decide) ?_
  refine zr_cv4 i_Mod_wrongResults_8 rfl (by decide) rfl (Nat.le_of_ble_eq_true rfl) (Nat.le_of_ble_eq_true rfl) (e_Mod_segment X _ g ms sg _ _ _ _ hs hsl (by omega) (by omega)) ?_
  refine zr_istore_n i_Mod_wrongResults_11 rfl ?_
  refine zr_iload_n i_Mod_wrongResults_12 rfl ?_
  refine zN_if_ne 20 i_Mod_wrongResults_13 (by decide) (by omega) (fun c_13 => ?_) (fun c_13 => ?_)
  · skip
    refine zr_iconst i_Mod_wrongResults_20 (v := 0) (by decide) ?_
    refine zr_istore_n i_Mod_wrongResults_21 rfl ?_
    (unfold wrongF; rw [show decide (mseg ms 79 66 88 1 = 0) = false by simp [*]]
     exact m_Mod_wrongResults X d g ms cnt hT hR sg hs hsl (sg + 1) _ false _ _ (by omega) (by omega))
  · skip
    refine zr_iconst i_Mod_wrongResults_16 (v := 1) (by decide) ?_
    refine zr_goto 21 i_Mod_wrongResults_17 (by decide) ?_
    refine zr_istore_n i_Mod_wrongResults_21 rfl ?_
    (unfold wrongF; rw [show decide (mseg ms 79 66 88 1 = 0) = true by simp [*]]
     exact m_Mod_wrongResults X d g ms cnt hT hR sg hs hsl (sg + 1) _ true _ _ (by omega) (by omega))
def tryR (V : zV) (s r k : Nat) (q : zQ × Bool) : zQ × Bool := match k with
  | 0 => q
  | k + 1 => tryR V s (r + 1) k (if q.2 = true then tryQ q.1 (codeF V s) (vnum (V (nI s) 2 (nI r) 1) 4) else q)
def tryS (V : zV) (S : zSg) (obx k : Nat) (q : zQ × Bool) : zQ × Bool := match k with
  | 0 => q
  | k + 1 => if obx = 0 then q else tryS V S (S 79 66 88 (obx + 1)) k (tryR V obx 1 (repF V obx) q)
def tryF (V : zV) (S : zSg) (sg p : Nat) (q : zQ) : zQ × Bool := tryS V S (S 79 66 88 1) (sg + 1) (copyQ q p 100, true)
def qok (q : zQ) : Prop := ∃ n, q.1 100 = nI n ∧ n ≤ 12
theorem i_Mod_tryResults_0 : zins 131 0 = some (.aload_n 0) := by decide +kernel
theorem i_Mod_tryResults_1 : zins 131 1 = some (.iload_n 1) := by decide +kernel
theorem i_Mod_tryResults_2 : zins 131 2 = some (.bipush 100) := by decide +kernel
theorem i_Mod_tryResults_4 : zins 131 4 = some (.invokevirtual 182) := by decide +kernel
theorem i_Mod_tryResults_7 : zins 131 7 = some (.iconst 1) := by decide +kernel
theorem i_Mod_tryResults_8 : zins 131 8 = some (.istore_n 2) := by decide +kernel
theorem i_Mod_tryResults_9 : zins 131 9 = some (.aload_n 0) := by decide +kernel
theorem i_Mod_tryResults_10 : zins 131 10 = some (.bipush 79) := by decide +kernel
theorem i_Mod_tryResults_12 : zins 131 12 = some (.bipush 66) := by decide +kernel
theorem i_Mod_tryResults_14 : zins 131 14 = some (.bipush 88) := by decide +kernel
theorem i_Mod_tryResults_16 : zins 131 16 = some (.iconst 1) := by decide +kernel
theorem i_Mod_tryResults_17 : zins 131 17 = some (.invokevirtual 165) := by decide +kernel
theorem i_Mod_tryResults_20 : zins 131 20 = some (.istore_n 3) := by decide +kernel
theorem i_Mod_tryResults_21 : zins 131 21 = some (.iload_n 3) := by decide +kernel
theorem i_Mod_tryResults_22 : zins 131 22 = some (.ifCond .le 76) := by decide +kernel
theorem i_Mod_tryResults_25 : zins 131 25 = some (.iconst 1) := by decide +kernel
theorem i_Mod_tryResults_26 : zins 131 26 = some (.istore 4) := by decide +kernel
theorem i_Mod_tryResults_28 : zins 131 28 = some (.iload 4) := by decide +kernel
theorem i_Mod_tryResults_30 : zins 131 30 = some (.aload_n 0) := by decide +kernel
theorem i_Mod_tryResults_31 : zins 131 31 = some (.iload_n 3) := by decide +kernel
theorem i_Mod_tryResults_32 : zins 131 32 = some (.invokevirtual 172) := by decide +kernel
theorem i_Mod_tryResults_35 : zins 131 35 = some (.if_icmp .gt 46) := by decide +kernel
theorem i_Mod_tryResults_38 : zins 131 38 = some (.iload_n 2) := by decide +kernel
theorem i_Mod_tryResults_39 : zins 131 39 = some (.ifCond .eq 34) := by decide +kernel
theorem i_Mod_tryResults_42 : zins 131 42 = some (.aload_n 0) := by decide +kernel
theorem i_Mod_tryResults_43 : zins 131 43 = some (.aload_n 0) := by decide +kernel
theorem i_Mod_tryResults_44 : zins 131 44 = some (.iload_n 3) := by decide +kernel
theorem i_Mod_tryResults_45 : zins 131 45 = some (.invokevirtual 169) := by decide +kernel
theorem i_Mod_tryResults_48 : zins 131 48 = some (.aload_n 0) := by decide +kernel
theorem i_Mod_tryResults_49 : zins 131 49 = some (.aload_n 0) := by decide +kernel
theorem i_Mod_tryResults_50 : zins 131 50 = some (.iconst 0) := by decide +kernel
theorem i_Mod_tryResults_51 : zins 131 51 = some (.iload_n 3) := by decide +kernel
theorem i_Mod_tryResults_52 : zins 131 52 = some (.iconst 2) := by decide +kernel
theorem i_Mod_tryResults_53 : zins 131 53 = some (.iload 4) := by decide +kernel
theorem i_Mod_tryResults_55 : zins 131 55 = some (.iconst 1) := by decide +kernel
theorem i_Mod_tryResults_56 : zins 131 56 = some (.invokevirtual 153) := by decide +kernel
theorem i_Mod_tryResults_59 : zins 131 59 = some (.iconst 4) := by decide +kernel
theorem i_Mod_tryResults_60 : zins 131 60 = some (.invokevirtual 161) := by decide +kernel
theorem i_Mod_tryResults_63 : zins 131 63 = some (.invokevirtual 186) := by decide +kernel
theorem i_Mod_tryResults_66 : zins 131 66 = some (.ifCond .eq 7) := by decide +kernel
theorem i_Mod_tryResults_69 : zins 131 69 = some (.iconst 1) := by decide +kernel
theorem i_Mod_tryResults_70 : zins 131 70 = some (.goto 4) := by decide +kernel
theorem i_Mod_tryResults_73 : zins 131 73 = some (.iconst 0) := by decide +kernel
theorem i_Mod_tryResults_74 : zins 131 74 = some (.istore_n 2) := by decide +kernel
theorem i_Mod_tryResults_75 : zins 131 75 = some (.iinc 4 1) := by decide +kernel
theorem i_Mod_tryResults_78 : zins 131 78 = some (.goto (-50)) := by decide +kernel
theorem i_Mod_tryResults_81 : zins 131 81 = some (.aload_n 0) := by decide +kernel
theorem i_Mod_tryResults_82 : zins 131 82 = some (.bipush 79) := by decide +kernel
theorem i_Mod_tryResults_84 : zins 131 84 = some (.bipush 66) := by decide +kernel
theorem i_Mod_tryResults_86 : zins 131 86 = some (.bipush 88) := by decide +kernel
theorem i_Mod_tryResults_88 : zins 131 88 = some (.iload_n 3) := by decide +kernel
theorem i_Mod_tryResults_89 : zins 131 89 = some (.iconst 1) := by decide +kernel
theorem i_Mod_tryResults_90 : zins 131 90 = some (.iadd) := by decide +kernel
theorem i_Mod_tryResults_91 : zins 131 91 = some (.invokevirtual 165) := by decide +kernel
theorem i_Mod_tryResults_94 : zins 131 94 = some (.istore_n 3) := by decide +kernel
theorem i_Mod_tryResults_95 : zins 131 95 = some (.goto (-74)) := by decide +kernel
theorem i_Mod_tryResults_98 : zins 131 98 = some (.iload_n 2) := by decide +kernel
theorem i_Mod_tryResults_99 : zins 131 99 = some (.ireturn) := by decide +kernel
theorem l_Mod_tryResults (X : zX) (d : Nat) (g : zH) (ms : zMS) (cnt : Nat) (hT : mTV ms 0 cnt) (hR : ∀ s : Nat, mfind ms 0 (nI s) 2 (nI 222) 1 = none) (p obx : Nat) (ho : obx < 2 ^ 30) (u : Option Value × zH) : ∀ (k r : Nat) (q : zQ) (ok : Bool), r + k = repF (mV ms) obx + 1 → qok q → (qok (tryR (mV ms) obx r k (q, ok)).1 → zR X (d + 3) 131 81 [some (.ref 129), some (.int (nI p)), some (.int (zb (tryR (mV ms) obx r k (q, ok)).2)), some (.int (nI obx)), some (.int (nI (repF (mV ms) obx + 1)))] [] (mset g (mres ms (tryR (mV ms) obx r k (q, ok)).1)) u) → zR X (d + 3) 131 28 [some (.ref 129), some (.int (nI p)), some (.int (zb ok)), some (.int (nI obx)), some (.int (nI r))] [] (mset g (mres ms q)) u := by
  have hrep : repF (mV ms) obx ≤ 221 := (repL_le (mV ms) (nI obx) 220 1).2
  have hrep' : repF (mV (mres ms (mq ms))) obx = repF (mV ms) obx := rfl
  intro k
  induction k with
  | zero =>
    intro r q ok hik hQ K
    have hr : r = repF (mV ms) obx + 1 := by omega
    subst hr
    refine zr_iload i_Mod_tryResults_28 rfl ?_
    refine zr_aload_n i_Mod_tryResults_30 rfl ?_
    refine zr_iload_n i_Mod_tryResults_31 rfl ?_
    refine zr_cv1 i_Mod_tryResults_32 rfl (by decide) rfl (Nat.le_of_ble_eq_true rfl) (Nat.le_of_ble_eq_true rfl) (e_Mod_repetitions X _ g (mres ms q) cnt hT hR _) ?_
    refine zr_top (y := nI (repF (mV ms) obx)) rfl ?_
    refine zn_icmp_gt 81 i_Mod_tryResults_35 (by decide) (by omega) (by omega) (fun c_35 => ?_) (fun q => absurd q (by first | assumption | omega | simp_all))
    exact K hQ
  | succ k ih =>
    intro r q ok hik hQ K
    obtain ⟨nq, hq, hql⟩ := id hQ
    refine zr_iload i_Mod_tryResults_28 rfl ?_
    refine zr_aload_n i_Mod_tryResults_30 rfl ?_
    refine zr_iload_n i_Mod_tryResults_31 rfl ?_
    refine zr_cv1 i_Mod_tryResults_32 rfl (by decide) rfl (Nat.le_of_ble_eq_true rfl) (Nat.le_of_ble_eq_true rfl) (e_Mod_repetitions X _ g (mres ms q) cnt hT hR _) ?_
    refine zr_top (y := nI (repF (mV ms) obx)) rfl ?_
    refine zn_icmp_gt 81 i_Mod_tryResults_35 (by decide) (by omega) (by omega) (fun q => absurd q (by first | assumption | omega | simp_all)) (fun c_35 => ?_)
    refine zr_iload_n i_Mod_tryResults_38 rfl ?_
    refine zB_if_eq 73 i_Mod_tryResults_39 (by decide) (fun c_39 => ?_) (fun c_39 => ?_)
    · skip
      refine zr_iconst i_Mod_tryResults_73 (v := 0) (by decide) ?_
      refine zr_istore_n i_Mod_tryResults_74 rfl ?_
      refine zn_iinc i_Mod_tryResults_75 rfl rfl ?_
      refine zr_goto 28 i_Mod_tryResults_78 (by decide) ?_
      (rw [tryR] at K
       first
       | (rw [if_neg (by simp [*])] at K; have hk : ok = false := by assumption
          subst hk; exact ih (r + 1) q false (by omega) hQ K)
       | (rw [if_pos (by assumption)] at K
          have e3 := tryQ_ok hq hql (codeF (mV ms) obx) (vnum (mV ms (nI obx) 2 (nI r) 1) 4)
          have e4 : (tryQ q (codeF (mV ms) obx) (vnum (mV ms (nI obx) 2 (nI r) 1) 4)).2 = false := by assumption
          have e5 := ih (r + 1) (tryQ q (codeF (mV ms) obx) (vnum (mV ms (nI obx) 2 (nI r) 1) 4)).1 false (by omega) e3 (by rw [← e4]; exact K)
          rw [← mres_res ms q] at e5
          exact e5))
    · skip
      refine zr_aload_n i_Mod_tryResults_42 rfl ?_
      refine zr_aload_n i_Mod_tryResults_43 rfl ?_
      refine zr_iload_n i_Mod_tryResults_44 rfl ?_
      refine zr_cv1 i_Mod_tryResults_45 rfl (by decide) rfl (Nat.le_of_ble_eq_true rfl) (Nat.le_of_ble_eq_true rfl) (e_Mod_codeIn X _ g (mres ms q) cnt hT _ (by omega)) ?_
      refine zr_aload_n i_Mod_tryResults_48 rfl ?_
      refine zr_aload_n i_Mod_tryResults_49 rfl ?_
      refine zn_iconst 0 i_Mod_tryResults_50 (by decide) ?_
      refine zr_iload_n i_Mod_tryResults_51 rfl ?_
      refine zr_iconst i_Mod_tryResults_52 (v := 2) (by decide) ?_
      refine zr_iload i_Mod_tryResults_53 rfl ?_
      refine zr_iconst i_Mod_tryResults_55 (v := 1) (by decide) ?_
      refine zr_cv5 i_Mod_tryResults_56 rfl (by decide) rfl (Nat.le_of_ble_eq_true rfl) (Nat.le_of_ble_eq_true rfl) (e_Mod_find X _ g (mres ms q) 0 cnt _ _ _ _ (by decide) hT.1 hT.2.1) ?_
      refine zn_iconst 4 i_Mod_tryResults_59 (by decide) ?_
      refine zr_cv2 i_Mod_tryResults_60 rfl (by decide) rfl (Nat.le_of_ble_eq_true rfl) (Nat.le_of_ble_eq_true rfl) (v_number X _ g (mres ms q) _ (mto_find (ms := mres ms q) (q := 0) (cnt := cnt) hT _ _ _ _) _ (by decide)) ?_
      refine zr_cv2 i_Mod_tryResults_63 rfl (by decide) rfl (Nat.le_of_ble_eq_true rfl) (Nat.le_of_ble_eq_true rfl) (e_Mod_tryValue X _ g (mres ms q) nq hq hql _ _) ?_
      refine zB_if_eq 73 i_Mod_tryResults_66 (by decide) (fun c_66 => ?_) (fun c_66 => ?_)
      · skip
        refine zr_iconst i_Mod_tryResults_73 (v := 0) (by decide) ?_
        refine zr_istore_n i_Mod_tryResults_74 rfl ?_
        refine zn_iinc i_Mod_tryResults_75 rfl rfl ?_
        refine zr_goto 28 i_Mod_tryResults_78 (by decide) ?_
        (rw [tryR] at K
         first
         | (rw [if_neg (by simp [*])] at K; have hk : ok = false := by assumption
            subst hk; exact ih (r + 1) q false (by omega) hQ K)
         | (rw [if_pos (by assumption)] at K
            have e3 := tryQ_ok hq hql (codeF (mV ms) obx) (vnum (mV ms (nI obx) 2 (nI r) 1) 4)
            have e4 : (tryQ q (codeF (mV ms) obx) (vnum (mV ms (nI obx) 2 (nI r) 1) 4)).2 = false := by assumption
            have e5 := ih (r + 1) (tryQ q (codeF (mV ms) obx) (vnum (mV ms (nI obx) 2 (nI r) 1) 4)).1 false (by omega) e3 (by rw [← e4]; exact K)
            rw [← mres_res ms q] at e5
            exact e5))
      · skip
        refine zr_iconst i_Mod_tryResults_69 (v := 1) (by decide) ?_
        refine zr_goto 74 i_Mod_tryResults_70 (by decide) ?_
        refine zr_istore_n i_Mod_tryResults_74 rfl ?_
        refine zn_iinc i_Mod_tryResults_75 rfl rfl ?_
        refine zr_goto 28 i_Mod_tryResults_78 (by decide) ?_
        (rw [tryR] at K
         first
         | (rw [if_neg (by simp [*])] at K; have hk : ok = false := by assumption
            subst hk; exact ih (r + 1) q false (by omega) hQ K)
         | (rw [if_pos (by assumption)] at K
            have e3 := tryQ_ok hq hql (codeF (mV ms) obx) (vnum (mV ms (nI obx) 2 (nI r) 1) 4)
            have e4 : (tryQ q (codeF (mV ms) obx) (vnum (mV ms (nI obx) 2 (nI r) 1) 4)).2 = true := by assumption
            have e5 := ih (r + 1) (tryQ q (codeF (mV ms) obx) (vnum (mV ms (nI obx) 2 (nI r) 1) 4)).1 true (by omega) e3 (by rw [← e4]; exact K)
            rw [← mres_res ms q] at e5
            exact e5))
theorem m_Mod_tryResults (X : zX) (d : Nat) (g : zH) (ms : zMS) (cnt : Nat) (hT : mTV ms 0 cnt) (hR : ∀ s : Nat, mfind ms 0 (nI s) 2 (nI 222) 1 = none) (sg : Nat) (hs : ms.2 2 0 = nI sg) (hsl : sg ≤ 200) (p : Nat) : ∀ (k obx : Nat) (q : zQ) (ok : Bool) (x4 : Option Value), obx ≤ sg → (obx = 0 ∨ sg < obx + k) → qok q → zR X (d + 3) 131 21 [some (.ref 129), some (.int (nI p)), some (.int (zb ok)), some (.int (nI obx)), x4] [] (mset g (mres ms q)) (some (.int (zb (tryS (mV ms) (mseg ms) obx k (q, ok)).2)), mset g (mres ms (tryS (mV ms) (mseg ms) obx k (q, ok)).1)) := by
  intro k
  induction k with
  | zero =>
    intro obx q ok x4 h1 h2 hQ
    have h0 : obx = 0 := by omega
    subst h0
    refine zr_iload_n i_Mod_tryResults_21 rfl ?_
    refine zr_if_le 98 i_Mod_tryResults_22 (by decide) (fun _ => ?_) (fun q => absurd (by decide) q)
    refine zr_iload_n i_Mod_tryResults_98 rfl ?_
    exact zR.retE i_Mod_tryResults_99 (zretB _) rfl
  | succ k ih =>
    intro obx q ok x4 h1 h2 hQ
    refine zr_iload_n i_Mod_tryResults_21 rfl ?_
    refine zN_if_le 98 i_Mod_tryResults_22 (by decide) (by omega) (fun c_22 => ?_) (fun c_22 => ?_)
    · skip
      refine zr_iload_n i_Mod_tryResults_98 rfl ?_
      exact zR.retE i_Mod_tryResults_99 (zretB _) (by rw [tryS]; simp [*])
    · skip
      refine zn_iconst 1 i_Mod_tryResults_25 (by decide) ?_
      refine zr_istore i_Mod_tryResults_26 rfl ?_
      (refine l_Mod_tryResults X d g ms cnt hT hR p obx (by omega) _ (repF (mV ms) obx) 1 q ok (by omega) hQ (fun hQ2 => ?_)
       have hb := mseg_b hs hsl 79 66 88 (obx + 1) (by omega)
       generalize hgg : tryR (mV ms) obx 1 (repF (mV ms) obx) (q, ok) = q2 at hQ2
       obtain ⟨q, ok⟩ := q2
       refine zr_aload_n i_Mod_tryResults_81 rfl ?_
       refine zr_bipush i_Mod_tryResults_82 (v := 79) (by decide) ?_
       refine zr_bipush i_Mod_tryResults_84 (v := 66) (by decide) ?_
       refine zr_bipush i_Mod_tryResults_86 (v := 88) (by decide) ?_
       refine zr_iload_n i_Mod_tryResults_88 rfl ?_
       refine zn_iconst 1 i_Mod_tryResults_89 (by decide) ?_
       refine zn_iadd i_Mod_tryResults_90 ?_
       refine zr_cv4 i_Mod_tryResults_91 rfl (by decide) rfl (Nat.le_of_ble_eq_true rfl) (Nat.le_of_ble_eq_true rfl) (e_Mod_segment X _ g (mres ms q) sg _ _ _ _ hs hsl (by omega) (by omega)) ?_
       refine zr_istore_n i_Mod_tryResults_94 rfl ?_
       refine zr_goto 21 i_Mod_tryResults_95 (by decide) ?_
       (rw [tryS, if_neg (by omega), hgg]
        exact ih (mseg ms 79 66 88 (obx + 1)) q ok _ (by omega) (by omega) hQ2))
theorem e_Mod_tryResults (X : zX) (d : Nat) (g : zH) (ms : zMS) (cnt : Nat) (hT : mTV ms 0 cnt) (hR : ∀ s : Nat, mfind ms 0 (nI s) 2 (nI 222) 1 = none) (sg : Nat) (hs : ms.2 2 0 = nI sg) (hsl : sg ≤ 200) (p nr : Nat) (hp : p ≤ 99) (hn : ms.2 22 p = nI nr) (hnl : nr ≤ 12) : zR X (d + 3) 131 0 (zent 5 [.ref 129, .int (nI p)]) [] (mset g ms) (some (.int (zb (tryF (mV ms) (mseg ms) sg p (mq ms)).2)), mset g (mres ms (tryF (mV ms) (mseg ms) sg p (mq ms)).1)) := by
  have hb := mseg_b hs hsl 79 66 88 1 (by omega)
  have hQ : qok (copyQ (mq ms) p 100) := ⟨nr, (pk_us : upd (ms.2 22) 100 (ms.2 22 p) 100 = _).trans hn, hnl⟩
  refine zr_aload_n i_Mod_tryResults_0 rfl ?_
  refine zr_iload_n i_Mod_tryResults_1 rfl ?_
  refine zr_bipush i_Mod_tryResults_2 (v := 100) (by decide) ?_
  refine zr_cv20 i_Mod_tryResults_4 rfl (by decide) rfl (Nat.le_of_ble_eq_true rfl) (Nat.le_of_ble_eq_true rfl) (e_Mod_copyResults X _ g ms p 100 (by omega) (by decide) (by omega)) ?_
  refine zr_iconst i_Mod_tryResults_7 (v := 1) (by decide) ?_
  refine zr_istore_n i_Mod_tryResults_8 rfl ?_
  refine zr_aload_n i_Mod_tryResults_9 rfl ?_
  refine zr_bipush i_Mod_tryResults_10 (v := 79) (by decide) ?_
  refine zr_bipush i_Mod_tryResults_12 (v := 66) (by decide) ?_
  refine zr_bipush i_Mod_tryResults_14 (v := 88) (by decide) ?_
  refine zn_iconst 1 i_Mod_tryResults_16 (by decide) ?_
  refine zr_cv4 i_Mod_tryResults_17 rfl (by decide) rfl (Nat.le_of_ble_eq_true rfl) (Nat.le_of_ble_eq_true rfl) (e_Mod_segment X _ g (mres ms (copyQ (mq ms) p 100)) sg _ _ _ _ hs hsl (by omega) (by omega)) ?_
  refine zr_istore_n i_Mod_tryResults_20 rfl ?_
  exact m_Mod_tryResults X d g ms cnt hT hR sg hs hsl p (sg + 1) (mseg ms 79 66 88 1) (copyQ (mq ms) p 100) true _ (by omega) (by omega) hQ
