/-! THE REFERENCE: what a message says -/
theorem zfst_some {P : Nat → Bool} : ∀ {k i t : Nat}, zfst P i k = some t → i ≤ t ∧ t < i + k ∧ P t = true := by
  intro k
  induction k with
  | zero => intro i t h; cases h
  | succ k ih =>
    intro i t h
    rw [zfst] at h
    split at h
    · rename_i hp
      cases h
      exact ⟨Nat.le_refl _, by omega, hp⟩
    · obtain ⟨a, b, c⟩ := ih h
      exact ⟨by omega, by omega, c⟩
/-- the table of texts q is as it should be: cnt texts -/
def mTV (ms : zMS) (q cnt : Nat) : Prop := ms.2 3 q = nI cnt ∧ cnt ≤ 220 ∧ ∀ t, 220 * q ≤ t → t < 220 * q + cnt → ∃ ln b, mtxt ms t ln b
theorem mto_find {ms : zMS} {q cnt : Nat} (h : mTV ms q cnt) (s f r c : Int32) : mto ms (mfind ms q s f r c) := by
  cases e : mfind ms q s f r c with
  | none => trivial
  | some t =>
    unfold mfind at e
    rw [h.1, nI_clamp (by have := h.2.1; omega)] at e
    obtain ⟨a, b, -⟩ := zfst_some e
    exact h.2.2 t a b
theorem i_Mod_segment_0 : zins 122 0 = some (.iload 4) := by decide +kernel
theorem i_Mod_segment_2 : zins 122 2 = some (.istore 5) := by decide +kernel
theorem i_Mod_segment_4 : zins 122 4 = some (.iload 5) := by decide +kernel
theorem i_Mod_segment_6 : zins 122 6 = some (.aload_n 0) := by decide +kernel
theorem i_Mod_segment_7 : zins 122 7 = some (.getfield 13) := by decide +kernel
theorem i_Mod_segment_10 : zins 122 10 = some (.iconst 0) := by decide +kernel
theorem i_Mod_segment_11 : zins 122 11 = some (.iaload) := by decide +kernel
theorem i_Mod_segment_12 : zins 122 12 = some (.if_icmp .gt 57) := by decide +kernel
theorem i_Mod_segment_15 : zins 122 15 = some (.aload_n 0) := by decide +kernel
theorem i_Mod_segment_16 : zins 122 16 = some (.getfield 47) := by decide +kernel
theorem i_Mod_segment_19 : zins 122 19 = some (.iconst 3) := by decide +kernel
theorem i_Mod_segment_20 : zins 122 20 = some (.iload 5) := by decide +kernel
theorem i_Mod_segment_22 : zins 122 22 = some (.imul) := by decide +kernel
theorem i_Mod_segment_23 : zins 122 23 = some (.iconst 3) := by decide +kernel
theorem i_Mod_segment_24 : zins 122 24 = some (.isub) := by decide +kernel
theorem i_Mod_segment_25 : zins 122 25 = some (.caload) := by decide +kernel
theorem i_Mod_segment_26 : zins 122 26 = some (.iload_n 1) := by decide +kernel
theorem i_Mod_segment_27 : zins 122 27 = some (.if_icmp .ne 36) := by decide +kernel
theorem i_Mod_segment_30 : zins 122 30 = some (.aload_n 0) := by decide +kernel
theorem i_Mod_segment_31 : zins 122 31 = some (.getfield 47) := by decide +kernel
theorem i_Mod_segment_34 : zins 122 34 = some (.iconst 3) := by decide +kernel
theorem i_Mod_segment_35 : zins 122 35 = some (.iload 5) := by decide +kernel
theorem i_Mod_segment_37 : zins 122 37 = some (.imul) := by decide +kernel
theorem i_Mod_segment_38 : zins 122 38 = some (.iconst 2) := by decide +kernel
theorem i_Mod_segment_39 : zins 122 39 = some (.isub) := by decide +kernel
theorem i_Mod_segment_40 : zins 122 40 = some (.caload) := by decide +kernel
theorem i_Mod_segment_41 : zins 122 41 = some (.iload_n 2) := by decide +kernel
theorem i_Mod_segment_42 : zins 122 42 = some (.if_icmp .ne 21) := by decide +kernel
theorem i_Mod_segment_45 : zins 122 45 = some (.aload_n 0) := by decide +kernel
theorem i_Mod_segment_46 : zins 122 46 = some (.getfield 47) := by decide +kernel
theorem i_Mod_segment_49 : zins 122 49 = some (.iconst 3) := by decide +kernel
theorem i_Mod_segment_50 : zins 122 50 = some (.iload 5) := by decide +kernel
theorem i_Mod_segment_52 : zins 122 52 = some (.imul) := by decide +kernel
theorem i_Mod_segment_53 : zins 122 53 = some (.iconst 1) := by decide +kernel
theorem i_Mod_segment_54 : zins 122 54 = some (.isub) := by decide +kernel
theorem i_Mod_segment_55 : zins 122 55 = some (.caload) := by decide +kernel
theorem i_Mod_segment_56 : zins 122 56 = some (.iload_n 3) := by decide +kernel
theorem i_Mod_segment_57 : zins 122 57 = some (.if_icmp .ne 6) := by decide +kernel
theorem i_Mod_segment_60 : zins 122 60 = some (.iload 5) := by decide +kernel
theorem i_Mod_segment_62 : zins 122 62 = some (.ireturn) := by decide +kernel
theorem i_Mod_segment_63 : zins 122 63 = some (.iinc 5 1) := by decide +kernel
theorem i_Mod_segment_66 : zins 122 66 = some (.goto (-62)) := by decide +kernel
theorem i_Mod_segment_69 : zins 122 69 = some (.iconst 0) := by decide +kernel
theorem i_Mod_segment_70 : zins 122 70 = some (.ireturn) := by decide +kernel
def mnm (ms : zMS) (a b c : Int32) (s : Nat) : Bool := decide (ms.2 13 (3 * s - 3) = a) && (decide (ms.2 13 (3 * s - 2) = b) && decide (ms.2 13 (3 * s - 1) = c))
def sN (o : Option Nat) : Nat := match o with
  | some k => k
  | none => 0
theorem l_Mod_segment (X : zX) (d : Nat) (g : zH) (ms : zMS) (sg : Nat) (a b c x4 : Int32) (hs : ms.2 2 0 = nI sg) (hsl : sg ≤ 200) : ∀ (k i : Nat), 1 ≤ i → i + k = sg + 1 → zR X d 122 4 [some (.ref 129), some (.int a), some (.int b), some (.int c), some (.int x4), some (.int (nI i))] [] (mset g ms) (some (.int (nI (sN (zfst (mnm ms a b c) i k)))), mset g ms) := by
  intro k
  induction k with
  | zero =>
    intro i h1 hik
    refine zr_iload i_Mod_segment_4 rfl ?_
    refine zr_aload_n i_Mod_segment_6 rfl ?_
    refine zr_getf i_Mod_segment_7 rfl rfl rfl ?_
    refine zn_iconst 0 i_Mod_segment_10 (by decide) ?_
    refine zn_iaload (k := 0) i_Mod_segment_11 rfl (by decide) (by decide) ?_
    refine zr_top (y := nI sg) hs ?_
    refine zn_icmp_gt 69 i_Mod_segment_12 (by decide) (by omega) (by omega) (fun c_12 => ?_) (fun c_12 => absurd c_12 (by omega))
    refine zn_iconst 0 i_Mod_segment_69 (by decide) ?_
    exact zR.retE i_Mod_segment_70 rfl rfl
  | succ k ih =>
    intro i h1 hik
    refine zr_iload i_Mod_segment_4 rfl ?_
    refine zr_aload_n i_Mod_segment_6 rfl ?_
    refine zr_getf i_Mod_segment_7 rfl rfl rfl ?_
    refine zn_iconst 0 i_Mod_segment_10 (by decide) ?_
    refine zn_iaload (k := 0) i_Mod_segment_11 rfl (by decide) (by decide) ?_
    refine zr_top (y := nI sg) hs ?_
    refine zn_icmp_gt 69 i_Mod_segment_12 (by decide) (by omega) (by omega) (fun c_12 => absurd c_12 (by omega)) (fun c_12 => ?_)
    refine zr_aload_n i_Mod_segment_15 rfl ?_
    refine zr_getf i_Mod_segment_16 rfl rfl rfl ?_
    refine zn_iconst 3 i_Mod_segment_19 (by decide) ?_
    refine zr_iload i_Mod_segment_20 rfl ?_
    refine zn_imul i_Mod_segment_22 ?_
    refine zn_iconst 3 i_Mod_segment_23 (by decide) ?_
    refine zn_isub i_Mod_segment_24 (by omega) ?_
    refine zn_caload i_Mod_segment_25 rfl (by omega) (by decide) ?_
    refine zr_iload_n i_Mod_segment_26 rfl ?_
    refine zr_icmp_ne 63 i_Mod_segment_27 (by decide) (fun c_27 => ?_) (fun c_27 => ?_)
    · skip
      refine zn_iinc i_Mod_segment_63 rfl rfl ?_
      refine zr_goto 4 i_Mod_segment_66 (by decide) ?_
      (rw [zfst, if_neg (by simp [mnm, *])]; exact ih (i + 1) (by omega) (by omega))
    · skip
      refine zr_aload_n i_Mod_segment_30 rfl ?_
      refine zr_getf i_Mod_segment_31 rfl rfl rfl ?_
      refine zn_iconst 3 i_Mod_segment_34 (by decide) ?_
      refine zr_iload i_Mod_segment_35 rfl ?_
      refine zn_imul i_Mod_segment_37 ?_
      refine zn_iconst 2 i_Mod_segment_38 (by decide) ?_
      refine zn_isub i_Mod_segment_39 (by omega) ?_
      refine zn_caload i_Mod_segment_40 rfl (by omega) (by decide) ?_
      refine zr_iload_n i_Mod_segment_41 rfl ?_
      refine zr_icmp_ne 63 i_Mod_segment_42 (by decide) (fun c_42 => ?_) (fun c_42 => ?_)
      · skip
        refine zn_iinc i_Mod_segment_63 rfl rfl ?_
        refine zr_goto 4 i_Mod_segment_66 (by decide) ?_
        (rw [zfst, if_neg (by simp [mnm, *])]; exact ih (i + 1) (by omega) (by omega))
      · skip
        refine zr_aload_n i_Mod_segment_45 rfl ?_
        refine zr_getf i_Mod_segment_46 rfl rfl rfl ?_
        refine zn_iconst 3 i_Mod_segment_49 (by decide) ?_
        refine zr_iload i_Mod_segment_50 rfl ?_
        refine zn_imul i_Mod_segment_52 ?_
        refine zn_iconst 1 i_Mod_segment_53 (by decide) ?_
        refine zn_isub i_Mod_segment_54 (by omega) ?_
        refine zn_caload i_Mod_segment_55 rfl (by omega) (by decide) ?_
        refine zr_iload_n i_Mod_segment_56 rfl ?_
        refine zr_icmp_ne 63 i_Mod_segment_57 (by decide) (fun c_57 => ?_) (fun c_57 => ?_)
        · skip
          refine zn_iinc i_Mod_segment_63 rfl rfl ?_
          refine zr_goto 4 i_Mod_segment_66 (by decide) ?_
          (rw [zfst, if_neg (by simp [mnm, *])]; exact ih (i + 1) (by omega) (by omega))
        · skip
          refine zr_iload i_Mod_segment_60 rfl ?_
          exact zR.retE i_Mod_segment_62 rfl (by rw [zfst, if_pos (by simp [mnm, *])]; rfl)
def mseg (ms : zMS) (a b c : Int32) (i : Nat) : Nat := sN (zfst (mnm ms a b c) i ((ms.2 2 0).toNatClampNeg + 1 - i))
theorem e_Mod_segment (X : zX) (d : Nat) (g : zH) (ms : zMS) (sg : Nat) (a b c : Int32) (i : Nat) (hs : ms.2 2 0 = nI sg) (hsl : sg ≤ 200) (hi1 : 1 ≤ i) (hi2 : i ≤ sg + 1) : zR X d 122 0 (zent 6 [.ref 129, .int a, .int b, .int c, .int (nI i)]) [] (mset g ms) (some (.int (nI (mseg ms a b c i))), mset g ms) := by
  refine zr_iload i_Mod_segment_0 rfl ?_
  refine zr_istore i_Mod_segment_2 rfl ?_
  unfold mseg
  rw [hs, nI_clamp (by omega)]
  exact l_Mod_segment X d g ms sg a b c (nI i) hs hsl (sg + 1 - i) i hi1 (by omega)
theorem i_Mod_number_0 : zins 124 0 = some (.iconst 0) := by decide +kernel
theorem i_Mod_number_1 : zins 124 1 = some (.istore_n 3) := by decide +kernel
theorem i_Mod_number_2 : zins 124 2 = some (.aload_n 0) := by decide +kernel
theorem i_Mod_number_3 : zins 124 3 = some (.iload_n 1) := by decide +kernel
theorem i_Mod_number_4 : zins 124 4 = some (.invokevirtual 145) := by decide +kernel
theorem i_Mod_number_7 : zins 124 7 = some (.iconst 1) := by decide +kernel
theorem i_Mod_number_8 : zins 124 8 = some (.if_icmp .lt 16) := by decide +kernel
theorem i_Mod_number_11 : zins 124 11 = some (.aload_n 0) := by decide +kernel
theorem i_Mod_number_12 : zins 124 12 = some (.iload_n 1) := by decide +kernel
theorem i_Mod_number_13 : zins 124 13 = some (.invokevirtual 145) := by decide +kernel
theorem i_Mod_number_16 : zins 124 16 = some (.iload_n 2) := by decide +kernel
theorem i_Mod_number_17 : zins 124 17 = some (.if_icmp .gt 7) := by decide +kernel
theorem i_Mod_number_20 : zins 124 20 = some (.iconst 1) := by decide +kernel
theorem i_Mod_number_21 : zins 124 21 = some (.goto 4) := by decide +kernel
theorem i_Mod_number_24 : zins 124 24 = some (.iconst 0) := by decide +kernel
theorem i_Mod_number_25 : zins 124 25 = some (.istore 4) := by decide +kernel
theorem i_Mod_number_27 : zins 124 27 = some (.iconst 0) := by decide +kernel
theorem i_Mod_number_28 : zins 124 28 = some (.istore 5) := by decide +kernel
theorem i_Mod_number_30 : zins 124 30 = some (.iload 5) := by decide +kernel
theorem i_Mod_number_32 : zins 124 32 = some (.aload_n 0) := by decide +kernel
theorem i_Mod_number_33 : zins 124 33 = some (.iload_n 1) := by decide +kernel
theorem i_Mod_number_34 : zins 124 34 = some (.invokevirtual 145) := by decide +kernel
theorem i_Mod_number_37 : zins 124 37 = some (.if_icmp .ge 42) := by decide +kernel
theorem i_Mod_number_40 : zins 124 40 = some (.iload 4) := by decide +kernel
theorem i_Mod_number_42 : zins 124 42 = some (.ifCond .eq 37) := by decide +kernel
theorem i_Mod_number_45 : zins 124 45 = some (.aload_n 0) := by decide +kernel
theorem i_Mod_number_46 : zins 124 46 = some (.iload_n 1) := by decide +kernel
theorem i_Mod_number_47 : zins 124 47 = some (.iload 5) := by decide +kernel
theorem i_Mod_number_49 : zins 124 49 = some (.invokevirtual 149) := by decide +kernel
theorem i_Mod_number_52 : zins 124 52 = some (.invokestatic 109) := by decide +kernel
theorem i_Mod_number_55 : zins 124 55 = some (.istore 4) := by decide +kernel
theorem i_Mod_number_57 : zins 124 57 = some (.bipush 10) := by decide +kernel
theorem i_Mod_number_59 : zins 124 59 = some (.iload_n 3) := by decide +kernel
theorem i_Mod_number_60 : zins 124 60 = some (.imul) := by decide +kernel
theorem i_Mod_number_61 : zins 124 61 = some (.aload_n 0) := by decide +kernel
theorem i_Mod_number_62 : zins 124 62 = some (.iload_n 1) := by decide +kernel
theorem i_Mod_number_63 : zins 124 63 = some (.iload 5) := by decide +kernel
theorem i_Mod_number_65 : zins 124 65 = some (.invokevirtual 149) := by decide +kernel
theorem i_Mod_number_68 : zins 124 68 = some (.iadd) := by decide +kernel
theorem i_Mod_number_69 : zins 124 69 = some (.bipush 48) := by decide +kernel
theorem i_Mod_number_71 : zins 124 71 = some (.isub) := by decide +kernel
theorem i_Mod_number_72 : zins 124 72 = some (.istore_n 3) := by decide +kernel
theorem i_Mod_number_73 : zins 124 73 = some (.iinc 5 1) := by decide +kernel
theorem i_Mod_number_76 : zins 124 76 = some (.goto (-46)) := by decide +kernel
theorem i_Mod_number_79 : zins 124 79 = some (.iload 4) := by decide +kernel
theorem i_Mod_number_81 : zins 124 81 = some (.ifCond .eq 7) := by decide +kernel
theorem i_Mod_number_84 : zins 124 84 = some (.iload_n 3) := by decide +kernel
theorem i_Mod_number_85 : zins 124 85 = some (.goto 4) := by decide +kernel
theorem i_Mod_number_88 : zins 124 88 = some (.iconst (-1)) := by decide +kernel
theorem i_Mod_number_89 : zins 124 89 = some (.ireturn) := by decide +kernel
def mnumL (ms : zMS) (o : Option Nat) (i k : Nat) (v : Int32) : Int32 := match k with
  | 0 => v
  | k + 1 => if zdig (mch ms o i) = true then mnumL ms o (i + 1) k (10 * v + mch ms o i - 48) else -1
def mnum (ms : zMS) (o : Option Nat) (most : Nat) : Int32 := if 1 ≤ msz ms o ∧ msz ms o ≤ most then mnumL ms o 0 (msz ms o) 0 else -1
theorem x_Mod_number (X : zX) (d : Nat) (g : zH) (ms : zMS) (o : Option Nat) (ho : mto ms o) (most : Nat) (v i : Int32) : zR X (d + 2) 124 79 [some (.ref 129), some (.int (tI o)), some (.int (nI most)), some (.int v), some (.int 0), some (.int i)] [] (mset g ms) (some (.int (-1)), mset g ms) := by
  refine zr_iload i_Mod_number_79 rfl ?_
  refine zr_if_eq 88 i_Mod_number_81 (by decide) (fun _ => ?_) (fun q => absurd rfl q)
  refine zr_iconst i_Mod_number_88 (v := (-1)) (by decide) ?_
  exact zR.retE i_Mod_number_89 rfl rfl
theorem y_Mod_number (X : zX) (d : Nat) (g : zH) (ms : zMS) (o : Option Nat) (ho : mto ms o) (most i : Nat) (hi : i < 2 ^ 30) (v : Int32) : zR X (d + 2) 124 30 [some (.ref 129), some (.int (tI o)), some (.int (nI most)), some (.int v), some (.int 0), some (.int (nI i))] [] (mset g ms) (some (.int (-1)), mset g ms) := by
  have hz := msz_lt ho
  refine zr_iload i_Mod_number_30 rfl ?_
  refine zr_aload_n i_Mod_number_32 rfl ?_
  refine zr_iload_n i_Mod_number_33 rfl ?_
  refine zr_cv1 i_Mod_number_34 rfl (by decide) rfl (Nat.le_of_ble_eq_true rfl) (Nat.le_of_ble_eq_true rfl) (e_Mod_sizeOf X (d + 1) g ms o ho) ?_
  refine zn_icmp_ge 79 i_Mod_number_37 (by decide) (by omega) (by omega) (fun _ => ?_) (fun _ => ?_)
  · exact x_Mod_number X d g ms o ho most v (nI i)
  · refine zr_iload i_Mod_number_40 rfl ?_
    refine zr_if_eq 79 i_Mod_number_42 (by decide) (fun _ => ?_) (fun q => absurd rfl q)
    exact x_Mod_number X d g ms o ho most v (nI i)
theorem l_Mod_number (X : zX) (d : Nat) (g : zH) (ms : zMS) (o : Option Nat) (ho : mto ms o) (most : Nat) : ∀ (k i : Nat) (v : Int32), i + k = msz ms o → zR X (d + 2) 124 30 [some (.ref 129), some (.int (tI o)), some (.int (nI most)), some (.int v), some (.int 1), some (.int (nI i))] [] (mset g ms) (some (.int (mnumL ms o i k v)), mset g ms) := by
  have hz := msz_lt ho
  intro k
  induction k with
  | zero =>
    intro i v hik
    refine zr_iload i_Mod_number_30 rfl ?_
    refine zr_aload_n i_Mod_number_32 rfl ?_
    refine zr_iload_n i_Mod_number_33 rfl ?_
    refine zr_cv1 i_Mod_number_34 rfl (by decide) rfl (Nat.le_of_ble_eq_true rfl) (Nat.le_of_ble_eq_true rfl) (e_Mod_sizeOf X (d + 1) g ms o ho) ?_
    refine zn_icmp_ge 79 i_Mod_number_37 (by decide) (by omega) (by omega) (fun _ => ?_) (fun q => absurd q (by omega))
    refine zr_iload i_Mod_number_79 rfl ?_
    refine zr_if_eq 88 i_Mod_number_81 (by decide) (fun q => absurd q (by decide)) (fun _ => ?_)
    refine zr_iload_n i_Mod_number_84 rfl ?_
    refine zr_goto 89 i_Mod_number_85 (by decide) ?_
    exact zR.retE i_Mod_number_89 rfl rfl
  | succ k ih =>
    intro i v hik
    refine zr_iload i_Mod_number_30 rfl ?_
    refine zr_aload_n i_Mod_number_32 rfl ?_
    refine zr_iload_n i_Mod_number_33 rfl ?_
    refine zr_cv1 i_Mod_number_34 rfl (by decide) rfl (Nat.le_of_ble_eq_true rfl) (Nat.le_of_ble_eq_true rfl) (e_Mod_sizeOf X (d + 1) g ms o ho) ?_
    refine zn_icmp_ge 79 i_Mod_number_37 (by decide) (by omega) (by omega) (fun q => absurd q (by omega)) (fun _ => ?_)
    refine zr_iload i_Mod_number_40 rfl ?_
    refine zr_if_eq 79 i_Mod_number_42 (by decide) (fun q => absurd q (by decide)) (fun _ => ?_)
    refine zr_aload_n i_Mod_number_45 rfl ?_
    refine zr_iload_n i_Mod_number_46 rfl ?_
    refine zr_iload i_Mod_number_47 rfl ?_
    refine zr_cv2 i_Mod_number_49 rfl (by decide) rfl (Nat.le_of_ble_eq_true rfl) (Nat.le_of_ble_eq_true rfl) (e_Mod_charOf X d g ms o ho i (by omega)) ?_
    refine zr_cs1 i_Mod_number_52 rfl (by decide) (Nat.le_of_ble_eq_true rfl) (Nat.le_of_ble_eq_true rfl) (e_Mod_digit X (d + 1) (mset g ms) (mch ms o i)) ?_
    refine zr_istore i_Mod_number_55 rfl ?_
    refine zr_bipush i_Mod_number_57 (v := 10) (by decide) ?_
    refine zr_iload_n i_Mod_number_59 rfl ?_
    refine zr_imul i_Mod_number_60 ?_
    refine zr_aload_n i_Mod_number_61 rfl ?_
    refine zr_iload_n i_Mod_number_62 rfl ?_
    refine zr_iload i_Mod_number_63 rfl ?_
    refine zr_cv2 i_Mod_number_65 rfl (by decide) rfl (Nat.le_of_ble_eq_true rfl) (Nat.le_of_ble_eq_true rfl) (e_Mod_charOf X d g ms o ho i (by omega)) ?_
    refine zr_iadd i_Mod_number_68 ?_
    refine zr_bipush i_Mod_number_69 (v := 48) (by decide) ?_
    refine zr_isub i_Mod_number_71 ?_
    refine zr_istore_n i_Mod_number_72 rfl ?_
    refine zn_iinc i_Mod_number_73 rfl rfl ?_
    refine zr_goto 30 i_Mod_number_76 (by decide) ?_
    rw [mnumL]
    cases hd : zdig (mch ms o i) with
    | true =>
      rw [if_pos rfl]
      exact ih (i + 1) _ (by omega)
    | false =>
      rw [if_neg (by decide)]
      exact y_Mod_number X d g ms o ho most (i + 1) (by omega) _
theorem e_Mod_number (X : zX) (d : Nat) (g : zH) (ms : zMS) (o : Option Nat) (ho : mto ms o) (most : Nat) (hm : most < 2 ^ 30) : zR X (d + 2) 124 0 (zent 6 [.ref 129, .int (tI o), .int (nI most)]) [] (mset g ms) (some (.int (mnum ms o most)), mset g ms) := by
  have hz := msz_lt ho
  have bad : ¬ (1 ≤ msz ms o ∧ msz ms o ≤ most) → zR X (d + 2) 124 24 [some (.ref 129), some (.int (tI o)), some (.int (nI most)), some (.int 0), none, none] [] (mset g ms) (some (.int (mnum ms o most)), mset g ms) := by
    intro hn
    refine zr_iconst i_Mod_number_24 (v := 0) (by decide) ?_
    refine zr_istore i_Mod_number_25 rfl ?_
    refine zr_iconst i_Mod_number_27 (v := 0) (by decide) ?_
    refine zr_istore i_Mod_number_28 rfl ?_
    unfold mnum
    rw [if_neg hn]
    exact y_Mod_number X d g ms o ho most 0 (by decide) 0
  refine zr_iconst i_Mod_number_0 (v := 0) (by decide) ?_
  refine zr_istore_n i_Mod_number_1 rfl ?_
  refine zr_aload_n i_Mod_number_2 rfl ?_
  refine zr_iload_n i_Mod_number_3 rfl ?_
  refine zr_cv1 i_Mod_number_4 rfl (by decide) rfl (Nat.le_of_ble_eq_true rfl) (Nat.le_of_ble_eq_true rfl) (e_Mod_sizeOf X (d + 1) g ms o ho) ?_
  refine zn_iconst 1 i_Mod_number_7 (by decide) ?_
  refine zn_icmp_lt 24 i_Mod_number_8 (by decide) (by omega) (by omega) (fun c_8 => bad (by omega)) (fun c_8 => ?_)
  refine zr_aload_n i_Mod_number_11 rfl ?_
  refine zr_iload_n i_Mod_number_12 rfl ?_
  refine zr_cv1 i_Mod_number_13 rfl (by decide) rfl (Nat.le_of_ble_eq_true rfl) (Nat.le_of_ble_eq_true rfl) (e_Mod_sizeOf X (d + 1) g ms o ho) ?_
  refine zr_iload_n i_Mod_number_16 rfl ?_
  refine zn_icmp_gt 24 i_Mod_number_17 (by decide) (by omega) (by omega) (fun c_17 => bad (by omega)) (fun c_17 => ?_)
  refine zr_iconst i_Mod_number_20 (v := 1) (by decide) ?_
  refine zr_goto 25 i_Mod_number_21 (by decide) ?_
  refine zr_istore i_Mod_number_25 rfl ?_
  refine zr_iconst i_Mod_number_27 (v := 0) (by decide) ?_
  refine zr_istore i_Mod_number_28 rfl ?_
  unfold mnum
  rw [if_pos ⟨by omega, by omega⟩]
  exact l_Mod_number X d g ms o ho most (msz ms o) 0 0 (by omega)
