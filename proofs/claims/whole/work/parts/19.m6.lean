/-! THE REFERENCE: results -/
section KR2
variable {X : zX} {d j pc : Nat} {L : zL} {r : List Value} {h : zH} {u : Option Value × zH}
theorem zN_if_ge {a : Nat} {off : Int} (t : Nat) (hi : zins j pc = some (.ifCond .ge off)) (ht : (pc : Int) + off = (t : Int)) (ha : a < 2 ^ 31) (kt : zR X d j t L r h u) : zR X d j pc L (.int (nI a) :: r) h u :=
  zr_if_ge t hi ht (fun _ => kt) (fun q => absurd (nI_pos' ha) q)
theorem zN_if_lt {a : Nat} {off : Int} (t : Nat) (hi : zins j pc = some (.ifCond .lt off)) (ht : (pc : Int) + off = (t : Int)) (ha : a < 2 ^ 31) (kf : zR X d j (pc + 3) L r h u) : zR X d j pc L (.int (nI a) :: r) h u :=
  zr_if_lt t hi ht (fun q => absurd q (nI_pos ha)) (fun _ => kf)
end KR2
theorem up_comm {α : Type} {f : Nat → α} {i j : Nat} (h : i ≠ j) (a b : α) : va_up (va_up f i a) j b = va_up (va_up f j b) i a := by
  funext k
  simp only [va_up]
  by_cases h1 : k = j
  · subst h1
    rw [if_pos rfl, if_neg (fun e => h e.symm), if_pos rfl]
  · rw [if_neg h1]
    by_cases h2 : k = i
    · rw [if_pos h2, if_pos h2]
    · rw [if_neg h2, if_neg h2, if_neg h1]
theorem up_same {α : Type} {f : Nat → α} {i : Nat} (a b : α) : va_up (va_up f i a) i b = va_up f i b := by
  funext k
  simp only [va_up]
  by_cases h1 : k = i
  · rw [if_pos h1, if_pos h1]
  · rw [if_neg h1, if_neg h1, if_neg h1]
theorem up_self {α : Type} {f : Nat → α} {i : Nat} : va_up f i (f i) = f := by
  funext k
  simp only [va_up]
  by_cases h1 : k = i
  · rw [if_pos h1, h1]
  · rw [if_neg h1]
/-- the three rows of results: how many, codes, values -/
abbrev zQ : Type := (Nat → Int32) × (Nat → Int32) × (Nat → Int32)
def mq (ms : zMS) : zQ := (ms.2 22, ms.2 23, ms.2 24)
def mres (ms : zMS) (q : zQ) : zMS := (ms.1, va_up (va_up (va_up ms.2 22 q.1) 23 q.2.1) 24 q.2.2)
theorem mq_res (ms : zMS) (q : zQ) : mq (mres ms q) = q := rfl
theorem mV_res (ms : zMS) (q : zQ) : mV (mres ms q) = mV ms := rfl
theorem mres_self (ms : zMS) : mres ms (mq ms) = ms := by
  unfold mres mq
  rw [up_self (f := ms.2) (i := 22), up_self (f := ms.2) (i := 23), up_self (f := ms.2) (i := 24)]
theorem mres_res (ms : zMS) (q q' : zQ) : mres (mres ms q) q' = mres ms q' := by
  unfold mres
  dsimp only
  rw [up_comm (i := 24) (j := 22) (by decide), up_comm (i := 23) (j := 22) (by decide), up_same, up_comm (i := 24) (j := 23) (by decide), up_same, up_same]
/-- the place of a code -/
def resI (c : Nat → Int32) (code : Int32) (i k : Nat) : Option Nat := zfst (fun i => decide (c i = code)) i k
theorem i_Mod_resultAt_0 : zins 134 0 = some (.bipush 12) := by decide +kernel
theorem i_Mod_resultAt_2 : zins 134 2 = some (.iload_n 1) := by decide +kernel
theorem i_Mod_resultAt_3 : zins 134 3 = some (.imul) := by decide +kernel
theorem i_Mod_resultAt_4 : zins 134 4 = some (.istore_n 3) := by decide +kernel
theorem i_Mod_resultAt_5 : zins 134 5 = some (.iload_n 3) := by decide +kernel
theorem i_Mod_resultAt_6 : zins 134 6 = some (.bipush 12) := by decide +kernel
theorem i_Mod_resultAt_8 : zins 134 8 = some (.iload_n 1) := by decide +kernel
theorem i_Mod_resultAt_9 : zins 134 9 = some (.imul) := by decide +kernel
theorem i_Mod_resultAt_10 : zins 134 10 = some (.aload_n 0) := by decide +kernel
theorem i_Mod_resultAt_11 : zins 134 11 = some (.getfield 75) := by decide +kernel
theorem i_Mod_resultAt_14 : zins 134 14 = some (.iload_n 1) := by decide +kernel
theorem i_Mod_resultAt_15 : zins 134 15 = some (.iaload) := by decide +kernel
theorem i_Mod_resultAt_16 : zins 134 16 = some (.iadd) := by decide +kernel
theorem i_Mod_resultAt_17 : zins 134 17 = some (.if_icmp .ge 21) := by decide +kernel
theorem i_Mod_resultAt_20 : zins 134 20 = some (.aload_n 0) := by decide +kernel
theorem i_Mod_resultAt_21 : zins 134 21 = some (.getfield 78) := by decide +kernel
theorem i_Mod_resultAt_24 : zins 134 24 = some (.iload_n 3) := by decide +kernel
theorem i_Mod_resultAt_25 : zins 134 25 = some (.iaload) := by decide +kernel
theorem i_Mod_resultAt_26 : zins 134 26 = some (.iload_n 2) := by decide +kernel
theorem i_Mod_resultAt_27 : zins 134 27 = some (.if_icmp .ne 5) := by decide +kernel
theorem i_Mod_resultAt_30 : zins 134 30 = some (.iload_n 3) := by decide +kernel
theorem i_Mod_resultAt_31 : zins 134 31 = some (.ireturn) := by decide +kernel
theorem i_Mod_resultAt_32 : zins 134 32 = some (.iinc 3 1) := by decide +kernel
theorem i_Mod_resultAt_35 : zins 134 35 = some (.goto (-30)) := by decide +kernel
theorem i_Mod_resultAt_38 : zins 134 38 = some (.iconst (-1)) := by decide +kernel
theorem i_Mod_resultAt_39 : zins 134 39 = some (.ireturn) := by decide +kernel
theorem l_Mod_resultAt (X : zX) (d : Nat) (g : zH) (ms : zMS) (p cnt : Nat) (code : Int32) (hc : ms.2 22 p = nI cnt) (hcl : cnt ≤ 12) (hp : p ≤ 100) : ∀ (k i : Nat), i + k = 12 * p + cnt → zR X d 134 5 [some (.ref 129), some (.int (nI p)), some (.int code), some (.int (nI i))] [] (mset g ms) (some (.int (tI (resI (ms.2 23) code i k))), mset g ms) := by
  intro k
  induction k with
  | zero =>
    intro i hik
    refine zr_iload_n i_Mod_resultAt_5 rfl ?_
    refine zn_bipush 12 i_Mod_resultAt_6 (by decide) ?_
    refine zr_iload_n i_Mod_resultAt_8 rfl ?_
    refine zn_imul i_Mod_resultAt_9 ?_
    refine zr_aload_n i_Mod_resultAt_10 rfl ?_
    refine zr_getf i_Mod_resultAt_11 rfl rfl rfl ?_
    refine zr_iload_n i_Mod_resultAt_14 rfl ?_
    refine zn_iaload i_Mod_resultAt_15 rfl (by omega) (by decide) ?_
    refine zr_top (y := nI cnt) hc ?_
    refine zn_iadd i_Mod_resultAt_16 ?_
    refine zn_icmp_ge 38 i_Mod_resultAt_17 (by decide) (by omega) (by omega) (fun c_17 => ?_) (fun q => absurd q (by first | assumption | omega | simp_all))
    refine zr_iconst i_Mod_resultAt_38 (v := (-1)) (by decide) ?_
    exact zR.retE i_Mod_resultAt_39 rfl rfl
  | succ k ih =>
    intro i hik
    refine zr_iload_n i_Mod_resultAt_5 rfl ?_
    refine zn_bipush 12 i_Mod_resultAt_6 (by decide) ?_
    refine zr_iload_n i_Mod_resultAt_8 rfl ?_
    refine zn_imul i_Mod_resultAt_9 ?_
    refine zr_aload_n i_Mod_resultAt_10 rfl ?_
    refine zr_getf i_Mod_resultAt_11 rfl rfl rfl ?_
    refine zr_iload_n i_Mod_resultAt_14 rfl ?_
    refine zn_iaload i_Mod_resultAt_15 rfl (by omega) (by decide) ?_
    refine zr_top (y := nI cnt) hc ?_
    refine zn_iadd i_Mod_resultAt_16 ?_
    refine zn_icmp_ge 38 i_Mod_resultAt_17 (by decide) (by omega) (by omega) (fun q => absurd q (by first | assumption | omega | simp_all)) (fun c_17 => ?_)
    refine zr_aload_n i_Mod_resultAt_20 rfl ?_
    refine zr_getf i_Mod_resultAt_21 rfl rfl rfl ?_
    refine zr_iload_n i_Mod_resultAt_24 rfl ?_
    refine zn_iaload i_Mod_resultAt_25 rfl (by omega) (by decide) ?_
    refine zr_iload_n i_Mod_resultAt_26 rfl ?_
    refine zr_icmp_ne 32 i_Mod_resultAt_27 (by decide) (fun c_27 => ?_) (fun c_27 => ?_)
    · skip
      refine zn_iinc i_Mod_resultAt_32 rfl rfl ?_
      refine zr_goto 5 i_Mod_resultAt_35 (by decide) ?_
      (rw [resI, zfst, if_neg (by simp [*])]; exact ih (i + 1) (by omega))
    · skip
      refine zr_iload_n i_Mod_resultAt_30 rfl ?_
      exact zR.retE i_Mod_resultAt_31 rfl (by rw [resI, zfst, if_pos (by simp [*])]; rfl)
theorem e_Mod_resultAt (X : zX) (d : Nat) (g : zH) (ms : zMS) (p cnt : Nat) (code : Int32) (hc : ms.2 22 p = nI cnt) (hcl : cnt ≤ 12) (hp : p ≤ 100) : zR X d 134 0 (zent 4 [.ref 129, .int (nI p), .int code]) [] (mset g ms) (some (.int (tI (resI (ms.2 23) code (12 * p) cnt))), mset g ms) := by
  refine zn_bipush 12 i_Mod_resultAt_0 (by decide) ?_
  refine zr_iload_n i_Mod_resultAt_2 rfl ?_
  refine zn_imul i_Mod_resultAt_3 ?_
  refine zr_istore_n i_Mod_resultAt_4 rfl ?_
  exact l_Mod_resultAt X d g ms p cnt code hc hcl hp cnt (12 * p) rfl
theorem zcpy_0 {α : Type} {f : Nat → α} {a b : Nat} : va_cpy f f a b 0 = f := by
  funext j
  exact pk_cpy_out (by omega)
theorem zcpy_s {f : Nat → Int32} {a b i : Nat} (h : a + i < b ∨ b + i ≤ a) : upd (va_cpy f f a b i) (b + i) (va_cpy f f a b i (a + i)) = va_cpy f f a b (i + 1) := by
  funext j
  have e : va_cpy f f a b i (a + i) = f (a + i) := by
    by_cases hh : a + i < b ∨ b + i ≤ a + i
    · exact pk_cpy_out hh
    · exfalso; omega
  rw [e]
  by_cases h1 : j = b + i
  · subst h1
    rw [pk_us, pk_cpy_in (by omega) (by omega)]
    congr 1
    omega
  · rw [pk_un h1]
    by_cases h2 : b ≤ j ∧ j < b + i
    · rw [pk_cpy_in h2.1 h2.2, pk_cpy_in h2.1 (by omega)]
    · rw [pk_cpy_out (by omega), pk_cpy_out (by omega)]
def copyQ (q : zQ) (a b : Nat) : zQ := (upd q.1 b (q.1 a), va_cpy q.2.1 q.2.1 (12 * a) (12 * b) 12, va_cpy q.2.2 q.2.2 (12 * a) (12 * b) 12)
theorem mres_23 (ms : zMS) (q : zQ) (a b : Nat → Int32) : ((mres ms q).1, va_up (va_up (mres ms q).2 23 a) 24 b) = mres ms (q.1, a, b) := by
  unfold mres
  dsimp only
  rw [up_comm (i := 24) (j := 23) (by decide), up_same, up_same]
theorem i_Mod_copyResults_0 : zins 132 0 = some (.aload_n 0) := by decide +kernel
theorem i_Mod_copyResults_1 : zins 132 1 = some (.getfield 75) := by decide +kernel
theorem i_Mod_copyResults_4 : zins 132 4 = some (.iload_n 2) := by decide +kernel
theorem i_Mod_copyResults_5 : zins 132 5 = some (.aload_n 0) := by decide +kernel
theorem i_Mod_copyResults_6 : zins 132 6 = some (.getfield 75) := by decide +kernel
theorem i_Mod_copyResults_9 : zins 132 9 = some (.iload_n 1) := by decide +kernel
theorem i_Mod_copyResults_10 : zins 132 10 = some (.iaload) := by decide +kernel
theorem i_Mod_copyResults_11 : zins 132 11 = some (.iastore) := by decide +kernel
theorem i_Mod_copyResults_12 : zins 132 12 = some (.iconst 0) := by decide +kernel
theorem i_Mod_copyResults_13 : zins 132 13 = some (.istore_n 3) := by decide +kernel
theorem i_Mod_copyResults_14 : zins 132 14 = some (.iload_n 3) := by decide +kernel
theorem i_Mod_copyResults_15 : zins 132 15 = some (.bipush 12) := by decide +kernel
theorem i_Mod_copyResults_17 : zins 132 17 = some (.if_icmp .ge 53) := by decide +kernel
theorem i_Mod_copyResults_20 : zins 132 20 = some (.aload_n 0) := by decide +kernel
theorem i_Mod_copyResults_21 : zins 132 21 = some (.getfield 78) := by decide +kernel
theorem i_Mod_copyResults_24 : zins 132 24 = some (.bipush 12) := by decide +kernel
theorem i_Mod_copyResults_26 : zins 132 26 = some (.iload_n 2) := by decide +kernel
theorem i_Mod_copyResults_27 : zins 132 27 = some (.imul) := by decide +kernel
theorem i_Mod_copyResults_28 : zins 132 28 = some (.iload_n 3) := by decide +kernel
theorem i_Mod_copyResults_29 : zins 132 29 = some (.iadd) := by decide +kernel
theorem i_Mod_copyResults_30 : zins 132 30 = some (.aload_n 0) := by decide +kernel
theorem i_Mod_copyResults_31 : zins 132 31 = some (.getfield 78) := by decide +kernel
theorem i_Mod_copyResults_34 : zins 132 34 = some (.bipush 12) := by decide +kernel
theorem i_Mod_copyResults_36 : zins 132 36 = some (.iload_n 1) := by decide +kernel
theorem i_Mod_copyResults_37 : zins 132 37 = some (.imul) := by decide +kernel
theorem i_Mod_copyResults_38 : zins 132 38 = some (.iload_n 3) := by decide +kernel
theorem i_Mod_copyResults_39 : zins 132 39 = some (.iadd) := by decide +kernel
theorem i_Mod_copyResults_40 : zins 132 40 = some (.iaload) := by decide +kernel
theorem i_Mod_copyResults_41 : zins 132 41 = some (.iastore) := by decide +kernel
theorem i_Mod_copyResults_42 : zins 132 42 = some (.aload_n 0) := by decide +kernel
theorem i_Mod_copyResults_43 : zins 132 43 = some (.getfield 81) := by decide +kernel
theorem i_Mod_copyResults_46 : zins 132 46 = some (.bipush 12) := by decide +kernel
theorem i_Mod_copyResults_48 : zins 132 48 = some (.iload_n 2) := by decide +kernel
theorem i_Mod_copyResults_49 : zins 132 49 = some (.imul) := by decide +kernel
theorem i_Mod_copyResults_50 : zins 132 50 = some (.iload_n 3) := by decide +kernel
theorem i_Mod_copyResults_51 : zins 132 51 = some (.iadd) := by decide +kernel
theorem i_Mod_copyResults_52 : zins 132 52 = some (.aload_n 0) := by decide +kernel
theorem i_Mod_copyResults_53 : zins 132 53 = some (.getfield 81) := by decide +kernel
theorem i_Mod_copyResults_56 : zins 132 56 = some (.bipush 12) := by decide +kernel
theorem i_Mod_copyResults_58 : zins 132 58 = some (.iload_n 1) := by decide +kernel
theorem i_Mod_copyResults_59 : zins 132 59 = some (.imul) := by decide +kernel
theorem i_Mod_copyResults_60 : zins 132 60 = some (.iload_n 3) := by decide +kernel
theorem i_Mod_copyResults_61 : zins 132 61 = some (.iadd) := by decide +kernel
theorem i_Mod_copyResults_62 : zins 132 62 = some (.iaload) := by decide +kernel
theorem i_Mod_copyResults_63 : zins 132 63 = some (.iastore) := by decide +kernel
theorem i_Mod_copyResults_64 : zins 132 64 = some (.iinc 3 1) := by decide +kernel
theorem i_Mod_copyResults_67 : zins 132 67 = some (.goto (-53)) := by decide +kernel
theorem i_Mod_copyResults_70 : zins 132 70 = some (.return_) := by decide +kernel
theorem l_Mod_copyResults (X : zX) (d : Nat) (g : zH) (ms : zMS) (a b : Nat) (ha : a ≤ 100) (hb : b ≤ 100) (hab : a ≠ b) : ∀ (k i : Nat), i + k = 12 → zR X d 132 14 [some (.ref 129), some (.int (nI a)), some (.int (nI b)), some (.int (nI i))] [] (mset g (mres ms (upd (ms.2 22) b (ms.2 22 a), va_cpy (ms.2 23) (ms.2 23) (12 * a) (12 * b) i, va_cpy (ms.2 24) (ms.2 24) (12 * a) (12 * b) i))) (none, mset g (mres ms (copyQ (mq ms) a b))) := by
  intro k
  induction k with
  | zero =>
    intro i hik
    refine zr_iload_n i_Mod_copyResults_14 rfl ?_
    refine zn_bipush 12 i_Mod_copyResults_15 (by decide) ?_
    refine zn_icmp_ge 70 i_Mod_copyResults_17 (by decide) (by omega) (by omega) (fun c_17 => ?_) (fun q => absurd q (by first | assumption | omega | simp_all))
    exact zR.retE i_Mod_copyResults_70 rfl (by rw [show i = 12 by omega]; rfl)
  | succ k ih =>
    intro i hik
    refine zr_iload_n i_Mod_copyResults_14 rfl ?_
    refine zn_bipush 12 i_Mod_copyResults_15 (by decide) ?_
    refine zn_icmp_ge 70 i_Mod_copyResults_17 (by decide) (by omega) (by omega) (fun q => absurd q (by first | assumption | omega | simp_all)) (fun c_17 => ?_)
    refine zr_aload_n i_Mod_copyResults_20 rfl ?_
    refine zr_getf i_Mod_copyResults_21 rfl rfl rfl ?_
    refine zn_bipush 12 i_Mod_copyResults_24 (by decide) ?_
    refine zr_iload_n i_Mod_copyResults_26 rfl ?_
    refine zn_imul i_Mod_copyResults_27 ?_
    refine zr_iload_n i_Mod_copyResults_28 rfl ?_
    refine zn_iadd i_Mod_copyResults_29 ?_
    refine zr_aload_n i_Mod_copyResults_30 rfl ?_
    refine zr_getf i_Mod_copyResults_31 rfl rfl rfl ?_
    refine zn_bipush 12 i_Mod_copyResults_34 (by decide) ?_
    refine zr_iload_n i_Mod_copyResults_36 rfl ?_
    refine zn_imul i_Mod_copyResults_37 ?_
    refine zr_iload_n i_Mod_copyResults_38 rfl ?_
    refine zn_iadd i_Mod_copyResults_39 ?_
    refine zn_iaload i_Mod_copyResults_40 rfl (by omega) (by decide) ?_
    refine mn_iastore 23 1212 i_Mod_copyResults_41 (fun _ => rfl) (by decide) (by omega) (by decide) ?_
    refine zr_aload_n i_Mod_copyResults_42 rfl ?_
    refine zr_getf i_Mod_copyResults_43 rfl rfl rfl ?_
    refine zn_bipush 12 i_Mod_copyResults_46 (by decide) ?_
    refine zr_iload_n i_Mod_copyResults_48 rfl ?_
    refine zn_imul i_Mod_copyResults_49 ?_
    refine zr_iload_n i_Mod_copyResults_50 rfl ?_
    refine zn_iadd i_Mod_copyResults_51 ?_
    refine zr_aload_n i_Mod_copyResults_52 rfl ?_
    refine zr_getf i_Mod_copyResults_53 rfl rfl rfl ?_
    refine zn_bipush 12 i_Mod_copyResults_56 (by decide) ?_
    refine zr_iload_n i_Mod_copyResults_58 rfl ?_
    refine zn_imul i_Mod_copyResults_59 ?_
    refine zr_iload_n i_Mod_copyResults_60 rfl ?_
    refine zn_iadd i_Mod_copyResults_61 ?_
    refine zn_iaload i_Mod_copyResults_62 rfl (by omega) (by decide) ?_
    refine mn_iastore 24 1212 i_Mod_copyResults_63 (fun _ => rfl) (by decide) (by omega) (by decide) ?_
    refine zn_iinc i_Mod_copyResults_64 rfl rfl ?_
    refine zr_goto 14 i_Mod_copyResults_67 (by decide) ?_
    (have e := ih (i + 1) (by omega)
     rw [← zcpy_s (show 12 * a + i < 12 * b ∨ 12 * b + i ≤ 12 * a by omega), ← zcpy_s (show 12 * a + i < 12 * b ∨ 12 * b + i ≤ 12 * a by omega), ← mres_23 ms (upd (ms.2 22) b (ms.2 22 a), va_cpy (ms.2 23) (ms.2 23) (12 * a) (12 * b) i, va_cpy (ms.2 24) (ms.2 24) (12 * a) (12 * b) i)] at e
     exact e)
theorem e_Mod_copyResults (X : zX) (d : Nat) (g : zH) (ms : zMS) (a b : Nat) (ha : a ≤ 100) (hb : b ≤ 100) (hab : a ≠ b) : zR X d 132 0 (zent 4 [.ref 129, .int (nI a), .int (nI b)]) [] (mset g ms) (none, mset g (mres ms (copyQ (mq ms) a b))) := by
  refine zr_aload_n i_Mod_copyResults_0 rfl ?_
  refine zr_getf i_Mod_copyResults_1 rfl rfl rfl ?_
  refine zr_iload_n i_Mod_copyResults_4 rfl ?_
  refine zr_aload_n i_Mod_copyResults_5 rfl ?_
  refine zr_getf i_Mod_copyResults_6 rfl rfl rfl ?_
  refine zr_iload_n i_Mod_copyResults_9 rfl ?_
  refine zn_iaload i_Mod_copyResults_10 rfl (by omega) (by decide) ?_
  refine mn_iastore 22 101 i_Mod_copyResults_11 (fun _ => rfl) (by decide) (by omega) (by decide) ?_
  refine zn_iconst 0 i_Mod_copyResults_12 (by decide) ?_
  refine zr_istore_n i_Mod_copyResults_13 rfl ?_
  (have e := l_Mod_copyResults X d g ms a b ha hb hab 12 0 rfl
   have e2 : mres ms (upd (ms.2 22) b (ms.2 22 a), va_cpy (ms.2 23) (ms.2 23) (12 * a) (12 * b) 0, va_cpy (ms.2 24) (ms.2 24) (12 * a) (12 * b) 0) = (ms.1, va_up ms.2 22 (upd (ms.2 22) b (ms.2 22 a))) := by
     rw [zcpy_0, zcpy_0]
     unfold mres
     dsimp only
     rw [up_comm (i := 22) (j := 23) (by decide), up_self (f := ms.2) (i := 23), up_comm (i := 22) (j := 24) (by decide), up_self (f := ms.2) (i := 24)]
   rw [e2] at e
   exact e)
/-- a value, or none, for a code, in the rows from 1200 on; false where there is no room -/
def tryQ (q : zQ) (code v : Int32) : zQ × Bool :=
  if 0 ≤ v then (match resI q.2.1 code 1200 (q.1 100).toNatClampNeg with
    | none => if (q.1 100).toNatClampNeg = 12 then (q, false) else ((upd q.1 100 (nI ((q.1 100).toNatClampNeg + 1)), upd q.2.1 (1200 + (q.1 100).toNatClampNeg) code, upd q.2.2 (1200 + (q.1 100).toNatClampNeg) v), true)
    | some i => ((q.1, upd q.2.1 i code, upd q.2.2 i v), true))
  else (match resI q.2.1 code 1200 (q.1 100).toNatClampNeg with
    | none => (q, true)
    | some i => ((upd q.1 100 (nI ((q.1 100).toNatClampNeg - 1)), upd q.2.1 i (q.2.1 (1200 + (q.1 100).toNatClampNeg - 1)), upd q.2.2 i (q.2.2 (1200 + (q.1 100).toNatClampNeg - 1))), true))
theorem mres_3 (ms : zMS) (a b c : Nat → Int32) : (ms.1, va_up (va_up (va_up ms.2 23 a) 24 b) 22 c) = mres ms (c, a, b) := by
  unfold mres
  dsimp only
  rw [up_comm (i := 24) (j := 22) (by decide), up_comm (i := 23) (j := 22) (by decide)]
theorem mres_2 (ms : zMS) (a b : Nat → Int32) : (ms.1, va_up (va_up ms.2 23 a) 24 b) = mres ms (ms.2 22, a, b) := by
  unfold mres
  dsimp only
  rw [up_self (f := ms.2) (i := 22)]
theorem tryQ_ok {q : zQ} {n : Nat} (hn : q.1 100 = nI n) (hl : n ≤ 12) (code v : Int32) : ∃ m, (tryQ q code v).1.1 100 = nI m ∧ m ≤ 12 := by
  unfold tryQ
  rw [hn, nI_clamp (by omega)]
  split
  · split
    · split
      · exact ⟨n, hn, hl⟩
      · exact ⟨n + 1, (pk_us : upd q.1 100 (nI (n + 1)) 100 = _), by omega⟩
    · exact ⟨n, hn, hl⟩
  · split
    · exact ⟨n, hn, hl⟩
    · exact ⟨n - 1, (pk_us : upd q.1 100 (nI (n - 1)) 100 = _), by omega⟩
theorem i_Mod_tryValue_0 : zins 133 0 = some (.aload_n 0) := by decide +kernel
theorem i_Mod_tryValue_1 : zins 133 1 = some (.bipush 100) := by decide +kernel
theorem i_Mod_tryValue_3 : zins 133 3 = some (.iload_n 1) := by decide +kernel
theorem i_Mod_tryValue_4 : zins 133 4 = some (.invokevirtual 179) := by decide +kernel
theorem i_Mod_tryValue_7 : zins 133 7 = some (.istore_n 3) := by decide +kernel
theorem i_Mod_tryValue_8 : zins 133 8 = some (.sipush 1200) := by decide +kernel
theorem i_Mod_tryValue_11 : zins 133 11 = some (.aload_n 0) := by decide +kernel
theorem i_Mod_tryValue_12 : zins 133 12 = some (.getfield 75) := by decide +kernel
theorem i_Mod_tryValue_15 : zins 133 15 = some (.bipush 100) := by decide +kernel
theorem i_Mod_tryValue_17 : zins 133 17 = some (.iaload) := by decide +kernel
theorem i_Mod_tryValue_18 : zins 133 18 = some (.iadd) := by decide +kernel
theorem i_Mod_tryValue_19 : zins 133 19 = some (.iconst 1) := by decide +kernel
theorem i_Mod_tryValue_20 : zins 133 20 = some (.isub) := by decide +kernel
theorem i_Mod_tryValue_21 : zins 133 21 = some (.istore 4) := by decide +kernel
theorem i_Mod_tryValue_23 : zins 133 23 = some (.iload_n 2) := by decide +kernel
theorem i_Mod_tryValue_24 : zins 133 24 = some (.ifCond .ge 46) := by decide +kernel
theorem i_Mod_tryValue_27 : zins 133 27 = some (.iload_n 3) := by decide +kernel
theorem i_Mod_tryValue_28 : zins 133 28 = some (.ifCond .lt 40) := by decide +kernel
theorem i_Mod_tryValue_31 : zins 133 31 = some (.aload_n 0) := by decide +kernel
theorem i_Mod_tryValue_32 : zins 133 32 = some (.getfield 78) := by decide +kernel
theorem i_Mod_tryValue_35 : zins 133 35 = some (.iload_n 3) := by decide +kernel
theorem i_Mod_tryValue_36 : zins 133 36 = some (.aload_n 0) := by decide +kernel
theorem i_Mod_tryValue_37 : zins 133 37 = some (.getfield 78) := by decide +kernel
theorem i_Mod_tryValue_40 : zins 133 40 = some (.iload 4) := by decide +kernel
theorem i_Mod_tryValue_42 : zins 133 42 = some (.iaload) := by decide +kernel
theorem i_Mod_tryValue_43 : zins 133 43 = some (.iastore) := by decide +kernel
theorem i_Mod_tryValue_44 : zins 133 44 = some (.aload_n 0) := by decide +kernel
theorem i_Mod_tryValue_45 : zins 133 45 = some (.getfield 81) := by decide +kernel
theorem i_Mod_tryValue_48 : zins 133 48 = some (.iload_n 3) := by decide +kernel
theorem i_Mod_tryValue_49 : zins 133 49 = some (.aload_n 0) := by decide +kernel
theorem i_Mod_tryValue_50 : zins 133 50 = some (.getfield 81) := by decide +kernel
theorem i_Mod_tryValue_53 : zins 133 53 = some (.iload 4) := by decide +kernel
theorem i_Mod_tryValue_55 : zins 133 55 = some (.iaload) := by decide +kernel
theorem i_Mod_tryValue_56 : zins 133 56 = some (.iastore) := by decide +kernel
theorem i_Mod_tryValue_57 : zins 133 57 = some (.aload_n 0) := by decide +kernel
theorem i_Mod_tryValue_58 : zins 133 58 = some (.getfield 75) := by decide +kernel
theorem i_Mod_tryValue_61 : zins 133 61 = some (.bipush 100) := by decide +kernel
theorem i_Mod_tryValue_63 : zins 133 63 = some (.dup2) := by decide +kernel
theorem i_Mod_tryValue_64 : zins 133 64 = some (.iaload) := by decide +kernel
theorem i_Mod_tryValue_65 : zins 133 65 = some (.iconst 1) := by decide +kernel
theorem i_Mod_tryValue_66 : zins 133 66 = some (.isub) := by decide +kernel
theorem i_Mod_tryValue_67 : zins 133 67 = some (.iastore) := by decide +kernel
theorem i_Mod_tryValue_68 : zins 133 68 = some (.iconst 1) := by decide +kernel
theorem i_Mod_tryValue_69 : zins 133 69 = some (.ireturn) := by decide +kernel
theorem i_Mod_tryValue_70 : zins 133 70 = some (.iload_n 3) := by decide +kernel
theorem i_Mod_tryValue_71 : zins 133 71 = some (.ifCond .ge 17) := by decide +kernel
theorem i_Mod_tryValue_74 : zins 133 74 = some (.aload_n 0) := by decide +kernel
theorem i_Mod_tryValue_75 : zins 133 75 = some (.getfield 75) := by decide +kernel
theorem i_Mod_tryValue_78 : zins 133 78 = some (.bipush 100) := by decide +kernel
theorem i_Mod_tryValue_80 : zins 133 80 = some (.iaload) := by decide +kernel
theorem i_Mod_tryValue_81 : zins 133 81 = some (.bipush 12) := by decide +kernel
theorem i_Mod_tryValue_83 : zins 133 83 = some (.if_icmp .ne 5) := by decide +kernel
theorem i_Mod_tryValue_86 : zins 133 86 = some (.iconst 0) := by decide +kernel
theorem i_Mod_tryValue_87 : zins 133 87 = some (.ireturn) := by decide +kernel
theorem i_Mod_tryValue_88 : zins 133 88 = some (.iload_n 3) := by decide +kernel
theorem i_Mod_tryValue_89 : zins 133 89 = some (.ifCond .ge 19) := by decide +kernel
theorem i_Mod_tryValue_92 : zins 133 92 = some (.iload 4) := by decide +kernel
theorem i_Mod_tryValue_94 : zins 133 94 = some (.iconst 1) := by decide +kernel
theorem i_Mod_tryValue_95 : zins 133 95 = some (.iadd) := by decide +kernel
theorem i_Mod_tryValue_96 : zins 133 96 = some (.istore_n 3) := by decide +kernel
theorem i_Mod_tryValue_97 : zins 133 97 = some (.aload_n 0) := by decide +kernel
theorem i_Mod_tryValue_98 : zins 133 98 = some (.getfield 75) := by decide +kernel
theorem i_Mod_tryValue_101 : zins 133 101 = some (.bipush 100) := by decide +kernel
theorem i_Mod_tryValue_103 : zins 133 103 = some (.dup2) := by decide +kernel
theorem i_Mod_tryValue_104 : zins 133 104 = some (.iaload) := by decide +kernel
theorem i_Mod_tryValue_105 : zins 133 105 = some (.iconst 1) := by decide +kernel
theorem i_Mod_tryValue_106 : zins 133 106 = some (.iadd) := by decide +kernel
theorem i_Mod_tryValue_107 : zins 133 107 = some (.iastore) := by decide +kernel
theorem i_Mod_tryValue_108 : zins 133 108 = some (.aload_n 0) := by decide +kernel
theorem i_Mod_tryValue_109 : zins 133 109 = some (.getfield 78) := by decide +kernel
theorem i_Mod_tryValue_112 : zins 133 112 = some (.iload_n 3) := by decide +kernel
theorem i_Mod_tryValue_113 : zins 133 113 = some (.iload_n 1) := by decide +kernel
theorem i_Mod_tryValue_114 : zins 133 114 = some (.iastore) := by decide +kernel
theorem i_Mod_tryValue_115 : zins 133 115 = some (.aload_n 0) := by decide +kernel
theorem i_Mod_tryValue_116 : zins 133 116 = some (.getfield 81) := by decide +kernel
theorem i_Mod_tryValue_119 : zins 133 119 = some (.iload_n 3) := by decide +kernel
theorem i_Mod_tryValue_120 : zins 133 120 = some (.iload_n 2) := by decide +kernel
theorem i_Mod_tryValue_121 : zins 133 121 = some (.iastore) := by decide +kernel
theorem i_Mod_tryValue_122 : zins 133 122 = some (.iconst 1) := by decide +kernel
theorem i_Mod_tryValue_123 : zins 133 123 = some (.ireturn) := by decide +kernel
theorem e_Mod_tryValue (X : zX) (d : Nat) (g : zH) (ms : zMS) (n : Nat) (hn : ms.2 22 100 = nI n) (hl : n ≤ 12) (code v : Int32) : zR X (d + 1) 133 0 (zent 5 [.ref 129, .int code, .int v]) [] (mset g ms) (some (.int (zb (tryQ (mq ms) code v).2)), mset g (mres ms (tryQ (mq ms) code v).1)) := by
  refine zr_aload_n i_Mod_tryValue_0 rfl ?_
  refine zn_bipush 100 i_Mod_tryValue_1 (by decide) ?_
  refine zr_iload_n i_Mod_tryValue_3 rfl ?_
  refine zr_cv2 i_Mod_tryValue_4 rfl (by decide) rfl (Nat.le_of_ble_eq_true rfl) (Nat.le_of_ble_eq_true rfl) (e_Mod_resultAt X _ g _ _ n _ hn hl (by decide)) ?_
  refine zr_istore_n i_Mod_tryValue_7 rfl ?_
  refine zn_sipush 1200 i_Mod_tryValue_8 (by decide) ?_
  refine zr_aload_n i_Mod_tryValue_11 rfl ?_
  refine zr_getf i_Mod_tryValue_12 rfl rfl rfl ?_
  refine zn_bipush 100 i_Mod_tryValue_15 (by decide) ?_
  refine zn_iaload i_Mod_tryValue_17 rfl (by omega) (by decide) ?_
  refine zr_top (y := nI n) hn ?_
  refine zn_iadd i_Mod_tryValue_18 ?_
  refine zn_iconst 1 i_Mod_tryValue_19 (by decide) ?_
  refine zn_isub i_Mod_tryValue_20 (by omega) ?_
  refine zr_istore i_Mod_tryValue_21 rfl ?_
  (cases e : resI (ms.2 23) code 1200 n with
  | none =>
    refine zr_iload_n i_Mod_tryValue_23 rfl ?_
    refine zr_if_ge 70 i_Mod_tryValue_24 (by decide) (fun c_24 => ?_) (fun c_24 => ?_)
    · skip
      refine zr_iload_n i_Mod_tryValue_70 rfl ?_
      refine zr_if_ge 88 i_Mod_tryValue_71 (by decide) (fun q => absurd q (by decide)) (fun _ => ?_)
      refine zr_aload_n i_Mod_tryValue_74 rfl ?_
      refine zr_getf i_Mod_tryValue_75 rfl rfl rfl ?_
      refine zn_bipush 100 i_Mod_tryValue_78 (by decide) ?_
      refine zn_iaload i_Mod_tryValue_80 rfl (by omega) (by decide) ?_
      refine zr_top (y := nI n) hn ?_
      refine zn_bipush 12 i_Mod_tryValue_81 (by decide) ?_
      refine zn_icmp_ne 88 i_Mod_tryValue_83 (by decide) (by omega) (by omega) (fun c_83 => ?_) (fun c_83 => ?_)
      · skip
        refine zr_iload_n i_Mod_tryValue_88 rfl ?_
        refine zr_if_ge 108 i_Mod_tryValue_89 (by decide) (fun q => absurd q (by decide)) (fun _ => ?_)
        refine zr_iload i_Mod_tryValue_92 rfl ?_
        refine zn_iconst 1 i_Mod_tryValue_94 (by decide) ?_
        refine zn_iadd i_Mod_tryValue_95 ?_
        refine zr_istore_n i_Mod_tryValue_96 rfl ?_
        refine zr_aload_n i_Mod_tryValue_97 rfl ?_
        refine zr_getf i_Mod_tryValue_98 rfl rfl rfl ?_
        refine zn_bipush 100 i_Mod_tryValue_101 (by decide) ?_
        refine zr_dup2 i_Mod_tryValue_103 rfl rfl ?_
        refine zn_iaload i_Mod_tryValue_104 rfl (by omega) (by decide) ?_
        refine zr_top (y := nI n) hn ?_
        refine zn_iconst 1 i_Mod_tryValue_105 (by decide) ?_
        refine zn_iadd i_Mod_tryValue_106 ?_
        refine mn_iastore 22 101 i_Mod_tryValue_107 (fun _ => rfl) (by decide) (by omega) (by decide) ?_
        refine zr_aload_n i_Mod_tryValue_108 rfl ?_
        refine zr_getf i_Mod_tryValue_109 rfl rfl rfl ?_
        refine zr_iload_n i_Mod_tryValue_112 rfl ?_
        refine zr_iload_n i_Mod_tryValue_113 rfl ?_
        refine mn_iastore 23 1212 i_Mod_tryValue_114 (fun _ => rfl) (by decide) (by omega) (by decide) ?_
        refine zr_aload_n i_Mod_tryValue_115 rfl ?_
        refine zr_getf i_Mod_tryValue_116 rfl rfl rfl ?_
        refine zr_iload_n i_Mod_tryValue_119 rfl ?_
        refine zr_iload_n i_Mod_tryValue_120 rfl ?_
        refine mn_iastore 24 1212 i_Mod_tryValue_121 (fun _ => rfl) (by decide) (by omega) (by decide) ?_
        refine zr_iconst i_Mod_tryValue_122 (v := 1) (by decide) ?_
        (refine zR.retE i_Mod_tryValue_123 rfl ?_
         rw [show tryQ (mq ms) code v = ((upd (ms.2 22) 100 (nI (n + 1)), upd (ms.2 23) (1200 + n) code, upd (ms.2 24) (1200 + n) v), true) from (by unfold tryQ; rw [show (mq ms).1 100 = nI n from hn, nI_clamp (show n < 2 ^ 31 by omega), show resI (mq ms).2.1 code 1200 n = _ from e]; simp [*, mq])]
         rw [← mres_3, show 1200 + n = 1200 + n - 1 + 1 by omega, up_comm (i := 24) (j := 22) (by decide), up_comm (i := 23) (j := 22) (by decide)]; rfl)
      · skip
        refine zr_iconst i_Mod_tryValue_86 (v := 0) (by decide) ?_
        (refine zR.retE i_Mod_tryValue_87 rfl ?_
         rw [show tryQ (mq ms) code v = ((mq ms), false) from (by unfold tryQ; rw [show (mq ms).1 100 = nI n from hn, nI_clamp (show n < 2 ^ 31 by omega), show resI (mq ms).2.1 code 1200 n = _ from e]; simp [*, mq])]
         rw [mres_self]; rfl)
    · skip
      refine zr_iload_n i_Mod_tryValue_27 rfl ?_
      refine zr_if_lt 68 i_Mod_tryValue_28 (by decide) (fun _ => ?_) (fun q => absurd (by decide) q)
      refine zr_iconst i_Mod_tryValue_68 (v := 1) (by decide) ?_
      (refine zR.retE i_Mod_tryValue_69 rfl ?_
       rw [show tryQ (mq ms) code v = ((mq ms), true) from (by unfold tryQ; rw [show (mq ms).1 100 = nI n from hn, nI_clamp (show n < 2 ^ 31 by omega), show resI (mq ms).2.1 code 1200 n = _ from e]; simp [*, mq])]
       rw [mres_self]; rfl)
  | some i =>
    have hi := zfst_some (P := fun i => decide (ms.2 23 i = code)) e
    refine zr_iload_n i_Mod_tryValue_23 rfl ?_
    refine zr_if_ge 70 i_Mod_tryValue_24 (by decide) (fun c_24 => ?_) (fun c_24 => ?_)
    · skip
      refine zr_iload_n i_Mod_tryValue_70 rfl ?_
      refine zN_if_ge 88 i_Mod_tryValue_71 (by decide) (by omega) ?_
      refine zr_iload_n i_Mod_tryValue_88 rfl ?_
      refine zN_if_ge 108 i_Mod_tryValue_89 (by decide) (by omega) ?_
      refine zr_aload_n i_Mod_tryValue_108 rfl ?_
      refine zr_getf i_Mod_tryValue_109 rfl rfl rfl ?_
      refine zr_iload_n i_Mod_tryValue_112 rfl ?_
      refine zr_iload_n i_Mod_tryValue_113 rfl ?_
      refine mn_iastore 23 1212 i_Mod_tryValue_114 (fun _ => rfl) (by decide) (by omega) (by decide) ?_
      refine zr_aload_n i_Mod_tryValue_115 rfl ?_
      refine zr_getf i_Mod_tryValue_116 rfl rfl rfl ?_
      refine zr_iload_n i_Mod_tryValue_119 rfl ?_
      refine zr_iload_n i_Mod_tryValue_120 rfl ?_
      refine mn_iastore 24 1212 i_Mod_tryValue_121 (fun _ => rfl) (by decide) (by omega) (by decide) ?_
      refine zr_iconst i_Mod_tryValue_122 (v := 1) (by decide) ?_
      (refine zR.retE i_Mod_tryValue_123 rfl ?_
       rw [show tryQ (mq ms) code v = ((ms.2 22, upd (ms.2 23) i code, upd (ms.2 24) i v), true) from (by unfold tryQ; rw [show (mq ms).1 100 = nI n from hn, nI_clamp (show n < 2 ^ 31 by omega), show resI (mq ms).2.1 code 1200 n = _ from e]; simp [*, mq])]
       rw [← mres_2]; rfl)
    · skip
      refine zr_iload_n i_Mod_tryValue_27 rfl ?_
      refine zN_if_lt 68 i_Mod_tryValue_28 (by decide) (by omega) ?_
      refine zr_aload_n i_Mod_tryValue_31 rfl ?_
      refine zr_getf i_Mod_tryValue_32 rfl rfl rfl ?_
      refine zr_iload_n i_Mod_tryValue_35 rfl ?_
      refine zr_aload_n i_Mod_tryValue_36 rfl ?_
      refine zr_getf i_Mod_tryValue_37 rfl rfl rfl ?_
      refine zr_iload i_Mod_tryValue_40 rfl ?_
      refine zn_iaload i_Mod_tryValue_42 rfl (by omega) (by decide) ?_
      refine mn_iastore 23 1212 i_Mod_tryValue_43 (fun _ => rfl) (by decide) (by omega) (by decide) ?_
      refine zr_aload_n i_Mod_tryValue_44 rfl ?_
      refine zr_getf i_Mod_tryValue_45 rfl rfl rfl ?_
      refine zr_iload_n i_Mod_tryValue_48 rfl ?_
      refine zr_aload_n i_Mod_tryValue_49 rfl ?_
      refine zr_getf i_Mod_tryValue_50 rfl rfl rfl ?_
      refine zr_iload i_Mod_tryValue_53 rfl ?_
      refine zn_iaload i_Mod_tryValue_55 rfl (by omega) (by decide) ?_
      refine mn_iastore 24 1212 i_Mod_tryValue_56 (fun _ => rfl) (by decide) (by omega) (by decide) ?_
      refine zr_aload_n i_Mod_tryValue_57 rfl ?_
      refine zr_getf i_Mod_tryValue_58 rfl rfl rfl ?_
      refine zn_bipush 100 i_Mod_tryValue_61 (by decide) ?_
      refine zr_dup2 i_Mod_tryValue_63 rfl rfl ?_
      refine zn_iaload i_Mod_tryValue_64 rfl (by omega) (by decide) ?_
      refine zr_top (y := nI n) hn ?_
      refine zn_iconst 1 i_Mod_tryValue_65 (by decide) ?_
      refine zn_isub i_Mod_tryValue_66 (by omega) ?_
      refine mn_iastore 22 101 i_Mod_tryValue_67 (fun _ => rfl) (by decide) (by omega) (by decide) ?_
      refine zr_iconst i_Mod_tryValue_68 (v := 1) (by decide) ?_
      (refine zR.retE i_Mod_tryValue_69 rfl ?_
       rw [show tryQ (mq ms) code v = ((upd (ms.2 22) 100 (nI (n - 1)), upd (ms.2 23) i (ms.2 23 (1200 + n - 1)), upd (ms.2 24) i (ms.2 24 (1200 + n - 1))), true) from (by unfold tryQ; rw [show (mq ms).1 100 = nI n from hn, nI_clamp (show n < 2 ^ 31 by omega), show resI (mq ms).2.1 code 1200 n = _ from e]; simp [*, mq])]
       rw [← mres_3]; rfl))
