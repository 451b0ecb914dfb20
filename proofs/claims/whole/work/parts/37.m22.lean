/-! THE REFERENCE: type -/
theorem zr_topL {X : zX} {d j pc : Nat} {L : zL} {r : List Value} {h : zH} {u : Option Value × zH} {x y : Int64} (e : x = y) (k : zR X d j pc L (.long y :: r) h u) : zR X d j pc L (.long x :: r) h u := by rw [e]; exact k
/-- the k-th byte of a long -/
def bt (x : Int64) (k : Nat) : Nat := x.toBitVec.toNat / 2 ^ (8 * k) % 256
theorem bt_lt (x : Int64) (k : Nat) : bt x k < 256 := Nat.mod_lt _ (by decide)
theorem sh_cnt : ∀ k : Fin 8, ((nI (8 * k.val)).toInt64.toUInt64 &&& Int64.toUInt64 63) = UInt64.ofNat (8 * k.val) := by decide +kernel
theorem sh_val (x : Int64) {k : Nat} (hk : k < 8) : ((x.toUInt64 >>> ((nI (8 * k)).toInt64.toUInt64 &&& Int64.toUInt64 63)).toInt64).toBitVec.toNat = x.toBitVec.toNat / 2 ^ (8 * k) := by
  have e := sh_cnt ⟨k, hk⟩
  dsimp only at e
  rw [e]
  show (x.toBitVec >>> (BitVec.ofNat 64 (8 * k) % 64)).toNat = _
  have e2 : (BitVec.ofNat 64 (8 * k) % 64).toNat = 8 * k := by
    rw [BitVec.toNat_umod, BitVec.toNat_ofNat]
    show 8 * k % 18446744073709551616 % 64 = 8 * k
    omega
  rw [BitVec.ushiftRight_eq', BitVec.toNat_ushiftRight, e2, Nat.shiftRight_eq_div_pow]
theorem bt_long (x : Int64) {k : Nat} (hk : k < 8) : ((x.toUInt64 >>> ((nI (8 * k)).toInt64.toUInt64 &&& Int64.toUInt64 63)).toInt64 &&& 255) = lN (bt x k) := by
  apply Int64.toBitVec_inj.mp
  apply BitVec.eq_of_toNat_eq
  show ((((x.toUInt64 >>> ((nI (8 * k)).toInt64.toUInt64 &&& Int64.toUInt64 63)).toInt64).toBitVec &&& BitVec.ofNat 64 255)).toNat = (BitVec.ofNat 64 (bt x k)).toNat
  rw [BitVec.toNat_and, sh_val x hk, BitVec.toNat_ofNat, BitVec.toNat_ofNat]
  have hb := bt_lt x k
  show x.toBitVec.toNat / 2 ^ (8 * k) &&& 255 = bt x k % 18446744073709551616
  rw [show (255 : Nat) = 2 ^ 8 - 1 from rfl, Nat.and_two_pow_sub_one_eq_mod, Nat.mod_eq_of_lt (by omega : bt x k < 18446744073709551616)]
  rfl
theorem bt_int (x : Int64) {k : Nat} (hk : k < 8) : ((x.toUInt64 >>> ((nI (8 * k)).toInt64.toUInt64 &&& Int64.toUInt64 63)).toInt64.toInt32 &&& 255) = nI (bt x k) := by
  apply Int32.toBitVec_inj.mp
  apply BitVec.eq_of_toNat_eq
  show ((((x.toUInt64 >>> ((nI (8 * k)).toInt64.toUInt64 &&& Int64.toUInt64 63)).toInt64).toBitVec.signExtend 32 &&& BitVec.ofNat 32 255)).toNat = (BitVec.ofNat 32 (bt x k)).toNat
  rw [BitVec.signExtend_eq_setWidth_of_le _ (by decide), BitVec.toNat_and, BitVec.toNat_setWidth, sh_val x hk, BitVec.toNat_ofNat, BitVec.toNat_ofNat]
  have hb := bt_lt x k
  show x.toBitVec.toNat / 2 ^ (8 * k) % 4294967296 &&& 255 = bt x k % 4294967296
  rw [show (255 : Nat) = 2 ^ 8 - 1 from rfl, Nat.and_two_pow_sub_one_eq_mod, Nat.mod_eq_of_lt (by omega : bt x k < 4294967296)]
  unfold bt
  rw [show (2 : Nat) ^ 8 = 256 from rfl]
  omega
theorem lN_lt2 {a b : Nat} (ha : a < 256) (hb : b < 256) : lN a < lN b ↔ a < b := by
  exact pk_lLT (by omega) (by omega)
theorem lN_eq2 {a b : Nat} (ha : a < 256) (hb : b < 256) : lN a = lN b ↔ a = b := by
  refine ⟨fun e => ?_, fun e => by rw [e]⟩
  rcases Nat.lt_trichotomy a b with q | q | q
  · have := (lN_lt2 ha hb).mpr q
    rw [e] at this
    exact absurd ((lN_lt2 hb hb).mp this) (by omega)
  · exact q
  · have := (lN_lt2 hb ha).mpr q
    rw [e] at this
    exact absurd ((lN_lt2 hb hb).mp this) (by omega)
theorem cmp_val {a b : Nat} (ha : a < 256) (hb : b < 256) : lg_cmp (lN a) (lN b) = if b < a then 1 else if a = b then 0 else -1 := by
  unfold lg_cmp
  by_cases h1 : b < a
  · rw [if_pos h1, if_pos ((lN_lt2 hb ha).mpr h1)]
  · rw [if_neg h1, if_neg (fun q => h1 ((lN_lt2 hb ha).mp q))]
    by_cases h2 : a = b
    · rw [if_pos h2, if_pos ((lN_eq2 ha hb).mpr h2)]
    · rw [if_neg h2, if_neg (fun q => h2 ((lN_eq2 ha hb).mp q))]
theorem cmp_e {a b : Nat} (ha : a < 256) (hb : b < 256) (h : a = b) : lg_cmp (lN a) (lN b) = 0 := by
  rw [cmp_val ha hb, if_neg (by omega), if_pos h]
theorem cmp_n {a b : Nat} (ha : a < 256) (hb : b < 256) (h : a ≠ b) : ¬ lg_cmp (lN a) (lN b) = 0 := by
  rw [cmp_val ha hb]
  by_cases h1 : b < a
  · rw [if_pos h1]; decide
  · rw [if_neg h1, if_neg h]; decide
theorem cmp_l {a b : Nat} (ha : a < 256) (hb : b < 256) (h : a < b) : lg_cmp (lN a) (lN b) < 0 := by
  rw [cmp_val ha hb, if_neg (by omega), if_neg (by omega)]; decide
theorem cmp_nl {a b : Nat} (ha : a < 256) (hb : b < 256) (h : b ≤ a) : ¬ lg_cmp (lN a) (lN b) < 0 := by
  rw [cmp_val ha hb]
  by_cases h1 : b < a
  · rw [if_pos h1]; decide
  · rw [if_neg h1, if_pos (by omega)]; decide
theorem cmp_le {a b : Nat} (ha : a < 256) (hb : b < 256) (h : a ≤ b) : lg_cmp (lN a) (lN b) ≤ 0 := by
  rw [cmp_val ha hb, if_neg (by omega)]
  by_cases h1 : a = b
  · rw [if_pos h1]; decide
  · rw [if_neg h1]; decide
theorem cmp_nle {a b : Nat} (ha : a < 256) (hb : b < 256) (h : b < a) : ¬ lg_cmp (lN a) (lN b) ≤ 0 := by
  rw [cmp_val ha hb, if_pos h]; decide
theorem bt_chr (x : Int64) (k : Nat) : (((lN (bt x k)).toInt32).toUInt32 % 65536).toInt32 = nI (bt x k) := by
  rw [lN_i]
  exact (show ∀ c : Fin 256, ((nI c.val).toUInt32 % 65536).toInt32 = nI c.val by decide +kernel) ⟨bt x k, bt_lt x k⟩
theorem zch_bt {c : Nat} (h : c < 256) : zch (nI c) := (show ∀ c : Fin 256, vp_nar .char (nI c.val) = nI c.val by decide +kernel) ⟨c, h⟩
def okB (c : Nat) : Bool := decide (c = 13) || (decide (32 ≤ c) && decide (c ≤ 126))
def tyL (x : Int64) (k m : Nat) : Option Nat := match m with
  | 0 => some k
  | m + 1 => if bt x k = 0 then some k else if okB (bt x k) = true then tyL x (k + 1) m else none
def tyF (x : Int64) : Option Nat := tyL x 0 8
theorem tyL_le {x : Int64} : ∀ {m k n : Nat}, tyL x k m = some n → n ≤ k + m := by
  intro m
  induction m with
  | zero => intro k n h; rw [tyL] at h; cases h; omega
  | succ m ih =>
    intro k n h
    rw [tyL] at h
    split at h
    · cases h; omega
    · split at h
      · have := ih h; omega
      · cases h
def mty (ms : zMS) (sz : Nat) (x : Int64) (n : Nat) : zMS := (va_up ms.1 0 (nI (sz + n)), va_up ms.2 1 (zpas (ms.2 1) sz (fun i => nI (bt x i)) n))
theorem mty_0 {ms : zMS} {sz : Nat} (x : Int64) (h : ms.1 0 = nI sz) : mty ms sz x 0 = ms := by
  unfold mty
  rw [zpas_0, up_self, Nat.add_zero, ← h, up_self]
theorem i_Mod_type_0 : zins 97 0 = some (.iconst 0) := by decide +kernel
theorem i_Mod_type_1 : zins 97 1 = some (.istore_n 3) := by decide +kernel
theorem i_Mod_type_2 : zins 97 2 = some (.iconst 0) := by decide +kernel
theorem i_Mod_type_3 : zins 97 3 = some (.istore 4) := by decide +kernel
theorem i_Mod_type_5 : zins 97 5 = some (.iload 4) := by decide +kernel
theorem i_Mod_type_7 : zins 97 7 = some (.bipush 8) := by decide +kernel
theorem i_Mod_type_9 : zins 97 9 = some (.if_icmp .ge 79) := by decide +kernel
theorem i_Mod_type_12 : zins 97 12 = some (.iload_n 3) := by decide +kernel
theorem i_Mod_type_13 : zins 97 13 = some (.iload 4) := by decide +kernel
theorem i_Mod_type_15 : zins 97 15 = some (.if_icmp .ne 73) := by decide +kernel
theorem i_Mod_type_18 : zins 97 18 = some (.lload_n 1) := by decide +kernel
theorem i_Mod_type_19 : zins 97 19 = some (.bipush 8) := by decide +kernel
theorem i_Mod_type_21 : zins 97 21 = some (.iload 4) := by decide +kernel
theorem i_Mod_type_23 : zins 97 23 = some (.imul) := by decide +kernel
theorem i_Mod_type_24 : zins 97 24 = some (.lushr) := by decide +kernel
theorem i_Mod_type_25 : zins 97 25 = some (.ldc2_w 90) := by decide +kernel
theorem i_Mod_type_28 : zins 97 28 = some (.land) := by decide +kernel
theorem i_Mod_type_29 : zins 97 29 = some (.lstore 5) := by decide +kernel
theorem i_Mod_type_31 : zins 97 31 = some (.lload 5) := by decide +kernel
theorem i_Mod_type_33 : zins 97 33 = some (.lconst 0) := by decide +kernel
theorem i_Mod_type_34 : zins 97 34 = some (.lcmp) := by decide +kernel
theorem i_Mod_type_35 : zins 97 35 = some (.ifCond .eq 32) := by decide +kernel
theorem i_Mod_type_38 : zins 97 38 = some (.lload 5) := by decide +kernel
theorem i_Mod_type_40 : zins 97 40 = some (.ldc2_w 92) := by decide +kernel
theorem i_Mod_type_43 : zins 97 43 = some (.lcmp) := by decide +kernel
theorem i_Mod_type_44 : zins 97 44 = some (.ifCond .eq 23) := by decide +kernel
theorem i_Mod_type_47 : zins 97 47 = some (.lload 5) := by decide +kernel
theorem i_Mod_type_49 : zins 97 49 = some (.ldc2_w 94) := by decide +kernel
theorem i_Mod_type_52 : zins 97 52 = some (.lcmp) := by decide +kernel
theorem i_Mod_type_53 : zins 97 53 = some (.ifCond .lt 12) := by decide +kernel
theorem i_Mod_type_56 : zins 97 56 = some (.lload 5) := by decide +kernel
theorem i_Mod_type_58 : zins 97 58 = some (.ldc2_w 96) := by decide +kernel
theorem i_Mod_type_61 : zins 97 61 = some (.lcmp) := by decide +kernel
theorem i_Mod_type_62 : zins 97 62 = some (.ifCond .le 5) := by decide +kernel
theorem i_Mod_type_65 : zins 97 65 = some (.iconst (-1)) := by decide +kernel
theorem i_Mod_type_66 : zins 97 66 = some (.ireturn) := by decide +kernel
theorem i_Mod_type_67 : zins 97 67 = some (.lload 5) := by decide +kernel
theorem i_Mod_type_69 : zins 97 69 = some (.lconst 0) := by decide +kernel
theorem i_Mod_type_70 : zins 97 70 = some (.lcmp) := by decide +kernel
theorem i_Mod_type_71 : zins 97 71 = some (.ifCond .ne 7) := by decide +kernel
theorem i_Mod_type_74 : zins 97 74 = some (.iload_n 3) := by decide +kernel
theorem i_Mod_type_75 : zins 97 75 = some (.goto 6) := by decide +kernel
theorem i_Mod_type_78 : zins 97 78 = some (.iload_n 3) := by decide +kernel
theorem i_Mod_type_79 : zins 97 79 = some (.iconst 1) := by decide +kernel
theorem i_Mod_type_80 : zins 97 80 = some (.iadd) := by decide +kernel
theorem i_Mod_type_81 : zins 97 81 = some (.istore_n 3) := by decide +kernel
theorem i_Mod_type_82 : zins 97 82 = some (.iinc 4 1) := by decide +kernel
theorem i_Mod_type_85 : zins 97 85 = some (.goto (-80)) := by decide +kernel
theorem i_Mod_type_88 : zins 97 88 = some (.aload_n 0) := by decide +kernel
theorem i_Mod_type_89 : zins 97 89 = some (.getfield 98) := by decide +kernel
theorem i_Mod_type_92 : zins 97 92 = some (.iload_n 3) := by decide +kernel
theorem i_Mod_type_93 : zins 97 93 = some (.iadd) := by decide +kernel
theorem i_Mod_type_94 : zins 97 94 = some (.sipush 200) := by decide +kernel
theorem i_Mod_type_97 : zins 97 97 = some (.if_icmp .le 5) := by decide +kernel
theorem i_Mod_type_100 : zins 97 100 = some (.iconst (-1)) := by decide +kernel
theorem i_Mod_type_101 : zins 97 101 = some (.ireturn) := by decide +kernel
theorem i_Mod_type_102 : zins 97 102 = some (.iconst 0) := by decide +kernel
theorem i_Mod_type_103 : zins 97 103 = some (.istore 4) := by decide +kernel
theorem i_Mod_type_105 : zins 97 105 = some (.iload 4) := by decide +kernel
theorem i_Mod_type_107 : zins 97 107 = some (.iload_n 3) := by decide +kernel
theorem i_Mod_type_108 : zins 97 108 = some (.if_icmp .ge 41) := by decide +kernel
theorem i_Mod_type_111 : zins 97 111 = some (.aload_n 0) := by decide +kernel
theorem i_Mod_type_112 : zins 97 112 = some (.getfield 7) := by decide +kernel
theorem i_Mod_type_115 : zins 97 115 = some (.aload_n 0) := by decide +kernel
theorem i_Mod_type_116 : zins 97 116 = some (.getfield 98) := by decide +kernel
theorem i_Mod_type_119 : zins 97 119 = some (.lload_n 1) := by decide +kernel
theorem i_Mod_type_120 : zins 97 120 = some (.bipush 8) := by decide +kernel
theorem i_Mod_type_122 : zins 97 122 = some (.iload 4) := by decide +kernel
theorem i_Mod_type_124 : zins 97 124 = some (.imul) := by decide +kernel
theorem i_Mod_type_125 : zins 97 125 = some (.lushr) := by decide +kernel
theorem i_Mod_type_126 : zins 97 126 = some (.ldc2_w 90) := by decide +kernel
theorem i_Mod_type_129 : zins 97 129 = some (.land) := by decide +kernel
theorem i_Mod_type_130 : zins 97 130 = some (.l2i) := by decide +kernel
theorem i_Mod_type_131 : zins 97 131 = some (.i2c) := by decide +kernel
theorem i_Mod_type_132 : zins 97 132 = some (.castore) := by decide +kernel
theorem i_Mod_type_133 : zins 97 133 = some (.aload_n 0) := by decide +kernel
theorem i_Mod_type_134 : zins 97 134 = some (.dup) := by decide +kernel
theorem i_Mod_type_135 : zins 97 135 = some (.getfield 98) := by decide +kernel
theorem i_Mod_type_138 : zins 97 138 = some (.iconst 1) := by decide +kernel
theorem i_Mod_type_139 : zins 97 139 = some (.iadd) := by decide +kernel
theorem i_Mod_type_140 : zins 97 140 = some (.putfield 98) := by decide +kernel
theorem i_Mod_type_143 : zins 97 143 = some (.iinc 4 1) := by decide +kernel
theorem i_Mod_type_146 : zins 97 146 = some (.goto (-41)) := by decide +kernel
theorem i_Mod_type_149 : zins 97 149 = some (.iload_n 3) := by decide +kernel
theorem i_Mod_type_150 : zins 97 150 = some (.ireturn) := by decide +kernel
theorem l_Mod_type (X : zX) (d : Nat) (g : zH) (ms : zMS) (x : Int64) (U : Nat → Option Value × zH) : ∀ (m k : Nat) (a b : Option Value), k + m = 8 → (∀ n, tyL x k m = some n → ∀ (y : Int32) (a b : Option Value), zR X d 97 88 [some (.ref 129), some (.long x), none, some (.int (nI n)), some (.int y), a, b] [] (mset g ms) (U n)) → zR X d 97 5 [some (.ref 129), some (.long x), none, some (.int (nI k)), some (.int (nI k)), a, b] [] (mset g ms) (match tyL x k m with | none => (some (Value.int (-1)), mset g ms) | some n => U n) := by
  intro m
  induction m with
  | zero =>
    intro k a b hk K
    have K := K k rfl
    show zR X d 97 5 _ [] _ (U k)
    refine zr_iload i_Mod_type_5 rfl ?_
    refine zn_bipush 8 i_Mod_type_7 (by decide) ?_
    refine zn_icmp_ge 88 i_Mod_type_9 (by decide) (by omega) (by omega) (fun c_9 => ?_) (fun q => absurd q (by omega))
    exact K _ _ _
  | succ m ih =>
    intro k a b hk K
    by_cases h0 : bt x k = 0
    · have K := K k (by rw [tyL, if_pos h0])
      rw [tyL, if_pos h0]
      show zR X d 97 5 _ [] _ (U k)
      have hz : ∀ (c : Option Value), zR X d 97 5 [some (.ref 129), some (.long x), none, some (.int (nI k)), some (.int (nI (k + 1))), (some (.long (lN (bt x k)))), c] [] (mset g ms) (U k) := by
        intro c
        by_cases h8 : k + 1 = 8
        · skip
          refine zr_iload i_Mod_type_5 rfl ?_
          refine zn_bipush 8 i_Mod_type_7 (by decide) ?_
          refine zn_icmp_ge 88 i_Mod_type_9 (by decide) (by omega) (by omega) (fun c_9 => ?_) (fun q => absurd q (by omega))
          exact K _ _ _
        · skip
          refine zr_iload i_Mod_type_5 rfl ?_
          refine zn_bipush 8 i_Mod_type_7 (by decide) ?_
          refine zn_icmp_ge 88 i_Mod_type_9 (by decide) (by omega) (by omega) (fun q => absurd q (by omega)) (fun c_9 => ?_)
          refine zr_iload_n i_Mod_type_12 rfl ?_
          refine zr_iload i_Mod_type_13 rfl ?_
          refine zn_icmp_ne 88 i_Mod_type_15 (by decide) (by omega) (by omega) (fun c_15 => ?_) (fun q => absurd q (by omega))
          exact K _ _ _
      refine zr_iload i_Mod_type_5 rfl ?_
      refine zn_bipush 8 i_Mod_type_7 (by decide) ?_
      refine zn_icmp_ge 88 i_Mod_type_9 (by decide) (by omega) (by omega) (fun q => absurd q (by omega)) (fun c_9 => ?_)
      refine zr_iload_n i_Mod_type_12 rfl ?_
      refine zr_iload i_Mod_type_13 rfl ?_
      refine zn_icmp_ne 88 i_Mod_type_15 (by decide) (by omega) (by omega) (fun q => absurd q (by simp)) (fun c_15 => ?_)
      refine zr_lload_n i_Mod_type_18 rfl ?_
      refine zn_bipush 8 i_Mod_type_19 (by decide) ?_
      refine zr_iload i_Mod_type_21 rfl ?_
      refine zn_imul i_Mod_type_23 ?_
      refine zr_lushr i_Mod_type_24 ?_
      refine zr_ldc2 i_Mod_type_25 rfl ?_
      refine zr_land i_Mod_type_28 ?_
      refine zr_topL (bt_long x (by omega)) ?_
      refine zr_lstore i_Mod_type_29 rfl ?_
      refine zr_lload i_Mod_type_31 rfl ?_
      refine zr_lconst i_Mod_type_33 (v := 0) (by decide) ?_
      refine zr_lcmp i_Mod_type_34 ?_
      refine zr_if_eq 67 i_Mod_type_35 (by decide) (fun _ => ?_) (fun q => absurd (cmp_e (bt_lt x k) (b := 0) (by decide) h0) q)
      refine zr_lload i_Mod_type_67 rfl ?_
      refine zr_lconst i_Mod_type_69 (v := 0) (by decide) ?_
      refine zr_lcmp i_Mod_type_70 ?_
      refine zr_if_ne 78 i_Mod_type_71 (by decide) (fun q => absurd q (fun z => z (cmp_e (bt_lt x k) (b := 0) (by decide) h0))) (fun _ => ?_)
      refine zr_iload_n i_Mod_type_74 rfl ?_
      refine zr_goto 81 i_Mod_type_75 (by decide) ?_
      refine zr_istore_n i_Mod_type_81 rfl ?_
      refine zn_iinc i_Mod_type_82 rfl rfl ?_
      refine zr_goto 5 i_Mod_type_85 (by decide) ?_
      exact hz _
    · rw [tyL, if_neg h0] at K ⊢
      by_cases hok : okB (bt x k) = true
      · rw [if_pos hok] at K ⊢
        have hT := K
        by_cases h13 : bt x k = 13
        · skip
          refine zr_iload i_Mod_type_5 rfl ?_
          refine zn_bipush 8 i_Mod_type_7 (by decide) ?_
          refine zn_icmp_ge 88 i_Mod_type_9 (by decide) (by omega) (by omega) (fun q => absurd q (by omega)) (fun c_9 => ?_)
          refine zr_iload_n i_Mod_type_12 rfl ?_
          refine zr_iload i_Mod_type_13 rfl ?_
          refine zn_icmp_ne 88 i_Mod_type_15 (by decide) (by omega) (by omega) (fun q => absurd q (by simp)) (fun c_15 => ?_)
          refine zr_lload_n i_Mod_type_18 rfl ?_
          refine zn_bipush 8 i_Mod_type_19 (by decide) ?_
          refine zr_iload i_Mod_type_21 rfl ?_
          refine zn_imul i_Mod_type_23 ?_
          refine zr_lushr i_Mod_type_24 ?_
          refine zr_ldc2 i_Mod_type_25 rfl ?_
          refine zr_land i_Mod_type_28 ?_
          refine zr_topL (bt_long x (by omega)) ?_
          refine zr_lstore i_Mod_type_29 rfl ?_
          refine zr_lload i_Mod_type_31 rfl ?_
          refine zr_lconst i_Mod_type_33 (v := 0) (by decide) ?_
          refine zr_lcmp i_Mod_type_34 ?_
          refine zr_if_eq 67 i_Mod_type_35 (by decide) (fun q => absurd q (cmp_n (bt_lt x k) (b := 0) (by decide) h0)) (fun _ => ?_)
          refine zr_lload i_Mod_type_38 rfl ?_
          refine zr_ldc2 i_Mod_type_40 rfl ?_
          refine zr_lcmp i_Mod_type_43 ?_
          refine zr_if_eq 67 i_Mod_type_44 (by decide) (fun _ => ?_) (fun q => absurd (cmp_e (bt_lt x k) (b := 13) (by decide) h13) q)
          refine zr_lload i_Mod_type_67 rfl ?_
          refine zr_lconst i_Mod_type_69 (v := 0) (by decide) ?_
          refine zr_lcmp i_Mod_type_70 ?_
          refine zr_if_ne 78 i_Mod_type_71 (by decide) (fun _ => ?_) (fun q => absurd q (cmp_n (bt_lt x k) (b := 0) (by decide) h0))
          refine zr_iload_n i_Mod_type_78 rfl ?_
          refine zn_iconst 1 i_Mod_type_79 (by decide) ?_
          refine zn_iadd i_Mod_type_80 ?_
          refine zr_istore_n i_Mod_type_81 rfl ?_
          refine zn_iinc i_Mod_type_82 rfl rfl ?_
          refine zr_goto 5 i_Mod_type_85 (by decide) ?_
          exact ih (k + 1) _ _ (by omega) hT
        · have h2 : 32 ≤ bt x k ∧ bt x k ≤ 126 := by
            simpa [okB, h13] using hok
          have h32 := h2.1
          have h126 := h2.2
          refine zr_iload i_Mod_type_5 rfl ?_
          refine zn_bipush 8 i_Mod_type_7 (by decide) ?_
          refine zn_icmp_ge 88 i_Mod_type_9 (by decide) (by omega) (by omega) (fun q => absurd q (by omega)) (fun c_9 => ?_)
          refine zr_iload_n i_Mod_type_12 rfl ?_
          refine zr_iload i_Mod_type_13 rfl ?_
          refine zn_icmp_ne 88 i_Mod_type_15 (by decide) (by omega) (by omega) (fun q => absurd q (by simp)) (fun c_15 => ?_)
          refine zr_lload_n i_Mod_type_18 rfl ?_
          refine zn_bipush 8 i_Mod_type_19 (by decide) ?_
          refine zr_iload i_Mod_type_21 rfl ?_
          refine zn_imul i_Mod_type_23 ?_
          refine zr_lushr i_Mod_type_24 ?_
          refine zr_ldc2 i_Mod_type_25 rfl ?_
          refine zr_land i_Mod_type_28 ?_
          refine zr_topL (bt_long x (by omega)) ?_
          refine zr_lstore i_Mod_type_29 rfl ?_
          refine zr_lload i_Mod_type_31 rfl ?_
          refine zr_lconst i_Mod_type_33 (v := 0) (by decide) ?_
          refine zr_lcmp i_Mod_type_34 ?_
          refine zr_if_eq 67 i_Mod_type_35 (by decide) (fun q => absurd q (cmp_n (bt_lt x k) (b := 0) (by decide) h0)) (fun _ => ?_)
          refine zr_lload i_Mod_type_38 rfl ?_
          refine zr_ldc2 i_Mod_type_40 rfl ?_
          refine zr_lcmp i_Mod_type_43 ?_
          refine zr_if_eq 67 i_Mod_type_44 (by decide) (fun q => absurd q (cmp_n (bt_lt x k) (b := 13) (by decide) h13)) (fun _ => ?_)
          refine zr_lload i_Mod_type_47 rfl ?_
          refine zr_ldc2 i_Mod_type_49 rfl ?_
          refine zr_lcmp i_Mod_type_52 ?_
          refine zr_if_lt 65 i_Mod_type_53 (by decide) (fun q => absurd q (cmp_nl (bt_lt x k) (b := 32) (by decide) h32)) (fun _ => ?_)
          refine zr_lload i_Mod_type_56 rfl ?_
          refine zr_ldc2 i_Mod_type_58 rfl ?_
          refine zr_lcmp i_Mod_type_61 ?_
          refine zr_if_le 67 i_Mod_type_62 (by decide) (fun _ => ?_) (fun q => absurd (cmp_le (bt_lt x k) (b := 126) (by decide) h126) q)
          refine zr_lload i_Mod_type_67 rfl ?_
          refine zr_lconst i_Mod_type_69 (v := 0) (by decide) ?_
          refine zr_lcmp i_Mod_type_70 ?_
          refine zr_if_ne 78 i_Mod_type_71 (by decide) (fun _ => ?_) (fun q => absurd q (cmp_n (bt_lt x k) (b := 0) (by decide) h0))
          refine zr_iload_n i_Mod_type_78 rfl ?_
          refine zn_iconst 1 i_Mod_type_79 (by decide) ?_
          refine zn_iadd i_Mod_type_80 ?_
          refine zr_istore_n i_Mod_type_81 rfl ?_
          refine zn_iinc i_Mod_type_82 rfl rfl ?_
          refine zr_goto 5 i_Mod_type_85 (by decide) ?_
          exact ih (k + 1) _ _ (by omega) hT
      · rw [if_neg hok]
        have h13 : bt x k ≠ 13 := fun z => hok (by simp [okB, z])
        have h2 : ¬ (32 ≤ bt x k ∧ bt x k ≤ 126) := fun z => hok (by simp [okB, z])
        by_cases h32 : bt x k < 32
        · skip
          refine zr_iload i_Mod_type_5 rfl ?_
          refine zn_bipush 8 i_Mod_type_7 (by decide) ?_
          refine zn_icmp_ge 88 i_Mod_type_9 (by decide) (by omega) (by omega) (fun q => absurd q (by omega)) (fun c_9 => ?_)
          refine zr_iload_n i_Mod_type_12 rfl ?_
          refine zr_iload i_Mod_type_13 rfl ?_
          refine zn_icmp_ne 88 i_Mod_type_15 (by decide) (by omega) (by omega) (fun q => absurd q (by simp)) (fun c_15 => ?_)
          refine zr_lload_n i_Mod_type_18 rfl ?_
          refine zn_bipush 8 i_Mod_type_19 (by decide) ?_
          refine zr_iload i_Mod_type_21 rfl ?_
          refine zn_imul i_Mod_type_23 ?_
          refine zr_lushr i_Mod_type_24 ?_
          refine zr_ldc2 i_Mod_type_25 rfl ?_
          refine zr_land i_Mod_type_28 ?_
          refine zr_topL (bt_long x (by omega)) ?_
          refine zr_lstore i_Mod_type_29 rfl ?_
          refine zr_lload i_Mod_type_31 rfl ?_
          refine zr_lconst i_Mod_type_33 (v := 0) (by decide) ?_
          refine zr_lcmp i_Mod_type_34 ?_
          refine zr_if_eq 67 i_Mod_type_35 (by decide) (fun q => absurd q (cmp_n (bt_lt x k) (b := 0) (by decide) h0)) (fun _ => ?_)
          refine zr_lload i_Mod_type_38 rfl ?_
          refine zr_ldc2 i_Mod_type_40 rfl ?_
          refine zr_lcmp i_Mod_type_43 ?_
          refine zr_if_eq 67 i_Mod_type_44 (by decide) (fun q => absurd q (cmp_n (bt_lt x k) (b := 13) (by decide) h13)) (fun _ => ?_)
          refine zr_lload i_Mod_type_47 rfl ?_
          refine zr_ldc2 i_Mod_type_49 rfl ?_
          refine zr_lcmp i_Mod_type_52 ?_
          refine zr_if_lt 65 i_Mod_type_53 (by decide) (fun _ => ?_) (fun q => absurd (cmp_l (bt_lt x k) (b := 32) (by decide) (by omega)) q)
          refine zr_iconst i_Mod_type_65 (v := (-1)) (by decide) ?_
          exact zR.retE i_Mod_type_66 rfl rfl
        · skip
          refine zr_iload i_Mod_type_5 rfl ?_
          refine zn_bipush 8 i_Mod_type_7 (by decide) ?_
          refine zn_icmp_ge 88 i_Mod_type_9 (by decide) (by omega) (by omega) (fun q => absurd q (by omega)) (fun c_9 => ?_)
          refine zr_iload_n i_Mod_type_12 rfl ?_
          refine zr_iload i_Mod_type_13 rfl ?_
          refine zn_icmp_ne 88 i_Mod_type_15 (by decide) (by omega) (by omega) (fun q => absurd q (by simp)) (fun c_15 => ?_)
          refine zr_lload_n i_Mod_type_18 rfl ?_
          refine zn_bipush 8 i_Mod_type_19 (by decide) ?_
          refine zr_iload i_Mod_type_21 rfl ?_
          refine zn_imul i_Mod_type_23 ?_
          refine zr_lushr i_Mod_type_24 ?_
          refine zr_ldc2 i_Mod_type_25 rfl ?_
          refine zr_land i_Mod_type_28 ?_
          refine zr_topL (bt_long x (by omega)) ?_
          refine zr_lstore i_Mod_type_29 rfl ?_
          refine zr_lload i_Mod_type_31 rfl ?_
          refine zr_lconst i_Mod_type_33 (v := 0) (by decide) ?_
          refine zr_lcmp i_Mod_type_34 ?_
          refine zr_if_eq 67 i_Mod_type_35 (by decide) (fun q => absurd q (cmp_n (bt_lt x k) (b := 0) (by decide) h0)) (fun _ => ?_)
          refine zr_lload i_Mod_type_38 rfl ?_
          refine zr_ldc2 i_Mod_type_40 rfl ?_
          refine zr_lcmp i_Mod_type_43 ?_
          refine zr_if_eq 67 i_Mod_type_44 (by decide) (fun q => absurd q (cmp_n (bt_lt x k) (b := 13) (by decide) h13)) (fun _ => ?_)
          refine zr_lload i_Mod_type_47 rfl ?_
          refine zr_ldc2 i_Mod_type_49 rfl ?_
          refine zr_lcmp i_Mod_type_52 ?_
          refine zr_if_lt 65 i_Mod_type_53 (by decide) (fun q => absurd q (cmp_nl (bt_lt x k) (b := 32) (by decide) (by omega))) (fun _ => ?_)
          refine zr_lload i_Mod_type_56 rfl ?_
          refine zr_ldc2 i_Mod_type_58 rfl ?_
          refine zr_lcmp i_Mod_type_61 ?_
          refine zr_if_le 67 i_Mod_type_62 (by decide) (fun q => absurd q (cmp_nle (bt_lt x k) (b := 126) (by decide) (by omega))) (fun _ => ?_)
          refine zr_iconst i_Mod_type_65 (v := (-1)) (by decide) ?_
          exact zR.retE i_Mod_type_66 rfl rfl
theorem l2_Mod_type (X : zX) (d : Nat) (g : zH) (ms : zMS) (x : Int64) (sz n : Nat) (hsz : sz + n ≤ 200) (hn8 : n ≤ 8) (a b : Option Value) : ∀ (m k : Nat), k + m = n → zR X d 97 105 [some (.ref 129), some (.long x), none, some (.int (nI n)), some (.int (nI k)), a, b] [] (mset g (mty ms sz x k)) (some (.int (nI n)), mset g (mty ms sz x n)) := by
  intro m
  induction m with
  | zero =>
    intro k hk
    have : k = n := by omega
    subst this
    refine zr_iload i_Mod_type_105 rfl ?_
    refine zr_iload_n i_Mod_type_107 rfl ?_
    refine zn_icmp_ge 149 i_Mod_type_108 (by decide) (by omega) (by omega) (fun c_108 => ?_) (fun q => absurd q (by omega))
    refine zr_iload_n i_Mod_type_149 rfl ?_
    exact zR.retE i_Mod_type_150 rfl rfl
  | succ m ih =>
    intro k hk
    refine zr_iload i_Mod_type_105 rfl ?_
    refine zr_iload_n i_Mod_type_107 rfl ?_
    refine zn_icmp_ge 149 i_Mod_type_108 (by decide) (by omega) (by omega) (fun q => absurd q (by omega)) (fun c_108 => ?_)
    refine zr_aload_n i_Mod_type_111 rfl ?_
    refine zr_getf i_Mod_type_112 rfl rfl rfl ?_
    refine zr_aload_n i_Mod_type_115 rfl ?_
    refine zr_getf i_Mod_type_116 rfl rfl rfl ?_
    refine zr_top (y := nI (sz + k)) rfl ?_
    refine zr_lload_n i_Mod_type_119 rfl ?_
    refine zn_bipush 8 i_Mod_type_120 (by decide) ?_
    refine zr_iload i_Mod_type_122 rfl ?_
    refine zn_imul i_Mod_type_124 ?_
    refine zr_lushr i_Mod_type_125 ?_
    refine zr_ldc2 i_Mod_type_126 rfl ?_
    refine zr_land i_Mod_type_129 ?_
    refine zr_topL (bt_long x (by omega)) ?_
    refine zr_l2i i_Mod_type_130 ?_
    refine zr_i2c i_Mod_type_131 ?_
    refine zr_top (y := nI (bt x k)) (bt_chr x k) ?_
    refine mn_castore 1 200 i_Mod_type_132 (fun _ => rfl) (by decide) (by omega) (by decide) ?_
    refine zr_aload_n i_Mod_type_133 rfl ?_
    refine zr_dup i_Mod_type_134 rfl ?_
    refine zr_getf i_Mod_type_135 rfl rfl rfl ?_
    refine zr_top (y := nI (sz + k)) rfl ?_
    refine zn_iconst 1 i_Mod_type_138 (by decide) ?_
    refine zn_iadd i_Mod_type_139 ?_
    refine mr_putf (kk := 0) i_Mod_type_140 rfl rfl (Nat.le_of_ble_eq_true rfl) rfl rfl rfl ?_
    refine zn_iinc i_Mod_type_143 rfl rfl ?_
    refine zr_goto 105 i_Mod_type_146 (by decide) ?_
    (have hn := ih (k + 1) (by omega)
     rw [show mty ms sz x (k + 1) = (va_up (mty ms sz x k).1 0 (nI (sz + k + 1)), va_up (mty ms sz x k).2 1 (upd ((mty ms sz x k).2 1) (sz + k) (vp_nar .char (nI (bt x k))))) from (by
      rw [show vp_nar .char (nI (bt x k)) = nI (bt x k) from zch_bt (bt_lt x k)]
      show _ = (va_up (va_up ms.1 0 _) 0 _, va_up (va_up ms.2 1 _) 1 (upd (zpas (ms.2 1) sz (fun i => nI (bt x i)) k) (sz + k) ((fun i => nI (bt x i)) k)))
      rw [zpas_s, up_same, up_same]; rfl)] at hn
     exact hn)
/-- type: its answer, the state after it -/
theorem e_Mod_type (X : zX) (d : Nat) (g : zH) (ms : zMS) (x : Int64) (sz : Nat) (hs : ms.1 0 = nI sz) (hsz : sz ≤ 200) : zR X d 97 0 (zent 7 [.ref 129, .long x]) [] (mset g ms) (match tyF x with | none => (some (.int (-1)), mset g ms) | some n => if 200 < sz + n then (some (.int (-1)), mset g ms) else (some (.int (nI n)), mset g (mty ms sz x n))) := by
  have hl := l_Mod_type X d g ms x (fun n => if 200 < sz + n then (some (.int (-1)), mset g ms) else (some (.int (nI n)), mset g (mty ms sz x n))) 8 0 none none rfl (by
    intro n hn y a b
    have hn8 : n ≤ 8 := by have := tyL_le hn; omega
    show zR X d 97 88 _ [] _ (if 200 < sz + n then _ else _)
    by_cases hc : 200 < sz + n
    · rw [if_pos hc]
      refine zr_aload_n i_Mod_type_88 rfl ?_
      refine zr_getf i_Mod_type_89 rfl rfl rfl ?_
      refine zr_top (y := nI sz) hs ?_
      refine zr_iload_n i_Mod_type_92 rfl ?_
      refine zn_iadd i_Mod_type_93 ?_
      refine zn_sipush 200 i_Mod_type_94 (by decide) ?_
      refine zn_icmp_le 102 i_Mod_type_97 (by decide) (by omega) (by omega) (fun q => absurd q (by omega)) (fun c_97 => ?_)
      refine zr_iconst i_Mod_type_100 (v := (-1)) (by decide) ?_
      exact zR.retE i_Mod_type_101 rfl rfl
    · rw [if_neg hc]
      have hl2 := l2_Mod_type X d g ms x sz n (by omega) hn8 a b n 0 (by omega)
      rw [mty_0 x hs] at hl2
      refine zr_aload_n i_Mod_type_88 rfl ?_
      refine zr_getf i_Mod_type_89 rfl rfl rfl ?_
      refine zr_top (y := nI sz) hs ?_
      refine zr_iload_n i_Mod_type_92 rfl ?_
      refine zn_iadd i_Mod_type_93 ?_
      refine zn_sipush 200 i_Mod_type_94 (by decide) ?_
      refine zn_icmp_le 102 i_Mod_type_97 (by decide) (by omega) (by omega) (fun c_97 => ?_) (fun q => absurd q (by omega))
      refine zn_iconst 0 i_Mod_type_102 (by decide) ?_
      refine zr_istore i_Mod_type_103 rfl ?_
      exact hl2)
  refine zn_iconst 0 i_Mod_type_0 (by decide) ?_
  refine zr_istore_n i_Mod_type_1 rfl ?_
  refine zn_iconst 0 i_Mod_type_2 (by decide) ?_
  refine zr_istore i_Mod_type_3 rfl ?_
  exact hl
