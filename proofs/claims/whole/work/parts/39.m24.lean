/-! THE REFERENCE: its constructor -/
theorem up_at {α : Type} {f : Nat → α} {i : Nat} {v : α} : va_up f i v i = v := if_pos rfl
theorem zH_ext {h h' : zH} (h1 : h.1 = h'.1) (h2 : h.2.1 = h'.2.1) (h3 : ∀ a, h.2.2 a = h'.2.2 a) : h = h' := Prod.ext h1 (Prod.ext h2 (funext h3))
/-- the reference's state as it is made, with none in the first i beds -/
def msI (i : Nat) : zMS := (fun _ => 0, va_up (fun _ _ => 0) 19 (zpas (fun _ => 0) 0 (fun _ => -1) i))
def hI (m s : Nat) (G : Nat → Option zC) (fs : List Value) : zH := (m, s, va_up G 129 (some (.inr (9, fs))))
theorem hI_o {m s : Nat} {G : Nat → Option zC} {fs : List Value} : (hI m s G fs).2.2 129 = some (.inr (9, fs)) := by
  show va_up G 129 (some (.inr (9, fs))) 129 = _
  exact up_at
theorem hI_at (m s : Nat) (G : Nat → Option zC) (fs : List Value) (N : Nat) (c : zC) (hm : 100 + m ≠ 129) (fs' : List Value) : zwr (znew (hI m s G fs) N c) 129 (.inr (9, fs')) = hI (m + 1) (s + N) (va_up G (100 + m) (some c)) fs' := by
  unfold zwr znew hI
  dsimp only
  rw [up_comm hm.symm, up_same]
theorem mi_int {X : zX} {d j pc : Nat} {L : zL} {r : List Value} {u : Option Value × zH} {m s idx : Nat} {G : Nat → Option zC} {fs : List Value} {n : Int32} {ne : Bool} (N kf : Nat) (fs' : List Value) (hi : zins j pc = some (.newarray .int)) (hi2 : zins j (pc + 2) = some (.putfield idx)) (hN : n.toNatClampNeg = N) (hn : 0 ≤ n.toInt ∧ n.toInt ≤ 5000) (hf : zfl (zown j) idx = some (9, kf, ne)) (hl : kf < fs.length) (ht : zfit (zty 9 kf) (.ref (100 + m)) = true) (hfin : zini j = true ∧ 9 = zown j ∧ ne = false) (hm : 100 + m ≠ 129) (hfs : fs.set kf (.ref (100 + m)) = fs') (k : zR X d j (pc + 5) L r (hI (m + 1) (s + N) (va_up G (100 + m) (some (.inl (0, N, .inl (fun _ => 0))))) fs') u) : zR X d j pc L (.int n :: .ref 129 :: r) (hI m s G fs) u := by
  refine zr_newa_int (N := N) hi hN hn ?_
  refine zr_putf hi2 ((va_up_ne _ _ hm.symm).trans hI_o) hf hl ht (Or.inr hfin) ?_
  rw [show zK + (hI m s G fs).1 = 100 + m from rfl, hfs, hI_at _ _ _ _ _ _ hm]
  exact k
theorem mi_char {X : zX} {d j pc : Nat} {L : zL} {r : List Value} {u : Option Value × zH} {m s idx : Nat} {G : Nat → Option zC} {fs : List Value} {n : Int32} {ne : Bool} (N kf : Nat) (fs' : List Value) (hi : zins j pc = some (.newarray .char)) (hi2 : zins j (pc + 2) = some (.putfield idx)) (hN : n.toNatClampNeg = N) (hn : 0 ≤ n.toInt ∧ n.toInt ≤ 5000) (hf : zfl (zown j) idx = some (9, kf, ne)) (hl : kf < fs.length) (ht : zfit (zty 9 kf) (.ref (100 + m)) = true) (hfin : zini j = true ∧ 9 = zown j ∧ ne = false) (hm : 100 + m ≠ 129) (hfs : fs.set kf (.ref (100 + m)) = fs') (k : zR X d j (pc + 5) L r (hI (m + 1) (s + N) (va_up G (100 + m) (some (.inl (1, N, .inl (fun _ => 0))))) fs') u) : zR X d j pc L (.int n :: .ref 129 :: r) (hI m s G fs) u := by
  refine zr_newa_char (N := N) hi hN hn ?_
  refine zr_putf hi2 ((va_up_ne _ _ hm.symm).trans hI_o) hf hl ht (Or.inr hfin) ?_
  rw [show zK + (hI m s G fs).1 = 100 + m from rfl, hfs, hI_at _ _ _ _ _ _ hm]
  exact k
theorem mi_boolean {X : zX} {d j pc : Nat} {L : zL} {r : List Value} {u : Option Value × zH} {m s idx : Nat} {G : Nat → Option zC} {fs : List Value} {n : Int32} {ne : Bool} (N kf : Nat) (fs' : List Value) (hi : zins j pc = some (.newarray .boolean)) (hi2 : zins j (pc + 2) = some (.putfield idx)) (hN : n.toNatClampNeg = N) (hn : 0 ≤ n.toInt ∧ n.toInt ≤ 5000) (hf : zfl (zown j) idx = some (9, kf, ne)) (hl : kf < fs.length) (ht : zfit (zty 9 kf) (.ref (100 + m)) = true) (hfin : zini j = true ∧ 9 = zown j ∧ ne = false) (hm : 100 + m ≠ 129) (hfs : fs.set kf (.ref (100 + m)) = fs') (k : zR X d j (pc + 5) L r (hI (m + 1) (s + N) (va_up G (100 + m) (some (.inl (3, N, .inl (fun _ => 0))))) fs') u) : zR X d j pc L (.int n :: .ref 129 :: r) (hI m s G fs) u := by
  refine zr_newa_boolean (N := N) hi hN hn ?_
  refine zr_putf hi2 ((va_up_ne _ _ hm.symm).trans hI_o) hf hl ht (Or.inr hfin) ?_
  rw [show zK + (hI m s G fs).1 = 100 + m from rfl, hfs, hI_at _ _ _ _ _ _ hm]
  exact k
theorem i_Mod_init_0 : zins 96 0 = some (.aload_n 0) := by decide +kernel
theorem i_Mod_init_1 : zins 96 1 = some (.invokespecial 1) := by decide +kernel
theorem i_Mod_init_4 : zins 96 4 = some (.aload_n 0) := by decide +kernel
theorem i_Mod_init_5 : zins 96 5 = some (.sipush 200) := by decide +kernel
theorem i_Mod_init_8 : zins 96 8 = some (.newarray .char) := by decide +kernel
theorem i_Mod_init_10 : zins 96 10 = some (.putfield 7) := by decide +kernel
theorem i_Mod_init_13 : zins 96 13 = some (.aload_n 0) := by decide +kernel
theorem i_Mod_init_14 : zins 96 14 = some (.iconst 2) := by decide +kernel
theorem i_Mod_init_15 : zins 96 15 = some (.newarray .int) := by decide +kernel
theorem i_Mod_init_17 : zins 96 17 = some (.putfield 13) := by decide +kernel
theorem i_Mod_init_20 : zins 96 20 = some (.aload_n 0) := by decide +kernel
theorem i_Mod_init_21 : zins 96 21 = some (.iconst 2) := by decide +kernel
theorem i_Mod_init_22 : zins 96 22 = some (.newarray .int) := by decide +kernel
theorem i_Mod_init_24 : zins 96 24 = some (.putfield 17) := by decide +kernel
theorem i_Mod_init_27 : zins 96 27 = some (.aload_n 0) := by decide +kernel
theorem i_Mod_init_28 : zins 96 28 = some (.iconst 2) := by decide +kernel
theorem i_Mod_init_29 : zins 96 29 = some (.newarray .int) := by decide +kernel
theorem i_Mod_init_31 : zins 96 31 = some (.putfield 20) := by decide +kernel
theorem i_Mod_init_34 : zins 96 34 = some (.aload_n 0) := by decide +kernel
theorem i_Mod_init_35 : zins 96 35 = some (.sipush 440) := by decide +kernel
theorem i_Mod_init_38 : zins 96 38 = some (.newarray .int) := by decide +kernel
theorem i_Mod_init_40 : zins 96 40 = some (.putfield 23) := by decide +kernel
theorem i_Mod_init_43 : zins 96 43 = some (.aload_n 0) := by decide +kernel
theorem i_Mod_init_44 : zins 96 44 = some (.sipush 440) := by decide +kernel
theorem i_Mod_init_47 : zins 96 47 = some (.newarray .int) := by decide +kernel
theorem i_Mod_init_49 : zins 96 49 = some (.putfield 26) := by decide +kernel
theorem i_Mod_init_52 : zins 96 52 = some (.aload_n 0) := by decide +kernel
theorem i_Mod_init_53 : zins 96 53 = some (.sipush 440) := by decide +kernel
theorem i_Mod_init_56 : zins 96 56 = some (.newarray .int) := by decide +kernel
theorem i_Mod_init_58 : zins 96 58 = some (.putfield 29) := by decide +kernel
theorem i_Mod_init_61 : zins 96 61 = some (.aload_n 0) := by decide +kernel
theorem i_Mod_init_62 : zins 96 62 = some (.sipush 440) := by decide +kernel
theorem i_Mod_init_65 : zins 96 65 = some (.newarray .int) := by decide +kernel
theorem i_Mod_init_67 : zins 96 67 = some (.putfield 32) := by decide +kernel
theorem i_Mod_init_70 : zins 96 70 = some (.aload_n 0) := by decide +kernel
theorem i_Mod_init_71 : zins 96 71 = some (.sipush 440) := by decide +kernel
theorem i_Mod_init_74 : zins 96 74 = some (.newarray .int) := by decide +kernel
theorem i_Mod_init_76 : zins 96 76 = some (.putfield 35) := by decide +kernel
theorem i_Mod_init_79 : zins 96 79 = some (.aload_n 0) := by decide +kernel
theorem i_Mod_init_80 : zins 96 80 = some (.sipush 440) := by decide +kernel
theorem i_Mod_init_83 : zins 96 83 = some (.newarray .int) := by decide +kernel
theorem i_Mod_init_85 : zins 96 85 = some (.putfield 38) := by decide +kernel
theorem i_Mod_init_88 : zins 96 88 = some (.aload_n 0) := by decide +kernel
theorem i_Mod_init_89 : zins 96 89 = some (.sipush 440) := by decide +kernel
theorem i_Mod_init_92 : zins 96 92 = some (.newarray .int) := by decide +kernel
theorem i_Mod_init_94 : zins 96 94 = some (.putfield 41) := by decide +kernel
theorem i_Mod_init_97 : zins 96 97 = some (.aload_n 0) := by decide +kernel
theorem i_Mod_init_98 : zins 96 98 = some (.sipush 400) := by decide +kernel
theorem i_Mod_init_101 : zins 96 101 = some (.newarray .char) := by decide +kernel
theorem i_Mod_init_103 : zins 96 103 = some (.putfield 44) := by decide +kernel
theorem i_Mod_init_106 : zins 96 106 = some (.aload_n 0) := by decide +kernel
theorem i_Mod_init_107 : zins 96 107 = some (.sipush 1200) := by decide +kernel
theorem i_Mod_init_110 : zins 96 110 = some (.newarray .char) := by decide +kernel
theorem i_Mod_init_112 : zins 96 112 = some (.putfield 47) := by decide +kernel
theorem i_Mod_init_115 : zins 96 115 = some (.aload_n 0) := by decide +kernel
theorem i_Mod_init_116 : zins 96 116 = some (.iconst 5) := by decide +kernel
theorem i_Mod_init_117 : zins 96 117 = some (.newarray .char) := by decide +kernel
theorem i_Mod_init_119 : zins 96 119 = some (.putfield 50) := by decide +kernel
theorem i_Mod_init_122 : zins 96 122 = some (.aload_n 0) := by decide +kernel
theorem i_Mod_init_123 : zins 96 123 = some (.bipush 64) := by decide +kernel
theorem i_Mod_init_125 : zins 96 125 = some (.newarray .char) := by decide +kernel
theorem i_Mod_init_127 : zins 96 127 = some (.putfield 53) := by decide +kernel
theorem i_Mod_init_130 : zins 96 130 = some (.aload_n 0) := by decide +kernel
theorem i_Mod_init_131 : zins 96 131 = some (.bipush 96) := by decide +kernel
theorem i_Mod_init_133 : zins 96 133 = some (.newarray .char) := by decide +kernel
theorem i_Mod_init_135 : zins 96 135 = some (.putfield 56) := by decide +kernel
theorem i_Mod_init_138 : zins 96 138 = some (.aload_n 0) := by decide +kernel
theorem i_Mod_init_139 : zins 96 139 = some (.bipush 16) := by decide +kernel
theorem i_Mod_init_141 : zins 96 141 = some (.newarray .int) := by decide +kernel
theorem i_Mod_init_143 : zins 96 143 = some (.putfield 59) := by decide +kernel
theorem i_Mod_init_146 : zins 96 146 = some (.aload_n 0) := by decide +kernel
theorem i_Mod_init_147 : zins 96 147 = some (.bipush 100) := by decide +kernel
theorem i_Mod_init_149 : zins 96 149 = some (.newarray .boolean) := by decide +kernel
theorem i_Mod_init_151 : zins 96 151 = some (.putfield 62) := by decide +kernel
theorem i_Mod_init_154 : zins 96 154 = some (.aload_n 0) := by decide +kernel
theorem i_Mod_init_155 : zins 96 155 = some (.bipush 100) := by decide +kernel
theorem i_Mod_init_157 : zins 96 157 = some (.newarray .int) := by decide +kernel
theorem i_Mod_init_159 : zins 96 159 = some (.putfield 66) := by decide +kernel
theorem i_Mod_init_162 : zins 96 162 = some (.aload_n 0) := by decide +kernel
theorem i_Mod_init_163 : zins 96 163 = some (.sipush 200) := by decide +kernel
theorem i_Mod_init_166 : zins 96 166 = some (.newarray .int) := by decide +kernel
theorem i_Mod_init_168 : zins 96 168 = some (.putfield 69) := by decide +kernel
theorem i_Mod_init_171 : zins 96 171 = some (.aload_n 0) := by decide +kernel
theorem i_Mod_init_172 : zins 96 172 = some (.sipush 2400) := by decide +kernel
theorem i_Mod_init_175 : zins 96 175 = some (.newarray .char) := by decide +kernel
theorem i_Mod_init_177 : zins 96 177 = some (.putfield 72) := by decide +kernel
theorem i_Mod_init_180 : zins 96 180 = some (.aload_n 0) := by decide +kernel
theorem i_Mod_init_181 : zins 96 181 = some (.bipush 101) := by decide +kernel
theorem i_Mod_init_183 : zins 96 183 = some (.newarray .int) := by decide +kernel
theorem i_Mod_init_185 : zins 96 185 = some (.putfield 75) := by decide +kernel
theorem i_Mod_init_188 : zins 96 188 = some (.aload_n 0) := by decide +kernel
theorem i_Mod_init_189 : zins 96 189 = some (.sipush 1212) := by decide +kernel
theorem i_Mod_init_192 : zins 96 192 = some (.newarray .int) := by decide +kernel
theorem i_Mod_init_194 : zins 96 194 = some (.putfield 78) := by decide +kernel
theorem i_Mod_init_197 : zins 96 197 = some (.aload_n 0) := by decide +kernel
theorem i_Mod_init_198 : zins 96 198 = some (.sipush 1212) := by decide +kernel
theorem i_Mod_init_201 : zins 96 201 = some (.newarray .int) := by decide +kernel
theorem i_Mod_init_203 : zins 96 203 = some (.putfield 81) := by decide +kernel
theorem i_Mod_init_206 : zins 96 206 = some (.aload_n 0) := by decide +kernel
theorem i_Mod_init_207 : zins 96 207 = some (.sipush 800) := by decide +kernel
theorem i_Mod_init_210 : zins 96 210 = some (.newarray .char) := by decide +kernel
theorem i_Mod_init_212 : zins 96 212 = some (.putfield 84) := by decide +kernel
theorem i_Mod_init_215 : zins 96 215 = some (.aload_n 0) := by decide +kernel
theorem i_Mod_init_216 : zins 96 216 = some (.iconst 5) := by decide +kernel
theorem i_Mod_init_217 : zins 96 217 = some (.newarray .char) := by decide +kernel
theorem i_Mod_init_219 : zins 96 219 = some (.putfield 87) := by decide +kernel
theorem i_Mod_init_222 : zins 96 222 = some (.iconst 0) := by decide +kernel
theorem i_Mod_init_223 : zins 96 223 = some (.istore_n 1) := by decide +kernel
theorem i_Mod_init_224 : zins 96 224 = some (.iload_n 1) := by decide +kernel
theorem i_Mod_init_225 : zins 96 225 = some (.bipush 100) := by decide +kernel
theorem i_Mod_init_227 : zins 96 227 = some (.if_icmp .ge 16) := by decide +kernel
theorem i_Mod_init_230 : zins 96 230 = some (.aload_n 0) := by decide +kernel
theorem i_Mod_init_231 : zins 96 231 = some (.getfield 66) := by decide +kernel
theorem i_Mod_init_234 : zins 96 234 = some (.iload_n 1) := by decide +kernel
theorem i_Mod_init_235 : zins 96 235 = some (.iconst (-1)) := by decide +kernel
theorem i_Mod_init_236 : zins 96 236 = some (.iastore) := by decide +kernel
theorem i_Mod_init_237 : zins 96 237 = some (.iinc 1 1) := by decide +kernel
theorem i_Mod_init_240 : zins 96 240 = some (.goto (-16)) := by decide +kernel
theorem i_Mod_init_243 : zins 96 243 = some (.return_) := by decide +kernel
theorem l_Mod_init (X : zX) (d : Nat) (g : zH) : ∀ (m k : Nat), k + m = 100 → zR X d 96 224 [some (.ref 129), some (.int (nI k))] [] (mset g (msI k)) (none, mset g (msI 100)) := by
  intro m
  induction m with
  | zero =>
    intro k hk
    have : k = 100 := by omega
    subst this
    refine zr_iload_n i_Mod_init_224 rfl ?_
    refine zn_bipush 100 i_Mod_init_225 (by decide) ?_
    refine zn_icmp_ge 243 i_Mod_init_227 (by decide) (by omega) (by omega) (fun c_227 => ?_) (fun q => absurd q (by omega))
    exact zR.retE i_Mod_init_243 rfl rfl
  | succ m ih =>
    intro k hk
    refine zr_iload_n i_Mod_init_224 rfl ?_
    refine zn_bipush 100 i_Mod_init_225 (by decide) ?_
    refine zn_icmp_ge 243 i_Mod_init_227 (by decide) (by omega) (by omega) (fun q => absurd q (by omega)) (fun c_227 => ?_)
    refine zr_aload_n i_Mod_init_230 rfl ?_
    refine zr_getf i_Mod_init_231 rfl rfl rfl ?_
    refine zr_iload_n i_Mod_init_234 rfl ?_
    refine zr_iconst i_Mod_init_235 (v := (-1)) (by decide) ?_
    refine mn_iastore 19 100 i_Mod_init_236 (fun _ => rfl) (by decide) (by omega) (by decide) ?_
    refine zn_iinc i_Mod_init_237 rfl rfl ?_
    refine zr_goto 224 i_Mod_init_240 (by decide) ?_
    (have hn := ih (k + 1) (by omega)
     rw [show msI (k + 1) = ((msI k).1, va_up (msI k).2 19 (upd ((msI k).2 19) k (vp_nar .int (-1)))) from (by
      show (_, va_up (fun _ _ => 0) 19 (zpas (fun _ => 0) 0 (fun _ => -1) (k + 1))) = (_, va_up (va_up (fun _ _ => 0) 19 _) 19 (upd (zpas (fun _ => 0) 0 (fun _ => -1) k) k (-1)))
      rw [up_same, ← zpas_s, Nat.zero_add]
      rfl)] at hn
     exact hn)
theorem e_Mod_init (X : zX) (d s : Nat) (f : Nat → Option zC) : zR X (d + 1) 96 0 (zent 2 [.ref 129]) [] (hI 30 s f (zdef 9)) (none, mset (56, s + 11197, f) (msI 100)) := by
  have K := l_Mod_init X (d + 1) (56, s + 11197, f) 100 0 rfl
  show zR X (d + 1) 96 0 (zent 2 [.ref 129]) [] (hI 30 s f [.int 0, .null, .int 0, .null, .null, .null, .null, .null, .null, .null, .null, .null, .null, .null, .null, .null, .int 0, .int 0, .int 0, .int 0, .null, .int 0, .null, .null, .null, .null, .null, .null, .null, .null, .null, .int 0, .null, .null]) _
  refine zr_aload_n i_Mod_init_0 rfl ?_
  refine zr_obj i_Mod_init_1 rfl (Nat.le_of_ble_eq_true rfl) ?_
  refine zr_aload_n i_Mod_init_4 rfl ?_
  refine zr_sipush i_Mod_init_5 (v := 200) (by decide) ?_
  refine mi_char 200 1 [.int 0, .ref 130, .int 0, .null, .null, .null, .null, .null, .null, .null, .null, .null, .null, .null, .null, .null, .int 0, .int 0, .int 0, .int 0, .null, .int 0, .null, .null, .null, .null, .null, .null, .null, .null, .null, .int 0, .null, .null] i_Mod_init_8 i_Mod_init_10 (by decide) (by decide) rfl (Nat.le_of_ble_eq_true rfl) rfl (by decide) (by decide) rfl ?_
  refine zr_aload_n i_Mod_init_13 rfl ?_
  refine zr_iconst i_Mod_init_14 (v := 2) (by decide) ?_
  refine mi_int 2 3 [.int 0, .ref 130, .int 0, .ref 131, .null, .null, .null, .null, .null, .null, .null, .null, .null, .null, .null, .null, .int 0, .int 0, .int 0, .int 0, .null, .int 0, .null, .null, .null, .null, .null, .null, .null, .null, .null, .int 0, .null, .null] i_Mod_init_15 i_Mod_init_17 (by decide) (by decide) rfl (Nat.le_of_ble_eq_true rfl) rfl (by decide) (by decide) rfl ?_
  refine zr_aload_n i_Mod_init_20 rfl ?_
  refine zr_iconst i_Mod_init_21 (v := 2) (by decide) ?_
  refine mi_int 2 4 [.int 0, .ref 130, .int 0, .ref 131, .ref 132, .null, .null, .null, .null, .null, .null, .null, .null, .null, .null, .null, .int 0, .int 0, .int 0, .int 0, .null, .int 0, .null, .null, .null, .null, .null, .null, .null, .null, .null, .int 0, .null, .null] i_Mod_init_22 i_Mod_init_24 (by decide) (by decide) rfl (Nat.le_of_ble_eq_true rfl) rfl (by decide) (by decide) rfl ?_
  refine zr_aload_n i_Mod_init_27 rfl ?_
  refine zr_iconst i_Mod_init_28 (v := 2) (by decide) ?_
  refine mi_int 2 5 [.int 0, .ref 130, .int 0, .ref 131, .ref 132, .ref 133, .null, .null, .null, .null, .null, .null, .null, .null, .null, .null, .int 0, .int 0, .int 0, .int 0, .null, .int 0, .null, .null, .null, .null, .null, .null, .null, .null, .null, .int 0, .null, .null] i_Mod_init_29 i_Mod_init_31 (by decide) (by decide) rfl (Nat.le_of_ble_eq_true rfl) rfl (by decide) (by decide) rfl ?_
  refine zr_aload_n i_Mod_init_34 rfl ?_
  refine zr_sipush i_Mod_init_35 (v := 440) (by decide) ?_
  refine mi_int 440 6 [.int 0, .ref 130, .int 0, .ref 131, .ref 132, .ref 133, .ref 134, .null, .null, .null, .null, .null, .null, .null, .null, .null, .int 0, .int 0, .int 0, .int 0, .null, .int 0, .null, .null, .null, .null, .null, .null, .null, .null, .null, .int 0, .null, .null] i_Mod_init_38 i_Mod_init_40 (by decide) (by decide) rfl (Nat.le_of_ble_eq_true rfl) rfl (by decide) (by decide) rfl ?_
  refine zr_aload_n i_Mod_init_43 rfl ?_
  refine zr_sipush i_Mod_init_44 (v := 440) (by decide) ?_
  refine mi_int 440 7 [.int 0, .ref 130, .int 0, .ref 131, .ref 132, .ref 133, .ref 134, .ref 135, .null, .null, .null, .null, .null, .null, .null, .null, .int 0, .int 0, .int 0, .int 0, .null, .int 0, .null, .null, .null, .null, .null, .null, .null, .null, .null, .int 0, .null, .null] i_Mod_init_47 i_Mod_init_49 (by decide) (by decide) rfl (Nat.le_of_ble_eq_true rfl) rfl (by decide) (by decide) rfl ?_
  refine zr_aload_n i_Mod_init_52 rfl ?_
  refine zr_sipush i_Mod_init_53 (v := 440) (by decide) ?_
  refine mi_int 440 8 [.int 0, .ref 130, .int 0, .ref 131, .ref 132, .ref 133, .ref 134, .ref 135, .ref 136, .null, .null, .null, .null, .null, .null, .null, .int 0, .int 0, .int 0, .int 0, .null, .int 0, .null, .null, .null, .null, .null, .null, .null, .null, .null, .int 0, .null, .null] i_Mod_init_56 i_Mod_init_58 (by decide) (by decide) rfl (Nat.le_of_ble_eq_true rfl) rfl (by decide) (by decide) rfl ?_
  refine zr_aload_n i_Mod_init_61 rfl ?_
  refine zr_sipush i_Mod_init_62 (v := 440) (by decide) ?_
  refine mi_int 440 9 [.int 0, .ref 130, .int 0, .ref 131, .ref 132, .ref 133, .ref 134, .ref 135, .ref 136, .ref 137, .null, .null, .null, .null, .null, .null, .int 0, .int 0, .int 0, .int 0, .null, .int 0, .null, .null, .null, .null, .null, .null, .null, .null, .null, .int 0, .null, .null] i_Mod_init_65 i_Mod_init_67 (by decide) (by decide) rfl (Nat.le_of_ble_eq_true rfl) rfl (by decide) (by decide) rfl ?_
  refine zr_aload_n i_Mod_init_70 rfl ?_
  refine zr_sipush i_Mod_init_71 (v := 440) (by decide) ?_
  refine mi_int 440 10 [.int 0, .ref 130, .int 0, .ref 131, .ref 132, .ref 133, .ref 134, .ref 135, .ref 136, .ref 137, .ref 138, .null, .null, .null, .null, .null, .int 0, .int 0, .int 0, .int 0, .null, .int 0, .null, .null, .null, .null, .null, .null, .null, .null, .null, .int 0, .null, .null] i_Mod_init_74 i_Mod_init_76 (by decide) (by decide) rfl (Nat.le_of_ble_eq_true rfl) rfl (by decide) (by decide) rfl ?_
  refine zr_aload_n i_Mod_init_79 rfl ?_
  refine zr_sipush i_Mod_init_80 (v := 440) (by decide) ?_
  refine mi_int 440 11 [.int 0, .ref 130, .int 0, .ref 131, .ref 132, .ref 133, .ref 134, .ref 135, .ref 136, .ref 137, .ref 138, .ref 139, .null, .null, .null, .null, .int 0, .int 0, .int 0, .int 0, .null, .int 0, .null, .null, .null, .null, .null, .null, .null, .null, .null, .int 0, .null, .null] i_Mod_init_83 i_Mod_init_85 (by decide) (by decide) rfl (Nat.le_of_ble_eq_true rfl) rfl (by decide) (by decide) rfl ?_
  refine zr_aload_n i_Mod_init_88 rfl ?_
  refine zr_sipush i_Mod_init_89 (v := 440) (by decide) ?_
  refine mi_int 440 12 [.int 0, .ref 130, .int 0, .ref 131, .ref 132, .ref 133, .ref 134, .ref 135, .ref 136, .ref 137, .ref 138, .ref 139, .ref 140, .null, .null, .null, .int 0, .int 0, .int 0, .int 0, .null, .int 0, .null, .null, .null, .null, .null, .null, .null, .null, .null, .int 0, .null, .null] i_Mod_init_92 i_Mod_init_94 (by decide) (by decide) rfl (Nat.le_of_ble_eq_true rfl) rfl (by decide) (by decide) rfl ?_
  refine zr_aload_n i_Mod_init_97 rfl ?_
  refine zr_sipush i_Mod_init_98 (v := 400) (by decide) ?_
  refine mi_char 400 13 [.int 0, .ref 130, .int 0, .ref 131, .ref 132, .ref 133, .ref 134, .ref 135, .ref 136, .ref 137, .ref 138, .ref 139, .ref 140, .ref 141, .null, .null, .int 0, .int 0, .int 0, .int 0, .null, .int 0, .null, .null, .null, .null, .null, .null, .null, .null, .null, .int 0, .null, .null] i_Mod_init_101 i_Mod_init_103 (by decide) (by decide) rfl (Nat.le_of_ble_eq_true rfl) rfl (by decide) (by decide) rfl ?_
  refine zr_aload_n i_Mod_init_106 rfl ?_
  refine zr_sipush i_Mod_init_107 (v := 1200) (by decide) ?_
  refine mi_char 1200 14 [.int 0, .ref 130, .int 0, .ref 131, .ref 132, .ref 133, .ref 134, .ref 135, .ref 136, .ref 137, .ref 138, .ref 139, .ref 140, .ref 141, .ref 142, .null, .int 0, .int 0, .int 0, .int 0, .null, .int 0, .null, .null, .null, .null, .null, .null, .null, .null, .null, .int 0, .null, .null] i_Mod_init_110 i_Mod_init_112 (by decide) (by decide) rfl (Nat.le_of_ble_eq_true rfl) rfl (by decide) (by decide) rfl ?_
  refine zr_aload_n i_Mod_init_115 rfl ?_
  refine zr_iconst i_Mod_init_116 (v := 5) (by decide) ?_
  refine mi_char 5 15 [.int 0, .ref 130, .int 0, .ref 131, .ref 132, .ref 133, .ref 134, .ref 135, .ref 136, .ref 137, .ref 138, .ref 139, .ref 140, .ref 141, .ref 142, .ref 143, .int 0, .int 0, .int 0, .int 0, .null, .int 0, .null, .null, .null, .null, .null, .null, .null, .null, .null, .int 0, .null, .null] i_Mod_init_117 i_Mod_init_119 (by decide) (by decide) rfl (Nat.le_of_ble_eq_true rfl) rfl (by decide) (by decide) rfl ?_
  refine zr_aload_n i_Mod_init_122 rfl ?_
  refine zr_bipush i_Mod_init_123 (v := 64) (by decide) ?_
  refine mi_char 64 20 [.int 0, .ref 130, .int 0, .ref 131, .ref 132, .ref 133, .ref 134, .ref 135, .ref 136, .ref 137, .ref 138, .ref 139, .ref 140, .ref 141, .ref 142, .ref 143, .int 0, .int 0, .int 0, .int 0, .ref 144, .int 0, .null, .null, .null, .null, .null, .null, .null, .null, .null, .int 0, .null, .null] i_Mod_init_125 i_Mod_init_127 (by decide) (by decide) rfl (Nat.le_of_ble_eq_true rfl) rfl (by decide) (by decide) rfl ?_
  refine zr_aload_n i_Mod_init_130 rfl ?_
  refine zr_bipush i_Mod_init_131 (v := 96) (by decide) ?_
  refine mi_char 96 22 [.int 0, .ref 130, .int 0, .ref 131, .ref 132, .ref 133, .ref 134, .ref 135, .ref 136, .ref 137, .ref 138, .ref 139, .ref 140, .ref 141, .ref 142, .ref 143, .int 0, .int 0, .int 0, .int 0, .ref 144, .int 0, .ref 145, .null, .null, .null, .null, .null, .null, .null, .null, .int 0, .null, .null] i_Mod_init_133 i_Mod_init_135 (by decide) (by decide) rfl (Nat.le_of_ble_eq_true rfl) rfl (by decide) (by decide) rfl ?_
  refine zr_aload_n i_Mod_init_138 rfl ?_
  refine zr_bipush i_Mod_init_139 (v := 16) (by decide) ?_
  refine mi_int 16 23 [.int 0, .ref 130, .int 0, .ref 131, .ref 132, .ref 133, .ref 134, .ref 135, .ref 136, .ref 137, .ref 138, .ref 139, .ref 140, .ref 141, .ref 142, .ref 143, .int 0, .int 0, .int 0, .int 0, .ref 144, .int 0, .ref 145, .ref 146, .null, .null, .null, .null, .null, .null, .null, .int 0, .null, .null] i_Mod_init_141 i_Mod_init_143 (by decide) (by decide) rfl (Nat.le_of_ble_eq_true rfl) rfl (by decide) (by decide) rfl ?_
  refine zr_aload_n i_Mod_init_146 rfl ?_
  refine zr_bipush i_Mod_init_147 (v := 100) (by decide) ?_
  refine mi_boolean 100 24 [.int 0, .ref 130, .int 0, .ref 131, .ref 132, .ref 133, .ref 134, .ref 135, .ref 136, .ref 137, .ref 138, .ref 139, .ref 140, .ref 141, .ref 142, .ref 143, .int 0, .int 0, .int 0, .int 0, .ref 144, .int 0, .ref 145, .ref 146, .ref 147, .null, .null, .null, .null, .null, .null, .int 0, .null, .null] i_Mod_init_149 i_Mod_init_151 (by decide) (by decide) rfl (Nat.le_of_ble_eq_true rfl) rfl (by decide) (by decide) rfl ?_
  refine zr_aload_n i_Mod_init_154 rfl ?_
  refine zr_bipush i_Mod_init_155 (v := 100) (by decide) ?_
  refine mi_int 100 25 [.int 0, .ref 130, .int 0, .ref 131, .ref 132, .ref 133, .ref 134, .ref 135, .ref 136, .ref 137, .ref 138, .ref 139, .ref 140, .ref 141, .ref 142, .ref 143, .int 0, .int 0, .int 0, .int 0, .ref 144, .int 0, .ref 145, .ref 146, .ref 147, .ref 148, .null, .null, .null, .null, .null, .int 0, .null, .null] i_Mod_init_157 i_Mod_init_159 (by decide) (by decide) rfl (Nat.le_of_ble_eq_true rfl) rfl (by decide) (by decide) rfl ?_
  refine zr_aload_n i_Mod_init_162 rfl ?_
  refine zr_sipush i_Mod_init_163 (v := 200) (by decide) ?_
  refine mi_int 200 26 [.int 0, .ref 130, .int 0, .ref 131, .ref 132, .ref 133, .ref 134, .ref 135, .ref 136, .ref 137, .ref 138, .ref 139, .ref 140, .ref 141, .ref 142, .ref 143, .int 0, .int 0, .int 0, .int 0, .ref 144, .int 0, .ref 145, .ref 146, .ref 147, .ref 148, .ref 149, .null, .null, .null, .null, .int 0, .null, .null] i_Mod_init_166 i_Mod_init_168 (by decide) (by decide) rfl (Nat.le_of_ble_eq_true rfl) rfl (by decide) (by decide) rfl ?_
  refine zr_aload_n i_Mod_init_171 rfl ?_
  refine zr_sipush i_Mod_init_172 (v := 2400) (by decide) ?_
  refine mi_char 2400 27 [.int 0, .ref 130, .int 0, .ref 131, .ref 132, .ref 133, .ref 134, .ref 135, .ref 136, .ref 137, .ref 138, .ref 139, .ref 140, .ref 141, .ref 142, .ref 143, .int 0, .int 0, .int 0, .int 0, .ref 144, .int 0, .ref 145, .ref 146, .ref 147, .ref 148, .ref 149, .ref 150, .null, .null, .null, .int 0, .null, .null] i_Mod_init_175 i_Mod_init_177 (by decide) (by decide) rfl (Nat.le_of_ble_eq_true rfl) rfl (by decide) (by decide) rfl ?_
  refine zr_aload_n i_Mod_init_180 rfl ?_
  refine zr_bipush i_Mod_init_181 (v := 101) (by decide) ?_
  refine mi_int 101 28 [.int 0, .ref 130, .int 0, .ref 131, .ref 132, .ref 133, .ref 134, .ref 135, .ref 136, .ref 137, .ref 138, .ref 139, .ref 140, .ref 141, .ref 142, .ref 143, .int 0, .int 0, .int 0, .int 0, .ref 144, .int 0, .ref 145, .ref 146, .ref 147, .ref 148, .ref 149, .ref 150, .ref 151, .null, .null, .int 0, .null, .null] i_Mod_init_183 i_Mod_init_185 (by decide) (by decide) rfl (Nat.le_of_ble_eq_true rfl) rfl (by decide) (by decide) rfl ?_
  refine zr_aload_n i_Mod_init_188 rfl ?_
  refine zr_sipush i_Mod_init_189 (v := 1212) (by decide) ?_
  refine mi_int 1212 29 [.int 0, .ref 130, .int 0, .ref 131, .ref 132, .ref 133, .ref 134, .ref 135, .ref 136, .ref 137, .ref 138, .ref 139, .ref 140, .ref 141, .ref 142, .ref 143, .int 0, .int 0, .int 0, .int 0, .ref 144, .int 0, .ref 145, .ref 146, .ref 147, .ref 148, .ref 149, .ref 150, .ref 151, .ref 152, .null, .int 0, .null, .null] i_Mod_init_192 i_Mod_init_194 (by decide) (by decide) rfl (Nat.le_of_ble_eq_true rfl) rfl (by decide) (by decide) rfl ?_
  refine zr_aload_n i_Mod_init_197 rfl ?_
  refine zr_sipush i_Mod_init_198 (v := 1212) (by decide) ?_
  refine mi_int 1212 30 [.int 0, .ref 130, .int 0, .ref 131, .ref 132, .ref 133, .ref 134, .ref 135, .ref 136, .ref 137, .ref 138, .ref 139, .ref 140, .ref 141, .ref 142, .ref 143, .int 0, .int 0, .int 0, .int 0, .ref 144, .int 0, .ref 145, .ref 146, .ref 147, .ref 148, .ref 149, .ref 150, .ref 151, .ref 152, .ref 153, .int 0, .null, .null] i_Mod_init_201 i_Mod_init_203 (by decide) (by decide) rfl (Nat.le_of_ble_eq_true rfl) rfl (by decide) (by decide) rfl ?_
  refine zr_aload_n i_Mod_init_206 rfl ?_
  refine zr_sipush i_Mod_init_207 (v := 800) (by decide) ?_
  refine mi_char 800 32 [.int 0, .ref 130, .int 0, .ref 131, .ref 132, .ref 133, .ref 134, .ref 135, .ref 136, .ref 137, .ref 138, .ref 139, .ref 140, .ref 141, .ref 142, .ref 143, .int 0, .int 0, .int 0, .int 0, .ref 144, .int 0, .ref 145, .ref 146, .ref 147, .ref 148, .ref 149, .ref 150, .ref 151, .ref 152, .ref 153, .int 0, .ref 154, .null] i_Mod_init_210 i_Mod_init_212 (by decide) (by decide) rfl (Nat.le_of_ble_eq_true rfl) rfl (by decide) (by decide) rfl ?_
  refine zr_aload_n i_Mod_init_215 rfl ?_
  refine zr_iconst i_Mod_init_216 (v := 5) (by decide) ?_
  refine mi_char 5 33 [.int 0, .ref 130, .int 0, .ref 131, .ref 132, .ref 133, .ref 134, .ref 135, .ref 136, .ref 137, .ref 138, .ref 139, .ref 140, .ref 141, .ref 142, .ref 143, .int 0, .int 0, .int 0, .int 0, .ref 144, .int 0, .ref 145, .ref 146, .ref 147, .ref 148, .ref 149, .ref 150, .ref 151, .ref 152, .ref 153, .int 0, .ref 154, .ref 155] i_Mod_init_217 i_Mod_init_219 (by decide) (by decide) rfl (Nat.le_of_ble_eq_true rfl) rfl (by decide) (by decide) rfl ?_
  refine zn_iconst 0 i_Mod_init_222 (by decide) ?_
  refine zr_istore_n i_Mod_init_223 rfl ?_
  refine Eq.mpr (congrArg (fun h => zR X (d + 1) 96 224 _ [] h _) (zH_ext (h' := mset (56, s + 11197, f) (msI 0)) rfl ?_ (fun a => ?_))) K
  · show s + 200 + 2 + 2 + 2 + 440 + 440 + 440 + 440 + 440 + 440 + 440 + 400 + 1200 + 5 + 64 + 96 + 16 + 100 + 100 + 200 + 2400 + 101 + 1212 + 1212 + 800 + 5 = s + 11197
    omega
  by_cases ha : 129 ≤ a ∧ a < 156
  · rcases (show a = 129 ∨ a = 130 ∨ a = 131 ∨ a = 132 ∨ a = 133 ∨ a = 134 ∨ a = 135 ∨ a = 136 ∨ a = 137 ∨ a = 138 ∨ a = 139 ∨ a = 140 ∨ a = 141 ∨ a = 142 ∨ a = 143 ∨ a = 144 ∨ a = 145 ∨ a = 146 ∨ a = 147 ∨ a = 148 ∨ a = 149 ∨ a = 150 ∨ a = 151 ∨ a = 152 ∨ a = 153 ∨ a = 154 ∨ a = 155 by omega) with rfl | rfl | rfl | rfl | rfl | rfl | rfl | rfl | rfl | rfl | rfl | rfl | rfl | rfl | rfl | rfl | rfl | rfl | rfl | rfl | rfl | rfl | rfl | rfl | rfl | rfl | rfl <;> rfl
  · show va_up _ 129 _ a = (if 129 ≤ a ∧ a < 156 then _ else f a)
    rw [if_neg ha]
    repeat rw [va_up_ne _ _ (by omega)]
