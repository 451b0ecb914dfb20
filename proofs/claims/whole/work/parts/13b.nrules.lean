/-! RULES over small numbers -/
section ZRN
variable {X : zX} {d j pc : Nat} {L : zL} {r : List Value} {h : zH} {u : Option Value × zH}
theorem nb {k n : Nat} (h : k < n) (hn : n < 2 ^ 31) : 0 ≤ (nI k).toInt ∧ (nI k).toInt < n := by
  rw [nI_toInt (by omega)]
  omega
theorem zn_iconst {n : Int} (k : Nat) (hi : zins j pc = some (.iconst n)) (hv : Int32.ofInt n = nI k) (kk : zR X d j (pc + 1) L (.int (nI k) :: r) h u) : zR X d j pc L r h u := zr_iconst hi hv kk
theorem zn_bipush {n : Int} (k : Nat) (hi : zins j pc = some (.bipush n)) (hv : (Int8.ofInt n).toInt32 = nI k) (kk : zR X d j (pc + 2) L (.int (nI k) :: r) h u) : zR X d j pc L r h u := zr_bipush hi hv kk
theorem zn_sipush {n : Int} (k : Nat) (hi : zins j pc = some (.sipush n)) (hv : (Int16.ofInt n).toInt32 = nI k) (kk : zR X d j (pc + 3) L (.int (nI k) :: r) h u) : zR X d j pc L r h u := zr_sipush hi hv kk
theorem zn_iadd {a b : Nat} (hi : zins j pc = some .iadd) (k : zR X d j (pc + 1) L (.int (nI (a + b)) :: r) h u) : zR X d j pc L (.int (nI b) :: .int (nI a) :: r) h u := zr_iadd hi (by rw [nI_add]; exact k)
theorem zn_imul {a b : Nat} (hi : zins j pc = some .imul) (k : zR X d j (pc + 1) L (.int (nI (a * b)) :: r) h u) : zR X d j pc L (.int (nI b) :: .int (nI a) :: r) h u := zr_imul hi (by rw [pk_mul]; exact k)
theorem zn_isub {a b : Nat} (hi : zins j pc = some .isub) (hb : b ≤ a) (k : zR X d j (pc + 1) L (.int (nI (a - b)) :: r) h u) : zR X d j pc L (.int (nI b) :: .int (nI a) :: r) h u := zr_isub hi (by rw [pk_sub hb]; exact k)
theorem zn_iinc {i a : Nat} {L2 : zL} (hi : zins j pc = some (.iinc i 1)) (hl : L[i]? = some (some (.int (nI a)))) (h2 : zst1 L i (.int (nI (a + 1))) = some L2) (k : zR X d j (pc + 3) L2 r h u) : zR X d j pc L r h u := zr_iinc hi hl (v := nI (a + 1)) (nI_1 a) h2 k
theorem zn_icmp_lt {a b : Nat} {off : Int} (t : Nat) (hi : zins j pc = some (.if_icmp .lt off)) (ht : (pc : Int) + off = (t : Int)) (ha : a < 2 ^ 31) (hb : b < 2 ^ 31) (kt : a < b → zR X d j t L r h u) (kf : b ≤ a → zR X d j (pc + 3) L r h u) : zR X d j pc L (.int (nI b) :: .int (nI a) :: r) h u := zr_icmp_lt t hi ht (fun q => kt ((nI_ltI ha hb).mp q)) (fun q => kf (by have := mt (nI_ltI ha hb).mpr q; omega))
theorem zn_icmp_ge {a b : Nat} {off : Int} (t : Nat) (hi : zins j pc = some (.if_icmp .ge off)) (ht : (pc : Int) + off = (t : Int)) (ha : a < 2 ^ 31) (hb : b < 2 ^ 31) (kt : b ≤ a → zR X d j t L r h u) (kf : a < b → zR X d j (pc + 3) L r h u) : zR X d j pc L (.int (nI b) :: .int (nI a) :: r) h u := zr_icmp_ge t hi ht (fun q => kt ((nI_leI hb ha).mp q)) (fun q => kf (by have := mt (nI_leI hb ha).mpr q; omega))
theorem zn_icmp_gt {a b : Nat} {off : Int} (t : Nat) (hi : zins j pc = some (.if_icmp .gt off)) (ht : (pc : Int) + off = (t : Int)) (ha : a < 2 ^ 31) (hb : b < 2 ^ 31) (kt : b < a → zR X d j t L r h u) (kf : a ≤ b → zR X d j (pc + 3) L r h u) : zR X d j pc L (.int (nI b) :: .int (nI a) :: r) h u := zr_icmp_gt t hi ht (fun q => kt ((nI_ltI hb ha).mp q)) (fun q => kf (by have := mt (nI_ltI hb ha).mpr q; omega))
theorem zn_icmp_le {a b : Nat} {off : Int} (t : Nat) (hi : zins j pc = some (.if_icmp .le off)) (ht : (pc : Int) + off = (t : Int)) (ha : a < 2 ^ 31) (hb : b < 2 ^ 31) (kt : a ≤ b → zR X d j t L r h u) (kf : b < a → zR X d j (pc + 3) L r h u) : zR X d j pc L (.int (nI b) :: .int (nI a) :: r) h u := zr_icmp_le t hi ht (fun q => kt ((nI_leI ha hb).mp q)) (fun q => kf (by have := mt (nI_leI ha hb).mpr q; omega))
theorem zn_icmp_eq {a b : Nat} {off : Int} (t : Nat) (hi : zins j pc = some (.if_icmp .eq off)) (ht : (pc : Int) + off = (t : Int)) (ha : a < 2 ^ 31) (hb : b < 2 ^ 31) (kt : a = b → zR X d j t L r h u) (kf : a ≠ b → zR X d j (pc + 3) L r h u) : zR X d j pc L (.int (nI b) :: .int (nI a) :: r) h u := zr_icmp_eq t hi ht (fun q => kt ((nI_eq ha hb).mp q)) (fun q => kf (fun e => q ((nI_eq ha hb).mpr e)))
theorem zn_icmp_ne {a b : Nat} {off : Int} (t : Nat) (hi : zins j pc = some (.if_icmp .ne off)) (ht : (pc : Int) + off = (t : Int)) (ha : a < 2 ^ 31) (hb : b < 2 ^ 31) (kt : a ≠ b → zR X d j t L r h u) (kf : a = b → zR X d j (pc + 3) L r h u) : zR X d j pc L (.int (nI b) :: .int (nI a) :: r) h u := zr_icmp_ne t hi ht (fun q => kt (fun e => q ((nI_eq ha hb).mpr e))) (fun q => kf ((nI_eq ha hb).mp q))
theorem zn_iaload {a n k : Nat} {f : Nat → Int32} (hi : zins j pc = some .iaload) (hc : h.2.2 a = some (.inl (0, n, .inl f))) (hk : k < n) (hn : n < 2 ^ 31) (kk : zR X d j (pc + 1) L (.int (f k) :: r) h u) : zR X d j pc L (.int (nI k) :: .ref a :: r) h u := zr_iaload hi hc (nb hk hn) (by rw [nI_clamp (by omega)]; exact kk)
theorem zn_caload {a n k : Nat} {f : Nat → Int32} (hi : zins j pc = some .caload) (hc : h.2.2 a = some (.inl (1, n, .inl f))) (hk : k < n) (hn : n < 2 ^ 31) (kk : zR X d j (pc + 1) L (.int (f k) :: r) h u) : zR X d j pc L (.int (nI k) :: .ref a :: r) h u := zr_caload hi hc (nb hk hn) (by rw [nI_clamp (by omega)]; exact kk)
theorem zn_baload {a n k : Nat} {f : Nat → Int32} (hi : zins j pc = some .baload) (hc : h.2.2 a = some (.inl (3, n, .inl f))) (hk : k < n) (hn : n < 2 ^ 31) (kk : zR X d j (pc + 1) L (.int (f k) :: r) h u) : zR X d j pc L (.int (nI k) :: .ref a :: r) h u := zr_baload hi hc (nb hk hn) (by rw [nI_clamp (by omega)]; exact kk)
theorem zn_iastore {a n k : Nat} {f : Nat → Int32} {x : Int32} (hi : zins j pc = some .iastore) (hc : h.2.2 a = some (.inl (0, n, .inl f))) (hk : k < n) (hn : n < 2 ^ 31) (kk : zR X d j (pc + 1) L r (zwr h a (.inl (0, n, .inl (upd f k (vp_nar .int x))))) u) : zR X d j pc L (.int x :: .int (nI k) :: .ref a :: r) h u := zr_iastore hi hc (nb hk hn) (by rw [nI_clamp (by omega)]; exact kk)
theorem zn_castore {a n k : Nat} {f : Nat → Int32} {x : Int32} (hi : zins j pc = some .castore) (hc : h.2.2 a = some (.inl (1, n, .inl f))) (hk : k < n) (hn : n < 2 ^ 31) (kk : zR X d j (pc + 1) L r (zwr h a (.inl (1, n, .inl (upd f k (vp_nar .char x))))) u) : zR X d j pc L (.int x :: .int (nI k) :: .ref a :: r) h u := zr_castore hi hc (nb hk hn) (by rw [nI_clamp (by omega)]; exact kk)
theorem zn_bastore {a n k : Nat} {f : Nat → Int32} {x : Int32} (hi : zins j pc = some .bastore) (hc : h.2.2 a = some (.inl (3, n, .inl f))) (hk : k < n) (hn : n < 2 ^ 31) (kk : zR X d j (pc + 1) L r (zwr h a (.inl (3, n, .inl (upd f k (vp_nar .boolean x))))) u) : zR X d j pc L (.int x :: .int (nI k) :: .ref a :: r) h u := zr_bastore hi hc (nb hk hn) (by rw [nI_clamp (by omega)]; exact kk)
end ZRN
section MRN
variable {X : zX} {d j pc : Nat} {L : zL} {r : List Value} {g : zH} {ms : zMS} {u : Option Value × zH}
theorem mn_iastore (a n : Nat) {k : Nat} {x : Int32} (hi : zins j pc = some .iastore) (ha : ∀ z : zMS, mcell z a = .inl (0, n, .inl (z.2 a))) (hk : a < 27) (hin : k < n) (hn : n < 2 ^ 31) (kk : zR X d j (pc + 1) L r (mset g (ms.1, va_up ms.2 a (upd (ms.2 a) k (vp_nar .int x)))) u) : zR X d j pc L (.int x :: .int (nI k) :: .ref (129 + a) :: r) (mset g ms) u := by
  refine zn_iastore hi (by rw [mset_at hk, ha]) hin hn ?_
  have e : (.inl (0, n, .inl (upd (ms.2 a) k (vp_nar .int x))) : zC) = mcell (ms.1, va_up ms.2 a (upd (ms.2 a) k (vp_nar .int x))) a := by rw [ha]; dsimp only; rw [va_up_self]
  rw [e, mset_wr hk (fun i h1 h2 => mcell_arr h1 h2)]
  exact kk
theorem mn_castore (a n : Nat) {k : Nat} {x : Int32} (hi : zins j pc = some .castore) (ha : ∀ z : zMS, mcell z a = .inl (1, n, .inl (z.2 a))) (hk : a < 27) (hin : k < n) (hn : n < 2 ^ 31) (kk : zR X d j (pc + 1) L r (mset g (ms.1, va_up ms.2 a (upd (ms.2 a) k (vp_nar .char x)))) u) : zR X d j pc L (.int x :: .int (nI k) :: .ref (129 + a) :: r) (mset g ms) u := by
  refine zn_castore hi (by rw [mset_at hk, ha]) hin hn ?_
  have e : (.inl (1, n, .inl (upd (ms.2 a) k (vp_nar .char x))) : zC) = mcell (ms.1, va_up ms.2 a (upd (ms.2 a) k (vp_nar .char x))) a := by rw [ha]; dsimp only; rw [va_up_self]
  rw [e, mset_wr hk (fun i h1 h2 => mcell_arr h1 h2)]
  exact kk
theorem mn_bastore (a n : Nat) {k : Nat} {x : Int32} (hi : zins j pc = some .bastore) (ha : ∀ z : zMS, mcell z a = .inl (3, n, .inl (z.2 a))) (hk : a < 27) (hin : k < n) (hn : n < 2 ^ 31) (kk : zR X d j (pc + 1) L r (mset g (ms.1, va_up ms.2 a (upd (ms.2 a) k (vp_nar .boolean x)))) u) : zR X d j pc L (.int x :: .int (nI k) :: .ref (129 + a) :: r) (mset g ms) u := by
  refine zn_bastore hi (by rw [mset_at hk, ha]) hin hn ?_
  have e : (.inl (3, n, .inl (upd (ms.2 a) k (vp_nar .boolean x))) : zC) = mcell (ms.1, va_up ms.2 a (upd (ms.2 a) k (vp_nar .boolean x))) a := by rw [ha]; dsimp only; rw [va_up_self]
  rw [e, mset_wr hk (fun i h1 h2 => mcell_arr h1 h2)]
  exact kk
end MRN
