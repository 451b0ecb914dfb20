/-! THE REFERENCE's object: its cells are 129 to 155; its state: eight numbers, 26 rows -/
abbrev zMS : Type := (Nat → Int32) × (Nat → Nat → Int32)
def mcell (ms : zMS) (k : Nat) : zC := match k with
  | 0 => .inr (9, [.int (ms.1 0), .ref 130, .int (ms.1 1), .ref 131, .ref 132, .ref 133, .ref 134, .ref 135, .ref 136, .ref 137, .ref 138, .ref 139, .ref 140, .ref 141, .ref 142, .ref 143, .int (ms.1 2), .int (ms.1 3), .int (ms.1 4), .int (ms.1 5), .ref 144, .int (ms.1 6), .ref 145, .ref 146, .ref 147, .ref 148, .ref 149, .ref 150, .ref 151, .ref 152, .ref 153, .int (ms.1 7), .ref 154, .ref 155])
  | 1 => .inl (1, 200, .inl (ms.2 1))
  | 2 => .inl (0, 2, .inl (ms.2 2))
  | 3 => .inl (0, 2, .inl (ms.2 3))
  | 4 => .inl (0, 2, .inl (ms.2 4))
  | 5 => .inl (0, 440, .inl (ms.2 5))
  | 6 => .inl (0, 440, .inl (ms.2 6))
  | 7 => .inl (0, 440, .inl (ms.2 7))
  | 8 => .inl (0, 440, .inl (ms.2 8))
  | 9 => .inl (0, 440, .inl (ms.2 9))
  | 10 => .inl (0, 440, .inl (ms.2 10))
  | 11 => .inl (0, 440, .inl (ms.2 11))
  | 12 => .inl (1, 400, .inl (ms.2 12))
  | 13 => .inl (1, 1200, .inl (ms.2 13))
  | 14 => .inl (1, 5, .inl (ms.2 14))
  | 15 => .inl (1, 64, .inl (ms.2 15))
  | 16 => .inl (1, 96, .inl (ms.2 16))
  | 17 => .inl (0, 16, .inl (ms.2 17))
  | 18 => .inl (3, 100, .inl (ms.2 18))
  | 19 => .inl (0, 100, .inl (ms.2 19))
  | 20 => .inl (0, 200, .inl (ms.2 20))
  | 21 => .inl (1, 2400, .inl (ms.2 21))
  | 22 => .inl (0, 101, .inl (ms.2 22))
  | 23 => .inl (0, 1212, .inl (ms.2 23))
  | 24 => .inl (0, 1212, .inl (ms.2 24))
  | 25 => .inl (1, 800, .inl (ms.2 25))
  | _ => .inl (1, 5, .inl (ms.2 26))
def mset (g : zH) (ms : zMS) : zH := (g.1, g.2.1, fun a => if 129 ≤ a ∧ a < 156 then some (mcell ms (a - 129)) else g.2.2 a)
theorem mset_at {g : zH} {ms : zMS} {k : Nat} (hk : k < 27) : (mset g ms).2.2 (129 + k) = some (mcell ms k) := by
  show (if 129 ≤ 129 + k ∧ 129 + k < 156 then some (mcell ms (129 + k - 129)) else g.2.2 (129 + k)) = _
  rw [if_pos (by omega), Nat.add_sub_cancel_left]
theorem mset_wr {g : zH} {ms ms' : zMS} {k : Nat} (hk : k < 27) (hs : ∀ i, i < 27 → i ≠ k → mcell ms' i = mcell ms i) : zwr (mset g ms) (129 + k) (mcell ms' k) = mset g ms' := by
  show (g.1, g.2.1, va_up (mset g ms).2.2 (129 + k) (some (mcell ms' k))) = (g.1, g.2.1, _)
  congr 2
  funext a
  show (if a = 129 + k then some (mcell ms' k) else (if 129 ≤ a ∧ a < 156 then some (mcell ms (a - 129)) else g.2.2 a)) = (if 129 ≤ a ∧ a < 156 then some (mcell ms' (a - 129)) else g.2.2 a)
  by_cases ha : a = 129 + k
  · subst ha
    rw [if_pos rfl, if_pos (by omega), Nat.add_sub_cancel_left]
  · rw [if_neg ha]
    by_cases hb : 129 ≤ a ∧ a < 156
    · rw [if_pos hb, if_pos hb, hs (a - 129) (by omega) (by omega)]
    · rw [if_neg hb, if_neg hb]
theorem mcell_arr {ms : zMS} {a : Nat} {f : Nat → Int32} {i : Nat} (hi : i < 27) (hn : i ≠ a) : mcell (ms.1, va_up ms.2 a f) i = mcell ms i := by
  have e : i = 0 ∨ ∃ k, i = k + 1 := by cases i with
    | zero => exact Or.inl rfl
    | succ k => exact Or.inr ⟨k, rfl⟩
  rcases e with rfl | ⟨k, rfl⟩
  · rfl
  · have hv : va_up ms.2 a f (k + 1) = ms.2 (k + 1) := va_up_ne _ _ hn
    rcases (show k = 0 ∨ k = 1 ∨ k = 2 ∨ k = 3 ∨ k = 4 ∨ k = 5 ∨ k = 6 ∨ k = 7 ∨ k = 8 ∨ k = 9 ∨ k = 10 ∨ k = 11 ∨ k = 12 ∨ k = 13 ∨ k = 14 ∨ k = 15 ∨ k = 16 ∨ k = 17 ∨ k = 18 ∨ k = 19 ∨ k = 20 ∨ k = 21 ∨ k = 22 ∨ k = 23 ∨ k = 24 ∨ k = 25 by omega) with rfl | rfl | rfl | rfl | rfl | rfl | rfl | rfl | rfl | rfl | rfl | rfl | rfl | rfl | rfl | rfl | rfl | rfl | rfl | rfl | rfl | rfl | rfl | rfl | rfl | rfl
    · show (Sum.inl (1, 200, .inl (va_up ms.2 a f 1)) : zC) = .inl (1, 200, .inl (ms.2 1)); rw [show va_up ms.2 a f 1 = ms.2 1 from hv]
    · show (Sum.inl (0, 2, .inl (va_up ms.2 a f 2)) : zC) = .inl (0, 2, .inl (ms.2 2)); rw [show va_up ms.2 a f 2 = ms.2 2 from hv]
    · show (Sum.inl (0, 2, .inl (va_up ms.2 a f 3)) : zC) = .inl (0, 2, .inl (ms.2 3)); rw [show va_up ms.2 a f 3 = ms.2 3 from hv]
    · show (Sum.inl (0, 2, .inl (va_up ms.2 a f 4)) : zC) = .inl (0, 2, .inl (ms.2 4)); rw [show va_up ms.2 a f 4 = ms.2 4 from hv]
    · show (Sum.inl (0, 440, .inl (va_up ms.2 a f 5)) : zC) = .inl (0, 440, .inl (ms.2 5)); rw [show va_up ms.2 a f 5 = ms.2 5 from hv]
    · show (Sum.inl (0, 440, .inl (va_up ms.2 a f 6)) : zC) = .inl (0, 440, .inl (ms.2 6)); rw [show va_up ms.2 a f 6 = ms.2 6 from hv]
    · show (Sum.inl (0, 440, .inl (va_up ms.2 a f 7)) : zC) = .inl (0, 440, .inl (ms.2 7)); rw [show va_up ms.2 a f 7 = ms.2 7 from hv]
    · show (Sum.inl (0, 440, .inl (va_up ms.2 a f 8)) : zC) = .inl (0, 440, .inl (ms.2 8)); rw [show va_up ms.2 a f 8 = ms.2 8 from hv]
    · show (Sum.inl (0, 440, .inl (va_up ms.2 a f 9)) : zC) = .inl (0, 440, .inl (ms.2 9)); rw [show va_up ms.2 a f 9 = ms.2 9 from hv]
    · show (Sum.inl (0, 440, .inl (va_up ms.2 a f 10)) : zC) = .inl (0, 440, .inl (ms.2 10)); rw [show va_up ms.2 a f 10 = ms.2 10 from hv]
    · show (Sum.inl (0, 440, .inl (va_up ms.2 a f 11)) : zC) = .inl (0, 440, .inl (ms.2 11)); rw [show va_up ms.2 a f 11 = ms.2 11 from hv]
    · show (Sum.inl (1, 400, .inl (va_up ms.2 a f 12)) : zC) = .inl (1, 400, .inl (ms.2 12)); rw [show va_up ms.2 a f 12 = ms.2 12 from hv]
    · show (Sum.inl (1, 1200, .inl (va_up ms.2 a f 13)) : zC) = .inl (1, 1200, .inl (ms.2 13)); rw [show va_up ms.2 a f 13 = ms.2 13 from hv]
    · show (Sum.inl (1, 5, .inl (va_up ms.2 a f 14)) : zC) = .inl (1, 5, .inl (ms.2 14)); rw [show va_up ms.2 a f 14 = ms.2 14 from hv]
    · show (Sum.inl (1, 64, .inl (va_up ms.2 a f 15)) : zC) = .inl (1, 64, .inl (ms.2 15)); rw [show va_up ms.2 a f 15 = ms.2 15 from hv]
    · show (Sum.inl (1, 96, .inl (va_up ms.2 a f 16)) : zC) = .inl (1, 96, .inl (ms.2 16)); rw [show va_up ms.2 a f 16 = ms.2 16 from hv]
    · show (Sum.inl (0, 16, .inl (va_up ms.2 a f 17)) : zC) = .inl (0, 16, .inl (ms.2 17)); rw [show va_up ms.2 a f 17 = ms.2 17 from hv]
    · show (Sum.inl (3, 100, .inl (va_up ms.2 a f 18)) : zC) = .inl (3, 100, .inl (ms.2 18)); rw [show va_up ms.2 a f 18 = ms.2 18 from hv]
    · show (Sum.inl (0, 100, .inl (va_up ms.2 a f 19)) : zC) = .inl (0, 100, .inl (ms.2 19)); rw [show va_up ms.2 a f 19 = ms.2 19 from hv]
    · show (Sum.inl (0, 200, .inl (va_up ms.2 a f 20)) : zC) = .inl (0, 200, .inl (ms.2 20)); rw [show va_up ms.2 a f 20 = ms.2 20 from hv]
    · show (Sum.inl (1, 2400, .inl (va_up ms.2 a f 21)) : zC) = .inl (1, 2400, .inl (ms.2 21)); rw [show va_up ms.2 a f 21 = ms.2 21 from hv]
    · show (Sum.inl (0, 101, .inl (va_up ms.2 a f 22)) : zC) = .inl (0, 101, .inl (ms.2 22)); rw [show va_up ms.2 a f 22 = ms.2 22 from hv]
    · show (Sum.inl (0, 1212, .inl (va_up ms.2 a f 23)) : zC) = .inl (0, 1212, .inl (ms.2 23)); rw [show va_up ms.2 a f 23 = ms.2 23 from hv]
    · show (Sum.inl (0, 1212, .inl (va_up ms.2 a f 24)) : zC) = .inl (0, 1212, .inl (ms.2 24)); rw [show va_up ms.2 a f 24 = ms.2 24 from hv]
    · show (Sum.inl (1, 800, .inl (va_up ms.2 a f 25)) : zC) = .inl (1, 800, .inl (ms.2 25)); rw [show va_up ms.2 a f 25 = ms.2 25 from hv]
    · show (Sum.inl (1, 5, .inl (va_up ms.2 a f 26)) : zC) = .inl (1, 5, .inl (ms.2 26)); rw [show va_up ms.2 a f 26 = ms.2 26 from hv]
theorem mcell_fld {ms : zMS} {k : Nat} {v : Int32} {i : Nat} (hi : i < 27) (hn : i ≠ 0) : mcell (va_up ms.1 k v, ms.2) i = mcell ms i := by
  rcases (show i = 1 ∨ i = 2 ∨ i = 3 ∨ i = 4 ∨ i = 5 ∨ i = 6 ∨ i = 7 ∨ i = 8 ∨ i = 9 ∨ i = 10 ∨ i = 11 ∨ i = 12 ∨ i = 13 ∨ i = 14 ∨ i = 15 ∨ i = 16 ∨ i = 17 ∨ i = 18 ∨ i = 19 ∨ i = 20 ∨ i = 21 ∨ i = 22 ∨ i = 23 ∨ i = 24 ∨ i = 25 ∨ i = 26 by omega) with rfl | rfl | rfl | rfl | rfl | rfl | rfl | rfl | rfl | rfl | rfl | rfl | rfl | rfl | rfl | rfl | rfl | rfl | rfl | rfl | rfl | rfl | rfl | rfl | rfl | rfl <;> rfl
theorem zR.retE {X : zX} {d j pc : Nat} {L : zL} {st : List Value} {h : zH} {u : Option Value × zH} {v : Option Value} {i : Jvm.ClassFile.Instr} (hi : zins j pc = some i) (hr : zret (zrt j) i st = some v) (hu : u = (v, h)) : zR X d j pc L st h u := by
  subst hu
  exact zR.ret hi hr
def zb (b : Bool) : Int32 := if b = true then 1 else 0
section MR
variable {X : zX} {d j pc : Nat} {L : zL} {r : List Value} {g : zH} {ms : zMS} {u : Option Value × zH}
theorem mr_iastore (a n : Nat) {i x : Int32} (hi : zins j pc = some .iastore) (ha : mcell ms a = .inl (0, n, .inl (ms.2 a))) (ha2 : mcell (ms.1, va_up ms.2 a (upd (ms.2 a) i.toNatClampNeg (vp_nar .int x))) a = .inl (0, n, .inl (upd (ms.2 a) i.toNatClampNeg (vp_nar .int x)))) (hk : a < 27) (hin : 0 ≤ i.toInt ∧ i.toInt < n) (k : zR X d j (pc + 1) L r (mset g (ms.1, va_up ms.2 a (upd (ms.2 a) i.toNatClampNeg (vp_nar .int x)))) u) : zR X d j pc L (.int x :: .int i :: .ref (129 + a) :: r) (mset g ms) u := by
  refine zr_iastore hi (by rw [mset_at hk, ha]) hin ?_
  rw [← ha2, mset_wr hk (fun i h1 h2 => mcell_arr h1 h2)]
  exact k
theorem mr_castore (a n : Nat) {i x : Int32} (hi : zins j pc = some .castore) (ha : mcell ms a = .inl (1, n, .inl (ms.2 a))) (ha2 : mcell (ms.1, va_up ms.2 a (upd (ms.2 a) i.toNatClampNeg (vp_nar .char x))) a = .inl (1, n, .inl (upd (ms.2 a) i.toNatClampNeg (vp_nar .char x)))) (hk : a < 27) (hin : 0 ≤ i.toInt ∧ i.toInt < n) (k : zR X d j (pc + 1) L r (mset g (ms.1, va_up ms.2 a (upd (ms.2 a) i.toNatClampNeg (vp_nar .char x)))) u) : zR X d j pc L (.int x :: .int i :: .ref (129 + a) :: r) (mset g ms) u := by
  refine zr_castore hi (by rw [mset_at hk, ha]) hin ?_
  rw [← ha2, mset_wr hk (fun i h1 h2 => mcell_arr h1 h2)]
  exact k
theorem mr_bastore (a n : Nat) {i x : Int32} (hi : zins j pc = some .bastore) (ha : mcell ms a = .inl (3, n, .inl (ms.2 a))) (ha2 : mcell (ms.1, va_up ms.2 a (upd (ms.2 a) i.toNatClampNeg (vp_nar .boolean x))) a = .inl (3, n, .inl (upd (ms.2 a) i.toNatClampNeg (vp_nar .boolean x)))) (hk : a < 27) (hin : 0 ≤ i.toInt ∧ i.toInt < n) (k : zR X d j (pc + 1) L r (mset g (ms.1, va_up ms.2 a (upd (ms.2 a) i.toNatClampNeg (vp_nar .boolean x)))) u) : zR X d j pc L (.int x :: .int i :: .ref (129 + a) :: r) (mset g ms) u := by
  refine zr_bastore hi (by rw [mset_at hk, ha]) hin ?_
  rw [← ha2, mset_wr hk (fun i h1 h2 => mcell_arr h1 h2)]
  exact k
theorem mr_putf {i kf kk : Nat} {v : Int32} {fs : List Value} {ne : Bool} (hi : zins j pc = some (.putfield i)) (hf : zfl (zown j) i = some (9, kf, ne)) (hc : mcell ms 0 = .inr (9, fs)) (hl : kf < fs.length) (ht : zfit (zty 9 kf) (.int v) = true) (hn : zfin 9 kf = false) (hk : (.inr (9, fs.set kf (.int v)) : zC) = mcell (va_up ms.1 kk v, ms.2) 0) (k : zR X d j (pc + 3) L r (mset g (va_up ms.1 kk v, ms.2)) u) : zR X d j pc L (.int v :: .ref 129 :: r) (mset g ms) u := by
  refine zr_putf hi (by rw [← hc]; exact mset_at (k := 0) (by decide)) hf hl ht (Or.inl hn) ?_
  rw [hk]
  have e := mset_wr (g := g) (ms := ms) (ms' := (va_up ms.1 kk v, ms.2)) (k := 0) (by decide) (fun i h1 h2 => mcell_fld h1 h2)
  rw [show (129 : Nat) = 129 + 0 from rfl, e]
  exact k
end MR
