/-! BOTH: the message that is kept -/
theorem hd_segs {F S : Nat → Int32} {n : Nat} : ∀ (q e : Nat) (l : List zSeg), segsF F n S q e = some l → ∀ s, s ∈ l → ∀ c, c ∈ s.1 → (zcap c || zdig c) = true := by
  intro q
  induction q with
  | zero =>
    intro e l h s hs
    cases h
    exact absurd hs (List.not_mem_nil)
  | succ q ih =>
    intro e l h s hs c hc
    unfold segsF at h
    split at h
    · split at h
      · rename_i hn
        cases hr : restF F n S (e + 4) with
        | none => rw [hr] at h; cases h
        | some p =>
          rw [hr] at h
          cases hq : segsF F n S q p.2 with
          | none =>
            simp only [hq, Option.map_none] at h
            cases h
          | some l' =>
            simp only [hq, Option.map_some, Option.some.injEq] at h
            subst h
            rcases List.mem_cons.mp hs with q1 | q1
            · subst q1
              unfold nameOk at hn
              simp only [Bool.and_eq_true] at hn
              simp only [List.mem_cons, List.not_mem_nil, or_false] at hc
              rcases hc with rfl | rfl | rfl
              · rw [hn.1]; rfl
              · exact hn.2.1
              · exact hn.2.2
            · exact ih _ _ hq s q1 c hc
      · cases h
    · cases h
      exact absurd hs (List.not_mem_nil)
theorem hd_msg {F S : Nat → Int32} {n : Nat} {l : List zSeg} (h : msgF F n S = some l) : hdOk l ∧ l ≠ [] := by
  unfold msgF at h
  cases hr : restF F n S 8 with
  | none => rw [hr] at h; cases h
  | some p =>
    rw [hr] at h
    cases hq : segsF F n S n p.2 with
    | none =>
      simp only [hq, Option.map_none] at h
      cases h
    | some l' =>
      simp only [hq, Option.map_some, Option.some.injEq] at h
      subst h
      refine ⟨⟨fun s hs => ?_, fun s hs c hc => ?_⟩, List.cons_ne_nil _ _⟩
      · simp only [List.getElem?_cons_zero, Option.some.injEq] at hs
        rw [← hs]
      · rcases List.mem_cons.mp hs with q1 | q1
        · subst q1
          simp only [List.mem_cons, List.not_mem_nil, or_false] at hc
          rcases hc with rfl | rfl | rfl <;> decide
        · exact hd_segs _ _ _ hq s q1 c hc
/-- the second table -/
def mT1 (ms : zMS) (E : List zEn) : Prop := ms.2 3 1 = nI E.length ∧ (∀ t e, E[t]? = some e → mEnt ms (220 + t) (pre E t) e) ∧ ∀ i x, (flat E)[i]? = some x → ms.2 12 (200 + i) = x
theorem get_lt {α : Type} {E : List α} {t : Nat} {e : α} (he : E[t]? = some e) : t < E.length := by
  rcases Nat.lt_or_ge t E.length with q | q
  · exact q
  · rw [List.getElem?_eq_none q] at he; cases he
theorem cpy_220 (f : Nat → Int32) {n t : Nat} (b : Nat) (h : t < n) : va_cpy f f 0 b n (b + t) = f t := by
  rw [pk_cpy_in (by omega) (by omega)]
  congr 1
  omega
theorem keep_T1 {w : zMS} {E : List zEn} (h : mTab w E) (sg : Nat) : mT1 (mkeep w E.length (flat E).length sg) E := by
  obtain ⟨h1, h2, h3, h4⟩ := h
  refine ⟨?_, fun t e he => ?_, fun i x hx => ?_⟩
  · exact (pk_us : upd (w.2 3) 1 (nI E.length) 1 = _)
  · have ht := get_lt he
    obtain ⟨e1, e2, e3, e4, e5, e6, e7⟩ := h3 t e he
    exact ⟨(cpy_220 (w.2 5) 220 ht).trans e1, (cpy_220 (w.2 6) 220 ht).trans e2, (cpy_220 (w.2 7) 220 ht).trans e3, (cpy_220 (w.2 8) 220 ht).trans e4, (cpy_220 (w.2 9) 220 ht).trans e5, (cpy_220 (w.2 10) 220 ht).trans e6, (cpy_220 (w.2 11) 220 ht).trans e7⟩
  · exact (cpy_220 (w.2 12) 200 (get_lt hx)).trans (h4 i x hx)
theorem T1_txt {ms : zMS} {E : List zEn} (h : mT1 ms E) (hC : ∀ i, zch (ms.2 12 i)) (hl : E.length ≤ 220) (hf : (flat E).length ≤ 200) {t : Nat} {e : zEn} (he : E[t]? = some e) : mtxt ms (220 + t) e.2.length (pre E t) ∧ mtx ms (some (220 + t)) = some e.2 := by
  obtain ⟨h1, h3, h4⟩ := h
  obtain ⟨e1, e2, e3, e4, e5, e6, e7⟩ := h3 t e he
  obtain ⟨f1, f2⟩ := flat_at he
  have ht := get_lt he
  have hm : moff (220 + t) = 200 := if_neg (by omega)
  refine ⟨⟨by omega, e7, e6, by rw [hm]; omega, fun i _ => zch_nar (hC _)⟩, ?_⟩
  have hsz : msz ms (some (220 + t)) = e.2.length := by
    show (ms.2 11 (220 + t)).toNatClampNeg = _
    rw [e7, nI_clamp (by omega)]
  show some ((List.range (msz ms (some (220 + t)))).map (mch ms (some (220 + t)))) = some e.2
  congr 1
  rw [hsz]
  apply List.ext_getElem?
  intro i
  rw [List.getElem?_map]
  by_cases hi : i < e.2.length
  · rw [List.getElem?_range hi]
    show some (if i < (ms.2 11 (220 + t)).toNatClampNeg then ms.2 12 (moff (220 + t) + (ms.2 10 (220 + t)).toNatClampNeg + i) else 0) = _
    rw [e7, nI_clamp (by omega), if_pos hi, hm, e6, nI_clamp (by omega), Nat.add_assoc]
    have g1 := f2 i hi
    rw [List.getElem?_eq_getElem hi] at g1 ⊢
    rw [h4 _ _ g1]
  · rw [List.getElem?_eq_none (by simpa using hi), List.getElem?_eq_none (by omega)]; rfl
theorem T1_TV {ms : zMS} {E : List zEn} (h : mT1 ms E) (hC : ∀ i, zch (ms.2 12 i)) (hl : E.length ≤ 220) (hf : (flat E).length ≤ 200) : mTV ms 1 E.length := by
  refine ⟨h.1, hl, fun t h1 h2 => ?_⟩
  have ht : t - 220 < E.length := by omega
  have := (T1_txt h hC hl hf (List.getElem?_eq_getElem ht)).1
  rw [show 220 + (t - 220) = t by omega] at this
  exact ⟨_, _, this⟩
theorem T1_V1 {ms : zMS} {E : List zEn} (h : mT1 ms E) (hC : ∀ i, zch (ms.2 12 i)) (hl : E.length ≤ 220) (hf : (flat E).length ≤ 200) : mV1 ms = vE E := by
  funext s f r c
  unfold mV1 mfind vE
  rw [h.1, nI_clamp (by omega)]
  have key := zfst_find (mat ms s f r c) (entM s f r c) E (220 * 1) (fun t e he => by
    obtain ⟨e1, e2, e3, e4, e5, e6, e7⟩ := h.2.1 t e he
    unfold mat entM
    rw [show 220 * 1 + t = 220 + t by omega, e1, e2, e3, e4, e5])
  cases hz : zfst (mat ms s f r c) (220 * 1) E.length with
  | none => rw [hz] at key; rw [show E.find? (entM s f r c) = none from key]; rfl
  | some t =>
    rw [hz] at key
    obtain ⟨hle, e, k1, k2⟩ := key
    have := (T1_txt h hC hl hf k1).2
    rw [show 220 + (t - 220 * 1) = t by omega] at this
    rw [k2, this]
    rfl
theorem T1_TB {ms : zMS} {E : List zEn} (h : mT1 ms E) (hC : ∀ i, zch (ms.2 12 i)) (hl : E.length ≤ 220) (hf : (flat E).length ≤ 200) : mTB ms E := by
  refine ⟨h.1, hl, fun t e he => ?_⟩
  obtain ⟨e1, e2, e3, e4, e5, e6, e7⟩ := h.2.1 t e he
  obtain ⟨t1, t2⟩ := T1_txt h hC hl hf he
  obtain ⟨f1, f2⟩ := flat_at he
  refine ⟨e1, e2, e3, e4, e7, by omega, ⟨_, _, t1⟩, t2, fun c hc => ?_⟩
  obtain ⟨i, hi, hci⟩ := List.getElem_of_mem hc
  have g1 := f2 i hi
  rw [List.getElem?_eq_getElem hi, hci] at g1
  rw [← h.2.2 _ _ g1]
  exact hC _
theorem keep_nm {w : zMS} {nl : List Int32} {sg : Nat} (h : mNam w nl sg) (cnt cs : Nat) {i : Nat} {x : Int32} (hx : nl[i]? = some x) : (mkeep w cnt cs sg).2 13 (600 + i) = x := by
  have hi := get_lt hx
  exact (cpy_220 (w.2 13) 600 (by rw [h.2.1] at hi; exact hi)).trans (h.2.2 i x hx)
theorem zch_cpy {f : Nat → Int32} (h : ∀ i, zch (f i)) (a b n i : Nat) : zch (va_cpy f f a b n i) := by
  unfold va_cpy
  split
  · exact h _
  · exact h _
theorem keep_12 (w : zMS) (cnt cs sg : Nat) : (mkeep w cnt cs sg).2 12 = va_cpy (w.2 12) (w.2 12) 0 200 cs := rfl
theorem keep_2 (w : zMS) (cnt cs sg : Nat) : (mkeep w cnt cs sg).2 2 = upd (w.2 2) 1 (nI sg) := rfl
/-- what is kept of a message that was read -/
theorem keep_Kp {w : zMS} {l : List zSeg} (hT : mTab w (entA 1 l)) (hN : mNam w (nmA l) l.length) (hC : ∀ i, zch (w.2 12 i)) (hl : (entA 1 l).length ≤ 220) (hf : (flat (entA 1 l)).length ≤ 200) (hh : hdOk l) : mKp (mkeep w (entA 1 l).length (flat (entA 1 l)).length l.length) l := by
  have h1 := keep_T1 hT l.length
  have hC' : ∀ i, zch ((mkeep w (entA 1 l).length (flat (entA 1 l)).length l.length).2 12 i) := fun i => by rw [keep_12]; exact zch_cpy hC 0 200 _ i
  exact ⟨by rw [keep_2]; exact pk_us, T1_TV h1 hC' hl hf, T1_V1 h1 hC' hl hf, fun i x hx => keep_nm hN _ _ hx, T1_TB h1 hC' hl hf, hh⟩
/-- the same second table -/
def sam1 (x y : zMS) : Prop := y.2 2 1 = x.2 2 1 ∧ y.2 3 1 = x.2 3 1 ∧ (∀ k, 5 ≤ k → k ≤ 11 → ∀ i, 220 ≤ i → y.2 k i = x.2 k i) ∧ (∀ i, 200 ≤ i → y.2 12 i = x.2 12 i) ∧ (∀ i, 600 ≤ i → y.2 13 i = x.2 13 i)
theorem off_1 {t : Nat} (ht : 220 ≤ t) : moff t = 200 := if_neg (Nat.not_lt.mpr ht)
theorem sam_ch {x y : zMS} (h : sam1 x y) {t : Nat} (ht : 220 ≤ t) : mch y (some t) = mch x (some t) := by
  obtain ⟨-, -, eb, e12, -⟩ := h
  funext m
  show (if m < (y.2 11 t).toNatClampNeg then y.2 12 (moff t + (y.2 10 t).toNatClampNeg + m) else 0) = (if m < (x.2 11 t).toNatClampNeg then x.2 12 (moff t + (x.2 10 t).toNatClampNeg + m) else 0)
  rw [eb 11 (by decide) (by decide) t ht, eb 10 (by decide) (by decide) t ht]
  have : 200 ≤ moff t + (x.2 10 t).toNatClampNeg + m := by rw [off_1 ht]; omega
  rw [e12 _ this]
theorem sam_tx {x y : zMS} (h : sam1 x y) {t : Nat} (ht : 220 ≤ t) : mtx y (some t) = mtx x (some t) := by
  have hs : msz y (some t) = msz x (some t) := congrArg Int32.toNatClampNeg (h.2.2.1 11 (by decide) (by decide) t ht)
  unfold mtx
  rw [Option.map_some, Option.map_some, hs, sam_ch h ht]
theorem sam_tt {x y : zMS} (h : sam1 x y) {t ln b : Nat} (ht : 220 ≤ t) (q : mtxt x t ln b) : mtxt y t ln b := by
  obtain ⟨-, -, eb, e12, -⟩ := h
  refine ⟨q.1, (eb 11 (by decide) (by decide) t ht).trans q.2.1, (eb 10 (by decide) (by decide) t ht).trans q.2.2.1, q.2.2.2.1, fun i hi => ?_⟩
  have : 200 ≤ moff t + b + i := by rw [off_1 ht]; omega
  rw [e12 _ this]
  exact q.2.2.2.2 i hi
theorem sam_mat {x y : zMS} (h : sam1 x y) (s f r c : Int32) {t : Nat} (ht : 220 ≤ t) : mat y s f r c t = mat x s f r c t := by
  obtain ⟨-, -, eb, -, -⟩ := h
  unfold mat
  rw [eb 5 (by decide) (by decide) t ht, eb 6 (by decide) (by decide) t ht, eb 7 (by decide) (by decide) t ht, eb 8 (by decide) (by decide) t ht, eb 9 (by decide) (by decide) t ht]
theorem sam_z {x y : zMS} (h : sam1 x y) (s f r c : Int32) : ∀ k i, 220 ≤ i → zfst (mat y s f r c) i k = zfst (mat x s f r c) i k := by
  intro k
  induction k with
  | zero => intro i _; rfl
  | succ k ih => intro i hi; rw [zfst, zfst, sam_mat h _ _ _ _ hi, ih (i + 1) (by omega)]
theorem sam_V1 {x y : zMS} (h : sam1 x y) : mV1 y = mV1 x := by
  funext s f r c
  unfold mV1
  have ef : mfind y 1 s f r c = mfind x 1 s f r c := by
    unfold mfind
    rw [h.2.1, Nat.mul_one, sam_z h _ _ _ _ _ _ (Nat.le_refl _)]
  rw [ef]
  cases hq : mfind x 1 s f r c with
  | none => exact (mtx_none.mpr rfl).trans (mtx_none.mpr rfl).symm
  | some t =>
    unfold mfind at hq
    rw [Nat.mul_one] at hq
    exact sam_tx h (zfst_some hq).1
theorem sam_TB {x y : zMS} (h : sam1 x y) {E : List zEn} (k5 : mTB x E) : mTB y E := by
  obtain ⟨-, e3, eb, -, -⟩ := id h
  refine ⟨e3.trans k5.1, k5.2.1, fun t e he => ?_⟩
  obtain ⟨a1, a2, a3, a4, a5, a6, ⟨ln, b, a7⟩, a8, a9⟩ := k5.2.2 t e he
  have ht : 220 ≤ 220 + t := Nat.le_add_right _ _
  exact ⟨(eb 5 (by decide) (by decide) _ ht).trans a1, (eb 6 (by decide) (by decide) _ ht).trans a2, (eb 7 (by decide) (by decide) _ ht).trans a3, (eb 8 (by decide) (by decide) _ ht).trans a4, (eb 11 (by decide) (by decide) _ ht).trans a5, a6, ⟨ln, b, sam_tt h ht a7⟩, (sam_tx h ht).trans a8, a9⟩
theorem sam_TV {x y : zMS} (h : sam1 x y) {cnt : Nat} (k2 : mTV x 1 cnt) : mTV y 1 cnt := by
  refine ⟨h.2.1.trans k2.1, k2.2.1, fun t h1 h2 => ?_⟩
  obtain ⟨ln, b, q⟩ := k2.2.2 t h1 h2
  exact ⟨ln, b, sam_tt h (by omega) q⟩
/-- the kept message in a state that has its rows -/
theorem Kp_sam {x y : zMS} {l : List zSeg} (h : sam1 x y) (k : mKp x l) : mKp y l := by
  obtain ⟨k1, k2, k3, k4, k5, k6⟩ := k
  exact ⟨h.1.trans k1, sam_TV h k2, (sam_V1 h).trans k3, fun i z hz' => (h.2.2.2.2 _ (Nat.le_add_right _ _)).trans (k4 i z hz'), sam_TB h k5, k6⟩
