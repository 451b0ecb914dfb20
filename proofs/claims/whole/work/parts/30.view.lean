/-! THE REFERENCE: what its table says, as a function of the list of texts -/
def entM (s f r c : Int32) (e : zEn) : Bool := decide (nI e.1.1 = s) && (decide (nI e.1.2.1 = f) && (decide (nI e.1.2.2.1 = r) && (decide (nI e.1.2.2.2.1 = c) && decide (nI e.1.2.2.2.2 = 1))))
def vE (E : List zEn) (s f r c : Int32) : zT := (E.find? (entM s f r c)).map (fun e => e.2)
theorem zfst_find (P : Nat → Bool) (Q : zEn → Bool) : ∀ (L : List zEn) (i : Nat), (∀ t e, L[t]? = some e → P (i + t) = Q e) → (match zfst P i L.length with
    | none => L.find? Q = none
    | some t => i ≤ t ∧ ∃ e, L[t - i]? = some e ∧ L.find? Q = some e) := by
  intro L
  induction L with
  | nil => intro i _; rfl
  | cons x L ih =>
    intro i h
    have h0 : P i = Q x := h 0 x rfl
    rw [List.length_cons, zfst]
    by_cases hp : P i = true
    · rw [if_pos hp]
      exact ⟨Nat.le_refl _, x, by simp, by rw [List.find?_cons, ← h0, hp]⟩
    · rw [if_neg hp]
      have hq : Q x = false := by rw [← h0]; exact Bool.eq_false_iff.mpr hp
      have := ih (i + 1) (fun t e he => by
        have := h (t + 1) e (by simpa using he)
        rw [show i + 1 + t = i + (t + 1) by omega]; exact this)
      rw [List.find?_cons, hq]
      cases hz : zfst P (i + 1) L.length with
      | none => rw [hz] at this; exact this
      | some t =>
        rw [hz] at this
        obtain ⟨h1, e, h2, h3⟩ := this
        refine ⟨by omega, e, ?_, h3⟩
        rw [show t - i = (t - (i + 1)) + 1 by omega, List.getElem?_cons_succ]
        exact h2
theorem flat_at : ∀ {E : List zEn} {t : Nat} {e : zEn}, E[t]? = some e → pre E t + e.2.length ≤ (flat E).length ∧ ∀ i, i < e.2.length → (flat E)[pre E t + i]? = e.2[i]? := by
  intro E
  induction E with
  | nil => intro t e h; simp at h
  | cons x E ih =>
    intro t e h
    have hfl : flat (x :: E) = x.2 ++ flat E := rfl
    cases t with
    | zero =>
      simp only [List.getElem?_cons_zero, Option.some.injEq] at h
      subst h
      have hp : pre (x :: E) 0 = 0 := rfl
      rw [hp, hfl, List.length_append]
      refine ⟨by omega, fun i hi => ?_⟩
      rw [Nat.zero_add, List.getElem?_append, if_pos hi]
    | succ t =>
      rw [List.getElem?_cons_succ] at h
      obtain ⟨h1, h2⟩ := ih h
      have hp : pre (x :: E) (t + 1) = x.2.length + pre E t := by
        show (x.2 ++ flat (E.take t)).length = _
        rw [List.length_append]; rfl
      rw [hp, hfl, List.length_append]
      refine ⟨by omega, fun i hi => ?_⟩
      rw [List.getElem?_append, if_neg (by omega), show x.2.length + pre E t + i - x.2.length = pre E t + i by omega]
      exact h2 i hi
theorem mTab_txt {ms : zMS} {E : List zEn} (h : mTab ms E) (hC : ∀ i, zch (ms.2 12 i)) (hl : E.length ≤ 220) (hf : (flat E).length ≤ 200) {t : Nat} {e : zEn} (he : E[t]? = some e) : mtxt ms t e.2.length (pre E t) ∧ mtx ms (some t) = some e.2 := by
  obtain ⟨h1, h2, h3, h4⟩ := h
  obtain ⟨e1, e2, e3, e4, e5, e6, e7⟩ := h3 t e he
  obtain ⟨f1, f2⟩ := flat_at he
  have ht : t < E.length := by
    rcases Nat.lt_or_ge t E.length with q | q
    · exact q
    · rw [List.getElem?_eq_none q] at he; cases he
  have hm : moff t = 0 := if_pos (by omega)
  refine ⟨⟨by omega, e7, e6, by rw [hm]; omega, fun i _ => zch_nar (hC _)⟩, ?_⟩
  have hsz : msz ms (some t) = e.2.length := by
    show (ms.2 11 t).toNatClampNeg = _
    rw [e7, nI_clamp (by omega)]
  show some ((List.range (msz ms (some t))).map (mch ms (some t))) = some e.2
  congr 1
  rw [hsz]
  apply List.ext_getElem?
  intro i
  rw [List.getElem?_map]
  by_cases hi : i < e.2.length
  · rw [List.getElem?_range hi]
    show some (if i < (ms.2 11 t).toNatClampNeg then ms.2 12 (moff t + (ms.2 10 t).toNatClampNeg + i) else 0) = _
    rw [e7, nI_clamp (by omega), if_pos hi, hm, e6, nI_clamp (by omega), Nat.zero_add]
    have g1 := f2 i hi
    rw [List.getElem?_eq_getElem hi] at g1 ⊢
    rw [h4 _ _ g1]
  · rw [List.getElem?_eq_none (by simpa using hi), List.getElem?_eq_none (by omega)]; rfl
theorem mTab_TV {ms : zMS} {E : List zEn} (h : mTab ms E) (hC : ∀ i, zch (ms.2 12 i)) (hl : E.length ≤ 220) (hf : (flat E).length ≤ 200) : mTV ms 0 E.length := by
  refine ⟨h.1, hl, fun t h1 h2 => ?_⟩
  have ht : t < E.length := by omega
  exact ⟨_, _, (mTab_txt h hC hl hf (List.getElem?_eq_getElem ht)).1⟩
theorem mV_tab {ms : zMS} {E : List zEn} (h : mTab ms E) (hC : ∀ i, zch (ms.2 12 i)) (hl : E.length ≤ 220) (hf : (flat E).length ≤ 200) : mV ms = vE E := by
  funext s f r c
  unfold mV mfind vE
  rw [h.1, nI_clamp (by omega)]
  have key := zfst_find (mat ms s f r c) (entM s f r c) E (220 * 0) (fun t e he => by
    obtain ⟨e1, e2, e3, e4, e5, e6, e7⟩ := h.2.2.1 t e he
    unfold mat entM
    rw [show 220 * 0 + t = t by omega, e1, e2, e3, e4, e5])
  cases hz : zfst (mat ms s f r c) (220 * 0) E.length with
  | none => rw [hz] at key; rw [show E.find? (entM s f r c) = none from key]; rfl
  | some t =>
    rw [hz] at key
    obtain ⟨-, e, k1, k2⟩ := key
    rw [Nat.mul_zero, Nat.sub_zero] at k1
    rw [k2, (mTab_txt h hC hl hf k1).2]
    rfl
