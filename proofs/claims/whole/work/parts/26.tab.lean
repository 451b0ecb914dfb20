/-! THE REFERENCE: its table of texts as a list -/
abbrev zEn : Type := (Nat × Nat × Nat × Nat × Nat) × List Int32
def flat (E : List zEn) : List Int32 := E.flatMap (fun e => e.2)
def pre (E : List zEn) (t : Nat) : Nat := (flat (E.take t)).length
theorem flat_app (E E' : List zEn) : flat (E ++ E') = flat E ++ flat E' := List.flatMap_append
theorem flat_one (e : zEn) : flat [e] = e.2 := by simp [flat]
/-- row after row, what the table says of a text -/
def mEnt (ms : zMS) (t b : Nat) (e : zEn) : Prop := ms.2 5 t = nI e.1.1 ∧ ms.2 6 t = nI e.1.2.1 ∧ ms.2 7 t = nI e.1.2.2.1 ∧ ms.2 8 t = nI e.1.2.2.2.1 ∧ ms.2 9 t = nI e.1.2.2.2.2 ∧ ms.2 10 t = nI b ∧ ms.2 11 t = nI e.2.length
def mTab (ms : zMS) (E : List zEn) : Prop := ms.2 3 0 = nI E.length ∧ ms.2 4 0 = nI (flat E).length ∧ (∀ t e, E[t]? = some e → mEnt ms t (pre E t) e) ∧ ∀ i x, (flat E)[i]? = some x → ms.2 12 i = x
theorem pre_app {E E' : List zEn} {t : Nat} (h : t ≤ E.length) : pre (E ++ E') t = pre E t := by
  unfold pre
  rw [List.take_append_of_le_length h]
theorem pre_len (E : List zEn) : pre E E.length = (flat E).length := by
  unfold pre
  rw [List.take_length]
theorem mTab_open {ms : zMS} {E : List zEn} {sg : Nat} (h : mTab ms E) (hs : ms.2 2 0 = nI sg) (f r c u : Nat) : mTab (mopen ms E.length (nI f) (nI r) (nI c) (nI u)) (E ++ [((sg, f, r, c, u), [])]) := by
  obtain ⟨h1, h2, h3, h4⟩ := h
  have hfl : flat (E ++ [((sg, f, r, c, u), [])]) = flat E := by rw [flat_app, flat_one, List.append_nil]
  refine ⟨?_, ?_, ?_, ?_⟩
  · rw [List.length_append]
    show upd (ms.2 3) 0 (nI (E.length + 1)) 0 = _
    rw [pk_us]; rfl
  · rw [hfl]; exact h2
  · intro t e he
    rw [List.getElem?_append] at he
    by_cases ht : t < E.length
    · rw [if_pos ht] at he
      rw [pre_app (by omega)]
      obtain ⟨e1, e2, e3, e4, e5, e6, e7⟩ := h3 t e he
      have hne : t ≠ E.length := by omega
      exact ⟨(pk_un hne).trans e1, (pk_un hne).trans e2, (pk_un hne).trans e3, (pk_un hne).trans e4, (pk_un hne).trans e5, (pk_un hne).trans e6, (pk_un hne).trans e7⟩
    · rw [if_neg ht] at he
      have ht2 : t = E.length := by
        rcases Nat.lt_or_ge (t - E.length) 1 with q | q
        · omega
        · rw [List.getElem?_eq_none (by simpa using q)] at he; cases he
      subst ht2
      rw [Nat.sub_self] at he
      cases he
      rw [pre_app (Nat.le_refl _), pre_len]
      exact ⟨pk_us.trans hs, pk_us, pk_us, pk_us, pk_us, pk_us.trans h2, pk_us⟩
  · rw [hfl]; exact h4
theorem mTab_add {ms : zMS} {E : List zEn} {k : Nat × Nat × Nat × Nat × Nat} {cs : List Int32} {x : Int32} (h : mTab ms (E ++ [(k, cs)])) (hx : zch x) : mTab (madd ms (flat (E ++ [(k, cs)])).length (E ++ [(k, cs)]).length x) (E ++ [(k, cs ++ [x])]) := by
  obtain ⟨h1, h2, h3, h4⟩ := h
  have hfl : flat (E ++ [(k, cs ++ [x])]) = flat (E ++ [(k, cs)]) ++ [x] := by
    rw [flat_app, flat_one, flat_app, flat_one, List.append_assoc]
  have hlen : (E ++ [(k, cs)]).length = E.length + 1 := by simp
  refine ⟨?_, ?_, ?_, ?_⟩
  · show ms.2 3 0 = nI (E ++ [(k, cs ++ [x])]).length
    rw [h1, List.length_append, List.length_append]; rfl
  · rw [hfl]
    show upd (ms.2 4) 0 (nI ((flat (E ++ [(k, cs)])).length + 1)) 0 = _
    rw [pk_us, List.length_append]; rfl
  · intro t e he
    rw [List.getElem?_append] at he
    by_cases ht : t < E.length
    · rw [if_pos ht] at he
      rw [pre_app (by omega)]
      obtain ⟨e1, e2, e3, e4, e5, e6, e7⟩ := h3 t e (by rw [List.getElem?_append, if_pos ht]; exact he)
      rw [pre_app (by omega)] at e6
      refine ⟨e1, e2, e3, e4, e5, e6, ?_⟩
      show upd (ms.2 11) ((E ++ [(k, cs)]).length - 1) _ t = _
      rw [pk_un (by rw [hlen]; omega)]
      exact e7
    · rw [if_neg ht] at he
      have ht2 : t = E.length := by
        rcases Nat.lt_or_ge (t - E.length) 1 with q | q
        · omega
        · rw [List.getElem?_eq_none (by simpa using q)] at he; cases he
      subst ht2
      rw [Nat.sub_self] at he
      cases he
      obtain ⟨e1, e2, e3, e4, e5, e6, e7⟩ := h3 E.length (k, cs) (by rw [List.getElem?_append, if_neg (by omega), Nat.sub_self]; rfl)
      rw [pre_app (Nat.le_refl _)] at e6 ⊢
      refine ⟨e1, e2, e3, e4, e5, e6, ?_⟩
      show upd (ms.2 11) ((E ++ [(k, cs)]).length - 1) (ms.2 11 ((E ++ [(k, cs)]).length - 1) + 1) E.length = nI (cs ++ [x]).length
      rw [hlen, Nat.add_sub_cancel, pk_us, e7, List.length_append]
      exact nI_1 _
  · intro i y hy
    rw [hfl, List.getElem?_append] at hy
    show upd (ms.2 12) (flat (E ++ [(k, cs)])).length (vp_nar .char x) i = y
    by_cases hi : i < (flat (E ++ [(k, cs)])).length
    · rw [if_pos hi] at hy
      rw [pk_un (by omega)]
      exact h4 i y hy
    · rw [if_neg hi] at hy
      have ht2 : i = (flat (E ++ [(k, cs)])).length := by
        rcases Nat.lt_or_ge (i - (flat (E ++ [(k, cs)])).length) 1 with q | q
        · omega
        · rw [List.getElem?_eq_none (by simpa using q)] at hy; cases hy
      subst ht2
      rw [Nat.sub_self] at hy
      cases hy
      rw [pk_us]
      exact hx
/-- all is as it was but table 0 and the place in the frame -/
def mpar (ms ms' : zMS) : Prop := (∀ k, k ≠ 1 → ms'.1 k = ms.1 k) ∧ (∀ k, (k < 2 ∨ 13 < k) → ms'.2 k = ms.2 k) ∧ (∀ k, 2 ≤ k → k ≤ 4 → ∀ i, i ≠ 0 → ms'.2 k i = ms.2 k i) ∧ (∀ k, 5 ≤ k → k ≤ 11 → ∀ i, 220 ≤ i → ms'.2 k i = ms.2 k i) ∧ (∀ i, 200 ≤ i → ms'.2 12 i = ms.2 12 i) ∧ (∀ i, 600 ≤ i → ms'.2 13 i = ms.2 13 i) ∧ ((∀ i, zch (ms.2 12 i)) → ∀ i, zch (ms'.2 12 i)) ∧ ((∀ i, zch (ms.2 13 i)) → ∀ i, zch (ms'.2 13 i))
theorem mpar.n {ms ms' : zMS} (h : mpar ms ms') : ∀ k, k ≠ 1 → ms'.1 k = ms.1 k := h.1
theorem mpar.r {ms ms' : zMS} (h : mpar ms ms') : ∀ k, (k < 2 ∨ 13 < k) → ms'.2 k = ms.2 k := h.2.1
theorem mpar.a {ms ms' : zMS} (h : mpar ms ms') : ∀ k, 2 ≤ k → k ≤ 4 → ∀ i, i ≠ 0 → ms'.2 k i = ms.2 k i := h.2.2.1
theorem mpar.b {ms ms' : zMS} (h : mpar ms ms') : ∀ k, 5 ≤ k → k ≤ 11 → ∀ i, 220 ≤ i → ms'.2 k i = ms.2 k i := h.2.2.2.1
theorem mpar.l {ms ms' : zMS} (h : mpar ms ms') : ∀ i, 200 ≤ i → ms'.2 12 i = ms.2 12 i := h.2.2.2.2.1
theorem mpar.m {ms ms' : zMS} (h : mpar ms ms') : ∀ i, 600 ≤ i → ms'.2 13 i = ms.2 13 i := h.2.2.2.2.2.1
theorem mpar.cl {ms ms' : zMS} (h : mpar ms ms') : (∀ i, zch (ms.2 12 i)) → ∀ i, zch (ms'.2 12 i) := h.2.2.2.2.2.2.1
theorem mpar.cm {ms ms' : zMS} (h : mpar ms ms') : (∀ i, zch (ms.2 13 i)) → ∀ i, zch (ms'.2 13 i) := h.2.2.2.2.2.2.2
theorem mpar.refl (ms : zMS) : mpar ms ms := ⟨fun _ _ => rfl, fun _ _ => rfl, fun _ _ _ _ _ => rfl, fun _ _ _ _ _ => rfl, fun _ _ => rfl, fun _ _ => rfl, fun h => h, fun h => h⟩
theorem mpar.trans {a b c : zMS} (h1 : mpar a b) (h2 : mpar b c) : mpar a c :=
  ⟨fun k hk => (h2.n k hk).trans (h1.n k hk), fun k hk => (h2.r k hk).trans (h1.r k hk), fun k p q i hi => (h2.a k p q i hi).trans (h1.a k p q i hi), fun k p q i hi => (h2.b k p q i hi).trans (h1.b k p q i hi), fun i hi => (h2.l i hi).trans (h1.l i hi), fun i hi => (h2.m i hi).trans (h1.m i hi), fun h => h2.cl (h1.cl h), fun h => h2.cm (h1.cm h)⟩
theorem zch_vp (x : Int32) : zch (vp_nar .char x) := by
  show vp_nar .char (vp_nar .char x) = vp_nar .char x
  have e : ∀ y : Int32, vp_nar .char y = (y.toUInt32 % 65536).toInt32 := by
    intro y
    rw [vp_nar_char]
    rfl
  rw [e x]
  exact pk_vc x
theorem mpar_at (ms : zMS) (v : Int32) : mpar ms (va_up ms.1 1 v, ms.2) := ⟨fun k hk => va_up_ne _ _ hk, fun _ _ => rfl, fun _ _ _ _ _ => rfl, fun _ _ _ _ _ => rfl, fun _ _ => rfl, fun _ _ => rfl, fun h => h, fun h => h⟩
theorem mpar_add (ms : zMS) (c t : Nat) (x : Int32) (hc : c < 200) (ht : t ≤ 220) (h0 : 1 ≤ t) : mpar ms (madd ms c t x) := by
  have hr : ∀ k, k ≠ 12 → k ≠ 4 → k ≠ 11 → (madd ms c t x).2 k = ms.2 k := by
    intro k h1 h2 h3
    show va_up (va_up (va_up ms.2 12 _) 4 _) 11 _ k = _
    rw [va_up_ne _ _ h3, va_up_ne _ _ h2, va_up_ne _ _ h1]
  refine ⟨fun _ _ => rfl, fun k hk => hr k (by omega) (by omega) (by omega), ?_, ?_, ?_, ?_, ?_, ?_⟩
  · intro k h1 h2 i hi
    by_cases h4 : k = 4
    · subst h4; exact pk_un hi
    · rw [hr k (by omega) h4 (by omega)]
  · intro k h1 h2 i hi
    by_cases h4 : k = 11
    · subst h4; exact pk_un (by omega)
    · rw [hr k (by omega) (by omega) h4]
  · intro i hi
    exact pk_un (by omega)
  · intro i hi
    rw [hr 13 (by omega) (by omega) (by omega)]
  · intro h i
    show zch (upd (ms.2 12) c (vp_nar .char x) i)
    by_cases hi : i = c
    · subst hi; rw [pk_us]; exact zch_vp x
    · rw [pk_un hi]; exact h i
  · intro h i
    rw [hr 13 (by omega) (by omega) (by omega)]; exact h i
theorem mpar_open (ms : zMS) (t : Nat) (f r c s : Int32) (ht : t < 220) : mpar ms (mopen ms t f r c s) := by
  have hr : ∀ k, k ≠ 3 → ¬ (5 ≤ k ∧ k ≤ 11) → (mopen ms t f r c s).2 k = ms.2 k := by
    intro k h1 h2
    show va_up (va_up (va_up (va_up (va_up (va_up (va_up (va_up ms.2 5 _) 6 _) 7 _) 8 _) 9 _) 10 _) 11 _) 3 _ k = _
    rw [va_up_ne _ _ h1, va_up_ne _ _ (by omega), va_up_ne _ _ (by omega), va_up_ne _ _ (by omega), va_up_ne _ _ (by omega), va_up_ne _ _ (by omega), va_up_ne _ _ (by omega), va_up_ne _ _ (by omega)]
  refine ⟨fun _ _ => rfl, fun k hk => hr k (by omega) (by omega), ?_, ?_, ?_, ?_, ?_, ?_⟩
  · intro k h1 h2 i hi
    by_cases h4 : k = 3
    · subst h4; exact pk_un hi
    · rw [hr k h4 (by omega)]
  · intro k h1 h2 i hi
    have hne : i ≠ t := by omega
    rcases (show k = 5 ∨ k = 6 ∨ k = 7 ∨ k = 8 ∨ k = 9 ∨ k = 10 ∨ k = 11 by omega) with rfl | rfl | rfl | rfl | rfl | rfl | rfl <;> exact pk_un hne
  · intro i hi
    rw [hr 12 (by omega) (by omega)]
  · intro i hi
    rw [hr 13 (by omega) (by omega)]
  · intro h i
    rw [hr 12 (by omega) (by omega)]; exact h i
  · intro h i
    rw [hr 13 (by omega) (by omega)]; exact h i
