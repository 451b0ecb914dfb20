/-! THE PURE MACHINE: values with cell numbers in the place of addresses; cells; steps. Numbers below zK name constants that stand before the start; the i-th cell that is made has the number zK + i. -/
abbrev zC : Type := (Nat × vp_A) ⊕ (Nat × List Value)
abbrev zH : Type := Nat × Nat × (Nat → Option zC)
abbrev zL : Type := List (Option Value)
abbrev zF : Type := Nat × zL × List Value × zH
abbrev zX : Type := Nat × (Nat → Int32) × Value
abbrev zK : Nat := 100
def zv (ad : Nat → Nat) (v : Value) : Value := match v with
  | .ref k => .ref (ad k)
  | .int x => .int x
  | .long x => .long x
  | .float x => .float x
  | .double x => .double x
  | .null => .null
  | .retAddr q => .retAddr q
theorem zv_cat (ad : Nat → Nat) (v : Value) : (zv ad v).category = v.category := by cases v <;> rfl
def zvA (ad : Nat → Nat) (a : vp_A) : vp_A := match a with
  | (n, .inl f) => (n, .inl f)
  | (n, .inr (.inl f)) => (n, .inr (.inl f))
  | (n, .inr (.inr (.inl f))) => (n, .inr (.inr (.inl f)))
  | (n, .inr (.inr (.inr (.inl f)))) => (n, .inr (.inr (.inr (.inl f))))
  | (n, .inr (.inr (.inr (.inr f)))) => (n, .inr (.inr (.inr (.inr (fun j => (f j).map ad)))))
def zE (cA : Nat → ClassId) (ad : Nat → Nat) (c : zC) : va_E := match c with
  | .inl (t, a) => .inl (cA t, zvA ad a)
  | .inr (ci, fs) => .inr (ci, fs.map (zv ad))
def zwr (h : zH) (a : Nat) (c : zC) : zH := (h.1, h.2.1, va_up h.2.2 a (some c))
def znew (h : zH) (n : Nat) (c : zC) : zH := (h.1 + 1, h.2.1 + n, va_up h.2.2 (zK + h.1) (some c))
def zW (D : va_G) (cl : List vw_C) (cA : Nat → ClassId) (ad : Nat → Nat) (base : Nat) (h : zH) (H : Heap) : Prop :=
  H.size = base + h.1 ∧ ∀ (a : Nat) (c : zC), h.2.2 a = some c → zK ≤ a ∧ a < zK + h.1 ∧ ad a = base + (a - zK) ∧ va_at D cl (ad a, zE cA ad c) H
theorem zW.set {D : va_G} {cl : List vw_C} {cA : Nat → ClassId} {ad : Nat → Nat} {base : Nat} {h : zH} {H H1 : Heap} {a : Nat} {c0 c : zC} (hw : zW D cl cA ad base h H) (h0 : h.2.2 a = some c0) (z : H1.size = H.size) (oq : ∀ q : Nat, q ≠ ad a → H1[q]? = H[q]?) (hn : va_at D cl (ad a, zE cA ad c) H1) : zW D cl cA ad base (zwr h a c) H1 := by
  refine ⟨z.trans hw.1, fun b d hb => ?_⟩
  obtain ⟨g1, g2, g3, -⟩ := hw.2 a c0 h0
  by_cases hab : b = a
  · subst hab
    have e : some c = some d := by simpa [zwr, va_up] using hb
    cases e
    exact ⟨g1, g2, g3, hn⟩
  · have hb' : h.2.2 b = some d := by simpa [zwr, va_up, hab] using hb
    obtain ⟨k1, k2, k3, k4⟩ := hw.2 b d hb'
    refine ⟨k1, k2, k3, k4.kept (oq _ ?_)⟩
    show ad b ≠ ad a
    omega
theorem zW.push {D : va_G} {cl : List vw_C} {cA : Nat → ClassId} {ad : Nat → Nat} {base n : Nat} {h : zH} {H H1 : Heap} {c : zC} (hadd : ∀ i, ad (zK + i) = base + i) (hw : zW D cl cA ad base h H) (z : H1.size = H.size + 1) (oq : ∀ q : Nat, q < H.size → H1[q]? = H[q]?) (hn : va_at D cl (H.size, zE cA ad c) H1) : zW D cl cA ad base (znew h n c) H1 := by
  have hs := hw.1
  refine ⟨by rw [z, hs]; show base + h.1 + 1 = base + (h.1 + 1); omega, fun b d hb => ?_⟩
  show zK ≤ b ∧ b < zK + (h.1 + 1) ∧ _
  by_cases hab : b = zK + h.1
  · subst hab
    have e : some c = some d := by simpa [znew, va_up] using hb
    cases e
    refine ⟨by omega, by omega, by rw [hadd]; omega, ?_⟩
    rw [hadd, ← hs]
    exact hn
  · have hb' : h.2.2 b = some d := by simpa [znew, va_up, hab] using hb
    obtain ⟨k1, k2, k3, k4⟩ := hw.2 b d hb'
    refine ⟨k1, by omega, k3, k4.kept (oq _ ?_)⟩
    show ad b < H.size
    omega
/-- locals -/
def zlong (o : Option Value) : Bool := match o with
  | some v => v.category == 2
  | none => false
def zLH (ad : Nat → Nat) (ls : Array Slot) (nL : Nat) (L : zL) : Prop := L.length = nL ∧ ls.size = nL ∧ lv_wf ls ∧ ∀ (i : Nat) (v : Value), L[i]? = some (some v) → ls[i]? = some (.val (zv ad v))
def zll (ad : Nat → Nat) (L : zL) : List (Nat × Value) := (List.range L.length).filterMap (fun i => (L[i]?.join).map (fun v => (i, zv ad v)))
theorem zll_mem {ad : Nat → Nat} {L : zL} {i : Nat} {v : Value} (h : L[i]? = some (some v)) : (i, zv ad v) ∈ zll ad L :=
  List.mem_filterMap.mpr ⟨i, List.mem_range.mpr (List.getElem?_eq_some_iff.mp h).1, by rw [h]; rfl⟩
theorem zLH.has {ad : Nat → Nat} {ls : Array Slot} {nL : Nat} {L : zL} (h : zLH ad ls nL L) : lv_has ls nL (zll ad L) := by
  refine ⟨h.2.1, h.2.2.1, fun q hq => ?_⟩
  obtain ⟨i, -, hi⟩ := List.mem_filterMap.mp hq
  cases e : L[i]? with
  | none => rw [e] at hi; cases hi
  | some o =>
    cases o with
    | none => rw [e] at hi; cases hi
    | some v =>
      rw [e] at hi
      have hq' : (i, zv ad v) = q := Option.some.inj hi
      subst hq'
      exact h.2.2.2 i v e
def zst1 (L : zL) (i : Nat) (v : Value) : Option zL := if i < L.length ∧ (i = 0 ∨ zlong (L.getD (i - 1) none) = false) then some (L.set i (some v)) else none
def zst2 (L : zL) (i : Nat) (v : Value) : Option zL := if i + 1 < L.length ∧ (i = 0 ∨ zlong (L.getD (i - 1) none) = false) then some ((L.set i (some v)).set (i + 1) none) else none
theorem zst1_ok {ad : Nat → Nat} {ls : Array Slot} {nL i : Nat} {L L' : zL} {v : Value} (h : zLH ad ls nL L) (hz : zst1 L i v = some L') : i < nL ∧ ∀ ls' : Array Slot, lv_has ls' nL ((i, zv ad v) :: (zll ad L).filter (fun q => !(q.1 == i) && !(q.1 + 1 == i && q.2.category == 2))) → zLH ad ls' nL L' := by
  unfold zst1 at hz
  split at hz
  · rename_i hc
    cases hz
    refine ⟨h.1 ▸ hc.1, fun ls' h' => ⟨by simp [h.1], h'.1, h'.2.1, fun j w hj => ?_⟩⟩
    by_cases hji : j = i
    · subst hji
      have e : some v = some w := by simpa [hc.1] using hj
      cases e
      exact h'.2.2 _ List.mem_cons_self
    · have hj' : L[j]? = some (some w) := by
        rw [List.getElem?_set_ne (fun q => hji q.symm)] at hj
        exact hj
      refine h'.2.2 (j, zv ad w) (List.mem_cons_of_mem _ (List.mem_filter.mpr ⟨zll_mem hj', ?_⟩))
      have e1 : (j == i) = false := by simpa using hji
      by_cases h2 : j + 1 = i
      · have hcat : zlong (some w) = false := by
          rcases hc.2 with q | q
          · omega
          · have : i - 1 = j := by omega
            rw [this, List.getD_eq_getElem?_getD, hj'] at q
            exact q
        have hcat' : (w.category == 2) = false := hcat
        simp [e1, zv_cat, hcat']
      · simp [e1, h2]
  · cases hz
theorem zst2_ok {ad : Nat → Nat} {ls : Array Slot} {nL i : Nat} {L L' : zL} {v : Value} (h : zLH ad ls nL L) (hz : zst2 L i v = some L') : i + 1 < nL ∧ ∀ ls' : Array Slot, lv_has ls' nL ((i, zv ad v) :: (zll ad L).filter (fun q => !(q.1 == i) && (!(q.1 == i + 1) && !(q.1 + 1 == i && q.2.category == 2)))) → zLH ad ls' nL L' := by
  unfold zst2 at hz
  split at hz
  · rename_i hc
    cases hz
    refine ⟨h.1 ▸ hc.1, fun ls' h' => ⟨by simp [h.1], h'.1, h'.2.1, fun j w hj => ?_⟩⟩
    by_cases hj1 : j = i + 1
    · subst hj1
      simp [hc.1] at hj
    · rw [List.getElem?_set_ne (fun q => hj1 q.symm)] at hj
      by_cases hji : j = i
      · subst hji
        have hlt : j < L.length := by omega
        have e : some v = some w := by simpa [hlt] using hj
        cases e
        exact h'.2.2 _ List.mem_cons_self
      · have hj' : L[j]? = some (some w) := by
          rw [List.getElem?_set_ne (fun q => hji q.symm)] at hj
          exact hj
        refine h'.2.2 (j, zv ad w) (List.mem_cons_of_mem _ (List.mem_filter.mpr ⟨zll_mem hj', ?_⟩))
        have e1 : (j == i) = false := by simpa using hji
        have e2 : (j == i + 1) = false := by simpa using hj1
        by_cases h2 : j + 1 = i
        · have hcat : zlong (some w) = false := by
            rcases hc.2 with q | q
            · omega
            · have : i - 1 = j := by omega
              rw [this, List.getD_eq_getElem?_getD, hj'] at q
              exact q
          have hcat' : (w.category == 2) = false := hcat
          simp [e1, e2, zv_cat, hcat']
        · simp [e1, e2, h2]
  · cases hz
def zfit (ty : FieldType) (v : Value) : Bool := match ty, v with
  | .int, .int _ => true
  | .long, .long _ => true
  | .boolean, .int x => x == 0 || x == 1
  | .object _, .ref _ => true
  | .object _, .null => true
  | .array _, .ref _ => true
  | .array _, .null => true
  | _, _ => false
def zrref (t : Option FieldType) : Bool := match t with
  | some (.object _) => true
  | some (.array _) => true
  | _ => false
theorem zrref_ok {t : Option FieldType} (h : zrref t = true) : ∃ rt, t = some rt ∧ ((∃ n, rt = .object n) ∨ ∃ t, rt = .array t) := by
  unfold zrref at h
  split at h
  · exact ⟨_, rfl, Or.inl ⟨_, rfl⟩⟩
  · exact ⟨_, rfl, Or.inr ⟨_, rfl⟩⟩
  · cases h
