/-! BOTH: repetitions, results -/
theorem nI_inj {a b : Nat} (ha : a < 2 ^ 31) (hb : b < 2 ^ 31) (h : nI a = nI b) : a = b := (nI_eq ha hb).mp h
/-- behind a field none of its texts comes -/
theorem fd_past {f : Nat → Int32} {R C : Int32} : ∀ (m p a b c : Nat), 2 < a → a + m < 1000 → fdL f 2 R C p m a b c = none := by
  intro m
  induction m with
  | zero =>
    intro p a b c ha hm
    rw [fdL, if_neg (fun z => by have := nI_inj (a := a) (b := 2) (by omega) (by decide) z.1; omega)]
  | succ m ih =>
    intro p a b c ha hm
    rw [fdL, if_neg (fun z => by have := nI_inj (a := a) (b := 2) (by omega) (by decide) z.1; omega)]
    split
    · rfl
    · split
      · exact ih _ _ _ _ (by omega) (by omega)
      · split
        · exact ih _ _ _ _ ha (by omega)
        · split
          · exact ih _ _ _ _ ha (by omega)
          · exact ih _ _ _ _ ha (by omega)
/-- behind a repetition its texts don't come again -/
theorem fd_past2 {f : Nat → Int32} {C : Int32} {r : Nat} : ∀ (m p b c : Nat), r < b → b + m < 990 → fdL f 2 (nI r) C p m 2 b c = none := by
  intro m
  induction m with
  | zero =>
    intro p b c hb hm
    rw [fdL, if_neg (fun z => by have := nI_inj (a := b) (b := r) (by omega) (by omega) z.2.1; omega)]
  | succ m ih =>
    intro p b c hb hm
    rw [fdL, if_neg (fun z => by have := nI_inj (a := b) (b := r) (by omega) (by omega) z.2.1; omega)]
    split
    · rfl
    · split
      · exact fd_past _ _ _ _ _ (by omega) (by omega)
      · split
        · exact ih _ _ _ (by omega) (by omega)
        · split
          · exact ih _ _ _ hb (by omega)
          · exact ih _ _ _ hb (by omega)
/-- the next repetition, from within one -/
theorem fd_next {f : Nat → Int32} {r : Nat} : ∀ (m p c : Nat), r + m < 900 → fdL f 2 (nI (r + 1)) 1 p m 2 r c = nxL f p m := by
  intro m
  induction m with
  | zero =>
    intro p c hm
    rw [fdL, nxL, if_neg (fun z => by have := nI_inj (a := r) (b := r + 1) (by omega) (by omega) z.2.1; omega)]
  | succ m ih =>
    intro p c hm
    rw [fdL, nxL, if_neg (fun z => by have := nI_inj (a := r) (b := r + 1) (by omega) (by omega) z.2.1; omega)]
    by_cases h258 : f p = 258
    · rw [if_pos h258, if_neg (by rw [h258]; decide), if_neg (by rw [h258]; decide), if_pos h258]
      cases m with
      | zero => rw [fdL, if_pos ⟨rfl, rfl, rfl⟩]
      | succ m => rw [fdL, if_pos ⟨rfl, rfl, rfl⟩]
    · by_cases h261 : f p = 261
      · have e256 : ¬ f p = 256 := by rw [h261]; decide
        rw [if_pos h261, if_neg h258, if_neg e256, if_pos h261]
      · by_cases h256 : f p = 256
        · rw [if_neg h261, if_pos h256, if_neg h258, if_pos h256]
          exact fd_past m (p + 1) (2 + 1) 1 1 (by decide) (by omega)
        · rw [if_neg h261, if_neg h256, if_neg h258, if_neg h258, if_neg h256, if_neg h261]
          split
          · exact ih _ _ (by omega)
          · exact ih _ _ (by omega)
/-- a search for a repetition passes the one before -/
theorem fd_pass {f : Nat → Int32} {r : Nat} (hr : 1 ≤ r) : ∀ (m P a b c p : Nat), (a < 2 ∨ (a = 2 ∧ b ≤ r)) → a + b + 2 * m + r < 900 → fdL f 2 (nI r) 1 P m a b c = some p → fdL f 2 (nI (r + 1)) 1 P m a b c = nxL f p (P + m - p) ∧ P ≤ p ∧ (a < 2 → P < p) := by
  intro m
  induction m with
  | zero =>
    intro P a b c p hab hm h
    rw [fdL] at h
    split at h
    · rename_i hh
      cases h
      have e1 := nI_inj (a := a) (b := 2) (by omega) (by decide) hh.1
      have e2 := nI_inj (a := b) (b := r) (by omega) (by omega) hh.2.1
      have e3 := hh.2.2
      subst e1; subst e2
      rw [fd_next 0 _ c (by omega), show P + 0 - P = 0 by omega]
      exact ⟨rfl, Nat.le_refl _, fun q => by omega⟩
    · cases h
  | succ m ih =>
    intro P a b c p hab hm h
    rw [fdL] at h
    split at h
    · rename_i hh
      cases h
      have e1 := nI_inj (a := a) (b := 2) (by omega) (by decide) hh.1
      have e2 := nI_inj (a := b) (b := r) (by omega) (by omega) hh.2.1
      subst e1; subst e2
      rw [fd_next (m + 1) _ c (by omega), show P + (m + 1) - P = m + 1 by omega]
      exact ⟨rfl, Nat.le_refl _, fun q => by omega⟩
    · have hnm : ¬ (nI a = 2 ∧ nI b = nI (r + 1) ∧ nI c = 1) := fun z => by
        have e1 := nI_inj (a := a) (b := 2) (by omega) (by decide) z.1
        have e2 := nI_inj (a := b) (b := r + 1) (by omega) (by omega) z.2.1
        omega
      rw [fdL, if_neg hnm]
      split at h
      · cases h
      · rename_i h261
        rw [if_neg h261]
        split at h
        · rename_i h256
          rw [if_pos h256]
          by_cases ha : a + 1 ≤ 2
          · have := ih (P + 1) (a + 1) 1 1 p (by omega) (by omega) h
            exact ⟨by rw [this.1, show P + 1 + m - p = P + (m + 1) - p by omega], by omega, fun _ => by omega⟩
          · rw [fd_past _ _ _ _ _ (by omega) (by omega)] at h
            cases h
        · rename_i h256
          rw [if_neg h256]
          split at h
          · rename_i h258
            rw [if_pos h258]
            by_cases hb : a < 2 ∨ (a = 2 ∧ b + 1 ≤ r)
            · have := ih (P + 1) a (b + 1) 1 p hb (by omega) h
              exact ⟨by rw [this.1, show P + 1 + m - p = P + (m + 1) - p by omega], by omega, fun _ => by omega⟩
            · have ha2 : a = 2 := by omega
              subst ha2
              rw [fd_past2 _ _ _ _ (by omega) (by omega)] at h
              cases h
          · rename_i h258
            rw [if_neg h258]
            split at h
            · rename_i h257
              rw [if_pos h257]
              have := ih (P + 1) a b (c + 1) p hab (by omega) h
              exact ⟨by rw [this.1, show P + 1 + m - p = P + (m + 1) - p by omega], by omega, fun _ => by omega⟩
            · rename_i h257
              rw [if_neg h257]
              have := ih (P + 1) a b c p hab (by omega) h
              exact ⟨by rw [this.1, show P + 1 + m - p = P + (m + 1) - p by omega], by omega, fun _ => by omega⟩
/-- where the repetitions of field 2 of a segment begin -/
def psR (f : Nat → Int32) (n : Nat) (P : Nat → Nat) (s r : Nat) : Option Nat := fdo f n P (some s) 2 (nI r) 1
theorem psR_s {f : Nat → Int32} {n : Nat} {P : Nat → Nat} {s r p : Nat} (hr : 1 ≤ r) (hr2 : r ≤ 300) (hP : P s ≤ n) (hn : n ≤ 200) (h : psR f n P s r = some p) : psR f n P s (r + 1) = nxL f p (n - p) ∧ P s < p ∧ p ≤ n := by
  have h1 := fd_pass hr (n - P s) (P s) 0 1 1 p (by omega) (by omega) h
  rw [show P s + (n - P s) - p = n - p by omega] at h1
  have h2 := fdL_le (show fdL f 2 (nI r) 1 (P s) (n - P s) 0 1 1 = some p from h)
  exact ⟨h1.1, h1.2.2 (by decide), by omega⟩
/-- how many repetitions follow each other -/
def cntR (f : Nat → Int32) (n q : Nat) (o : Option Nat) : Nat := match q with
  | 0 => 0
  | q + 1 => match o with
    | none => 0
    | some p => cntR f n q (nxL f p (n - p)) + 1
theorem cntR_fuel {f : Nat → Int32} {n : Nat} : ∀ (q q' : Nat) (o : Option Nat), (∀ p, o = some p → p ≤ n ∧ n + 1 ≤ p + q ∧ n + 1 ≤ p + q') → cntR f n q o = cntR f n q' o := by
  intro q
  induction q with
  | zero =>
    intro q' o h
    cases o with
    | none => cases q' <;> rfl
    | some p => have := h p rfl; omega
  | succ q ih =>
    intro q' o h
    cases o with
    | none => cases q' <;> rfl
    | some p =>
      have := h p rfl
      cases q' with
      | zero => omega
      | succ q' =>
        rw [cntR, cntR, ih q' (nxL f p (n - p)) (fun w hw => by have := nxL_le hw; omega)]
theorem repL_cnt {V : zV} {f : Nat → Int32} {n : Nat} {P : Nat → Nat} {s : Nat} (hP : P s ≤ n) (hn : n ≤ 200) (hU : ∀ r, 1 ≤ r → r ≤ 300 → V (nI s) 2 (nI r) 1 = txo f n (psR f n P s r)) : ∀ (k r : Nat), 1 ≤ r → r + k ≤ 290 → (∃ p, psR f n P s r = some p) → repL V (nI s) r k = r + cntR f n k (psR f n P s (r + 1)) := by
  intro k
  induction k with
  | zero => intro r h1 h2 _; rfl
  | succ k ih =>
    intro r h1 h2 ⟨p, hp⟩
    obtain ⟨e, -, -⟩ := psR_s h1 (by omega) hP hn hp
    rw [repL, hU (r + 1) (by omega) (by omega)]
    cases hq : psR f n P s (r + 1) with
    | none => rw [if_pos (show txo f n none = none from rfl)]; rfl
    | some p' =>
      obtain ⟨e', -, -⟩ := psR_s (r := r + 1) (by omega) (by omega) hP hn hq
      rw [if_neg (by simp [txo]), ih (r + 1) (by omega) (by omega) ⟨p', hq⟩, cntR, e']
      omega
theorem bad_iff (t : zT) : badV t = true ↔ vnum t 4 = -1 ∧ vnull t = false := by
  unfold badV
  rw [Bool.and_eq_true]
  constructor
  · rintro ⟨h1, h2⟩
    refine ⟨?_, by simpa using h1⟩
    rcases vnum_b t 4 with e | ⟨b, hb, e⟩
    · exact e
    · rw [e] at h2
      have : decide ((0 : Int32) ≤ nI b) = true := decide_eq_true (nI_pos' (by omega))
      rw [this] at h2; cases h2
  · rintro ⟨h1, h2⟩
    rw [h1, h2]
    exact ⟨rfl, by decide⟩
/-- wrong values, told by either -/
theorem wrongR_av {V : zV} {f : Nat → Int32} {n : Nat} {P : Nat → Nat} {s : Nat} (hP : P s ≤ n) (hn : n ≤ 200) (hU : ∀ r, 1 ≤ r → r ≤ 300 → V (nI s) 2 (nI r) 1 = txo f n (psR f n P s r)) : ∀ (q r : Nat) (w : Bool), 1 ≤ r → r + q ≤ 290 → wrongR V s r (cntR f n q (psR f n P s r)) w = (w || !avL f n q (psR f n P s r)) := by
  intro q
  induction q with
  | zero => intro r w h1 h2; rw [cntR, wrongR, avL]; simp
  | succ q ih =>
    intro r w h1 h2
    cases hp : psR f n P s r with
    | none => rw [cntR, wrongR, avL]; simp
    | some p =>
      obtain ⟨e, -, -⟩ := psR_s h1 (by omega) hP hn hp
      rw [cntR, wrongR, avL, ← e, ih (r + 1) _ (by omega) (by omega), hU r h1 (by omega), hp, show sT 6 = [34, 34] from rfl, say2]
      by_cases hb : vnum (txo f n (some p)) 4 = -1 ∧ vnull (txo f n (some p)) = false
      · rw [if_pos hb, (bad_iff _).mpr hb]; simp
      · rw [if_neg hb]
        have : badV (txo f n (some p)) = false := by
          cases h : badV (txo f n (some p)) with
          | false => rfl
          | true => exact absurd ((bad_iff _).mp h) hb
        rw [this]; simp
theorem avL_fuel {f : Nat → Int32} {n : Nat} : ∀ (q q' : Nat) (o : Option Nat), (∀ p, o = some p → p ≤ n ∧ n + 1 ≤ p + q ∧ n + 1 ≤ p + q') → avL f n q o = avL f n q' o := by
  intro q
  induction q with
  | zero =>
    intro q' o h
    cases o with
    | none => cases q' <;> rfl
    | some p => have := h p rfl; omega
  | succ q ih =>
    intro q' o h
    cases o with
    | none => cases q' <;> rfl
    | some p =>
      have := h p rfl
      cases q' with
      | zero => omega
      | succ q' =>
        rw [avL, avL, ih q' (nxL f p (n - p)) (fun w hw => by have := nxL_le hw; omega)]
/-- one segment's values -/
theorem wrong_seg {V : zV} {f : Nat → Int32} {n : Nat} {P : Nat → Nat} {s : Nat} (hP : P s ≤ n) (hn : n ≤ 200) (hU : ∀ r, 1 ≤ r → r ≤ 300 → V (nI s) 2 (nI r) 1 = txo f n (psR f n P s r)) (w : Bool) : wrongR V s 1 (repF V s) w = (w || !avF f n (fdo f n P (some s) 2 1 1)) := by
  have hp1 : psR f n P s 1 = fdo f n P (some s) 2 1 1 := rfl
  unfold avF
  cases hp : fdo f n P (some s) 2 1 1 with
  | none =>
    -- no value: one text that is none
    have hrep : repF V s = 1 := by
      unfold repF
      rw [repL, hU 2 (by decide) (by decide)]
      have : psR f n P s 2 = none := by
        cases h2 : psR f n P s 2 with
        | none => rfl
        | some p2 =>
          exfalso
          have gen : ∀ (m Q a b c p : Nat), (a < 2 ∨ (a = 2 ∧ b ≤ 1)) → a + b + 2 * m < 800 → fdL f 2 (nI 2) 1 Q m a b c = some p → (a = 2 → b = 1 → c = 1 → True) → (a < 2 ∨ (a = 2 ∧ b = 1 ∧ 1 < c)) → fdL f 2 (nI 1) 1 Q m a b c = none → a = 2 := by
            intro m
            induction m with
            | zero =>
              intro Q a b c p hab hm h _ _ _
              rw [fdL] at h
              split at h
              · rename_i hh
                exact nI_inj (a := a) (b := 2) (by omega) (by decide) hh.1
              · cases h
            | succ m ih =>
              intro Q a b c p hab hm h _ hc h1
              by_cases ha2 : a = 2
              · exact ha2
              · have ha : a < 2 := by omega
                exfalso
                have nm : ∀ R : Int32, ¬ (nI a = 2 ∧ nI b = R ∧ nI c = 1) := fun R z => by
                  have := nI_inj (a := a) (b := 2) (by omega) (by decide) z.1; omega
                rw [fdL, if_neg (nm _)] at h h1
                split at h
                · cases h
                · rename_i h261
                  rw [if_neg h261] at h1
                  split at h
                  · rename_i h256
                    rw [if_pos h256] at h1
                    by_cases ha1 : a + 1 < 2
                    · have := ih (Q + 1) (a + 1) 1 1 p (by omega) (by omega) h (fun _ _ _ => trivial) (Or.inl ha1) h1
                      omega
                    · -- a + 1 = 2: the text 2 1 1 begins here
                      have e : a + 1 = 2 := by omega
                      rw [e] at h1
                      have : fdL f 2 (nI 1) 1 (Q + 1) m 2 1 1 = some (Q + 1) := by
                        cases m with
                        | zero => rw [fdL, if_pos ⟨rfl, rfl, rfl⟩]
                        | succ m => rw [fdL, if_pos ⟨rfl, rfl, rfl⟩]
                      rw [this] at h1; cases h1
                  · rename_i h256
                    rw [if_neg h256] at h1
                    split at h
                    · rename_i h258
                      rw [if_pos h258] at h1
                      have := ih (Q + 1) a (b + 1) 1 p (Or.inl ha) (by omega) h (fun _ _ _ => trivial) (Or.inl ha) h1
                      omega
                    · rename_i h258
                      rw [if_neg h258] at h1
                      split at h
                      · rename_i h257
                        rw [if_pos h257] at h1
                        have := ih (Q + 1) a b (c + 1) p (Or.inl ha) (by omega) h (fun _ _ _ => trivial) (Or.inl ha) h1
                        omega
                      · rename_i h257
                        rw [if_neg h257] at h1
                        have := ih (Q + 1) a b c p (Or.inl ha) (by omega) h (fun _ _ _ => trivial) (Or.inl ha) h1
                        omega
          have := gen (n - P s) (P s) 0 1 1 p2 (by omega) (by omega) h2 (fun _ _ _ => trivial) (by omega) hp
          omega
      rw [this, if_pos (show txo f n none = none from rfl)]
    rw [hrep]
    show wrongR V s 2 0 (w || badV (V (nI s) 2 (nI 1) 1)) = _
    rw [wrongR, hU 1 (by decide) (by decide), hp1, hp]
    rfl
  | some p =>
    have hs := psR_s (r := 1) (by decide) (by decide) hP hn (hp1.trans hp)
    have hrep : repF V s = cntR f n 221 (psR f n P s 1) := by
      unfold repF
      rw [repL_cnt hP hn hU 220 1 (by decide) (by decide) ⟨p, hp1.trans hp⟩, hp1, hp, cntR, ← hs.1]
      omega
    rw [hrep, cntR_fuel 221 200 _ (fun w hw => by
      rw [hp1, hp] at hw; cases hw; omega), wrongR_av hP hn hU 200 1 w (by decide) (by decide), hp1, hp]
    simp
