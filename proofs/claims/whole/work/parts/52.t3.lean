/-! BOTH: the texts of a message -/
def chr (c : Int32) : Prop := ∃ x, x < 256 ∧ c = nI x
theorem chr_lt {c : Int32} (h : chr c) : c < 256 := by
  obtain ⟨x, hx, rfl⟩ := h
  exact nI_lt (b := 256) hx (by decide)
theorem chr_zch {c : Int32} (h : chr c) : zch c := by
  obtain ⟨x, hx, rfl⟩ := h
  exact zch_bt hx
theorem chr_ne {c : Int32} (h : chr c) {k : Nat} (hk : 256 ≤ k) (hk2 : k < 1000) : ¬ c = nI k := by
  obtain ⟨x, hx, rfl⟩ := h
  intro z
  have := (nI_eq (a := x) (b := k) (by omega) (by omega)).mp z
  omega
/-- a sign as a frame gives it -/
def okG (g : zG) : Prop := match g with
  | .inl c => chr c
  | .inr w => w = 0 ∨ w = 1 ∨ w = 2 ∨ w = 4
/-- a row that holds a list from a place on -/
def agr (f : Nat → Int32) (p : Nat) (L : List Int32) : Prop := ∀ i x, L[i]? = some x → f (p + i) = x
theorem agr_cons {f : Nat → Int32} {p : Nat} {x : Int32} {L : List Int32} (h : agr f p (x :: L)) : f p = x ∧ agr f (p + 1) L := by
  refine ⟨h 0 x rfl, fun i y hy => ?_⟩
  have := h (i + 1) y hy
  rw [show p + 1 + i = p + (i + 1) by omega]
  exact this
def stopT (T : List Int32) : Prop := T = [] ∨ ∃ T', T = 261 :: T'
theorem tx_body {f : Nat → Int32} (sg : Nat) {T : List Int32} (hT : stopT T) : ∀ (g : List zG) (k : zK4) (p : Nat), (∀ x, x ∈ g → okG x) → agr f p (g.map encG ++ T) → txL f p (g.map encG ++ T).length = (entF sg k g).1 := by
  intro g
  induction g with
  | nil =>
    intro k p hg ha
    rcases hT with rfl | ⟨T', rfl⟩
    · rfl
    · have h0 := (agr_cons ha).1
      show txL f p (T'.length + 1) = []
      rw [txL, if_neg (by rw [h0]; decide)]
  | cons x g ih =>
    intro k p hg ha
    obtain ⟨h0, h1⟩ := agr_cons (f := f) (p := p) (x := encG x) (L := g.map encG ++ T) ha
    have hx := hg x List.mem_cons_self
    show txL f p ((g.map encG ++ T).length + 1) = _
    rw [txL]
    cases x with
    | inl c =>
      have hc : f p = c := h0
      rw [if_pos (by rw [hc]; exact chr_lt hx), ih k (p + 1) (fun y hy => hg y (List.mem_cons_of_mem _ hy)) h1, hc]
      rfl
    | inr w =>
      have hc : f p = nI (256 + w) := h0
      have hw : w < 5 := by rcases hx with h | h | h | h <;> omega
      rw [if_neg (by rw [hc]; exact nI_nlt (a := 256 + w) (b := 256) (by omega) (by omega))]
      rfl
/-- the first text with three numbers and sub 1 -/
theorem find_body {f : Nat → Int32} {sg n : Nat} {F R C : Int32} {T : List Int32} (hT : stopT T) : ∀ (g : List zG) (a b c s p : Nat), (∀ x, x ∈ g → okG x) → agr f p (g.map encG ++ T) → p + (g.map encG ++ T).length = n → ¬ (nI a = F ∧ nI b = R ∧ nI c = C) → (fdL f F R C p (g.map encG ++ T).length a b c).map (tx f n) = ((entF sg (a, b, c, s) g).2.find? (entM (nI sg) F R C)).map (fun e => e.2) := by
  intro g
  induction g with
  | nil =>
    intro a b c s p hg ha hn hm
    rcases hT with rfl | ⟨T', rfl⟩
    · show (fdL f F R C p 0 a b c).map _ = none
      rw [fdL, if_neg hm]
      rfl
    · have h0 := (agr_cons ha).1
      show (fdL f F R C p (T'.length + 1) a b c).map _ = none
      rw [fdL, if_neg hm, if_pos h0]
      rfl
  | cons x g ih =>
    intro a b c s p hg ha hn hm
    obtain ⟨h0, h1⟩ := agr_cons (f := f) (p := p) (x := encG x) (L := g.map encG ++ T) ha
    have hx := hg x List.mem_cons_self
    have hg' : ∀ y, y ∈ g → okG y := fun y hy => hg y (List.mem_cons_of_mem _ hy)
    have hn' : p + 1 + (g.map encG ++ T).length = n := by
      rw [← hn]
      show p + 1 + (g.map encG ++ T).length = p + ((g.map encG ++ T).length + 1)
      omega
    show (fdL f F R C p ((g.map encG ++ T).length + 1) a b c).map _ = _
    rw [fdL, if_neg hm]
    cases x with
    | inl y =>
      have hc : f p = y := h0
      rw [if_neg (by rw [hc]; exact chr_ne hx (k := 261) (by decide) (by decide)), if_neg (by rw [hc]; exact chr_ne hx (k := 256) (by decide) (by decide)), if_neg (by rw [hc]; exact chr_ne hx (k := 258) (by decide) (by decide)), if_neg (by rw [hc]; exact chr_ne hx (k := 257) (by decide) (by decide))]
      exact ih a b c s (p + 1) hg' h1 hn' hm
    | inr w =>
      have hc : f p = nI (256 + w) := h0
      -- what happens behind a mark that leads to the numbers a' b' c' s'
      have key : ∀ a' b' c' s', bump (a, b, c, s) w = (a', b', c', s') → (s' = 1 ∨ (a' = a ∧ b' = b ∧ c' = c)) → (fdL f F R C (p + 1) (g.map encG ++ T).length a' b' c').map (tx f n) = ((entF sg (a, b, c, s) (.inr w :: g)).2.find? (entM (nI sg) F R C)).map (fun e => e.2) := by
        intro a' b' c' s' hb hs
        have he : (entF sg (a, b, c, s) (.inr w :: g)).2 = ((sg, (a', b', c', s')), (entF sg (a', b', c', s') g).1) :: (entF sg (a', b', c', s') g).2 := by
          show ((sg, bump (a, b, c, s) w), (entF sg (bump (a, b, c, s) w) g).1) :: (entF sg (bump (a, b, c, s) w) g).2 = _
          rw [hb]
        rw [he]
        by_cases hm' : nI a' = F ∧ nI b' = R ∧ nI c' = C
        · have hs1 : s' = 1 := hs.elim id (fun z => absurd ⟨by rw [← z.1]; exact hm'.1, by rw [← z.2.1]; exact hm'.2.1, by rw [← z.2.2]; exact hm'.2.2⟩ hm)
          have hme : entM (nI sg) F R C ((sg, (a', b', c', s')), (entF sg (a', b', c', s') g).1) = true := by
            unfold entM
            simp [hm'.1, hm'.2.1, hm'.2.2, hs1]
            rfl
          rw [List.find?_cons_of_pos hme]
          have hfd : fdL f F R C (p + 1) (g.map encG ++ T).length a' b' c' = some (p + 1) := by
            cases (g.map encG ++ T).length with
            | zero => rw [fdL, if_pos hm']
            | succ q => rw [fdL, if_pos hm']
          rw [hfd]
          show some (tx f n (p + 1)) = some _
          unfold tx
          rw [show n - (p + 1) = (g.map encG ++ T).length by omega, tx_body sg hT g (a', b', c', s') (p + 1) hg' h1]
        · have hme : entM (nI sg) F R C ((sg, (a', b', c', s')), (entF sg (a', b', c', s') g).1) = false := by
            unfold entM
            cases hz : (decide (nI sg = nI sg) && (decide (nI a' = F) && (decide (nI b' = R) && (decide (nI c' = C) && decide (nI s' = 1))))) with
            | false => rfl
            | true =>
              simp only [Bool.and_eq_true, decide_eq_true_eq] at hz
              exact absurd ⟨hz.2.1, hz.2.2.1, hz.2.2.2.1⟩ hm'
          rw [List.find?_cons_of_neg (by rw [hme]; decide)]
          exact ih a' b' c' s' (p + 1) hg' h1 hn' hm'
      have ne : ∀ k, 256 ≤ k → k < 1000 → k ≠ 256 + w → ¬ f p = nI k := by
        intro k hk1 hk2 hk z
        rw [hc] at z
        have hw : w < 5 := by rcases hx with h | h | h | h <;> omega
        have := (nI_eq (a := 256 + w) (b := k) (by omega) (by omega)).mp z
        omega
      have ne261 : ¬ f p = 261 := ne 261 (by decide) (by decide) (by rcases hx with h | h | h | h <;> omega)
      have n256 : 0 ≠ w → ¬ f p = 256 := fun h => ne 256 (by decide) (by decide) (by omega)
      have n258 : 2 ≠ w → ¬ f p = 258 := fun h => ne 258 (by decide) (by decide) (by omega)
      have n257 : 1 ≠ w → ¬ f p = 257 := fun h => ne 257 (by decide) (by decide) (by omega)
      rw [if_neg ne261]
      rcases hx with h | h | h | h
      · subst h
        rw [if_pos (show f p = 256 from hc)]
        exact key (a + 1) 1 1 1 rfl (Or.inl rfl)
      · subst h
        rw [if_neg (n256 (by decide)), if_neg (n258 (by decide)), if_pos (show f p = 257 from hc)]
        exact key a b (c + 1) 1 rfl (Or.inl rfl)
      · subst h
        rw [if_neg (n256 (by decide)), if_pos (show f p = 258 from hc)]
        exact key a (b + 1) 1 1 rfl (Or.inl rfl)
      · subst h
        rw [if_neg (n256 (by decide)), if_neg (n258 (by decide)), if_neg (n257 (by decide))]
        exact key a b c (s + 1) rfl (Or.inr ⟨rfl, rfl, rfl⟩)
theorem ent_pre (sg : Nat) (k : zK4) : ∀ (nm : List Int32) (g : List zG), (entF sg k (nm.map Sum.inl ++ g)).2 = (entF sg k g).2 := by
  intro nm
  induction nm with
  | nil => intro g; rfl
  | cons x nm ih => intro g; exact ih g
theorem entF_sg : ∀ (g : List zG) (sg : Nat) (k : zK4) (e : zEn), e ∈ (entF sg k g).2 → e.1.1 = sg := by
  intro g
  induction g with
  | nil => intro sg k e he; cases he
  | cons x g ih =>
    intro sg k e he
    cases x with
    | inl c => exact ih sg k e he
    | inr w =>
      rcases List.mem_cons.mp he with rfl | q
      · rfl
      · exact ih sg _ e q
theorem entA_at : ∀ (l : List zSeg) (sg i : Nat) (s : zSeg), l[i]? = some s → ∃ E1 E2, entA sg l = E1 ++ (entF (sg + i) (0, 1, 1, 1) s.2).2 ++ E2 ∧ (∀ e, e ∈ E1 → e.1.1 < sg + i) ∧ (∀ e, e ∈ E2 → sg + i < e.1.1) ∧ ∀ e, e ∈ E2 → e.1.1 < sg + l.length := by
  intro l
  induction l with
  | nil => intro sg i s h; cases h
  | cons x l ih =>
    intro sg i s h
    cases i with
    | zero =>
      cases h
      refine ⟨[], entA (sg + 1) l, rfl, (fun e he => by cases he), fun e he => ?_, fun e he => ?_⟩
      · have := (entA_num l (sg + 1) e he).1; omega
      · have := (entA_num l (sg + 1) e he).2.1; rw [List.length_cons]; omega
    | succ i =>
      obtain ⟨E1, E2, h1, h2, h3, h4⟩ := ih (sg + 1) i s h
      refine ⟨(entF sg (0, 1, 1, 1) x.2).2 ++ E1, E2, ?_, fun e he => ?_, fun e he => ?_, fun e he => ?_⟩
      · rw [entA, h1, show sg + (i + 1) = sg + 1 + i by omega]
        simp
      · rcases List.mem_append.mp he with q | q
        · have := entF_sg _ _ _ _ q; omega
        · have := h2 e q; omega
      · have := h3 e he; omega
      · have := h4 e he; rw [List.length_cons]; omega
theorem entM_sg {s : Nat} {F R C : Int32} {e : zEn} (hs : s < 1000) (he : e.1.1 < 1000) (h : e.1.1 ≠ s) : entM (nI s) F R C e = false := by
  unfold entM
  rw [decide_eq_false (fun z => h ((nI_eq (a := e.1.1) (b := s) (by omega) (by omega)).mp z))]
  rfl
theorem find_none {E : List zEn} {P : zEn → Bool} (h : ∀ e, e ∈ E → P e = false) : E.find? P = none := List.find?_eq_none.mpr (fun e he => by rw [h e he]; decide)
/-- the texts of one segment -/
theorem vE_seg {l : List zSeg} {i : Nat} {s : zSeg} (hs : l[i]? = some s) (hl : l.length ≤ 100) (F R C : Int32) : vE (entA 1 l) (nI (1 + i)) F R C = ((entF (1 + i) (0, 1, 1, 1) s.2).2.find? (entM (nI (1 + i)) F R C)).map (fun e => e.2) := by
  obtain ⟨E1, E2, h1, h2, h3, h4⟩ := entA_at l 1 i s hs
  have hi : i < l.length := by
    rcases Nat.lt_or_ge i l.length with q | q
    · exact q
    · rw [List.getElem?_eq_none q] at hs; cases hs
  unfold vE
  rw [h1, List.find?_append, List.find?_append, find_none (E := E1) (fun e he => entM_sg (by omega) (by have := h2 e he; omega) (by have := h2 e he; omega)), Option.none_or, find_none (E := E2) (fun e he => entM_sg (by omega) (by have := h4 e he; omega) (by have := h3 e he; omega)), Option.or_none]
theorem vE_out {l : List zSeg} {s : Nat} (hs : s = 0 ∨ l.length < s) (hs2 : s < 1000) (hl : l.length ≤ 100) (F R C : Int32) : vE (entA 1 l) (nI s) F R C = none := by
  refine vE_none (fun e he => ?_)
  have := entA_num l 1 e he
  exact entM_sg (by omega) (by omega) (by omega)
