/-! BOTH: a message written -/
/-- a sign written -/
def wg1 (S : Nat → Int32) (g : zG) : List Int32 := match g with
  | .inl c => putF S c
  | .inr w => [S w]
theorem wgL_same {S : Nat → Int32} {c : Int32} : ∀ (m k : Nat) (o : Option Nat), (∀ j, k ≤ j → j < k + m → ¬ S j = c) → wgL S c k m o = o := by
  intro m
  induction m with
  | zero => intro k o _; rfl
  | succ m ih =>
    intro k o h
    rw [wgL, if_neg (h k (Nat.le_refl _) (by omega))]
    exact ih (k + 1) o (fun j h1 h2 => h j (by omega) (by omega))
theorem wgL_one {S : Nat → Int32} {c : Int32} {w : Nat} (hw : S w = c) : ∀ (m k : Nat) (o : Option Nat), k ≤ w → w < k + m → (∀ j, k ≤ j → j < k + m → S j = c → j = w) → wgL S c k m o = some w := by
  intro m
  induction m with
  | zero => intro k o h1 h2; omega
  | succ m ih =>
    intro k o h1 h2 hu
    rw [wgL]
    by_cases hk : k = w
    · subst hk
      rw [if_pos hw]
      exact wgL_same m (k + 1) (some k) (fun j q1 q2 e => by have := hu j (by omega) (by omega) e; omega)
    · rw [if_neg (fun e => hk (hu k (Nat.le_refl _) (by omega) e))]
      exact ih (k + 1) o (by omega) (by omega) (fun j q1 q2 e => hu j (by omega) (by omega) e)
theorem wg_pl {S : Nat → Int32} (hf : fitF S = true) (c : Int32) : wgL S c 0 5 none = plF S c := by
  have hd : ∀ i j, i < 5 → j < 5 → S i = S j → i = j := fun i j hi hj e => by
    rcases Nat.lt_trichotomy i j with q | q | q
    · exact absurd e ((fitF_true hf j hj).2 i q)
    · exact q
    · exact absurd e.symm ((fitF_true hf i hi).2 j q)
  cases hp : plF S c with
  | none =>
    refine wgL_same 5 0 none (fun j _ hj e => ?_)
    have : ∀ (m i : Nat), i ≤ j → j < i + m → zfst (fun k => decide (S k = c)) i m ≠ none := by
      intro m
      induction m with
      | zero => intro i h1 h2; omega
      | succ m ih =>
        intro i h1 h2
        rw [zfst]
        split
        · simp
        · rename_i hq
          refine ih (i + 1) ?_ (by omega)
          rcases Nat.lt_or_ge i j with q | q
          · exact q
          · have : i = j := by omega
            rw [this] at hq
            exact absurd (decide_eq_true e) hq
    exact this 5 0 (by omega) (by omega) hp
  | some w =>
    obtain ⟨h1, h2⟩ := plF_lt hp
    exact wgL_one h2 5 0 none (by omega) (by omega) (fun j _ hj e => hd j w (by omega) h1 (e.trans h2.symm))
theorem put_same {S : Nat → Int32} (hf : fitF S = true) (c : Int32) : putC S c = putF S c := by
  unfold putC putF
  rw [wg_pl hf]
  cases hp : plF S c with
  | none => rfl
  | some w =>
    have := (plF_lt hp).1
    dsimp only
    rcases (show w = 0 ∨ w = 1 ∨ w = 2 ∨ w = 3 ∨ w = 4 by omega) with rfl | rfl | rfl | rfl | rfl <;> rfl
/-- a sign of the row, written by the class -/
theorem wtS_g {S : Nat → Int32} (hf : fitF S = true) {g : zG} (hg : okG g) : wtS S (encG g) = wg1 S g := by
  unfold wtS
  cases g with
  | inl c =>
    rw [if_pos (show encG (.inl c) < 256 from chr_lt hg)]
    exact put_same hf c
  | inr w =>
    have hw : w < 5 := by rcases hg with q | q | q | q <;> omega
    rw [if_neg (show ¬ encG (.inr w) < 256 from nI_nlt (a := 256 + w) (b := 256) (by omega) (by omega)), if_neg (show ¬ encG (.inr w) = 261 from fun z => by
      have := (nI_eq (a := 256 + w) (b := 261) (by omega) (by decide)).mp z
      rcases hg with q | q | q | q <;> omega)]
    show [getF S 5 (nI (256 + w) - 256)] = [S w]
    rw [nI_sub256, getF_in hw (by decide)]
theorem wtL_app {f S : Nat → Int32} : ∀ (L : List Int32) (p q : Nat), agr f p L → wtL f S p (L.length + q) = L.flatMap (wtS S) ++ wtL f S (p + L.length) q := by
  intro L
  induction L with
  | nil => intro p q _; rw [List.length_nil, Nat.zero_add, Nat.add_zero]; rfl
  | cons x L ih =>
    intro p q h
    obtain ⟨h0, h1⟩ := agr_cons h
    rw [List.length_cons, show L.length + 1 + q = (L.length + q) + 1 by omega, wtL, h0, ih (p + 1) q h1, show p + (L.length + 1) = p + 1 + L.length by omega]
    simp
theorem markF_w {S : Nat → Int32} {s : Nat} {k : zK4} {w : Nat} {c c' : List Int32} (hw : w = 0 ∨ w = 1 ∨ w = 2 ∨ w = 4) (hb : k.1 < 1000 ∧ k.2.1 < 1000 ∧ k.2.2.1 < 1000) : markF S (some ((s, k), c)) ((s, bump k w), c') = S w := by
  have ne : ∀ a : Nat, a < 1000 → ¬ nI a = nI (a + 1) := fun a ha z => by
    have := (nI_eq (a := a) (b := a + 1) (by omega) (by omega)).mp z; omega
  unfold markF
  dsimp only
  rcases hw with rfl | rfl | rfl | rfl
  · rw [show bump k 0 = (k.1 + 1, 1, 1, 1) from rfl, if_pos (show ¬ nI k.1 = nI (k.1 + 1) from ne _ hb.1)]
  · rw [show bump k 1 = (k.1, k.2.1, k.2.2.1 + 1, 1) from rfl, if_neg (show ¬ ¬ nI k.1 = nI k.1 from fun z => z rfl), if_neg (show ¬ ¬ nI k.2.1 = nI k.2.1 from fun z => z rfl), if_pos (show ¬ nI k.2.2.1 = nI (k.2.2.1 + 1) from ne _ hb.2.2)]
  · rw [show bump k 2 = (k.1, k.2.1 + 1, 1, 1) from rfl, if_neg (show ¬ ¬ nI k.1 = nI k.1 from fun z => z rfl), if_pos (show ¬ nI k.2.1 = nI (k.2.1 + 1) from ne _ hb.2.1)]
  · rw [show bump k 4 = (k.1, k.2.1, k.2.2.1, k.2.2.2 + 1) from rfl, if_neg (show ¬ ¬ nI k.1 = nI k.1 from fun z => z rfl), if_neg (show ¬ ¬ nI k.2.1 = nI k.2.1 from fun z => z rfl), if_neg (show ¬ ¬ nI k.2.2.1 = nI k.2.2.1 from fun z => z rfl)]
theorem bump_b {k : zK4} {w b : Nat} (h : k.1 ≤ b ∧ k.2.1 ≤ b ∧ k.2.2.1 ≤ b) (hb : 1 ≤ b) : (bump k w).1 ≤ b + 1 ∧ (bump k w).2.1 ≤ b + 1 ∧ (bump k w).2.2.1 ≤ b + 1 := by
  unfold bump
  split
  · exact ⟨by show k.1 + 1 ≤ _; omega, by show 1 ≤ _; omega, by show 1 ≤ _; omega⟩
  · split
    · exact ⟨by show k.1 ≤ _; omega, by show k.2.1 ≤ _; omega, by show k.2.2.1 + 1 ≤ _; omega⟩
    · split
      · exact ⟨by show k.1 ≤ _; omega, by show k.2.1 + 1 ≤ _; omega, by show 1 ≤ _; omega⟩
      · exact ⟨by show k.1 ≤ _; omega, by show k.2.1 ≤ _; omega, by show k.2.2.1 ≤ _; omega⟩
theorem wr_body {S : Nat → Int32} {s : Nat} : ∀ (g : List zG) (k : zK4) (b : Nat) (c : List Int32) (E : List zEn), (∀ x, x ∈ g → okG x) → (k.1 ≤ b ∧ k.2.1 ≤ b ∧ k.2.2.1 ≤ b) → 1 ≤ b → b + g.length < 900 → (∀ e, e ∈ E → ¬ nI e.1.1 = nI s) → g.flatMap (wg1 S) = (entF s k g).1.flatMap (putF S) ++ wrE S s (some ((s, k), c)) ((entF s k g).2 ++ E) := by
  intro g
  induction g with
  | nil =>
    intro k b c E _ _ _ _ hE
    have skip : ∀ (E : List zEn) (pv : Option zEn), (∀ e, e ∈ E → ¬ nI e.1.1 = nI s) → wrE S s pv E = [] := by
      intro E
      induction E with
      | nil => intro pv _; rfl
      | cons e E ih =>
        intro pv h
        rw [wrE, if_neg (h e List.mem_cons_self)]
        exact ih pv (fun x hx => h x (List.mem_cons_of_mem _ hx))
    show [] = [] ++ wrE S s _ ([] ++ E)
    rw [List.nil_append, List.nil_append, skip E _ hE]
  | cons x g ih =>
    intro k b c E hg hk hb hlen hE
    have hx := hg x List.mem_cons_self
    have hg' : ∀ y, y ∈ g → okG y := fun y hy => hg y (List.mem_cons_of_mem _ hy)
    rw [List.length_cons] at hlen
    cases x with
    | inl ch =>
      have := ih k b c E hg' hk hb (by omega) hE
      show putF S ch ++ g.flatMap (wg1 S) = (putF S ch ++ (entF s k g).1.flatMap (putF S)) ++ wrE S s _ ((entF s k g).2 ++ E)
      rw [this, List.append_assoc]
    | inr w =>
      have := ih (bump k w) (b + 1) (entF s (bump k w) g).1 E hg' (bump_b hk hb) (by omega) (by omega) hE
      show [S w] ++ g.flatMap (wg1 S) = [] ++ wrE S s _ (((s, bump k w), (entF s (bump k w) g).1) :: ((entF s (bump k w) g).2 ++ E))
      rw [this, wrE, if_pos rfl, markF_w hx (by omega)]
      rfl
/-- the texts of one segment, written -/
theorem wr_seg {S : Nat → Int32} {l : List zSeg} {i : Nat} {sg : zSeg} (hs : l[i]? = some sg) (hl : l.length ≤ 100) (hok : segOk sg) (hlen : sg.2.length < 800) : wrE S (1 + i) none (entA 1 l) = sg.2.flatMap (wg1 S) := by
  obtain ⟨E1, E2, h1, h2, h3, h4⟩ := entA_at l 1 i sg hs
  have hi : i < l.length := by
    rcases Nat.lt_or_ge i l.length with q | q
    · exact q
    · rw [List.getElem?_eq_none q] at hs; cases hs
  have skip1 : ∀ (A B : List zEn), (∀ e, e ∈ A → ¬ nI e.1.1 = nI (1 + i)) → wrE S (1 + i) none (A ++ B) = wrE S (1 + i) none B := by
    intro A
    induction A with
    | nil => intro B _; rfl
    | cons e A ih =>
      intro B h
      show wrE S (1 + i) none (e :: (A ++ B)) = _
      rw [wrE, if_neg (h e List.mem_cons_self)]
      exact ih B (fun x hx => h x (List.mem_cons_of_mem _ hx))
  have ne1 : ∀ e, e ∈ E1 → ¬ nI e.1.1 = nI (1 + i) := fun e he z => by
    have := h2 e he
    have := (nI_eq (a := e.1.1) (b := 1 + i) (by omega) (by omega)).mp z
    omega
  have ne2 : ∀ e, e ∈ E2 → ¬ nI e.1.1 = nI (1 + i) := fun e he z => by
    have := h3 e he
    have := h4 e he
    have := (nI_eq (a := e.1.1) (b := 1 + i) (by omega) (by omega)).mp z
    omega
  rw [h1, List.append_assoc, skip1 E1 _ ne1]
  rcases hok.2.2.2 with h | ⟨g, h⟩
  · rw [h]
    show wrE S (1 + i) none ([] ++ E2) = []
    have := skip1 E2 [] ne2
    rw [List.append_nil] at this
    rw [List.nil_append, this]
    rfl
  · rw [h] at hlen ⊢
    rw [List.length_cons] at hlen
    show wrE S (1 + i) none (((1 + i, bump (0, 1, 1, 1) 0), (entF (1 + i) (bump (0, 1, 1, 1) 0) g).1) :: ((entF (1 + i) (bump (0, 1, 1, 1) 0) g).2 ++ E2)) = [S 0] ++ g.flatMap (wg1 S)
    rw [wrE, if_pos rfl, wr_body g (bump (0, 1, 1, 1) 0) 1 (entF (1 + i) (bump (0, 1, 1, 1) 0) g).1 E2 (fun y hy => hok.2.2.1 y (by rw [h]; exact List.mem_cons_of_mem _ hy)) (by decide) (by decide) (by omega) ne2]
    rfl
