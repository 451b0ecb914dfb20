/-! BOTH: beds and patients -/
def cntP (P : Nat → Bool) (i m : Nat) : Nat := match m with
  | 0 => 0
  | m + 1 => (if P i = true then 1 else 0) + cntP P (i + 1) m
theorem cntL_P (oc : Nat → Int32) : ∀ (m i c : Nat), cntL oc i m c = c + cntP (fun k => !decide (oc k = 0)) i m := by
  intro m
  induction m with
  | zero => intro i c; rfl
  | succ m ih =>
    intro i c
    rw [cntL, cntP, ih]
    by_cases h : oc i = 0
    · rw [if_pos h, decide_eq_true h]; simp
    · rw [if_neg h, decide_eq_false h]; simp; omega
theorem inL_P (b : Nat → Int32) : ∀ (m i c : Nat), inL b i m c = c + cntP (fun k => !decide (b k < 0)) i m := by
  intro m
  induction m with
  | zero => intro i c; rfl
  | succ m ih =>
    intro i c
    rw [inL, cntP, ih]
    by_cases h : b i < 0
    · rw [if_pos h, decide_eq_true h]; simp
    · rw [if_neg h, decide_eq_false h]; simp; omega
theorem cntP_eq {P Q : Nat → Bool} : ∀ (m i : Nat), (∀ j, i ≤ j → j < i + m → P j = Q j) → cntP P i m = cntP Q i m := by
  intro m
  induction m with
  | zero => intro i _; rfl
  | succ m ih =>
    intro i h
    rw [cntP, cntP, h i (Nat.le_refl _) (by omega), ih (i + 1) (fun j h1 h2 => h j (by omega) (by omega))]
theorem cntP_one {P Q : Nat → Bool} {j : Nat} (hP : P j = false) (hQ : Q j = true) : ∀ (m i : Nat), i ≤ j → j < i + m → (∀ k, k ≠ j → P k = Q k) → cntP Q i m = cntP P i m + 1 := by
  intro m
  induction m with
  | zero => intro i h1 h2; omega
  | succ m ih =>
    intro i h1 h2 h
    rw [cntP, cntP]
    by_cases hij : i = j
    · subst hij
      rw [hP, hQ, cntP_eq m (i + 1) (P := Q) (Q := P) (fun k q1 q2 => (h k (by omega)).symm)]
      simp; omega
    · rw [ih (i + 1) (by omega) (by omega) h, h i hij]
      omega
/-- who lies where, told by bed and by patient -/
def bedR (oc bd : Nat → Int32) : Prop := (∀ p, 1 ≤ p → p ≤ 99 → bd p = -1 ∨ ∃ k, k < 32 ∧ bd p = nI k) ∧ (∀ k, k < 32 → (oc k = nI 0 ∧ ∀ p, 1 ≤ p → p ≤ 99 → ¬ bd p = nI k) ∨ ∃ p, 1 ≤ p ∧ p ≤ 99 ∧ oc k = nI p ∧ bd p = nI k ∧ ∀ p', 1 ≤ p' → p' ≤ 99 → bd p' = nI k → p' = p) ∧ cntP (fun k => !decide (oc k = 0)) 0 32 = cntP (fun p => !decide (bd p < 0)) 1 99
theorem whoL_none {b : Nat → Int32} {x : Int32} : ∀ (m i w : Nat), (∀ p, i ≤ p → p < i + m → ¬ b p = x) → whoL b x i m w = w := by
  intro m
  induction m with
  | zero => intro i w _; rfl
  | succ m ih =>
    intro i w h
    rw [whoL, if_neg (h i (Nat.le_refl _) (by omega))]
    exact ih (i + 1) w (fun p h1 h2 => h p (by omega) (by omega))
theorem whoL_one {b : Nat → Int32} {x : Int32} {q : Nat} (hq : b q = x) : ∀ (m i w : Nat), i ≤ q → q < i + m → (∀ p, i ≤ p → p < i + m → b p = x → p = q) → whoL b x i m w = q := by
  intro m
  induction m with
  | zero => intro i w h1 h2; omega
  | succ m ih =>
    intro i w h1 h2 hu
    rw [whoL]
    by_cases hi : i = q
    · subst hi
      rw [if_pos hq]
      exact whoL_none m (i + 1) i (fun p q1 q2 e => by have := hu p (by omega) (by omega) e; omega)
    · rw [if_neg (fun e => hi (hu i (Nat.le_refl _) (by omega) e))]
      exact ih (i + 1) w (by omega) (by omega) (fun p q1 q2 e => hu p (by omega) (by omega) e)
theorem bedR_who {oc bd : Nat → Int32} (h : bedR oc bd) {k : Nat} (hk : k < 32) : oc k = nI (whoF bd (nI k)) := by
  unfold whoF
  rcases h.2.1 k hk with ⟨e, hn⟩ | ⟨p, p1, p2, e, eb, hu⟩
  · rw [whoL_none 99 1 0 (fun p h1 h2 => hn p h1 (by omega)), e]
  · rw [whoL_one eb 99 1 0 p1 (by omega) (fun q h1 h2 hq => hu q h1 (by omega) hq), e]
theorem bedR_0 {oc bd : Nat → Int32} (h : bedR oc bd) {k : Nat} (hk : k < 32) : oc k = 0 ↔ whoF bd (nI k) = 0 := by
  rw [bedR_who h hk]
  have hb := whoF_b bd (nI k)
  exact nI_eq (b := 0) (by omega) (by decide)
theorem nI_nneg {k : Nat} (hk : k < 2 ^ 31) : ¬ nI k < 0 := nI_pos hk
theorem bedR_out {oc bd : Nat → Int32} (h : bedR oc bd) {p k : Nat} (h1 : 1 ≤ p) (h2 : p ≤ 99) (hk : k < 32) (hb : bd p = nI k) : bedR (upd oc k 0) (upd bd p (-1)) := by
  obtain ⟨a1, a2, a3⟩ := h
  have hu : oc k = nI p ∧ ∀ p', 1 ≤ p' → p' ≤ 99 → bd p' = nI k → p' = p := by
    rcases a2 k hk with ⟨e, hn⟩ | ⟨q, q1, q2, e, eb, hu⟩
    · exact absurd hb (hn p h1 h2)
    · have := hu p h1 h2 hb
      subst this
      exact ⟨e, hu⟩
  refine ⟨fun q q1 q2 => ?_, fun j hj => ?_, ?_⟩
  · by_cases hqp : q = p
    · rw [hqp, pk_us]; exact Or.inl rfl
    · rw [pk_un hqp]; exact a1 q q1 q2
  · by_cases hjk : j = k
    · subst hjk
      refine Or.inl ⟨pk_us, fun q q1 q2 e => ?_⟩
      by_cases hqp : q = p
      · rw [hqp, pk_us] at e; exact nI_neg1 (by omega) e.symm
      · rw [pk_un hqp] at e; exact hqp (hu.2 q q1 q2 e)
    · rw [pk_un hjk]
      rcases a2 j hj with ⟨e, hn⟩ | ⟨q, q1, q2, e, eb, hq⟩
      · refine Or.inl ⟨e, fun q q1 q2 eq => ?_⟩
        by_cases hqp : q = p
        · rw [hqp, pk_us] at eq; exact nI_neg1 (by omega) eq.symm
        · rw [pk_un hqp] at eq; exact hn q q1 q2 eq
      · have hqp : q ≠ p := by
          intro z
          rw [z, hb] at eb
          exact hjk ((nI_eq (a := k) (b := j) (by omega) (by omega)).mp eb).symm
        refine Or.inr ⟨q, q1, q2, e, by rw [pk_un hqp]; exact eb, fun q' r1 r2 er => ?_⟩
        by_cases hq'p : q' = p
        · rw [hq'p, pk_us] at er; exact absurd er.symm (nI_neg1 (by omega))
        · rw [pk_un hq'p] at er; exact hq q' r1 r2 er
  · have c1 := cntP_one (P := fun j => !decide (upd oc k 0 j = 0)) (Q := fun j => !decide (oc j = 0)) (j := k) (by simp [pk_us]) (by
      have : ¬ oc k = 0 := by
        rw [hu.1]
        intro z
        have := (nI_eq (a := p) (b := 0) (by omega) (by decide)).mp z
        omega
      simp [this]) 32 0 (by omega) (by omega) (fun j hj => by simp [pk_un hj])
    have c2 := cntP_one (P := fun q => !decide (upd bd p (-1) q < 0)) (Q := fun q => !decide (bd q < 0)) (j := p) (by rw [pk_us]; rfl) (by
      rw [hb, decide_eq_false (nI_nneg (by omega))]; rfl) 99 1 h1 (by omega) (fun q hq => by rw [pk_un hq])
    omega
theorem bedR_in {oc bd : Nat → Int32} (h : bedR oc bd) {p k : Nat} (h1 : 1 ≤ p) (h2 : p ≤ 99) (hk : k < 32) (hb : bd p = -1) (ho : oc k = 0) : bedR (upd oc k (nI p)) (upd bd p (nI k)) := by
  obtain ⟨a1, a2, a3⟩ := h
  have hn : ∀ q, 1 ≤ q → q ≤ 99 → ¬ bd q = nI k := by
    rcases a2 k hk with ⟨e, hn⟩ | ⟨q, q1, q2, e, eb, hu⟩
    · exact hn
    · rw [ho] at e
      have := (nI_eq (a := q) (b := 0) (by omega) (by decide)).mp e.symm
      omega
  refine ⟨fun q q1 q2 => ?_, fun j hj => ?_, ?_⟩
  · by_cases hqp : q = p
    · rw [hqp, pk_us]; exact Or.inr ⟨k, hk, rfl⟩
    · rw [pk_un hqp]; exact a1 q q1 q2
  · by_cases hjk : j = k
    · subst hjk
      refine Or.inr ⟨p, h1, h2, pk_us, pk_us, fun q q1 q2 e => ?_⟩
      by_cases hqp : q = p
      · exact hqp
      · rw [pk_un hqp] at e; exact absurd e (hn q q1 q2)
    · rw [pk_un hjk]
      rcases a2 j hj with ⟨e, hq⟩ | ⟨q, q1, q2, e, eb, hq⟩
      · refine Or.inl ⟨e, fun q q1 q2 eq => ?_⟩
        by_cases hqp : q = p
        · rw [hqp, pk_us] at eq
          exact hjk ((nI_eq (a := k) (b := j) (by omega) (by omega)).mp eq).symm
        · rw [pk_un hqp] at eq; exact hq q q1 q2 eq
      · have hqp : q ≠ p := by
          intro z
          rw [z, hb] at eb
          exact nI_neg1 (by omega) eb.symm
        refine Or.inr ⟨q, q1, q2, e, by rw [pk_un hqp]; exact eb, fun q' r1 r2 er => ?_⟩
        by_cases hq'p : q' = p
        · rw [hq'p, pk_us] at er
          exact absurd ((nI_eq (a := k) (b := j) (by omega) (by omega)).mp er) (fun z => hjk z.symm)
        · rw [pk_un hq'p] at er; exact hq q' r1 r2 er
  · have c1 := cntP_one (Q := fun j => !decide (upd oc k (nI p) j = 0)) (P := fun j => !decide (oc j = 0)) (j := k) (by simp [ho]) (by
      have : ¬ nI p = 0 := by
        intro z
        have := (nI_eq (a := p) (b := 0) (by omega) (by decide)).mp z
        omega
      simp [pk_us, this]) 32 0 (by omega) (by omega) (fun j hj => by simp [pk_un hj])
    have c2 := cntP_one (Q := fun q => !decide (upd bd p (nI k) q < 0)) (P := fun q => !decide (bd q < 0)) (j := p) (by rw [hb]; rfl) (by
      rw [pk_us, decide_eq_false (nI_nneg (by omega))]; rfl) 99 1 h1 (by omega) (fun q hq => by rw [pk_un hq])
    omega
/-- a patient of the class and the reference's rows -/
def isPa (h : zH) (b p : Nat) (ms : zMS) : Prop :=
  h.2.2 b = some (paO b (ms.2 19 p)) ∧
  (∃ n g, isCh h (b + 1) 12 n g ∧ n ≤ 12 ∧ ms.2 20 (2 * p) = nI n ∧ ∀ i, i < n → g i = ms.2 21 (24 * p + i)) ∧
  (∃ n g, isCh h (b + 3) 12 n g ∧ n ≤ 12 ∧ ms.2 20 (2 * p + 1) = nI n ∧ ∀ i, i < n → g i = ms.2 21 (24 * p + 12 + i)) ∧
  (∃ q : zMe, isMe h (b + 5) q ∧ q.1 ≤ 12 ∧ ms.2 22 p = nI q.1 ∧ ∀ i, i < q.1 → q.2.1 i = ms.2 23 (12 * p + i) ∧ q.2.2 i = ms.2 24 (12 * p + i))
def noPa (p : Nat) (ms : zMS) : Prop := ms.2 18 p = 0 ∧ ms.2 19 p = -1 ∧ ms.2 20 (2 * p) = 0 ∧ ms.2 20 (2 * p + 1) = 0 ∧ ms.2 22 p = 0
/-- the rows say the same of a patient -/
def patSame (ms ms' : zMS) (p : Nat) : Prop := ms'.2 18 p = ms.2 18 p ∧ ms'.2 19 p = ms.2 19 p ∧ ms'.2 20 (2 * p) = ms.2 20 (2 * p) ∧ ms'.2 20 (2 * p + 1) = ms.2 20 (2 * p + 1) ∧ (∀ j, j < 24 → ms'.2 21 (24 * p + j) = ms.2 21 (24 * p + j)) ∧ ms'.2 22 p = ms.2 22 p ∧ ∀ j, j < 12 → ms'.2 23 (12 * p + j) = ms.2 23 (12 * p + j) ∧ ms'.2 24 (12 * p + j) = ms.2 24 (12 * p + j)
theorem isPa_h {h h' : zH} {b p : Nat} {ms : zMS} (hs : ∀ i, i < 8 → h'.2.2 (b + i) = h.2.2 (b + i)) (hp : isPa h b p ms) : isPa h' b p ms := by
  obtain ⟨h0, ⟨n1, g1, c1, d1⟩, ⟨n2, g2, c2, d2⟩, ⟨q, c3, d3⟩⟩ := hp
  exact ⟨(hs 0 (by decide)).trans h0, ⟨n1, g1, ⟨(hs 1 (by decide)).trans c1.1, (hs 2 (by decide)).trans c1.2⟩, d1⟩, ⟨n2, g2, ⟨(hs 3 (by decide)).trans c2.1, (hs 4 (by decide)).trans c2.2⟩, d2⟩, ⟨q, ⟨(hs 5 (by decide)).trans c3.1, (hs 6 (by decide)).trans c3.2.1, (hs 7 (by decide)).trans c3.2.2⟩, d3⟩⟩
theorem isPa_m {h : zH} {b p : Nat} {ms ms' : zMS} (hs : patSame ms ms' p) (hp : isPa h b p ms) : isPa h b p ms' := by
  obtain ⟨h0, ⟨n1, g1, c1, a1, b1, e1⟩, ⟨n2, g2, c2, a2, b2, e2⟩, ⟨q, c3, a3, b3, e3⟩⟩ := hp
  obtain ⟨s18, s19, s20, s20', s21, s22, s23⟩ := hs
  refine ⟨by rw [s19]; exact h0, ⟨n1, g1, c1, a1, s20.trans b1, fun i hi => by rw [s21 i (by omega)]; exact e1 i hi⟩, ⟨n2, g2, c2, a2, s20'.trans b2, fun i hi => by rw [show 24 * p + 12 + i = 24 * p + (12 + i) by omega, s21 (12 + i) (by omega), ← Nat.add_assoc]; exact e2 i hi⟩, ⟨q, c3, a3, s22.trans b3, fun i hi => by rw [(s23 i (by omega)).1, (s23 i (by omega)).2]; exact e3 i hi⟩⟩
/-- the hospital of the class and the reference's rows -/
def HosW (h : zH) (ms : zMS) (oc : Nat → Int32) (pt : Nat → Option Nat) (qt : zMe) : Prop := isHo h oc pt ∧ isMe h 107 qt ∧ qt.1 ≤ 12 ∧ 56 ≤ h.1 ∧ bedR oc (ms.2 19) ∧ (∀ p, 1 ≤ p → p ≤ 99 → pt p = none → noPa p ms) ∧ (∀ p b, 1 ≤ p → p ≤ 99 → pt p = some b → ms.2 18 p = 1 ∧ 156 ≤ b ∧ b + 8 ≤ 100 + h.1 ∧ b % 8 = 4 ∧ isPa h b p ms) ∧ (∀ p p' b, 1 ≤ p → p ≤ 99 → 1 ≤ p' → p' ≤ 99 → pt p = some b → pt p' = some b → p = p')
/-- one patient changes -/
theorem Hos_set {h h' : zH} {ms ms' : zMS} {oc oc' : Nat → Int32} {pt : Nat → Option Nat} {qt qt' : zMe} (H : HosW h ms oc pt qt) {p0 b0 : Nat} (h1 : 1 ≤ p0) (h2 : p0 ≤ 99) (hb : pt p0 = some b0) (hH : isHo h' oc' pt) (hQ : isMe h' 107 qt') (hq : qt'.1 ≤ 12) (hn : h'.1 = h.1) (hf : ∀ a, 156 ≤ a → (a < b0 ∨ b0 + 8 ≤ a) → h'.2.2 a = h.2.2 a) (hs : ∀ p, p ≠ p0 → patSame ms ms' p) (hkn : ms'.2 18 p0 = 1) (hbed : bedR oc' (ms'.2 19)) (hp : isPa h' b0 p0 ms') : HosW h' ms' oc' pt qt' := by
  obtain ⟨a1, a2, a3, a4, a5, a6, a7, a8⟩ := H
  refine ⟨hH, hQ, hq, by omega, hbed, fun p p1 p2 e => ?_, fun p b p1 p2 e => ?_, a8⟩
  · have hne : p ≠ p0 := by intro z; rw [z, hb] at e; cases e
    obtain ⟨s18, s19, s20, s20', -, s22, -⟩ := hs p hne
    obtain ⟨n1, n2, n3, n4, n5⟩ := a6 p p1 p2 e
    exact ⟨s18.trans n1, s19.trans n2, s20.trans n3, s20'.trans n4, s22.trans n5⟩
  · by_cases hpp : p = p0
    · subst hpp
      rw [hb] at e
      cases e
      obtain ⟨-, r1, r2, r3, -⟩ := a7 p b0 p1 p2 hb
      exact ⟨hkn, r1, by omega, r3, hp⟩
    · obtain ⟨k1, r1, r2, r3, r4⟩ := a7 p b p1 p2 e
      obtain ⟨-, u1, u2, u3, -⟩ := a7 p0 b0 h1 h2 hb
      have hne : b ≠ b0 := fun z => hpp (a8 p p0 b p1 p2 h1 h2 e (by rw [z]; exact hb))
      refine ⟨(hs p hpp).1.trans k1, r1, by omega, r3, isPa_m (hs p hpp) (isPa_h (fun i hi => hf (b + i) (by omega) ?_) r4)⟩
      omega
