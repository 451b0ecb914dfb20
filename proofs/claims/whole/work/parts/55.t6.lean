/-! BOTH: identities -/
theorem vlod_rng {c : Int32} (h : vlod c = true) : ∃ x, 48 ≤ x ∧ x ≤ 122 ∧ c = nI x := by
  unfold vlod at h
  simp only [Bool.or_eq_true] at h
  rcases h with (h | h) | h
  · unfold zcap at h
    simp only [Bool.and_eq_true, Bool.not_eq_true', decide_eq_false_iff_not] at h
    obtain ⟨x, h1, h2, e⟩ := i32_rng (a := 65) (b := 90) (m := 65) (n := 90) rfl rfl (by decide) (by decide) h.1 h.2
    exact ⟨x, by omega, by omega, e⟩
  · unfold zsml at h
    simp only [Bool.and_eq_true, Bool.not_eq_true', decide_eq_false_iff_not] at h
    obtain ⟨x, h1, h2, e⟩ := i32_rng (a := 97) (b := 122) (m := 97) (n := 122) rfl rfl (by decide) (by decide) h.1 h.2
    exact ⟨x, by omega, by omega, e⟩
  · unfold zdig at h
    simp only [Bool.and_eq_true, Bool.not_eq_true', decide_eq_false_iff_not] at h
    obtain ⟨x, h1, h2, e⟩ := i32_rng (a := 48) (b := 57) (m := 48) (n := 57) rfl rfl (by decide) (by decide) h.1 h.2
    exact ⟨x, by omega, by omega, e⟩
/-- an identity: one to six letters or digits -/
def idOk (t : zT) : Prop := 1 ≤ tl t ∧ tl t ≤ 6 ∧ ∀ j, j < tl t → vlod (tc t j) = true
theorem idF_iff (V : zV) : idF V = true ↔ idOk (V 1 2 1 1) := by
  refine ⟨idF_true, fun h => ?_⟩
  have gen : ∀ (k i : Nat) (ok : Bool), ok = true → (∀ j, i ≤ j → j < i + k → vlod (tc (V 1 2 1 1) j) = true) → vidL (V 1 2 1 1) i k ok = true := by
    intro k
    induction k with
    | zero => intro i ok h _; exact h
    | succ k ih =>
      intro i ok hok hv
      rw [vidL]
      exact ih _ _ (by rw [hok, hv i (Nat.le_refl _) (by omega)]; rfl) (fun j h1 h2 => hv j (by omega) (by omega))
  unfold idF
  refine gen _ _ _ ?_ (fun j _ hj => h.2.2 j (by omega))
  have h1 := h.1
  have h2 := h.2.1
  rw [decide_eq_false (by omega), decide_eq_false (by omega)]
  rfl
def dgT (t : zT) (i : Nat) : Nat := (tc t i).toNatClampNeg
def pkT (t : zT) (i m v : Nat) : Nat := match m with
  | 0 => v
  | m + 1 => pkT t (i + 1) m (128 * v + dgT t i)
theorem idPL_ok {t : zT} : ∀ (m i v : Nat), (∀ j, i ≤ j → j < i + m → vlod (tc t j) = true) → idPL t i m (lN v) = lN (pkT t i m v) := by
  intro m
  induction m with
  | zero => intro i v _; rfl
  | succ m ih =>
    intro i v h
    have hv := h i (Nat.le_refl _) (by omega)
    obtain ⟨x, h1, h2, e⟩ := vlod_rng hv
    rw [idPL, if_pos hv, pkT]
    have hd : dgT t i = x := by unfold dgT; rw [e, nI_clamp (by omega)]
    rw [hd, e, nI_l (by omega), show (128 : Int64) = lN 128 from rfl, lN_mul, lN_add]
    exact ih (i + 1) (128 * v + x) (fun j h1 h2 => h j (by omega) (by omega))
theorem idPL_bad {t : zT} : ∀ (m i : Nat) (v : Int64), (∃ j, i ≤ j ∧ j < i + m ∧ vlod (tc t j) = false) → idPL t i m v = 0 := by
  intro m
  induction m with
  | zero => intro i v ⟨j, h1, h2, _⟩; omega
  | succ m ih =>
    intro i v ⟨j, h1, h2, h3⟩
    rw [idPL]
    cases hv : vlod (tc t i) with
    | false => rw [if_neg (by decide)]
    | true =>
      rw [if_pos rfl]
      refine ih (i + 1) _ ⟨j, ?_, by omega, h3⟩
      rcases Nat.lt_or_ge i j with q | q
      · exact q
      · have : j = i := by omega
        rw [this, hv] at h3; cases h3
theorem pkT_b {t : zT} : ∀ (m i v : Nat), (∀ j, i ≤ j → j < i + m → vlod (tc t j) = true) → v < 128 ^ i → pkT t i m v < 128 ^ (i + m) ∧ (0 < m ∨ 0 < v → 0 < pkT t i m v) := by
  intro m
  induction m with
  | zero => intro i v _ hv; exact ⟨hv, fun h => h.elim (fun q => by omega) id⟩
  | succ m ih =>
    intro i v h hv
    obtain ⟨x, h1, h2, e⟩ := vlod_rng (h i (Nat.le_refl _) (by omega))
    have hd : dgT t i = x := by unfold dgT; rw [e, nI_clamp (by omega)]
    rw [pkT, hd]
    have hb : 128 * v + x < 128 ^ (i + 1) := by
      rw [Nat.pow_succ]; omega
    obtain ⟨g1, g2⟩ := ih (i + 1) (128 * v + x) (fun j q1 q2 => h j (by omega) (by omega)) hb
    exact ⟨by rw [show i + (m + 1) = i + 1 + m by omega]; exact g1, fun _ => g2 (Or.inr (by omega))⟩
theorem idP_ok {t : zT} (h : idOk t) : idP t = lN (pkT t 0 (tl t) 0) ∧ 0 < pkT t 0 (tl t) 0 ∧ pkT t 0 (tl t) 0 < 2 ^ 42 := by
  have hb := pkT_b (t := t) (tl t) 0 0 (fun j _ hj => h.2.2 j (by omega)) (by decide)
  refine ⟨?_, hb.2 (Or.inl h.1), Nat.lt_of_lt_of_le hb.1 ?_⟩
  · unfold idP
    have := h.2.1
    rw [if_neg (by omega)]
    exact idPL_ok (t := t) (tl t) 0 0 (fun j _ hj => h.2.2 j (by omega))
  · have h6 := h.2.1
    calc 128 ^ (0 + tl t) ≤ 128 ^ 6 := Nat.pow_le_pow_right (by decide) (by omega)
      _ = 2 ^ 42 := by decide
theorem idP_bad {t : zT} (h : ¬ idOk t) : idP t = 0 := by
  unfold idP
  by_cases h6 : 6 < tl t
  · rw [if_pos h6]
  · rw [if_neg h6]
    by_cases h1 : tl t = 0
    · rw [h1]; rfl
    · refine idPL_bad _ _ _ ?_
      have hn : ¬ ∀ j, j < tl t → vlod (tc t j) = true := fun q => h ⟨by omega, by omega, q⟩
      have : ∃ j, j < tl t ∧ vlod (tc t j) = false := by
        refine Classical.byContradiction (fun q => hn (fun j hj => ?_))
        cases hv : vlod (tc t j) with
        | true => rfl
        | false => exact absurd ⟨j, hj, hv⟩ q
      obtain ⟨j, hj, hv⟩ := this
      exact ⟨j, by omega, by omega, hv⟩
theorem idP_ne {t : zT} (h : idOk t) : ¬ idP t = 0 := by
  obtain ⟨h1, h2, h3⟩ := idP_ok h
  rw [h1]
  intro z
  have := (pk_lEQ (a := pkT t 0 (tl t) 0) (b := 0) (by omega) (by decide)).mp z
  omega
/-- digits from the last on -/
theorem pkT_last {t : zT} : ∀ (m i v : Nat), pkT t i (m + 1) v = 128 * pkT t i m v + dgT t (i + m) := by
  intro m
  induction m with
  | zero => intro i v; rfl
  | succ m ih =>
    intro i v
    rw [pkT, ih (i + 1), pkT, show i + 1 + m = i + (m + 1) by omega]
theorem dg_b {t : zT} (h : idOk t) {j : Nat} (hj : j < tl t) : 48 ≤ dgT t j ∧ dgT t j ≤ 122 ∧ tc t j = nI (dgT t j) := by
  obtain ⟨x, h1, h2, e⟩ := vlod_rng (h.2.2 j hj)
  have hd : dgT t j = x := by unfold dgT; rw [e, nI_clamp (by omega)]
  rw [hd]; exact ⟨h1, h2, e⟩
theorem pkT_inj {t u : zT} (ht : idOk t) (hu : idOk u) : ∀ (m k : Nat), m ≤ tl t → k ≤ tl u → pkT t 0 m 0 = pkT u 0 k 0 → m = k ∧ ∀ j, j < m → tc t j = tc u j := by
  intro m
  induction m with
  | zero =>
    intro k _ hk e
    cases k with
    | zero => exact ⟨rfl, fun j hj => by omega⟩
    | succ k =>
      rw [pkT_last, Nat.zero_add] at e
      have := dg_b hu (j := k) (by omega)
      rw [show pkT t 0 0 0 = 0 from rfl] at e
      omega
  | succ m ih =>
    intro k hm hk e
    have dt := dg_b ht (j := m) (by omega)
    cases k with
    | zero =>
      rw [pkT_last, Nat.zero_add] at e
      rw [show pkT u 0 0 0 = 0 from rfl] at e
      omega
    | succ k =>
      have du := dg_b hu (j := k) (by omega)
      rw [pkT_last, pkT_last, Nat.zero_add, Nat.zero_add] at e
      have e1 : dgT t m = dgT u k := by omega
      have e2 : pkT t 0 m 0 = pkT u 0 k 0 := by omega
      obtain ⟨h1, h2⟩ := ih k (by omega) (by omega) e2
      refine ⟨by omega, fun j hj => ?_⟩
      by_cases hjm : j = m
      · rw [hjm, dt.2.2, e1, ← du.2.2, h1]
      · exact h2 j (by omega)
theorem tc_out {t : zT} {j : Nat} (h : tl t ≤ j) : tc t j = 0 := by
  unfold tc
  rw [List.getD_eq_getElem?_getD, List.getElem?_eq_none h]
  rfl
theorem tc_ne0 {t : zT} (h : idOk t) {j : Nat} (hj : j < tl t) : ¬ tc t j = 0 := by
  obtain ⟨h1, h2, e⟩ := dg_b h hj
  rw [e]
  intro z
  have := (nI_eq (a := dgT t j) (b := 0) (by omega) (by decide)).mp z
  omega
/-- identities are the same: by six characters, by one number -/
theorem id_same {t u : zT} (ht : idOk t) (hu : idOk u) : (∀ i, i < 6 → tc t i = tc u i) ↔ idP t = idP u := by
  constructor
  · intro h
    have hl : tl t = tl u := by
      rcases Nat.lt_trichotomy (tl t) (tl u) with q | q | q
      · have h6 := hu.2.1
        have := h (tl t) (by omega)
        rw [tc_out (Nat.le_refl _)] at this
        exact absurd this.symm (tc_ne0 hu q)
      · exact q
      · have h6 := ht.2.1
        have := h (tl u) (by omega)
        rw [tc_out (t := u) (Nat.le_refl _)] at this
        exact absurd this (tc_ne0 ht q)
    have gen : ∀ (m i v : Nat), i + m ≤ 6 → pkT t i m v = pkT u i m v := by
      intro m
      induction m with
      | zero => intro i v _; rfl
      | succ m ih =>
        intro i v him
        rw [pkT, pkT, ih (i + 1) _ (by omega)]
        unfold dgT
        rw [h i (by omega)]
    rw [(idP_ok ht).1, (idP_ok hu).1, hl, gen (tl u) 0 0 (by have := hu.2.1; omega)]
  · intro e i hi
    obtain ⟨e1, p1, b1⟩ := idP_ok ht
    obtain ⟨e2, p2, b2⟩ := idP_ok hu
    rw [e1, e2] at e
    have := (pk_lEQ (by omega) (by omega)).mp e
    obtain ⟨h1, h2⟩ := pkT_inj ht hu (tl t) (tl u) (Nat.le_refl _) (Nat.le_refl _) this
    by_cases hit : i < tl t
    · exact h2 i hit
    · rw [tc_out (by omega), tc_out (by omega)]
theorem sameL_iff {f : Nat → Int32} {t : zT} {k : Nat} : ∀ (m i : Nat) (s : Bool), sameL f t k i m s = true ↔ s = true ∧ ∀ j, i ≤ j → j < i + m → f (6 * k + j) = tc t j := by
  intro m
  induction m with
  | zero => intro i s; exact ⟨fun h => ⟨h, fun j _ _ => by omega⟩, fun h => h.1⟩
  | succ m ih =>
    intro i s
    rw [sameL, ih]
    simp only [Bool.and_eq_true, decide_eq_true_eq]
    constructor
    · rintro ⟨⟨h1, h2⟩, h3⟩
      refine ⟨h1, fun j q1 q2 => ?_⟩
      by_cases hj : j = i
      · rw [hj]; exact h2
      · exact h3 j (by omega) (by omega)
    · rintro ⟨h1, h2⟩
      exact ⟨⟨h1, h2 i (Nat.le_refl _) (by omega)⟩, fun j q1 q2 => h2 j (by omega) (by omega)⟩
theorem same6_iff {f : Nat → Int32} {t : zT} {k : Nat} : same6 f t k = true ↔ ∀ j, j < 6 → f (6 * k + j) = tc t j := by
  unfold same6
  rw [sameL_iff]
  exact ⟨fun h j hj => h.2 j (by omega) (by omega), fun h => ⟨rfl, fun j _ hj => h j (by omega)⟩⟩
