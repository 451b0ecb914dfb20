/-! BOTH: an escape, a segment's signs -/
theorem ix_hex : ∀ c : Fin 256, ixF (sT 3) (i2cF (nI c.val)) = mhex (nI c.val) := by decide +kernel
theorem ix_let : ∀ c : Fin 256, ixF (sT 2) (i2cF (nI c.val)) = tI (whichL (nI c.val)) := by decide +kernel
theorem hex_prop : ∀ c : Fin 127, prop1 (nI c.val) = true → mhex (nI c.val) < 0 := by decide +kernel
/-- a frame's characters -/
def byt (F : Nat → Int32) (n : Nat) : Prop := ∀ i, i < n → ∃ c, c < 256 ∧ F i = nI c
theorem hxF_eq {F : Nat → Int32} {n : Nat} (hB : byt F n) (i : Nat) : hxF F n i = mhex (nowF F n i) := by
  unfold hxF clF nowF
  by_cases h : i < n
  · rw [if_pos h, if_pos h]
    obtain ⟨c, hc, e⟩ := hB i h
    rw [e]
    exact ix_hex ⟨c, hc⟩
  · rw [if_neg h, if_neg h]
    decide +kernel
theorem let_eq {F : Nat → Int32} {n : Nat} (hB : byt F n) (i : Nat) : ixF (sT 2) (i2cF (clF F n i)) = tI (whichL (nowF F n i)) := by
  unfold clF nowF
  by_cases h : i < n
  · rw [if_pos h, if_pos h]
    obtain ⟨c, hc, e⟩ := hB i h
    rw [e]
    exact ix_let ⟨c, hc⟩
  · rw [if_neg h, if_neg h]
    decide +kernel
theorem cl_eq {F : Nat → Int32} {n i : Nat} {x : Int32} (h0 : ¬ x = 0) (h1 : ¬ x = -1) : clF F n i = x ↔ nowF F n i = x := by
  unfold clF nowF
  by_cases h : i < n
  · rw [if_pos h, if_pos h]
  · rw [if_neg h, if_neg h]
    exact ⟨fun z => absurd z.symm h1, fun z => absurd z.symm h0⟩
theorem whichL_lt {c : Int32} {w : Nat} (h : whichL c = some w) : w < 5 ∧ ¬ c = 88 ∧ ¬ c = 13 ∧ ¬ c = 0 := by
  unfold whichL at h
  repeat' split at h
  all_goals first | (rename_i q; cases h; subst q; decide) | cases h
theorem fit_ne {S : Nat → Int32} (hf : fitF S = true) {k : Nat} (hk : k < 5) : ¬ S k = 0 ∧ ¬ S k = -1 ∧ ¬ S k = 13 ∧ mhex (S k) < 0 := by
  have hp := (fitF_true hf k hk).1
  obtain ⟨h0, h13, -, x, h1, h2, e⟩ := prop1_ne hp
  refine ⟨h0, ?_, h13, ?_⟩
  · rw [e]; exact nI_neg1 (by omega)
  · rw [e] at hp ⊢
    exact hex_prop ⟨x, by omega⟩ hp
theorem escC_eq {F S : Nat → Int32} {n a : Nat} (hf : fitF S = true) (hB : byt F n) : escC F n S a = match escF F n S a with
    | some z => z.1
    | none => -1 := by
  have h3 := fit_ne hf (k := 3) (by decide)
  unfold escC escF
  cases hw : whichL (nowF F n (a + 1)) with
  | some w =>
    have hwl := whichL_lt hw
    dsimp only
    by_cases h2 : clF F n (a + 2) = S 3
    · have h2n := (cl_eq h3.1 h3.2.1).mp h2
      have hlt : a + 2 < n := now_pos (by rw [h2n]; exact h3.1)
      rw [if_pos h2, let_eq hB, hw, if_pos ⟨by omega, by unfold nowF at h2n; rw [if_pos hlt] at h2n; exact h2n⟩]
      exact getF_in hwl.1 (by decide)
    · have hn1 : ¬ (clF F n (a + 1) = 88 ∧ clF F n (a + 4) = S 3) := fun z => hwl.2.1 ((cl_eq (by decide) (by decide)).mp z.1)
      have hn2 : ¬ (a + 3 ≤ n ∧ F (a + 2) = S 3) := fun z => h2 ((cl_eq h3.1 h3.2.1).mpr (by unfold nowF; rw [if_pos (by omega)]; exact z.2))
      rw [if_neg h2, if_neg hn1, if_neg hn2]
  | none =>
    dsimp only
    by_cases h2 : clF F n (a + 2) = S 3
    · have h2n := (cl_eq h3.1 h3.2.1).mp h2
      rw [if_pos h2, let_eq hB, hw, if_neg (fun z => (of_decide_eq_true z).2.1 (by rw [h2n]; exact h3.2.2.2))]
      exact getF_neg (by decide)
    · rw [if_neg h2]
      by_cases h1 : clF F n (a + 1) = 88 ∧ clF F n (a + 4) = S 3
      · rw [if_pos h1, hxF_eq hB, hxF_eq hB]
        have h1n := (cl_eq (by decide) (by decide)).mp h1.1
        have h4n := (cl_eq h3.1 h3.2.1).mp h1.2
        by_cases hx : ¬ mhex (nowF F n (a + 2)) < 0 ∧ ¬ mhex (nowF F n (a + 3)) < 0 ∧ zbtw (16 * mhex (nowF F n (a + 2)) + mhex (nowF F n (a + 3))) 32 126 = true
        · rw [if_pos hx, if_pos]
          · rfl
          · have := hx.2.2
            unfold zbtw at this
            simp only [Bool.and_eq_true, Bool.not_eq_true', decide_eq_false_iff_not] at this
            exact decide_eq_true ⟨h1n, hx.1, hx.2.1, h4n, this.1, this.2⟩
        · rw [if_neg hx, if_neg]
          intro z
          have z := of_decide_eq_true z
          refine hx ⟨z.2.1, z.2.2.1, ?_⟩
          have z5 := z.2.2.2.2
          unfold hexV at z5
          unfold zbtw
          simp only [Bool.and_eq_true, Bool.not_eq_true', decide_eq_false_iff_not]
          exact z5
      · rw [if_neg h1, if_neg]
        intro z
        have z := of_decide_eq_true z
        exact h1 ⟨(cl_eq (by decide) (by decide)).mpr z.1, (cl_eq h3.1 h3.2.1).mpr z.2.2.2.1⟩
theorem now_at {F : Nat → Int32} {n i : Nat} (h : i < n) : nowF F n i = F i := if_pos h
theorem esc_tk {F S : Nat → Int32} {n a : Nat} {z : Int32 × Nat} (hf : fitF S = true) (h : escF F n S a = some z) : z.2 = (if clF F n (a + 1) = 88 then 5 else 3) ∧ ¬ z.1 = -1 ∧ ∀ j, 0 < j → j < z.2 → a + j < n ∧ ¬ F (a + j) = 13 := by
  have h3 := fit_ne hf (k := 3) (by decide)
  unfold escF at h
  split at h
  · rename_i w hw
    have hwl := whichL_lt hw
    split at h
    · rename_i hc
      cases h
      refine ⟨?_, (fit_ne hf hwl.1).2.1, fun j h1 h2 => ?_⟩
      · rw [if_neg (fun q => hwl.2.1 ((cl_eq (by decide) (by decide)).mp q))]
      · have h2 : j < 3 := h2
        refine ⟨by omega, ?_⟩
        rcases (show j = 1 ∨ j = 2 by omega) with rfl | rfl
        · rw [← now_at (F := F) (n := n) (i := a + 1) (by omega)]; exact hwl.2.2.1
        · rw [hc.2]; exact h3.2.2.1
    · cases h
  · split at h
    · rename_i hx
      have hx := of_decide_eq_true hx
      cases h
      have n13 : ∀ i, ¬ mhex (nowF F n i) < 0 → i < n ∧ ¬ F i = 13 := by
        intro i hi
        have hlt : i < n := now_pos (fun q => hi (by rw [q]; decide +kernel))
        rw [now_at hlt] at hi
        exact ⟨hlt, fun q => hi (by rw [q]; decide +kernel)⟩
      have h1 : a + 1 < n := now_pos (by rw [hx.1]; decide)
      have h4 : a + 4 < n := now_pos (by rw [hx.2.2.2.1]; exact h3.1)
      refine ⟨?_, ?_, fun j hj1 hj2 => ?_⟩
      · rw [if_pos ((cl_eq (by decide) (by decide)).mpr hx.1)]
      · exact fun q => hx.2.2.2.2.1 (by rw [show hexV F n a = -1 from q]; decide)
      · have hj2 : j < 5 := hj2
        rcases (show j = 1 ∨ j = 2 ∨ j = 3 ∨ j = 4 by omega) with rfl | rfl | rfl | rfl
        · exact ⟨h1, by rw [← now_at (F := F) h1, hx.1]; decide⟩
        · exact n13 _ hx.2.1
        · exact n13 _ hx.2.2.1
        · exact ⟨h4, by rw [← now_at (F := F) h4, hx.2.2.2.1]; exact h3.2.2.1⟩
    · cases h
/-- the place of a character among proper separators -/
theorem pl_which {S : Nat → Int32} (hf : fitF S = true) (c : Int32) : plF S c = if c = S 3 then some 3 else whichS S c := by
  have hd : ∀ i j, i < j → j < 5 → ¬ S i = S j := fun i j hij hj => (fitF_true hf j hj).2 i hij
  have d01 := hd 0 1 (by decide) (by decide)
  have d02 := hd 0 2 (by decide) (by decide)
  have d03 := hd 0 3 (by decide) (by decide)
  have d04 := hd 0 4 (by decide) (by decide)
  have d12 := hd 1 2 (by decide) (by decide)
  have d13 := hd 1 3 (by decide) (by decide)
  have d14 := hd 1 4 (by decide) (by decide)
  have d23 := hd 2 3 (by decide) (by decide)
  have d24 := hd 2 4 (by decide) (by decide)
  have d34 := hd 3 4 (by decide) (by decide)
  unfold plF whichS
  simp only [zfst, decide_eq_true_eq, Nat.zero_add, Nat.reduceAdd]
  have e10 : ¬ S 1 = S 0 := fun q => d01 q.symm
  have e20 : ¬ S 2 = S 0 := fun q => d02 q.symm
  have e30 : ¬ S 3 = S 0 := fun q => d03 q.symm
  have e40 : ¬ S 4 = S 0 := fun q => d04 q.symm
  have e21 : ¬ S 2 = S 1 := fun q => d12 q.symm
  have e31 : ¬ S 3 = S 1 := fun q => d13 q.symm
  have e41 : ¬ S 4 = S 1 := fun q => d14 q.symm
  have e32 : ¬ S 3 = S 2 := fun q => d23 q.symm
  have e42 : ¬ S 4 = S 2 := fun q => d24 q.symm
  have e43 : ¬ S 4 = S 3 := fun q => d34 q.symm
  by_cases h0 : S 0 = c
  · subst h0
    simp [d01, e10, d02, e20, d03, e30, d04, e40, d12, e21, d13, e31, d14, e41, d23, e32, d24, e42, d34, e43]
  have g0 : ¬ c = S 0 := fun q => h0 q.symm
  by_cases h1 : S 1 = c
  · subst h1
    simp [d01, e10, d02, e20, d03, e30, d04, e40, d12, e21, d13, e31, d14, e41, d23, e32, d24, e42, d34, e43]
  have g1 : ¬ c = S 1 := fun q => h1 q.symm
  by_cases h2 : S 2 = c
  · subst h2
    simp [d01, e10, d02, e20, d03, e30, d04, e40, d12, e21, d13, e31, d14, e41, d23, e32, d24, e42, d34, e43]
  have g2 : ¬ c = S 2 := fun q => h2 q.symm
  by_cases h3 : S 3 = c
  · subst h3
    simp [d01, e10, d02, e20, d03, e30, d04, e40, d12, e21, d13, e31, d14, e41, d23, e32, d24, e42, d34, e43]
  have g3 : ¬ c = S 3 := fun q => h3 q.symm
  by_cases h4 : S 4 = c
  · subst h4
    simp [d01, e10, d02, e20, d03, e30, d04, e40, d12, e21, d13, e31, d14, e41, d23, e32, d24, e42, d34, e43]
  have g4 : ¬ c = S 4 := fun q => h4 q.symm
  simp [h0, g0, h1, g1, h2, g2, h3, g3, h4, g4]
def encG (g : zG) : Int32 := match g with
  | .inl c => c
  | .inr w => nI (256 + w)
theorem whichS_ne3 {S : Nat → Int32} {c : Int32} {w : Nat} (h : whichS S c = some w) : ¬ w = 3 ∧ w < 5 := by
  unfold whichS at h
  repeat' split at h
  all_goals first | (cases h; decide) | cases h
theorem body_rd {F S : Nat → Int32} {n : Nat} (hf : fitF S = true) (hB : byt F n) : ∀ (q a e : Nat), e ≤ n → (e = n ∨ F e = 13) → (∀ i, a ≤ i → i < e → ¬ F i = 13) → a ≤ e → e ≤ a + q → match bodyF F n S q a with
    | none => (rdL F n S e q a).2 = false
    | some p => p.2 = e ∧ rdL F n S e q a = (p.1.map encG, true) := by
  intro q
  induction q with
  | zero =>
    intro a e hen he h13 hae hq
    exact ⟨by show a = e; omega, rfl⟩
  | succ q ih =>
    intro a e hen he h13 hae hq
    rw [bodyF, rdL]
    by_cases hlt : a < e
    · have hn13 := h13 a (Nat.le_refl _) hlt
      rw [if_pos hlt, if_pos ⟨by omega, hn13⟩]
      have hpl := pl_which hf (F a)
      by_cases h3 : F a = S 3
      · rw [if_pos h3] at hpl ⊢
        have hT : rdT F n S a = (escC F n S a, if clF F n (a + 1) = 88 then 5 else 3) := by
          unfold rdT
          rw [hpl]
          rfl
        rw [hT]
        dsimp only
        rw [escC_eq hf hB]
        cases hz : escF F n S a with
        | none =>
          dsimp only
          rw [if_pos rfl]
        | some z =>
          dsimp only
          obtain ⟨t1, t2, t3⟩ := esc_tk hf hz
          rw [if_neg t2, ← t1]
          have hz0 : 0 < z.2 := by rw [t1]; split <;> decide
          have hin : a + z.2 ≤ e := by
            rcases Nat.lt_or_ge e (a + z.2) with w | w
            · have := t3 (e - a) (by omega) (by omega)
              rw [show a + (e - a) = e by omega] at this
              exact absurd he (fun q => q.elim (fun q => by omega) this.2)
            · exact w
          have hi := ih (a + z.2) e hen he (fun i h1 h2 => h13 i (by omega) h2) hin (by omega)
          cases hb : bodyF F n S q (a + z.2) with
          | none =>
            rw [hb] at hi
            exact hi
          | some p =>
            rw [hb] at hi
            refine ⟨hi.1, ?_⟩
            rw [hi.2]
            rfl
      · rw [if_neg h3] at hpl ⊢
        have hi := ih (a + 1) e hen he (fun i h1 h2 => h13 i (by omega) h2) (by omega) (by omega)
        cases hw : whichS S (F a) with
        | none =>
          have hT : rdT F n S a = (F a, 1) := by
            unfold rdT
            rw [hpl, hw]
          rw [hT]
          dsimp only
          obtain ⟨c, hc, ec⟩ := hB a (by omega)
          rw [if_neg (by rw [ec]; exact nI_neg1 (by omega))]
          cases hb : bodyF F n S q (a + 1) with
          | none =>
            rw [hb] at hi
            exact hi
          | some p =>
            rw [hb] at hi
            refine ⟨hi.1, ?_⟩
            rw [hi.2]
            rfl
        | some w =>
          have hw3 := whichS_ne3 hw
          have hT : rdT F n S a = (nI (256 + w), 1) := by
            unfold rdT
            rw [hpl, hw]
            exact if_neg hw3.1
          rw [hT]
          dsimp only
          rw [if_neg (nI_neg1 (by omega))]
          cases hb : bodyF F n S q (a + 1) with
          | none =>
            rw [hb] at hi
            exact hi
          | some p =>
            rw [hb] at hi
            refine ⟨hi.1, ?_⟩
            rw [hi.2]
            rfl
    · rw [if_neg hlt, if_neg (fun z => by
        have hae2 : a = e := by omega
        rcases he with w | w
        · omega
        · exact z.2 (by rw [hae2]; exact w))]
      exact ⟨by show a = e; omega, rfl⟩
