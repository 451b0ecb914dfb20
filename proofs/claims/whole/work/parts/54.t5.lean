/-! BOTH: a message that a frame gives -/
theorem chr_at {F : Nat → Int32} {n i : Nat} (hB : byt F n) (h : i < n) : chr (F i) := hB i h
theorem chr_sep {S : Nat → Int32} (hf : fitF S = true) {k : Nat} (hk : k < 5) : chr (S k) := by
  obtain ⟨-, -, -, x, h1, h2, e⟩ := prop1_ne (fitF_true hf k hk).1
  exact ⟨x, by omega, e⟩
theorem esc_chr {F S : Nat → Int32} {n a : Nat} {z : Int32 × Nat} (hf : fitF S = true) (h : escF F n S a = some z) : chr z.1 := by
  unfold escF at h
  split at h
  · rename_i w hw
    split at h
    · cases h; exact chr_sep hf (whichL_lt hw).1
    · cases h
  · split at h
    · rename_i hx
      have hx := of_decide_eq_true hx
      cases h
      obtain ⟨x, h1, h2, e⟩ := i32_rng (a := 32) (b := 126) (m := 32) (n := 126) (c := hexV F n a) rfl rfl (by decide) (by decide) hx.2.2.2.2.1 hx.2.2.2.2.2
      exact ⟨x, by omega, e⟩
    · cases h
theorem whichS_ok {S : Nat → Int32} {c : Int32} {w : Nat} (h : whichS S c = some w) : w = 0 ∨ w = 1 ∨ w = 2 ∨ w = 4 := by
  unfold whichS at h
  repeat' split at h
  all_goals first | (cases h; simp; done) | cases h
theorem body_ok {F S : Nat → Int32} {n : Nat} (hf : fitF S = true) (hB : byt F n) : ∀ (q a : Nat) (p : List zG × Nat), bodyF F n S q a = some p → ∀ g, g ∈ p.1 → okG g := by
  intro q
  induction q with
  | zero => intro a p h g hg; cases h; cases hg
  | succ q ih =>
    intro a p h g hg
    rw [bodyF] at h
    split at h
    · rename_i hA
      split at h
      · split at h
        · cases h
        · rename_i z hz
          obtain ⟨y, hy, rfl⟩ := Option.map_eq_some_iff.mp h
          rcases List.mem_cons.mp hg with rfl | q1
          · exact esc_chr hf hz
          · exact ih _ y hy g q1
      · split at h
        · obtain ⟨y, hy, rfl⟩ := Option.map_eq_some_iff.mp h
          rcases List.mem_cons.mp hg with rfl | q1
          · exact chr_at hB hA.1
          · exact ih _ y hy g q1
        · rename_i w hw
          obtain ⟨y, hy, rfl⟩ := Option.map_eq_some_iff.mp h
          rcases List.mem_cons.mp hg with rfl | q1
          · exact whichS_ok hw
          · exact ih _ y hy g q1
    · cases h; cases hg
theorem rest_ok {F S : Nat → Int32} {n a : Nat} {p : List zG × Nat} (hf : fitF S = true) (hB : byt F n) (h : restF F n S a = some p) : (∀ g, g ∈ p.1 → okG g) ∧ (p.1 = [] ∨ ∃ g, p.1 = .inr 0 :: g) := by
  unfold restF at h
  split at h
  · cases h; exact ⟨(fun g hg => by cases hg), Or.inl rfl⟩
  · rename_i hA
    split at h
    · rename_i hs
      refine ⟨body_ok hf hB _ _ _ h, Or.inr ?_⟩
      have han : a < n := by
        rcases Nat.lt_or_ge a n with q | q
        · exact q
        · exact absurd (Or.inl q) hA
      have h13 : ¬ F a = 13 := fun q => hA (Or.inr q)
      cases n with
      | zero => omega
      | succ m =>
        have d03 := (fitF_true hf 3 (by decide)).2 0 (by decide)
        have hw : whichS S (F a) = some 0 := by
          unfold whichS
          rw [if_pos hs]
        rw [bodyF, if_pos ⟨han, h13⟩, if_neg (by rw [hs]; exact d03), hw] at h
        obtain ⟨y, hy, rfl⟩ := Option.map_eq_some_iff.mp h
        exact ⟨y.1, rfl⟩
    · cases h
theorem segs_ok {F S : Nat → Int32} {n : Nat} (hf : fitF S = true) (hB : byt F n) : ∀ (q e : Nat) (l : List zSeg), segsF F n S q e = some l → ∀ s, s ∈ l → segOk s := by
  intro q
  induction q with
  | zero => intro e l h s hs; cases h; cases hs
  | succ q ih =>
    intro e l h s hs
    rw [segsF] at h
    split at h
    · split at h
      · rename_i hlt hnm
        split at h
        · cases h
        · rename_i p hp
          obtain ⟨y, hy, rfl⟩ := Option.map_eq_some_iff.mp h
          rcases List.mem_cons.mp hs with rfl | q1
          · obtain ⟨r1, r2⟩ := rest_ok hf hB hp
            have hl := nameOk_len hnm
            refine ⟨rfl, fun c hc => ?_, r1, r2⟩
            simp only [List.mem_cons, List.not_mem_nil, or_false] at hc
            rcases hc with rfl | rfl | rfl
            · rw [now_at (by omega)]; exact chr_at hB (by omega)
            · rw [now_at (by omega)]; exact chr_at hB (by omega)
            · rw [now_at (by omega)]; exact chr_at hB (by omega)
          · exact ih _ y hy s q1
      · cases h
    · cases h; cases hs
theorem msg_ok {F S : Nat → Int32} {n : Nat} {l : List zSeg} (hf : fitF S = true) (hB : byt F n) (h : msgF F n S = some l) : ∀ s, s ∈ l → segOk s := by
  unfold msgF at h
  split at h
  · cases h
  · rename_i p hp
    obtain ⟨y, hy, rfl⟩ := Option.map_eq_some_iff.mp h
    intro s hs
    rcases List.mem_cons.mp hs with rfl | q1
    · obtain ⟨r1, r2⟩ := rest_ok hf hB hp
      refine ⟨rfl, fun c hc => ?_, r1, r2⟩
      simp only [List.mem_cons, List.not_mem_nil, or_false] at hc
      rcases hc with rfl | rfl | rfl
      · exact ⟨72, by decide, rfl⟩
      · exact ⟨68, by decide, rfl⟩
      · exact ⟨82, by decide, rfl⟩
    · exact segs_ok hf hB _ _ y hy s q1
theorem ent_cnt : ∀ (g : List zG) (sg : Nat) (k : zK4), g.length = (entF sg k g).1.length + (entF sg k g).2.length + (flat (entF sg k g).2).length := by
  intro g
  induction g with
  | nil => intro sg k; rfl
  | cons x g ih =>
    intro sg k
    cases x with
    | inl c =>
      have := ih sg k
      show g.length + 1 = ((entF sg k g).1.length + 1) + (entF sg k g).2.length + (flat (entF sg k g).2).length
      omega
    | inr w =>
      have := ih sg (bump k w)
      show g.length + 1 = 0 + ((entF sg (bump k w) g).2.length + 1) + (flat (((sg, bump k w), (entF sg (bump k w) g).1) :: (entF sg (bump k w) g).2)).length
      rw [show flat (((sg, bump k w), (entF sg (bump k w) g).1) :: (entF sg (bump k w) g).2) = (entF sg (bump k w) g).1 ++ flat (entF sg (bump k w) g).2 from rfl, List.length_append]
      omega
theorem tail_cnt : ∀ (l : List zSeg) (sg : Nat), (∀ s, s ∈ l → segOk s) → (tailM l).length = 4 * l.length + (entA sg l).length + (flat (entA sg l)).length := by
  intro l
  induction l with
  | nil => intro sg _; rfl
  | cons s l ih =>
    intro sg hok
    have hs := hok s List.mem_cons_self
    have hi := ih (sg + 1) (fun x hx => hok x (List.mem_cons_of_mem _ hx))
    have hc := ent_cnt s.2 sg (0, 1, 1, 1)
    have h0 : (entF sg (0, 1, 1, 1) s.2).1 = [] := by
      rcases hs.2.2.2 with h | ⟨g, h⟩ <;> rw [h] <;> rfl
    rw [h0] at hc
    show ((261 :: encS s) ++ tailM l).length = _
    rw [entA, flat_app, List.length_append, List.length_append, List.length_append, List.length_cons, List.length_cons, hi]
    unfold encS
    rw [List.length_append, List.length_map, hs.1, hc]
    simp only [List.length_nil]
    omega
theorem enc_len {l : List zSeg} (hl : l ≠ []) (hok : ∀ s, s ∈ l → segOk s) : (encM l).length + 1 = 4 * l.length + (entA 1 l).length + (flat (entA 1 l)).length := by
  have := tail_cnt l 1 hok
  cases l with
  | nil => exact absurd rfl hl
  | cons s l =>
    rw [← this]
    show (encS s ++ tailM l).length + 1 = ((261 :: encS s) ++ tailM l).length
    rw [List.length_append, List.length_append, List.length_cons]
    omega
