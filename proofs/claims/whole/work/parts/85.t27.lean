/-! BOTH: what a message that was read does to the reference's rows -/
theorem zfst_no {P : Nat → Bool} : ∀ {m i : Nat}, zfst P i m = none → ∀ k, i ≤ k → k < i + m → P k = false := by
  intro m
  induction m with
  | zero => intro i _ k h1 h2; omega
  | succ m ih =>
    intro i h k h1 h2
    rw [zfst] at h
    by_cases hp : P i = true
    · rw [if_pos hp] at h; cases h
    · rw [if_neg hp] at h
      rcases Nat.lt_or_ge i k with w | w
      · exact ih h k w (by omega)
      · have : k = i := by omega
        subst this
        exact Bool.eq_false_iff.mpr hp
theorem judge_c (V : zV) (S : zSg) (sg : Nat) (bed kn : Nat → Int32) (q : zQ) (kd : Nat) : ∃ r, r < 20 ∧ (judgeF V S sg bed kn q kd).1 = nI r ∧ (ansF r = 2 ↔ r = 6) := by
  unfold judgeF
  repeat' split
  all_goals first
    | exact ⟨6, by decide, rfl, by decide⟩
    | exact ⟨0, by decide, rfl, by decide⟩
    | exact ⟨11, by decide, rfl, by decide⟩
    | exact ⟨12, by decide, rfl, by decide⟩
    | exact ⟨13, by decide, rfl, by decide⟩
    | exact ⟨14, by decide, rfl, by decide⟩
    | exact ⟨15, by decide, rfl, by decide⟩
    | exact ⟨16, by decide, rfl, by decide⟩
    | exact ⟨17, by decide, rfl, by decide⟩
    | exact ⟨18, by decide, rfl, by decide⟩
theorem judge_0 {V : zV} {S : zSg} {sg : Nat} {bed kn : Nat → Int32} {q : zQ} {kd : Nat} (h : (judgeF V S sg bed kn q kd).1 = 0) : 1 ≤ (patF V (S 80 73 68 1)).toNatClampNeg := by
  unfold judgeF at h
  split at h
  · exact absurd (show (6 : Int32) = 0 from h) (by decide)
  · split at h
    · exact absurd (show (11 : Int32) = 0 from h) (by decide)
    · omega
theorem judge_22 (V : zV) (S : zSg) (sg : Nat) (bed kn : Nat → Int32) (q : zQ) (kd : Nat) : ∀ p, p < 100 → (judgeF V S sg bed kn q kd).2.1 p = q.1 p := by
  have hcp : ∀ p, p < 100 → ∀ a, (copyQ q a 100).1 p = q.1 p := fun p hp a => pk_un (by omega)
  have hq : ∀ (z : zQ) (c v : Int32) p, p < 100 → (tryQ z c v).1.1 p = z.1 p := by
    intro z c v p hp
    unfold tryQ
    repeat' split
    all_goals first
      | rfl
      | exact pk_un (by omega)
  have hR : ∀ s k r (z : zQ × Bool) p, p < 100 → (tryR V s r k z).1.1 p = z.1.1 p := by
    intro s k
    induction k with
    | zero => intro r z p _; rfl
    | succ k ih =>
      intro r z p hp
      rw [tryR, ih _ _ p hp]
      split
      · exact hq _ _ _ p hp
      · rfl
  have hS : ∀ k obx (z : zQ × Bool) p, p < 100 → (tryS V S obx k z).1.1 p = z.1.1 p := by
    intro k
    induction k with
    | zero => intro o z p _; rfl
    | succ k ih =>
      intro o z p hp
      rw [tryS]
      split
      · rfl
      · rw [ih _ _ p hp, hR _ _ _ _ p hp]
  intro p hp
  unfold judgeF
  split
  · rfl
  · split
    · rfl
    · split
      · rfl
      · split
        · rfl
        · split
          · rfl
          · split
            · rfl
            · split
              · rfl
              · split
                · rfl
                · show (tryF V S sg _ q).1.1 p = q.1 p
                  unfold tryF
                  rw [hS _ _ _ p hp]
                  exact hcp p hp _
theorem act_r (y : zMS) (kd k : Nat) (hk : k < 18 ∨ 25 ≤ k) : (actF y kd).2 k = y.2 k := by
  unfold actF mnam mB mres
  dsimp only
  repeat' split
  all_goals
    dsimp only
    repeat rw [va_up_ne _ _ (by omega)]
theorem act_1 (y : zMS) (kd : Nat) : (actF y kd).1 = y.1 := by
  unfold actF mnam mB mres
  dsimp only
  repeat' split
  all_goals rfl
theorem jdg_r (x : zMS) (j : Int32 × zQ) (kd k : Nat) (hk : k < 18 ∨ 25 ≤ k) : (jdgW x j kd).2 k = x.2 k := by
  have e : (mres x j.2).2 k = x.2 k := by
    unfold mres
    dsimp only
    rw [va_up_ne _ _ (by omega), va_up_ne _ _ (by omega), va_up_ne _ _ (by omega)]
  unfold jdgW
  split
  · rw [act_r _ _ _ hk]; exact e
  · exact e
theorem jdg_n (x : zMS) (j : Int32 × zQ) (kd : Nat) : (jdgW x j kd).1 = va_up x.1 3 j.1 := by
  unfold jdgW
  split
  · rw [act_1]; rfl
  · rfl
theorem rem_r (z : zMS) (t : zT) (kp : Nat) (r : Int32) {k : Nat} (h1 : k ≠ 16) (h2 : k ≠ 17) : (remF z t kp r).2 k = z.2 k := by
  unfold remF mkn
  split
  · show va_up (va_up z.2 16 _) 17 _ k = _
    rw [va_up_ne _ _ h2, va_up_ne _ _ h1]
  · show va_up (va_up z.2 16 _) 17 _ k = _
    rw [va_up_ne _ _ h2, va_up_ne _ _ h1]
theorem rem_1 (z : zMS) (t : zT) (kp : Nat) (r : Int32) {k : Nat} (h1 : k ≠ 6) : (remF z t kp r).1 k = z.1 k := by
  unfold remF mkn
  split
  · exact va_up_ne _ _ h1
  · exact va_up_ne _ _ h1
theorem mkn_16a (z : zMS) (k : Nat) (a b : Nat → Int32) : (mkn z k a b).2 16 = a := by
  unfold mkn
  dsimp only
  rw [va_up_ne _ _ (by decide), up_at]
theorem rem_16 {z : zMS} {t : zT} (kp : Nat) (r : Int32) (h : ∀ j, zch (z.2 16 j)) (ht : ∀ j, zch (tc t j)) : ∀ j, zch ((remF z t kp r).2 16 j) := by
  intro j
  unfold remF
  split
  · rw [mkn_16a]
    unfold zpas
    split
    · exact ht _
    · exact zch_cpy h _ _ _ _
  · rw [mkn_16a]
    unfold zpas
    split
    · exact ht _
    · exact h _
theorem step_N (x : zMS) (sg kp kd : Nat) : stepN x sg kp kd = if (judgeF (mV x) (mseg x) sg (x.2 19) (x.2 18) (mq x) kd).1 = 6 then jdgW x (judgeF (mV x) (mseg x) sg (x.2 19) (x.2 18) (mq x) kd) kd else remF (jdgW x (judgeF (mV x) (mseg x) sg (x.2 19) (x.2 18) (mq x) kd) kd) (mV x 1 2 1 1) kp (judgeF (mV x) (mseg x) sg (x.2 19) (x.2 18) (mq x) kd).1 := rfl
theorem take_20 (q : (Nat → Int32) × (Nat → Int32)) (t : zT) {p : Nat} (part : Nat) {j : Nat} (hp : 1 ≤ p) (hj : j < 2) : (takeQ q t p part).1 j = q.1 j := by
  unfold takeQ
  split
  · rfl
  · exact pk_un (by omega)
theorem act_20 {y : zMS} (kd : Nat) (hp : 1 ≤ (patF (mV y) (mseg y 80 73 68 1)).toNatClampNeg) {j : Nat} (hj : j < 2) : (actF y kd).2 20 j = y.2 20 j := by
  unfold actF
  dsimp only
  split
  · exact (take_20 _ _ 1 hp hj).trans (take_20 _ _ 0 hp hj)
  · split
    · rfl
    · split
      · rfl
      · split
        · exact (take_20 _ _ 1 hp hj).trans (take_20 _ _ 0 hp hj)
        · rfl
theorem act_22 {y : zMS} (kd : Nat) (hp : 1 ≤ (patF (mV y) (mseg y 80 73 68 1)).toNatClampNeg) : (actF y kd).2 22 0 = y.2 22 0 := by
  unfold actF
  dsimp only
  split
  · rfl
  · split
    · rfl
    · split
      · rfl
      · split
        · rfl
        · show upd (y.2 22) (patF (mV y) (mseg y 80 73 68 1)).toNatClampNeg (y.2 22 100) 0 = y.2 22 0
          exact pk_un (by omega)
theorem jdg_MI {x : zMS} (hi : MI x) (sg kd : Nat) : MI (jdgW x (judgeF (mV x) (mseg x) sg (x.2 19) (x.2 18) (mq x) kd) kd) := by
  obtain ⟨i1, i2, i3, i4, i5, i6, i7, i8⟩ := hi
  have hnc := nc_judge (V := mV x) (S := mseg x) (sg := sg) (bed := x.2 19) (kn := x.2 18) (q := mq x) kd i8
  have h22 := judge_22 (mV x) (mseg x) sg (x.2 19) (x.2 18) (mq x) kd 0 (by decide)
  have h0 := fun h => judge_0 (V := mV x) (S := mseg x) (sg := sg) (bed := x.2 19) (kn := x.2 18) (q := mq x) (kd := kd) h
  generalize judgeF (mV x) (mseg x) sg (x.2 19) (x.2 18) (mq x) kd = j at hnc h22 h0 ⊢
  refine ⟨?_, ?_, ?_, ?_, ?_, ?_, ?_, ?_⟩
  · rw [jdg_r _ _ _ 1 (by omega)]; exact i1
  · rw [jdg_r _ _ _ 12 (by omega)]; exact i2
  · rw [jdg_r _ _ _ 13 (by omega)]; exact i3
  · rw [jdg_r _ _ _ 16 (by omega)]; exact i4
  · unfold jdgW
    split
    · rename_i hj
      exact (act_20 (y := (va_up (mres x j.2).1 3 j.1, (mres x j.2).2)) kd (h0 hj) (by decide)).trans i5
    · exact i5
  · unfold jdgW
    split
    · rename_i hj
      exact (act_20 (y := (va_up (mres x j.2).1 3 j.1, (mres x j.2).2)) kd (h0 hj) (by decide)).trans i6
    · exact i6
  · unfold jdgW
    split
    · rename_i hj
      exact (act_22 (y := (va_up (mres x j.2).1 3 j.1, (mres x j.2).2)) kd (h0 hj)).trans (h22.trans i7)
    · exact h22.trans i7
  · unfold jdgW
    split
    · exact nc_act kd hnc
    · exact hnc
theorem stepN_MI {x : zMS} (hi : MI x) (sg kp kd : Nat) : MI (stepN x sg kp kd) := by
  rw [step_N]
  have hj := jdg_MI hi sg kd
  split
  · exact hj
  · obtain ⟨i1, i2, i3, i4, i5, i6, i7, i8⟩ := hj
    refine ⟨?_, ?_, ?_, rem_16 _ _ i4 (fun j => zch_tc hi.2.1 _ _ _ _ j), ?_, ?_, ?_, ?_⟩
    · rw [rem_r _ _ _ _ (by decide) (by decide)]; exact i1
    · rw [rem_r _ _ _ _ (by decide) (by decide)]; exact i2
    · rw [rem_r _ _ _ _ (by decide) (by decide)]; exact i3
    · rw [rem_r _ _ _ _ (by decide) (by decide)]; exact i5
    · rw [rem_r _ _ _ _ (by decide) (by decide)]; exact i6
    · rw [rem_r _ _ _ _ (by decide) (by decide)]; exact i7
    · rw [rem_r _ _ _ _ (by decide) (by decide)]; exact i8
theorem stepN_r (x : zMS) (sg kp kd k : Nat) (hk : k < 16 ∨ 25 ≤ k) : (stepN x sg kp kd).2 k = x.2 k := by
  rw [step_N]
  split
  · exact jdg_r _ _ _ k (by omega)
  · rw [rem_r _ _ _ _ (by omega) (by omega)]
    exact jdg_r _ _ _ k (by omega)
theorem stepN_n (x : zMS) (sg kp kd : Nat) {k : Nat} (hk : k ≠ 6) : (stepN x sg kp kd).1 k = va_up x.1 3 (judgeF (mV x) (mseg x) sg (x.2 19) (x.2 18) (mq x) kd).1 k := by
  rw [step_N]
  split
  · rw [jdg_n]
  · rw [rem_1 _ _ _ _ hk, jdg_n]
