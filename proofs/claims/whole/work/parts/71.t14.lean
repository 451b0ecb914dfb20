/-! BOTH: results tried -/
/-- the trial of the class and row 100 of the reference -/
def meQ (z : zMe) (q : zQ) : Prop := z.1 ≤ 12 ∧ q.1 100 = nI z.1 ∧ ∀ i, i < z.1 → z.2.1 i = q.2.1 (1200 + i) ∧ z.2.2 i = q.2.2 (1200 + i)
def qSame (q q' : zQ) : Prop := (∀ p, p ≤ 99 → q'.1 p = q.1 p) ∧ ∀ j, j < 1200 → q'.2.1 j = q.2.1 j ∧ q'.2.2 j = q.2.2 j
theorem qSame_refl (q : zQ) : qSame q q := ⟨fun _ _ => rfl, fun _ _ => ⟨rfl, rfl⟩⟩
theorem qSame_tr {a b c : zQ} (h1 : qSame a b) (h2 : qSame b c) : qSame a c := ⟨fun p hp => (h2.1 p hp).trans (h1.1 p hp), fun j hj => ⟨(h2.2 j hj).1.trans (h1.2 j hj).1, (h2.2 j hj).2.trans (h1.2 j hj).2⟩⟩
theorem zfst_shift {P Q : Nat → Bool} {b : Nat} : ∀ (k i : Nat), (∀ j, i ≤ j → j < i + k → P j = Q (b + j)) → zfst Q (b + i) k = (zfst P i k).map (fun t => b + t) := by
  intro k
  induction k with
  | zero => intro i _; rfl
  | succ k ih =>
    intro i h
    rw [zfst, zfst, ← h i (Nat.le_refl _) (by omega)]
    split
    · rfl
    · exact ih (i + 1) (fun j h1 h2 => h j (by omega) (by omega))
theorem res_shift {z : zMe} {q : zQ} (h : meQ z q) (code : Int32) : resI q.2.1 code 1200 z.1 = (resI z.2.1 code 0 z.1).map (fun t => 1200 + t) := by
  unfold resI
  exact zfst_shift z.1 0 (fun j _ hj => by rw [(h.2.2 j (by omega)).1])
theorem try_pos {z : zMe} {q : zQ} (h : meQ z q) (code v : Int32) (hv : 0 ≤ v) : (tryQ q code v).2 = (setR z code v).2 ∧ meQ (setR z code v).1 (tryQ q code v).1 ∧ qSame q (tryQ q code v).1 := by
  obtain ⟨h1, h2, h3⟩ := id h
  have hs := res_shift h code
  unfold tryQ setR
  rw [if_pos hv, h2, nI_clamp (by omega), hs]
  cases hr : resI z.2.1 code 0 z.1 with
  | none =>
    show ((if z.1 = 12 then _ else _ : zQ × Bool)).2 = _ ∧ _
    dsimp only [Option.map_none]
    by_cases h12 : z.1 = 12
    · rw [if_pos h12, if_pos (by omega)]
      exact ⟨rfl, h, qSame_refl q⟩
    · rw [if_neg h12, if_neg (by omega)]
      refine ⟨rfl, ⟨by show z.1 + 1 ≤ 12; omega, (by show upd q.1 100 (nI (z.1 + 1)) 100 = nI (z.1 + 1); exact pk_us), fun i hi => ?_⟩, ⟨fun p hp => pk_un (by omega), fun j hj => ⟨pk_un (by omega), pk_un (by omega)⟩⟩⟩
      have hi : i < z.1 + 1 := hi
      by_cases hiz : i = z.1
      · subst hiz
        exact ⟨pk_us.trans pk_us.symm, pk_us.trans pk_us.symm⟩
      · have := h3 i (by omega)
        exact ⟨(pk_un hiz).trans (this.1.trans (pk_un (by omega)).symm), (pk_un hiz).trans (this.2.trans (pk_un (by omega)).symm)⟩
  | some j =>
    have hj := resI_lt hr
    show _ ∧ _
    dsimp only [Option.map_some]
    refine ⟨rfl, ⟨h1, h2, fun i hi => ?_⟩, ⟨fun p hp => rfl, fun k hk => ⟨pk_un (by omega), pk_un (by omega)⟩⟩⟩
    have hi : i < z.1 := hi
    by_cases hij : i = j
    · subst hij
      exact ⟨pk_us.trans pk_us.symm, pk_us.trans pk_us.symm⟩
    · have := h3 i hi
      exact ⟨(pk_un hij).trans (this.1.trans (pk_un (by omega)).symm), (pk_un hij).trans (this.2.trans (pk_un (by omega)).symm)⟩
theorem try_neg {z : zMe} {q : zQ} (h : meQ z q) (code v : Int32) (hv : ¬ 0 ≤ v) : (tryQ q code v).2 = true ∧ meQ (remR z code) (tryQ q code v).1 ∧ qSame q (tryQ q code v).1 := by
  obtain ⟨h1, h2, h3⟩ := id h
  have hs := res_shift h code
  unfold tryQ remR
  rw [if_neg hv, h2, nI_clamp (by omega), hs]
  cases hr : resI z.2.1 code 0 z.1 with
  | none => exact ⟨rfl, h, qSame_refl q⟩
  | some j =>
    have hj := resI_lt hr
    show _ ∧ _
    dsimp only [Option.map_some]
    refine ⟨rfl, ⟨by show z.1 - 1 ≤ 12; omega, (by show upd q.1 100 (nI (z.1 - 1)) 100 = nI (z.1 - 1); exact pk_us), fun i hi => ?_⟩, ⟨fun p hp => pk_un (by omega), fun k hk => ⟨pk_un (by omega), pk_un (by omega)⟩⟩⟩
    have hi : i < z.1 - 1 := hi
    have hl := h3 (z.1 - 1) (by omega)
    rw [show 1200 + (z.1 - 1) = 1200 + z.1 - 1 by omega] at hl
    by_cases hij : i = j
    · subst hij
      exact ⟨pk_us.trans (hl.1.trans pk_us.symm), pk_us.trans (hl.2.trans pk_us.symm)⟩
    · have := h3 i (by omega)
      exact ⟨(pk_un hij).trans (this.1.trans (pk_un (by omega)).symm), (pk_un hij).trans (this.2.trans (pk_un (by omega)).symm)⟩
theorem tryR_f (V : zV) (s : Nat) (Q : zQ) : ∀ (k r : Nat), tryR V s r k (Q, false) = (Q, false) := by
  intro k
  induction k with
  | zero => intro r; rfl
  | succ k ih => intro r; rw [tryR, if_neg (show ¬ false = true by decide)]; exact ih (r + 1)
theorem null_neg {t : zT} (h : vnull t = true) : vnum t 4 = -1 := by
  unfold vnull at h
  simp only [Bool.and_eq_true, decide_eq_true_eq] at h
  unfold vnum
  rw [if_pos ⟨by omega, by omega⟩, h.1, vnumL, h.2.1, if_neg (by decide)]
/-- the values of one segment, tried by either -/
theorem try_reps {V : zV} {f : Nat → Int32} {n : Nat} {P : Nat → Nat} {s : Nat} (hP : P s ≤ n) (hn : n ≤ 200) (hU : ∀ r, 1 ≤ r → r ≤ 300 → V (nI s) 2 (nI r) 1 = txo f n (psR f n P s r)) {code : Int32} (hc : codeF V s = code) : ∀ (q r : Nat) (z : zMe) (Q : zQ), 1 ≤ r → r + q ≤ 290 → meQ z Q → avL f n q (psR f n P s r) = true → (tryR V s r (cntR f n q (psR f n P s r)) (Q, true)).2 = (tvL f n code q (psR f n P s r) z).2 ∧ meQ (tvL f n code q (psR f n P s r) z).1 (tryR V s r (cntR f n q (psR f n P s r)) (Q, true)).1 ∧ qSame Q (tryR V s r (cntR f n q (psR f n P s r)) (Q, true)).1 := by
  intro q
  induction q with
  | zero => intro r z Q h1 h2 hm _; rw [cntR, tryR, tvL]; exact ⟨rfl, hm, qSame_refl Q⟩
  | succ q ih =>
    intro r z Q h1 h2 hm hav
    cases hp : psR f n P s r with
    | none => rw [cntR, tryR, tvL]; exact ⟨rfl, hm, qSame_refl Q⟩
    | some p =>
      rw [hp] at hav
      obtain ⟨e, -, -⟩ := psR_s h1 (by omega) hP hn hp
      have s6 : sT 6 = [34, 34] := rfl
      rw [avL] at hav
      rw [cntR, tryR, tvL, if_pos rfl, hc, hU r h1 (by omega), hp]
      rw [s6, say2] at hav ⊢
      rw [← e] at hav ⊢
      split at hav
      · cases hav
      · rename_i hok
        cases hv : vnull (txo f n (some p)) with
        | true =>
          rw [if_pos rfl]
          have hneg : ¬ (0 : Int32) ≤ vnum (txo f n (some p)) 4 := by rw [null_neg hv]; decide
          obtain ⟨t1, t2, t3⟩ := try_neg hm code _ hneg
          have he : tryQ Q code (vnum (txo f n (some p)) 4) = ((tryQ Q code (vnum (txo f n (some p)) 4)).1, true) := Prod.ext rfl t1
          rw [he]
          obtain ⟨i1, i2, i3⟩ := ih (r + 1) _ _ (by omega) (by omega) t2 hav
          exact ⟨i1, i2, qSame_tr t3 i3⟩
        | false =>
          rw [if_neg (by decide)]
          have hpos : (0 : Int32) ≤ vnum (txo f n (some p)) 4 := by
            rcases vnum_b (txo f n (some p)) 4 with e0 | ⟨b, hb, e0⟩
            · exact absurd ⟨e0, hv⟩ hok
            · rw [e0]; exact nI_pos' (by omega)
          obtain ⟨t1, t2, t3⟩ := try_pos hm code _ hpos
          cases hs : (setR z code (vnum (txo f n (some p)) 4)).2 with
          | true =>
            rw [hs] at t1
            rw [if_pos rfl]
            have he : tryQ Q code (vnum (txo f n (some p)) 4) = ((tryQ Q code (vnum (txo f n (some p)) 4)).1, true) := Prod.ext rfl t1
            rw [he]
            obtain ⟨i1, i2, i3⟩ := ih (r + 1) _ _ (by omega) (by omega) t2 hav
            exact ⟨i1, i2, qSame_tr t3 i3⟩
          | false =>
            rw [hs] at t1
            rw [if_neg (by decide)]
            have he : tryQ Q code (vnum (txo f n (some p)) 4) = ((tryQ Q code (vnum (txo f n (some p)) 4)).1, false) := Prod.ext rfl t1
            rw [he, tryR_f]
            exact ⟨rfl, t2, t3⟩
theorem wrongS_t (V : zV) (S : zSg) : ∀ (k obx : Nat), wrongS V S obx k true = true := by
  intro k
  induction k with
  | zero => intro obx; rfl
  | succ k ih =>
    intro obx
    rw [wrongS]
    split
    · rfl
    · rw [if_pos rfl]
theorem codeT_F (V : zV) (s : Nat) : codeT (V (nI s) 1 1 1) = codeF V s ∧ (codeF V s = -1 ∨ 0 ≤ codeF V s) := by
  unfold codeT codeF codeQ
  generalize V (nI s) 1 1 1 = t
  by_cases h2 : tl t = 2
  · rw [if_pos h2]
    by_cases hs : zsml (tc t 0) = true ∧ zsml (tc t 1) = true
    · rw [if_pos hs, if_pos ⟨h2, hs.1, hs.2⟩]
      refine ⟨rfl, Or.inr ?_⟩
      have rg : ∀ c, zsml c = true → ∃ x, 97 ≤ x ∧ x ≤ 122 ∧ c = nI x := fun c hc => by
        unfold zsml at hc
        simp only [Bool.and_eq_true, Bool.not_eq_true', decide_eq_false_iff_not] at hc
        exact i32_rng (a := 97) (b := 122) (m := 97) (n := 122) rfl rfl (by decide) (by decide) hc.1 hc.2
      obtain ⟨x, x1, x2, ex⟩ := rg _ hs.1
      obtain ⟨y, y1, y2, ey⟩ := rg _ hs.2
      rw [ex, ey, show nI x - 97 = nI (x - 97) from pk_sub (a := x) (b := 97) x1, show (26 : Int32) * nI (x - 97) = nI (26 * (x - 97)) from pk_mul (a := 26) (b := x - 97), nI_add, show nI (26 * (x - 97) + y) - 97 = nI (26 * (x - 97) + y - 97) from pk_sub (a := 26 * (x - 97) + y) (b := 97) (by omega)]
      exact nI_pos' (by omega)
    · rw [if_neg hs, if_neg (fun z => hs z.2)]
      exact ⟨rfl, Or.inl rfl⟩
  · rw [if_neg h2, if_neg (fun z => h2 z.1)]
    exact ⟨rfl, Or.inl rfl⟩
/-- all segments, tried by either -/
theorem mea_all {V : zV} {S : zSg} {f : Nat → Int32} {n : Nat} {P : Nat → Nat} {cn : Nat} (hn : n ≤ 200) (hP : ∀ s, 1 ≤ s → s ≤ cn → P s ≤ n) (hU : ∀ s r, 1 ≤ s → s ≤ cn → 1 ≤ r → r ≤ 300 → V (nI s) 2 (nI r) 1 = txo f n (psR f n P s r)) (hC : ∀ s, 1 ≤ s → s ≤ cn → V (nI s) 1 1 1 = txo f n (fdo f n P (some s) 1 1 1)) (hS : ∀ i, 1 ≤ i → S 79 66 88 i = sN (nnF f n P (sT 7) i (cn + 1 - i))) : ∀ (q k : Nat) (o : Option Nat) (z : zMe) (Q : zQ) (ft : Bool), (∀ s, o = some s → 1 ≤ s ∧ s ≤ cn ∧ cn < s + q ∧ cn < s + k) → meQ z Q → match (meaL f n P cn q o z ft).2 with
    | none => wrongS V S (sN o) k false = true
    | some t => wrongS V S (sN o) k false = false ∧ (tryS V S (sN o) k (Q, ft)).2 = t ∧ meQ (meaL f n P cn q o z ft).1 (tryS V S (sN o) k (Q, ft)).1 ∧ qSame Q (tryS V S (sN o) k (Q, ft)).1 := by
  intro q
  induction q with
  | zero =>
    intro k o z Q ft ho hm
    cases o with
    | none =>
      rw [meaL]
      cases k with
      | zero => exact ⟨rfl, rfl, hm, qSame_refl Q⟩
      | succ k =>
        show wrongS V S 0 (k + 1) false = false ∧ (tryS V S 0 (k + 1) (Q, ft)).2 = ft ∧ meQ z (tryS V S 0 (k + 1) (Q, ft)).1 ∧ qSame Q (tryS V S 0 (k + 1) (Q, ft)).1
        rw [wrongS, if_pos rfl, tryS, if_pos rfl]
        exact ⟨rfl, rfl, hm, qSame_refl Q⟩
    | some s => have := ho s rfl; omega
  | succ q ih =>
    intro k o z Q ft ho hm
    cases o with
    | none =>
      rw [meaL]
      cases k with
      | zero => exact ⟨rfl, rfl, hm, qSame_refl Q⟩
      | succ k =>
        show wrongS V S 0 (k + 1) false = false ∧ (tryS V S 0 (k + 1) (Q, ft)).2 = ft ∧ meQ z (tryS V S 0 (k + 1) (Q, ft)).1 ∧ qSame Q (tryS V S 0 (k + 1) (Q, ft)).1
        rw [wrongS, if_pos rfl, tryS, if_pos rfl]
        exact ⟨rfl, rfl, hm, qSame_refl Q⟩
    | some s =>
      obtain ⟨s1, s2, s3, s4⟩ := ho s rfl
      cases k with
      | zero => omega
      | succ k =>
        have hPs := hP s s1 s2
        have hUs : ∀ r, 1 ≤ r → r ≤ 300 → V (nI s) 2 (nI r) 1 = txo f n (psR f n P s r) := fun r r1 r2 => hU s r s1 s2 r1 r2
        obtain ⟨c1, c2⟩ := codeT_F V s
        rw [hC s s1 s2] at c1
        have hsn : sN (some s) = s := rfl
        have hw : wrongS V S (sN (some s)) (k + 1) false = wrongS V S (S 79 66 88 (s + 1)) k (!decide (0 ≤ codeF V s) || !avF f n (fdo f n P (some s) 2 1 1)) := by
          rw [hsn, wrongS, if_neg (by omega), if_neg (by decide), wrong_seg hPs hn hUs]
        have ht : tryS V S (sN (some s)) (k + 1) (Q, ft) = tryS V S (S 79 66 88 (s + 1)) k (tryR V s 1 (repF V s) (Q, ft)) := by
          rw [hsn, tryS, if_neg (by omega)]
        have hnx : S 79 66 88 (s + 1) = sN (nnF f n P (sT 7) (s + 1) (cn - s)) := by
          rw [hS (s + 1) (by omega), show cn + 1 - (s + 1) = cn - s by omega]
        rw [hw, ht, hnx, meaL, c1]
        by_cases hbad : codeF V s = -1 ∨ avF f n (fdo f n P (some s) 2 1 1) = false
        · rw [if_pos hbad]
          dsimp only
          have : (!decide (0 ≤ codeF V s) || !avF f n (fdo f n P (some s) 2 1 1)) = true := by
            rcases hbad with e | e
            · rw [e]; rfl
            · rw [e]; simp
          rw [this]
          exact wrongS_t V S _ _
        · rw [if_neg hbad]
          have hav : avF f n (fdo f n P (some s) 2 1 1) = true := by
            cases h : avF f n (fdo f n P (some s) 2 1 1) with
            | true => rfl
            | false => exact absurd (Or.inr h) hbad
          have hc0 : 0 ≤ codeF V s := c2.elim (fun e => absurd (Or.inl e) hbad) id
          rw [hav, decide_eq_true hc0]
          -- the first value is there
          have hav2 := hav
          unfold avF at hav2
          rw [Bool.and_eq_true] at hav2
          obtain ⟨p, hp⟩ := Option.isSome_iff_exists.mp hav2.1
          have hs := psR_s (r := 1) (by decide) (by decide) hPs hn (show psR f n P s 1 = some p from hp)
          have hrep : repF V s = cntR f n 200 (psR f n P s 1) := by
            unfold repF
            rw [repL_cnt hPs hn hUs 220 1 (by decide) (by decide) ⟨p, hp⟩, ← cntR_fuel 221 200 (psR f n P s 1) (fun w hw => by
              rw [show psR f n P s 1 = some p from hp] at hw; cases hw; omega), show psR f n P s 1 = some p from hp, cntR, ← hs.1]
            omega
          have hob : ∀ w, nnF f n P (sT 7) (s + 1) (cn - s) = some w → 1 ≤ w ∧ w ≤ cn ∧ cn < w + q ∧ cn < w + k := fun w hw => by
            have := nnF_b w hw; omega
          show match (meaL f n P cn q _ _ _).2 with
            | none => _
            | some t => _
          cases ft with
          | false =>
            rw [tryR_f]
            exact ih k _ z Q false hob hm
          | true =>
            have htr := try_reps hPs hn hUs (code := codeF V s) rfl 200 1 z Q (by decide) (by decide) hm hav2.2
            rw [← hrep] at htr
            obtain ⟨i1, i2, i3⟩ := htr
            have hpair : tryR V s 1 (repF V s) (Q, true) = ((tryR V s 1 (repF V s) (Q, true)).1, (tvL f n (codeF V s) 200 (fdo f n P (some s) 2 1 1) z).2) := Prod.ext rfl i1
            rw [hpair]
            have := ih k _ (tvL f n (codeF V s) 200 (fdo f n P (some s) 2 1 1) z).1 (tryR V s 1 (repF V s) (Q, true)).1 (tvL f n (codeF V s) 200 (fdo f n P (some s) 2 1 1) z).2 hob i2
            rw [if_pos rfl, Bool.true_and]
            revert this
            cases (meaL f n P cn q (nnF f n P (sT 7) (s + 1) (cn - s)) (tvL f n (codeF V s) 200 (fdo f n P (some s) 2 1 1) z).1 (tvL f n (codeF V s) 200 (fdo f n P (some s) 2 1 1) z).2).2 with
            | none => exact fun q => q
            | some t => exact fun q => ⟨q.1, q.2.1, q.2.2.1, qSame_tr i3 q.2.2.2⟩
