/-! BOTH: kind, patient, bed of a message -/
theorem tgt_0 {t : zT} (h : 1 ≤ tl t) (h2 : tl t < 2 ^ 31) : tgt t 0 = tc t 0 := by
  unfold tgt
  exact getF_in (j := 0) h h2
theorem btw_N {x a b : Nat} (hx : x < 2 ^ 31) (ha : a < 2 ^ 31) (hb : b < 2 ^ 31) : zbtw (nI x) (nI a) (nI b) = true ↔ a ≤ x ∧ x ≤ b := by
  unfold zbtw
  simp only [Bool.and_eq_true, Bool.not_eq_true', decide_eq_false_iff_not]
  rw [nI_ltI hx ha, nI_ltI hb hx]
  omega
theorem pn_pat (V : zV) (pid : Nat) (h0 : pid = 0 → V (nI pid) 1 1 1 = none) (hl : tl (V (nI pid) 1 1 1) < 2 ^ 31) : (pnF (V (nI pid) 1 1 1) = -1 ∧ (patF V pid).toNatClampNeg = 0) ∨ ∃ p, 1 ≤ p ∧ p ≤ 99 ∧ pnF (V (nI pid) 1 1 1) = nI p ∧ patF V pid = nI p := by
  by_cases hp : pid = 0
  · left
    refine ⟨?_, ?_⟩
    · rw [h0 hp]
      unfold pnF
      rw [if_neg (fun z => absurd z.1 (by decide))]
    · unfold patF
      rw [if_pos hp]
      decide
  · unfold patF pnF
    rw [if_neg hp]
    generalize V (nI pid) 1 1 1 = t at *
    by_cases h48 : tc t 0 = 48
    · left
      rw [if_pos h48]
      refine ⟨?_, by decide⟩
      by_cases hz : zbtw (vnum t 2) 1 99 = true
      · have h1 : 1 ≤ tl t := by
          rcases Nat.lt_or_ge 0 (tl t) with q | q
          · exact q
          · exfalso
            have : vnum t 2 = -1 := by unfold vnum; rw [if_neg (by omega)]
            rw [this] at hz
            exact absurd hz (by decide)
        rw [if_neg (fun z => z.2 (by rw [tgt_0 h1 hl]; exact h48))]
      · rw [if_neg (fun z => hz z.1)]
    · rw [if_neg h48]
      rcases vnum_b t 2 with e | ⟨b, hb, e⟩
      · left
        rw [e]
        exact ⟨if_neg (fun z => absurd z.1 (by decide)), by decide⟩
      · rw [e]
        by_cases hb0 : b = 0
        · left
          subst hb0
          exact ⟨if_neg (fun z => absurd z.1 (by decide)), by decide⟩
        · right
          have hb99 : b ≤ 99 := by omega
          refine ⟨b, by omega, hb99, ?_, rfl⟩
          have h1 : 1 ≤ tl t := by
            rcases Nat.lt_or_ge 0 (tl t) with q | q
            · exact q
            · exfalso
              have : vnum t 2 = -1 := by unfold vnum; rw [if_neg (by omega)]
              rw [this] at e
              exact nI_neg1 (w := b) (by omega) e.symm
          exact if_pos ⟨(btw_N (x := b) (a := 1) (b := 99) (by omega) (by decide) (by decide)).mpr ⟨by omega, hb99⟩, by rw [tgt_0 h1 hl]; exact h48⟩
theorem vnum1 {u : zT} (h : tl u = 1) : vnum u 1 = if zdig (tc u 0) = true then tc u 0 - 48 else -1 := by
  unfold vnum
  rw [if_pos ⟨by omega, by omega⟩, h, vnumL]
  split
  · rw [vnumL, show (10 : Int32) * 0 = 0 from rfl, Int32.zero_add]
  · rfl
theorem dig_rng {c : Int32} (h : zdig c = true) : ∃ x, 48 ≤ x ∧ x ≤ 57 ∧ c = nI x := by
  unfold zdig at h
  simp only [Bool.and_eq_true, Bool.not_eq_true', decide_eq_false_iff_not] at h
  exact i32_rng (a := 48) (b := 57) (m := 48) (n := 57) rfl rfl (by decide) (by decide) h.1 h.2
theorem ba_bed (V : zV) (pv : Nat) (h0 : pv = 0 → V (nI pv) 1 1 1 = none) (hl : tl (V (nI pv) 1 1 1) < 2 ^ 31) : baF (V (nI pv) 1 1 1) (V (nI pv) 1 1 2) = bedF V pv ∧ (bedF V pv = -1 ∨ ∃ k, k < 32 ∧ bedF V pv = nI k) := by
  unfold bedF baF
  by_cases hp : pv = 0
  · rw [h0 hp, if_neg (fun z => absurd z.1 (by decide)), if_neg (fun z => by omega)]
    exact ⟨rfl, Or.inl rfl⟩
  · generalize V (nI pv) 1 1 1 = t at *
    generalize V (nI pv) 1 1 2 = u at *
    by_cases ht : tl t = 1
    · rw [tgt_0 (by omega) hl]
      by_cases hc : ¬ tc t 0 < 65 ∧ ¬ 68 < tc t 0
      · obtain ⟨x, x1, x2, ex⟩ := i32_rng (a := 65) (b := 68) (m := 65) (n := 68) rfl rfl (by decide) (by decide) hc.1 hc.2
        have hz : zbtw (tc t 0) 65 68 = true := by
          unfold zbtw
          rw [decide_eq_false hc.1, decide_eq_false hc.2]; rfl
        by_cases hu : tl u = 1
        · by_cases hd : ¬ tc u 0 < 48 ∧ ¬ 55 < tc u 0
          · obtain ⟨y, y1, y2, ey⟩ := i32_rng (a := 48) (b := 55) (m := 48) (n := 55) rfl rfl (by decide) (by decide) hd.1 hd.2
            have hdg : zdig (tc u 0) = true := by
              unfold zdig
              rw [decide_eq_false hd.1, decide_eq_false (fun q => by
                rw [ey] at q
                have := (nI_ltI (a := 57) (b := y) (by decide) (by omega)).mp q
                omega)]
              rfl
            have hv : vnum u 1 = nI (y - 48) := by
              rw [vnum1 hu, if_pos hdg, ey]
              exact pk_sub (a := y) (b := 48) y1
            have hb7 : zbtw (vnum u 1) 0 7 = true := by
              rw [hv]
              exact (btw_N (x := y - 48) (a := 0) (b := 7) (by omega) (by decide) (by decide)).mpr ⟨by omega, by omega⟩
            have e1 : 8 * (tc t 0 - 65) + tc u 0 - 48 = nI (8 * (x - 65) + (y - 48)) := by
              rw [ex, ey, show nI x - 65 = nI (x - 65) from pk_sub (a := x) (b := 65) x1, show (8 : Int32) * nI (x - 65) = nI (8 * (x - 65)) from pk_mul (a := 8) (b := x - 65), nI_add, show nI (8 * (x - 65) + y) - 48 = nI (8 * (x - 65) + y - 48) from pk_sub (a := 8 * (x - 65) + y) (b := 48) (by omega)]
              congr 1
              omega
            have e2 : 8 * (tc t 0 - 65) + vnum u 1 = nI (8 * (x - 65) + (y - 48)) := by
              rw [ex, hv, show nI x - 65 = nI (x - 65) from pk_sub (a := x) (b := 65) x1, show (8 : Int32) * nI (x - 65) = nI (8 * (x - 65)) from pk_mul (a := 8) (b := x - 65), nI_add]
            rw [if_pos ⟨ht, hz, hb7⟩, if_pos ⟨⟨by omega, ht⟩, hu, hc.1, hc.2, hd.1, hd.2⟩, e1, e2]
            exact ⟨rfl, Or.inr ⟨_, by omega, rfl⟩⟩
          · have hn : ¬ zbtw (vnum u 1) 0 7 = true := by
              rw [vnum1 hu]
              by_cases hdg : zdig (tc u 0) = true
              · rw [if_pos hdg]
                obtain ⟨y, y1, y2, ey⟩ := dig_rng hdg
                rw [ey, show nI y - 48 = nI (y - 48) from pk_sub (a := y) (b := 48) y1]
                intro q
                have := (btw_N (x := y - 48) (a := 0) (b := 7) (by omega) (by decide) (by decide)).mp q
                apply hd
                rw [ey]
                exact ⟨nI_nlt (a := y) (b := 48) y1 (by omega), nI_nlt (a := 55) (b := y) (by omega) (by omega)⟩
              · rw [if_neg hdg]
                decide
            rw [if_neg (fun z => hn z.2.2), if_neg (fun z => hd ⟨z.2.2.2.2.1, z.2.2.2.2.2⟩)]
            exact ⟨rfl, Or.inl rfl⟩
        · have hn : ¬ zbtw (vnum u 1) 0 7 = true := by
            have : vnum u 1 = -1 := by unfold vnum; rw [if_neg (by omega)]
            rw [this]; decide
          rw [if_neg (fun z => hn z.2.2), if_neg (fun z => hu z.2.1)]
          exact ⟨rfl, Or.inl rfl⟩
      · have hn : ¬ zbtw (tc t 0) 65 68 = true := by
          intro q
          unfold zbtw at q
          simp only [Bool.and_eq_true, Bool.not_eq_true', decide_eq_false_iff_not] at q
          exact hc q
        rw [if_neg (fun z => hn z.2.1), if_neg (fun z => hc ⟨z.2.2.1, z.2.2.2.1⟩)]
        exact ⟨rfl, Or.inl rfl⟩
    · rw [if_neg (fun z => ht z.1), if_neg (fun z => ht z.1.2)]
      exact ⟨rfl, Or.inl rfl⟩
/-- the class's constant for a kind -/
def kdN (kd : Nat) : Option Nat := if kd = 0 then none else if kd = 1 then some 70 else if kd = 2 then some 71 else if kd = 3 then some 72 else if kd = 8 then some 73 else some 74
theorem kd_kind (V : zV) {kd : Nat} (hk : zkd kd) (h : kindF V = nI kd) : kd0 (V 1 3 1 1) (V 1 3 1 2) = kdN kd := by
  have s15 : sT 15 = [65, 68, 84] := rfl
  have s20 : sT 20 = [79, 82, 85] := rfl
  unfold kindF at h
  unfold kd0 kd1 kd2 kd3 kd4 kd5
  rw [s15, s20, show sT 16 = [65, 48, 49] from rfl, show sT 17 = [65, 48, 50] from rfl, show sT 18 = [65, 48, 51] from rfl, show sT 19 = [65, 48, 56] from rfl, show sT 21 = [82, 48, 49] from rfl]
  simp only [say3]
  generalize V 1 3 1 1 = t at *
  generalize V 1 3 1 2 = u at *
  by_cases hO : vis t 79 82 85 = true
  · have hA : ¬ vis t 65 68 84 = true := by
      intro q
      unfold vis at hO q
      simp only [Bool.and_eq_true, decide_eq_true_eq] at hO q
      rw [hO.2.1] at q
      exact absurd q.2.1 (by decide)
    rw [if_pos hO] at h
    rw [if_neg (fun z => hA z.1), if_neg (fun z => hA z.1), if_neg (fun z => hA z.1), if_neg (fun z => hA z.1)]
    by_cases hR : vis u 82 48 49 = true
    · rw [if_pos hR] at h
      rw [if_pos ⟨hO, hR⟩]
      have : kd = 9 := by rcases hk with rfl | rfl | rfl | rfl | rfl | rfl <;> first | rfl | exact absurd h (by decide)
      subst this; rfl
    · rw [if_neg hR] at h
      rw [if_neg (fun z => hR z.2)]
      have : kd = 0 := by rcases hk with rfl | rfl | rfl | rfl | rfl | rfl <;> first | rfl | exact absurd h (by decide)
      subst this; rfl
  · rw [if_neg hO] at h
    have hO2 : ¬ (vis t 79 82 85 = true ∧ vis u 82 48 49 = true) := fun z => hO z.1
    rw [if_neg hO2]
    by_cases hA : vis t 65 68 84 = true ∧ tl u = 3 ∧ tc u 0 = 65 ∧ tc u 1 = 48
    · have hv : ∀ c, vis u 65 48 c = decide (tc u 2 = c) := by
        intro c
        unfold vis
        rw [decide_eq_true hA.2.1, decide_eq_true hA.2.2.1, decide_eq_true hA.2.2.2]
        simp
      have hvt : ∀ c, (vis t 65 68 84 = true ∧ vis u 65 48 c = true) ↔ tc u 2 = c := fun c => by rw [hv c, decide_eq_true_eq]; exact ⟨fun z => z.2, fun z => ⟨hA.1, z⟩⟩
      by_cases c1 : tc u 2 = 49
      · rw [if_pos ((hvt 49).mpr c1)]
        rw [if_pos ⟨hA, Or.inl c1⟩, c1] at h
        have : kd = 1 := by rcases hk with rfl | rfl | rfl | rfl | rfl | rfl <;> first | rfl | exact absurd h (by decide)
        subst this; rfl
      · rw [if_neg (fun z => c1 ((hvt 49).mp z))]
        by_cases c2 : tc u 2 = 50
        · rw [if_pos ((hvt 50).mpr c2)]
          rw [if_pos ⟨hA, Or.inr (Or.inl c2)⟩, c2] at h
          have : kd = 2 := by rcases hk with rfl | rfl | rfl | rfl | rfl | rfl <;> first | rfl | exact absurd h (by decide)
          subst this; rfl
        · rw [if_neg (fun z => c2 ((hvt 50).mp z))]
          by_cases c3 : tc u 2 = 51
          · rw [if_pos ((hvt 51).mpr c3)]
            rw [if_pos ⟨hA, Or.inr (Or.inr (Or.inl c3))⟩, c3] at h
            have : kd = 3 := by rcases hk with rfl | rfl | rfl | rfl | rfl | rfl <;> first | rfl | exact absurd h (by decide)
            subst this; rfl
          · rw [if_neg (fun z => c3 ((hvt 51).mp z))]
            by_cases c8 : tc u 2 = 56
            · rw [if_pos ((hvt 56).mpr c8)]
              rw [if_pos ⟨hA, Or.inr (Or.inr (Or.inr c8))⟩, c8] at h
              have : kd = 8 := by rcases hk with rfl | rfl | rfl | rfl | rfl | rfl <;> first | rfl | exact absurd h (by decide)
              subst this; rfl
            · rw [if_neg (fun z => c8 ((hvt 56).mp z))]
              rw [if_neg (fun z => by rcases z.2 with q | q | q | q <;> contradiction)] at h
              have : kd = 0 := by rcases hk with rfl | rfl | rfl | rfl | rfl | rfl <;> first | rfl | exact absurd h (by decide)
              subst this; rfl
    · rw [if_neg (fun z => hA z.1)] at h
      have hv : ∀ c, ¬ (vis t 65 68 84 = true ∧ vis u 65 48 c = true) := by
        intro c z
        have z2 := z.2
        unfold vis at z2
        simp only [Bool.and_eq_true, decide_eq_true_eq] at z2
        exact hA ⟨z.1, z2.1, z2.2.1, z2.2.2.1⟩
      rw [if_neg (hv 49), if_neg (hv 50), if_neg (hv 51), if_neg (hv 56)]
      have : kd = 0 := by rcases hk with rfl | rfl | rfl | rfl | rfl | rfl <;> first | rfl | exact absurd h (by decide)
      subst this; rfl
