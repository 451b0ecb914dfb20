/-! BOTH: names and texts asked -/
theorem getF_0 (f : Nat → Int32) (i : Int32) : getF f 0 i = -1 := by
  rcases pk_ix i (n := 0) (by decide) with q | q | ⟨j, hj, -⟩
  · exact getF_neg q
  · exact getF_ge q
  · omega
theorem a_name {X : zX} {d : Nat} {h : zH} {ms : zMS} (H : Inv h ms) (p part i : Int32) : ask X d 24 153 [.int p, .int part, .int i] h := by
  obtain ⟨hr, hi, hz, h8, sp, la, b, l, oc, pt, qt, hO, -, -, -, -, -, -, -, -, hh⟩ := H
  have hsz : ∀ j, j < 200 → ∃ s, s ≤ 12 ∧ ms.2 20 j = nI s := by
    intro j hj
    rcases (show j = 0 ∨ j = 1 ∨ 2 ≤ j by omega) with rfl | rfl | q
    · exact ⟨0, by decide, hi.2.2.2.2.1⟩
    · exact ⟨0, by decide, hi.2.2.2.2.2.1⟩
    · cases hp : pt (j / 2) with
      | none =>
        obtain ⟨-, -, n3, n4, -⟩ := hh.2.2.2.2.2.1 (j / 2) (by omega) (by omega) hp
        rcases (show j = 2 * (j / 2) ∨ j = 2 * (j / 2) + 1 by omega) with e | e
        · rw [e]; exact ⟨0, by decide, n3⟩
        · rw [e]; exact ⟨0, by decide, n4⟩
      | some c =>
        obtain ⟨-, -, -, -, -, ⟨n1, g1, -, m1, e1, -⟩, ⟨n2, g2, -, m2, e2, -⟩, -⟩ := hh.2.2.2.2.2.2.1 (j / 2) c (by omega) (by omega) hp
        rcases (show j = 2 * (j / 2) ∨ j = 2 * (j / 2) + 1 by omega) with e | e
        · rw [e]; exact ⟨n1, m1, e1⟩
        · rw [e]; exact ⟨n2, m2, e2⟩
  have hm := e_Mod_name X (d + 10) h ms hsz p part i
  unfold nameQ at hm
  rcases fnd_cases (pt := pt) p with ⟨e1, e2⟩ | ⟨k, k1, k2, e, e1, e2⟩
  · rw [if_neg (fun z => by rw [e1] at z; exact absurd z.1 (by decide))] at hm
    exact ask_of hr (n_B_name X (d + 10) h sp la _ _ hO.1 oc pt hh.1 p e2 part i) hm
  · rw [e] at e1 e2 hm ⊢
    cases hp : pt k with
    | none =>
      obtain ⟨-, -, n3, n4, -⟩ := hh.2.2.2.2.2.1 k k1 k2 hp
      have hc := n_B_name X (d + 10) h sp la _ _ hO.1 oc pt hh.1 (nI k) (e2.trans hp) part i
      by_cases hpa : ¬ part < 1 ∧ ¬ 2 < part
      · rw [if_pos ⟨e1, hpa⟩, nI_clamp (by omega)] at hm
        obtain ⟨x, x1, x2, ex⟩ := i32_rng (a := 1) (b := 2) (m := 1) (n := 2) rfl rfl (by decide) (by decide) hpa.1 hpa.2
        have hs0 : (ms.2 20 (2 * k + part.toNatClampNeg - 1)).toNatClampNeg = 0 := by
          rw [ex, nI_clamp (by omega)]
          rcases (show x = 1 ∨ x = 2 by omega) with rfl | rfl
          · rw [show 2 * k + 1 - 1 = 2 * k by omega, n3]; decide
          · rw [show 2 * k + 2 - 1 = 2 * k + 1 by omega, n4]; decide
        rw [hs0, getF_0] at hm
        exact ask_of hr hc hm
      · rw [if_neg (fun z => hpa z.2)] at hm
        exact ask_of hr hc hm
    | some c =>
      obtain ⟨-, r1, -, -, hB, ⟨n1, g1, c1, m1, f1, f1'⟩, ⟨n2, g2, c2, m2, f2, f2'⟩, -⟩ := hh.2.2.2.2.2.2.1 k c k1 k2 hp
      by_cases hpa : ¬ part < 1 ∧ ¬ 2 < part
      · rw [if_pos ⟨e1, hpa⟩, nI_clamp (by omega)] at hm
        obtain ⟨x, x1, x2, ex⟩ := i32_rng (a := 1) (b := 2) (m := 1) (n := 2) rfl rfl (by decide) (by decide) hpa.1 hpa.2
        rw [ex, nI_clamp (by omega)] at hm
        rw [ex]
        rcases (show x = 1 ∨ x = 2 by omega) with rfl | rfl
        · rw [show 2 * k + 1 - 1 = 2 * k by omega, f1, nI_clamp (by omega)] at hm
          rw [← getF_congr (f := g1) (by omega) (fun j hj => by rw [f1' j hj]; exact congrArg (ms.2 21) (by omega)) i] at hm
          exact ask_of hr (f_B_name X (d + 10) h sp la _ _ hO.1 oc pt hh.1 (nI k) c (e2.trans hp) _ hB n1 g1 c1 m1 i) hm
        · rw [show 2 * k + 2 - 1 = 2 * k + 1 by omega, f2, nI_clamp (by omega)] at hm
          rw [← getF_congr (f := g2) (by omega) (fun j hj => by rw [f2' j hj]; exact congrArg (ms.2 21) (by omega)) i] at hm
          exact ask_of hr (g_B_name X (d + 10) h sp la _ _ hO.1 oc pt hh.1 (nI k) c (e2.trans hp) _ hB n2 g2 c2 m2 i) hm
      · rw [if_neg (fun z => hpa z.2)] at hm
        refine ask_of hr (o_B_name X (d + 10) h sp la _ _ hO.1 oc pt hh.1 (nI k) c (e2.trans hp) part i ?_) hm
        by_cases q : part < 1
        · exact Or.inl q
        · by_cases q2 : 2 < part
          · exact Or.inr q2
          · exact absurd ⟨q, q2⟩ hpa
/-- no text has field 0 -/
theorem ent_f1 : ∀ (g : List zG) (sg : Nat) (k : zK4) (e : zEn), 1 ≤ k.1 → e ∈ (entF sg k g).2 → 1 ≤ e.1.2.1 := by
  intro g
  induction g with
  | nil => intro sg k e _ he; cases he
  | cons x g ih =>
    intro sg k e hk he
    cases x with
    | inl c => exact ih sg k e hk he
    | inr w =>
      have hb : 1 ≤ (bump k w).1 := by
        unfold bump
        repeat' split
        · show 1 ≤ k.1 + 1; omega
        · exact hk
        · exact hk
        · exact hk
      rcases List.mem_cons.mp he with rfl | q
      · exact hb
      · exact ih sg _ e hb q
theorem seg_f1 {s : zSeg} (hs : segOk s) (sg : Nat) (e : zEn) (he : e ∈ (entF sg (0, 1, 1, 1) s.2).2) : 1 ≤ e.1.2.1 := by
  rcases hs.2.2.2 with h | ⟨g, h⟩
  · rw [h] at he; cases he
  · rw [h] at he
    rcases List.mem_cons.mp he with rfl | q
    · exact Nat.le_refl _
    · exact ent_f1 g sg _ e (Nat.le_refl _) q
theorem vE_f0 : ∀ (l : List zSeg) (sg : Nat), (∀ s, s ∈ l → segOk s) → ∀ e, e ∈ entA sg l → 1 ≤ e.1.2.1 := by
  intro l
  induction l with
  | nil => intro sg _ e he; cases he
  | cons s l ih =>
    intro sg hok e he
    rw [entA] at he
    rcases List.mem_append.mp he with q | q
    · exact seg_f1 (hok s List.mem_cons_self) sg e q
    · exact ih (sg + 1) (fun x hx => hok x (List.mem_cons_of_mem _ hx)) e q
theorem tgt_none (i : Int32) : tgt none i = -1 := getF_0 _ i
theorem a_text {X : zX} {d : Nat} {h : zH} {ms : zMS} (H : Inv h ms) (s F R C i : Int32) : ask X d 28 157 [.int s, .int F, .int R, .int C, .int i] h := by
  obtain ⟨hr, hi, hz, h8, sp, la, b, l, oc, pt, qt, hO, -, -, -, -, -, ⟨⟨f, st, hM, hag, h200, hl8, hok, hst⟩, -⟩, hk, -⟩ := H
  obtain ⟨k1, k2, k3, k4, -⟩ := hk
  have hm := e_Mod_text X (d + 10) h ms _ k2 l.length k1 (by omega) s F R C i
  rw [k3] at hm
  unfold textQ at hm
  by_cases hs : ¬ s < 1 ∧ ¬ nI l.length < s
  · obtain ⟨j, j1, j2, ej⟩ := i32_rng (a := 1) (b := nI l.length) (m := 1) (n := l.length) rfl rfl (by decide) (by omega) hs.1 hs.2
    have hj : j - 1 < l.length := by omega
    have hfd := e_Mess_find X (d + 11) h la f _ st _ hM h200 j j1 j2 (by omega) (by omega) (stP l (j - 1)) (stP_le hj) (hst (j - 1) hj) F R C
    rw [← ej] at hfd
    have hle : ∀ p, fdL f F R C (stP l (j - 1)) ((encM l).length - stP l (j - 1)) 0 1 1 = some p → p ≤ (encM l).length := fun p hp => by
      have := fdL_le hp
      have := stP_le hj
      omega
    have hc := e_B_text X (d + 10) h sp la _ _ hO.1 f _ st _ hM h200 s F R C i _ hle hfd
    have hsg := hok _ (List.getElem_mem hj)
    by_cases hm0 : nI 0 = F ∧ nI 1 = R ∧ nI 1 = C
    · have e2 : fdL f F R C (stP l (j - 1)) ((encM l).length - stP l (j - 1)) 0 1 1 = some (stP l (j - 1)) := by
        cases (encM l).length - stP l (j - 1) with
        | zero => rw [fdL, if_pos hm0]
        | succ q => rw [fdL, if_pos hm0]
      have hv := view_name hag rfl (List.getElem?_eq_getElem hj) hsg
      rw [e2, show txo f (encM l).length (some (stP l (j - 1))) = some (l[j - 1]).1 from congrArg some hv] at hc
      have hF : F = 0 := hm0.1.symm
      have hRC : R = 1 ∧ C = 1 := ⟨hm0.2.1.symm, hm0.2.2.symm⟩
      have h3 : tl (some (l[j - 1]).1) = 3 := hsg.1
      have e3 : tgt (some (l[j - 1]).1) i = (if (¬ s < 1 ∧ ¬ nI l.length < s) ∧ 0 ≤ i then (if F = 0 then (if (R = 1 ∧ C = 1) ∧ i < 3 then ms.2 13 (600 + (3 * s.toNatClampNeg - 3 + i.toNatClampNeg)) else -1) else tgt (vE (entA 1 l) s F R C) i) else -1) := by
        unfold tgt
        rw [h3]
        rcases pk_ix i (n := 3) (by decide) with q | q | ⟨w, hw, q⟩
        · rw [getF_neg q, if_neg (fun z => absurd z.2 (Int32.not_le.mpr q))]
        · rw [getF_ge q]
          have h0 : (0 : Int32) ≤ i := Int32.le_trans (nI_pos' (n := 3) (by decide)) q
          rw [if_pos ⟨hs, h0⟩, if_pos hF, if_neg (fun z => absurd z.2 (Int32.not_lt.mpr q))]
        · rw [q, getF_in hw (by decide), if_pos ⟨hs, nI_pos' (by omega)⟩, if_pos hF, if_pos ⟨hRC, nI_lt (b := 3) hw (by decide)⟩, nI_clamp (by omega), ej, nI_clamp (by omega)]
          have hx : (l[j - 1]).1[w]? = some (tc (some (l[j - 1]).1) w) := by
            unfold tc
            have hw2 : w < (l[j - 1]).1.length := by rw [hsg.1]; exact hw
            show _ = some ((l[j - 1]).1.getD w 0)
            rw [List.getD_eq_getElem?_getD, List.getElem?_eq_getElem hw2]
            rfl
          have := k4 (3 * (j - 1) + w) _ (by rw [nmA_at l (j - 1) w _ (fun s hs => (hok s hs).1) (List.getElem?_eq_getElem hj) hw]; exact hx)
          rw [show 600 + (3 * j - 3 + w) = 600 + (3 * (j - 1) + w) by omega]
          exact this.symm
      rw [e3] at hc
      exact ask_of hr hc hm
    · have hv := view_seg hag rfl (by omega) (List.getElem?_eq_getElem hj) hsg hm0
      rw [show 1 + (j - 1) = j by omega, ← ej] at hv
      rw [show txo f (encM l).length (fdL f F R C (stP l (j - 1)) ((encM l).length - stP l (j - 1)) 0 1 1) = vE (entA 1 l) s F R C from hv] at hc
      by_cases h0 : 0 ≤ i
      · rw [if_pos ⟨hs, h0⟩] at hm
        by_cases hF : F = 0
        · have hne : ¬ ((R = 1 ∧ C = 1) ∧ i < 3) := fun z => hm0 ⟨hF.symm, z.1.1.symm, z.1.2.symm⟩
          rw [if_pos hF, if_neg hne] at hm
          have hnone : vE (entA 1 l) s F R C = none := vE_none (fun e he => by
            have h1 := vE_f0 l 1 hok e he
            have h2 := entA_num l 1 e he
            have h3 := enc_len (l := l) (by intro q; rw [q] at hj; exact absurd hj (Nat.not_lt_zero _)) hok
            unfold entM
            rw [hF, show decide (nI e.1.2.1 = 0) = false from decide_eq_false (fun z => by
              have := (nI_eq (a := e.1.2.1) (b := 0) (by omega) (by decide)).mp z
              omega)]
            simp)
          rw [hnone, tgt_none] at hc
          exact ask_of hr hc hm
        · rw [if_neg hF] at hm
          exact ask_of hr hc hm
      · rw [if_neg (fun z => h0 z.2)] at hm
        have : tgt (vE (entA 1 l) s F R C) i = -1 := getF_neg (Int32.not_le.mp h0)
        rw [this] at hc
        exact ask_of hr hc hm
  · rw [if_neg (fun z => hs z.1)] at hm
    have hout : s < 1 ∨ nI l.length < s ∨ 8 < s := by
      by_cases q : s < 1
      · exact Or.inl q
      · by_cases q2 : nI l.length < s
        · exact Or.inr (Or.inl q2)
        · exact absurd ⟨q, q2⟩ hs
    have hfd := e0_Mess_find X (d + 11) h la f _ st _ hM h200 s F R C hout
    have hc := e_B_text X (d + 10) h sp la _ _ hO.1 f _ st _ hM h200 s F R C i none (fun p hp => by cases hp) hfd
    rw [show tgt (txo f (encM l).length none) i = -1 from tgt_none i] at hc
    exact ask_of hr hc hm
