theorem zcat_map (ad : Nat → Nat) (r : List Value) : ((r.map (zv ad)).map fun v => v.category) = r.map fun v => v.category := by
  rw [List.map_map]
  exact List.map_congr_left (fun v _ => zv_cat ad v)
theorem zprep_len {kd jj n : Nat} {st As rest : List Value} {h : zH} (hp : zprep (kd, jj, n) st h = some (As, rest)) : (zentl As).length ≤ zmaxL jj := by
  unfold zprep at hp
  split at hp
  · cases hp
  · split at hp
    · split at hp
      · rename_i hc
        cases hp
        exact hc.2
      · cases hp
    · split at hp
      · split at hp
        · rename_i hc
          cases hp
          exact hc.2.1
        · cases hp
      · cases hp
theorem zprep_s {ad : Nat → Nat} {kd jj n : Nat} {st As rest : List Value} {h : zH} (hp : zprep (kd, jj, n) st h = some (As, rest)) (hk : kd = 2 ∨ kd = 3) : st.map (zv ad) = (As.map (zv ad)).reverse ++ rest.map (zv ad) ∧ As.length = n ∧ (rest.map fun v => v.category).sum ≤ 8 := by
  unfold zprep at hp
  split at hp
  · cases hp
  · rename_i hl
    have hl' : ¬ st.length < n := hl
    split at hp
    · rename_i hc
      cases hp
      refine ⟨?_, by simp; omega, hc.1⟩
      rw [List.map_reverse, List.reverse_reverse, ← List.map_append, List.take_append_drop]
    · cases hp
theorem zprep_i {ad : Nat → Nat} {kd jj n : Nat} {st As rest : List Value} {h : zH} (hp : zprep (kd, jj, n) st h = some (As, rest)) (hk : kd = 0 ∨ kd = 1 ∨ kd = 4 ∨ kd = 5) : ∃ b Bs, As = .ref b :: Bs ∧ st.map (zv ad) = (Bs.map (zv ad)).reverse ++ .ref (ad b) :: rest.map (zv ad) ∧ Bs.length = n ∧ (rest.map fun v => v.category).sum ≤ 8 ∧ ((kd = 0 ∨ kd = 1) → zrcv h b = some (zown jj)) := by
  unfold zprep at hp
  split at hp
  · cases hp
  · rename_i hl
    have hl' : ¬ st.length < n := hl
    split at hp
    · rename_i hc
      have hc' : kd = 2 ∨ kd = 3 := hc
      omega
    · split at hp
      · rename_i b r hb
        have hb' : st.drop n = .ref b :: r := hb
        split at hp
        · rename_i hc
          cases hp
          refine ⟨b, _, rfl, ?_, by simp; omega, hc.1, fun q => ?_⟩
          · rw [List.map_reverse, List.reverse_reverse]
            have e : Value.ref (ad b) :: rest.map (zv ad) = (st.drop n).map (zv ad) := by rw [hb']; rfl
            rw [e, ← List.map_append, List.take_append_drop]
          · rcases hc.2.2 with w | w | w
            · have w' : kd = 4 := w
              omega
            · have w' : kd = 5 := w
              omega
            · exact w
        · cases hp
      · cases hp
