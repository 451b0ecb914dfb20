/-! BOTH: names -/
def rgL (n : Nat) (g : Nat → Int32) : List Int32 := (List.range n).map g
theorem rgL_len (n : Nat) (g : Nat → Int32) : (rgL n g).length = n := by simp [rgL]
theorem rgL_at {n i : Nat} {g : Nat → Int32} (h : i < n) : (rgL n g)[i]? = some (g i) := by
  unfold rgL
  rw [List.getElem?_map, List.getElem?_range h]
  rfl
theorem lrow_rg (n : Nat) (g : Nat → Int32) : lrow g (rgL n g) = g := by
  funext j
  unfold lrow
  rcases Nat.lt_or_ge j n with q | q
  · rw [rgL_at q]; rfl
  · rw [List.getElem?_eq_none (by rw [rgL_len]; exact q)]; rfl
theorem chL_rg {h : zH} {c n : Nat} {g : Nat → Int32} (hc : isCh h c 12 n g) (hn : n ≤ 12) : chL h c 12 (rgL n g) g = h := by
  unfold chL
  rw [List.take_of_length_le (by rw [rgL_len]; exact hn), rgL_len, lrow_rg]
  exact chS_self hc
/-- one name -/
theorem nm_one {n : Nat} {g g' sz tx : Nat → Int32} {t : zT} {p part : Nat} (hn : n ≤ 12) (hs : sz (2 * p + part) = nI n) (hg : ∀ i, i < n → g i = tx (24 * p + 12 * part + i)) (hz : ∀ i, zch (tc t i)) : (takeQ (sz, tx) t p part).1 (2 * p + part) = nI ((nmL (rgL n g) t).take 12).length ∧ ((nmL (rgL n g) t).take 12).length ≤ 12 ∧ ∀ i, i < ((nmL (rgL n g) t).take 12).length → lrow g' ((nmL (rgL n g) t).take 12) i = (takeQ (sz, tx) t p part).2 (24 * p + 12 * part + i) := by
  refine ⟨?_, by rw [List.length_take]; omega, ?_⟩
  · unfold takeQ nmL
    by_cases h0 : tl t = 0
    · rw [if_pos h0, if_pos h0, List.take_of_length_le (by rw [rgL_len]; exact hn), rgL_len]
      exact hs
    · rw [if_neg h0, if_neg h0, show sT 6 = [34, 34] from rfl, say2]
      dsimp only
      rw [pk_us]
      by_cases hv : vnull t = true
      · rw [if_pos hv, if_pos hv]; rfl
      · rw [if_neg hv, if_neg hv, List.length_take]
        unfold nameN tl
        split
        · congr 1; omega
        · congr 1; omega
  · unfold takeQ nmL
    by_cases h0 : tl t = 0
    · rw [if_pos h0, if_pos h0, List.take_of_length_le (by rw [rgL_len]; exact hn), rgL_len]
      intro i hi
      unfold lrow
      rw [rgL_at hi]
      exact hg i hi
    · rw [if_neg h0, if_neg h0, show sT 6 = [34, 34] from rfl, say2]
      dsimp only
      by_cases hv : vnull t = true
      · rw [if_pos hv]
        intro i hi
        exact absurd hi (by simp)
      · rw [if_neg hv]
        intro i hi
        rw [List.length_take] at hi
        have hi2 : i < (t.getD []).length := by omega
        unfold lrow zpas
        rw [if_pos (by unfold nameN tl; split <;> omega), Nat.add_sub_cancel_left, List.getElem?_take, if_pos (by omega), List.getElem?_eq_getElem hi2]
        show (t.getD [])[i] = vp_nar .char (tc t i)
        rw [show vp_nar .char (tc t i) = tc t i from hz i]
        unfold tc
        rw [List.getD_eq_getElem?_getD, List.getElem?_eq_getElem hi2]
        rfl
theorem tq_1 {q : (Nat → Int32) × (Nat → Int32)} {t : zT} {p part j : Nat} (hj : j ≠ 2 * p + part) : (takeQ q t p part).1 j = q.1 j := by
  unfold takeQ
  split
  · rfl
  · exact pk_un hj
theorem tq_2 {q : (Nat → Int32) × (Nat → Int32)} {t : zT} {p part j : Nat} (hj : j < 24 * p + 12 * part ∨ 24 * p + 12 * part + 12 ≤ j) : (takeQ q t p part).2 j = q.2 j := by
  unfold takeQ
  split
  · rfl
  · dsimp only
    unfold zpas nameN
    rw [if_neg (by split <;> omega)]
/-- both names of a patient -/
theorem nm_pa {h : zH} {b p : Nat} {ms : zMS} {n1 n2 : Nat} {g1 g2 g1' g2' : Nat → Int32} {t1 t2 : zT} (hB : h.2.2 b = some (paO b (ms.2 19 p))) (hq : ∃ q : zMe, isMe h (b + 5) q ∧ q.1 ≤ 12 ∧ ms.2 22 p = nI q.1 ∧ ∀ i, i < q.1 → q.2.1 i = ms.2 23 (12 * p + i) ∧ q.2.2 i = ms.2 24 (12 * p + i)) (hn1 : n1 ≤ 12) (e1 : ms.2 20 (2 * p) = nI n1) (f1 : ∀ i, i < n1 → g1 i = ms.2 21 (24 * p + i)) (hn2 : n2 ≤ 12) (e2 : ms.2 20 (2 * p + 1) = nI n2) (f2 : ∀ i, i < n2 → g2 i = ms.2 21 (24 * p + 12 + i)) (hz1 : ∀ i, zch (tc t1 i)) (hz2 : ∀ i, zch (tc t2 i)) : isPa (chL (chL h (b + 1) 12 (nmL (rgL n1 g1) t1) g1') (b + 3) 12 (nmL (rgL n2 g2) t2) g2') b p (mnam ms (takeQ (takeQ (mnq ms) t1 p 0) t2 p 1)) := by
  obtain ⟨q, c3, a3, b3, d3⟩ := hq
  have A := nm_one (g := g1) (g' := g1') (sz := ms.2 20) (tx := ms.2 21) (t := t1) (p := p) (part := 0) hn1 e1 (fun i hi => by rw [f1 i hi]; rfl) hz1
  have B := nm_one (g := g2) (g' := g2') (sz := (takeQ (mnq ms) t1 p 0).1) (tx := (takeQ (mnq ms) t1 p 0).2) (t := t2) (p := p) (part := 1) hn2 (by rw [tq_1 (by omega)]; exact e2) (fun i hi => by rw [tq_2 (by omega), f2 i hi]; rfl) hz2
  refine ⟨?_, ⟨_, _, ⟨(chS_ne (by omega) (by omega)).trans chS_o, (chS_ne (by omega) (by omega)).trans chS_r⟩, A.2.1, ?_, ?_⟩, ⟨_, _, ⟨chS_o, chS_r⟩, B.2.1, ?_, ?_⟩, ⟨q, ⟨?_, ?_, ?_⟩, a3, b3, d3⟩⟩
  · exact (chS_ne (by omega) (by omega)).trans ((chS_ne (by omega) (by omega)).trans hB)
  · show (takeQ (takeQ (mnq ms) t1 p 0) t2 p 1).1 (2 * p) = _
    rw [tq_1 (by omega)]
    exact A.1
  · intro i hi
    show _ = (takeQ (takeQ (mnq ms) t1 p 0) t2 p 1).2 (24 * p + i)
    have := A.2.1
    rw [tq_2 (by omega)]
    exact A.2.2 i hi
  · exact B.1
  · intro i hi
    exact B.2.2 i hi
  · exact (chS_ne (by omega) (by omega)).trans ((chS_ne (by omega) (by omega)).trans c3.1)
  · exact (chS_ne (by omega) (by omega)).trans ((chS_ne (by omega) (by omega)).trans c3.2.1)
  · exact (chS_ne (by omega) (by omega)).trans ((chS_ne (by omega) (by omega)).trans c3.2.2)
theorem tn_self {h : zH} {b n1 n2 : Nat} {g1 g2 : Nat → Int32} (c1 : isCh h (b + 1) 12 n1 g1) (c2 : isCh h (b + 3) 12 n2 g2) (hn1 : n1 ≤ 12) (hn2 : n2 ≤ 12) : chL (chL h (b + 1) 12 (rgL n1 g1) g1) (b + 3) 12 (rgL n2 g2) g2 = h := by
  rw [chL_rg c1 hn1, chL_rg c2 hn2]
