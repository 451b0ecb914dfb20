/-! BOTH: the segments of a frame -/
theorem rdT_pos (F : Nat → Int32) (n : Nat) (S : Nat → Int32) (a : Nat) : 0 < (rdT F n S a).2 := by
  unfold rdT
  split
  · split
    · dsimp only; split <;> decide
    · exact Nat.one_pos
  · exact Nat.one_pos
theorem rdL_fuel {F S : Nat → Int32} {n e : Nat} : ∀ (q q' a : Nat), e ≤ a + q → e ≤ a + q' → rdL F n S e q a = rdL F n S e q' a := by
  intro q
  induction q with
  | zero =>
    intro q' a h1 h2
    cases q' with
    | zero => rfl
    | succ q' => rw [rdL, rdL, if_neg (by omega)]
  | succ q ih =>
    intro q' a h1 h2
    cases q' with
    | zero => rw [rdL, rdL, if_neg (by omega)]
    | succ q' =>
      rw [rdL, rdL]
      have hp := rdT_pos F n S a
      rw [ih q' (a + (rdT F n S a).2) (by omega) (by omega)]
theorem rest_rd {F S : Nat → Int32} {n : Nat} (hf : fitF S = true) (hB : byt F n) (a e : Nat) (hen : e ≤ n) (he : e = n ∨ F e = 13) (h13 : ∀ i, a ≤ i → i < e → ¬ F i = 13) (hae : a ≤ e) : match restF F n S a with
    | none => (rdB F n S a e).2 = false
    | some p => p.2 = e ∧ rdB F n S a e = (p.1.map encG, true) := by
  have h0 := fit_ne hf (k := 0) (by decide)
  unfold restF rdB
  by_cases hlt : a < e
  · have hn13 := h13 a (Nat.le_refl _) hlt
    have hcl : clF F n a = F a := if_pos (by omega)
    rw [if_neg (fun z => z.elim (fun q => by omega) hn13)]
    by_cases hs : F a = S 0
    · rw [if_pos hs, if_neg (fun z => z.2 (by rw [hcl]; exact hs)), rdL_fuel (e := e) e n a (by omega) (by omega)]
      exact body_rd hf hB n a e hen he h13 hae (by omega)
    · rw [if_neg hs, if_pos ⟨hlt, by rw [hcl]; exact hs⟩]
  · have hae2 : a = e := by omega
    rw [if_pos (he.elim (fun q => Or.inl (by omega)) (fun q => Or.inr (by rw [hae2]; exact q))), if_neg (fun z => hlt z.1)]
    refine ⟨hae2, ?_⟩
    cases e with
    | zero => rfl
    | succ e => rw [rdL, if_neg hlt]; rfl
theorem cap_cl (F : Nat → Int32) (n i : Nat) : zcap (clF F n i) = zcap (nowF F n i) ∧ zdig (clF F n i) = zdig (nowF F n i) := by
  unfold clF nowF
  by_cases h : i < n
  · rw [if_pos h, if_pos h]; exact ⟨rfl, rfl⟩
  · rw [if_neg h, if_neg h]; exact ⟨by decide, by decide⟩
theorem nameC_eq (F : Nat → Int32) (n b : Nat) : nameC F n b = nameOk F n b := by
  unfold nameC nameOk
  rw [(cap_cl F n b).1, (cap_cl F n (b + 1)).1, (cap_cl F n (b + 1)).2, (cap_cl F n (b + 2)).1, (cap_cl F n (b + 2)).2]
theorem cap13 : zcap 13 = false ∧ zdig 13 = false := by decide
theorem name_in {F : Nat → Int32} {n b : Nat} (h : nameOk F n b = true) : b + 3 ≤ n ∧ ∀ i, b ≤ i → i < b + 3 → ¬ F i = 13 := by
  have hl := nameOk_len h
  refine ⟨hl, fun i h1 h2 q => ?_⟩
  unfold nameOk at h
  rw [now_at (by omega), now_at (by omega), now_at (by omega)] at h
  simp only [Bool.and_eq_true, Bool.or_eq_true] at h
  rcases (show i = b ∨ i = b + 1 ∨ i = b + 2 by omega) with rfl | rfl | rfl
  · rw [q, cap13.1] at h; exact absurd h.1 (by decide)
  · rw [q, cap13.1, cap13.2] at h; exact absurd h.2.1 (by decide)
  · rw [q, cap13.1, cap13.2] at h; exact absurd h.2.2 (by decide)
def encS (s : zSeg) : List Int32 := s.1 ++ s.2.map encG
/-- a message's signs, a mark before each segment but the first -/
def encM (l : List zSeg) : List Int32 := match l with
  | [] => []
  | s :: r => encS s ++ r.flatMap (fun s => 261 :: encS s)
theorem encM_app {l : List zSeg} (h : l ≠ []) (s : zSeg) : encM (l ++ [s]) = encM l ++ [261] ++ encS s := by
  cases l with
  | nil => exact absurd rfl h
  | cons a r =>
    show encS a ++ (r ++ [s]).flatMap _ = _
    rw [List.flatMap_append]
    simp [encM]
/-- where a segment begins -/
def stP (l : List zSeg) (i : Nat) : Nat := if i = 0 then 0 else (encM (l.take i)).length + 1
def cls (z : zSt) (l : List zSeg) : Prop := z.1 = encM l ∧ z.2.2 = l.length ∧ ((encM l).length ≤ 200 → ∀ i, i < l.length → i < 8 → z.2.1 i = nI (stP l i))
theorem cls_app {F S : Nat → Int32} {n b e : Nat} {z : zSt} {l : List zSeg} {g : List zG} (hc : cls z l) (hl : l ≠ []) (hb : ¬ b = 0) (hnm : nameC F n b = true) (hr : rdB F n S (b + 3) e = (g.map encG, true)) : (rdS F n S z b e).2 = true ∧ cls (rdS F n S z b e).1 (l ++ [([clF F n b, clF F n (b + 1), clF F n (b + 2)], g)]) := by
  have hk : 0 < z.2.2 := by
    rw [hc.2.1]
    exact List.length_pos_iff.mpr hl
  have hl0 : 0 < l.length := List.length_pos_iff.mpr hl
  unfold rdS
  rw [if_pos (Or.inr hnm), if_neg hb, hr, if_pos hk]
  refine ⟨rfl, ?_, ?_, ?_⟩
  · show z.1 ++ [261] ++ [clF F n b, clF F n (b + 1), clF F n (b + 2)] ++ g.map encG = _
    rw [encM_app hl, hc.1, List.append_assoc]
    rfl
  · show z.2.2 + 1 = _
    rw [hc.2.1, List.length_append]
    rfl
  · intro h200 i hi h8
    rw [encM_app hl, List.length_append, List.length_append] at h200
    show stS z.2.1 z.2.2 ((z.1 ++ [261]).take 200).length i = _
    have hle : (z.1 ++ [261]).length ≤ 200 := by rw [hc.1, List.length_append]; omega
    rw [List.take_of_length_le hle]
    unfold stS stP
    rw [List.length_append] at hi
    by_cases hil : i = l.length
    · rw [if_pos (by rw [hc.2.1]; omega), hc.2.1, ← hil, pk_us, if_neg (by omega), hil, List.take_left, hc.1, List.length_append]
      rfl
    · have hi2 : i < l.length := by
        have : i < l.length + 1 := hi
        omega
      have e1 : (if z.2.2 < 8 then upd z.2.1 z.2.2 (nI (z.1 ++ [261]).length) else z.2.1) i = z.2.1 i := by
        split
        · rw [pk_un (by rw [hc.2.1]; exact hil)]
        · rfl
      rw [e1, hc.2.2 (by omega) i hi2 h8]
      unfold stP
      rw [List.take_append_of_le_length (by omega)]
/-- the end of the segment that begins at b -/
theorem seg_end (F : Nat → Int32) (n : Nat) : ∀ (q b : Nat), b + q = n → ∃ e, b ≤ e ∧ e ≤ n ∧ (e = n ∨ F e = 13) ∧ ∀ i, b ≤ i → i < e → ¬ F i = 13 := by
  intro q
  induction q with
  | zero => intro b h; exact ⟨b, Nat.le_refl _, by omega, Or.inl (by omega), fun i h1 h2 => by omega⟩
  | succ q ih =>
    intro b h
    by_cases hb : F b = 13
    · exact ⟨b, Nat.le_refl _, by omega, Or.inr hb, fun i h1 h2 => by omega⟩
    · obtain ⟨e, h1, h2, h3, h4⟩ := ih (b + 1) (by omega)
      refine ⟨e, by omega, h2, h3, fun i hi1 hi2 => ?_⟩
      by_cases hib : i = b
      · rw [hib]; exact hb
      · exact h4 i (by omega) hi2
theorem rdA_scan {F S : Nat → Int32} {n e : Nat} (hen : e ≤ n) (b : Nat) (z : zSt) : ∀ (q a : Nat), a + q = n → a ≤ e → (∀ i, a ≤ i → i < e → ¬ F i = 13) → (e = n ∨ F e = 13) → rdA F n S q a b z = if e < n then (if (rdS F n S z b e).2 = true then rdA F n S (n - (e + 1)) (e + 1) (e + 1) (rdS F n S z b e).1 else ((rdS F n S z b e).1, false)) else (if b = n then (z, true) else rdS F n S z b n) := by
  intro q
  induction q with
  | zero =>
    intro a haq hae h13 he
    rw [rdA, if_neg (by omega : ¬ e < n)]
  | succ q ih =>
    intro a haq hae h13 he
    rw [rdA]
    by_cases hlt : a = e
    · subst hlt
      have h : F a = 13 := he.elim (fun w => absurd w (by omega)) id
      rw [if_pos h, if_pos (show a < n by omega), show n - (a + 1) = q by omega]
    · rw [if_neg (h13 a (Nat.le_refl _) (by omega))]
      exact ih (a + 1) (by omega) (by omega) (fun i h1 h2 => h13 i (by omega) h2) he
theorem rdS_noname {F S : Nat → Int32} {n b e : Nat} {z : zSt} (hb : ¬ b = 0) (h : nameC F n b = false) : (rdS F n S z b e).2 = false := by
  unfold rdS
  rw [if_neg (fun w => w.elim hb (fun w => by rw [h] at w; cases w))]
theorem rdS_bad {F S : Nat → Int32} {n b e : Nat} {z : zSt} (hb : ¬ b = 0) (h : (rdB F n S (b + 3) e).2 = false) : (rdS F n S z b e).2 = false := by
  unfold rdS
  split
  · rename_i hh
    simpa [hb] using h
  · rfl
/-- the segments behind the first -/
theorem segs_rd {F S : Nat → Int32} {n : Nat} (hf : fitF S = true) (hB : byt F n) : ∀ (q e0 : Nat) (z : zSt) (l0 : List zSeg), cls z l0 → l0 ≠ [] → e0 < n → n ≤ e0 + q → match segsF F n S q e0 with
    | none => (rdA F n S (n - (e0 + 1)) (e0 + 1) (e0 + 1) z).2 = false
    | some l => (rdA F n S (n - (e0 + 1)) (e0 + 1) (e0 + 1) z).2 = true ∧ cls (rdA F n S (n - (e0 + 1)) (e0 + 1) (e0 + 1) z).1 (l0 ++ l) := by
  intro q
  induction q with
  | zero => intro e0 z l0 hc hl h1 h2; omega
  | succ q ih =>
    intro e0 z l0 hc hl h1 h2
    obtain ⟨e, hbe, hen, he, h13⟩ := seg_end F n (n - (e0 + 1)) (e0 + 1) (by omega)
    rw [rdA_scan hen (e0 + 1) z (n - (e0 + 1)) (e0 + 1) (by omega) hbe h13 he, segsF]
    by_cases hlt : e0 + 1 < n
    · rw [if_pos hlt]
      have hb0 : ¬ e0 + 1 = 0 := by omega
      have hbn : ¬ e0 + 1 = n := by omega
      cases hnm : nameOk F n (e0 + 1) with
      | false =>
        have hno := fun e' => rdS_noname (S := S) (e := e') (z := z) hb0 ((nameC_eq F n (e0 + 1)).trans hnm)
        rw [if_neg (by decide)]
        dsimp only
        by_cases hen2 : e < n
        · rw [if_pos hen2, if_neg (by rw [hno e]; decide)]
        · rw [if_neg hen2, if_neg hbn]
          exact hno n
      | true =>
        rw [if_pos rfl]
        have hnc : nameC F n (e0 + 1) = true := (nameC_eq F n (e0 + 1)).trans hnm
        obtain ⟨hb3, hn13⟩ := name_in hnm
        have hbe3 : e0 + 1 + 3 ≤ e := by
          rcases Nat.lt_or_ge e (e0 + 1 + 3) with w | w
          · exact absurd he (fun q => q.elim (fun q => by omega) (hn13 e hbe w))
          · exact w
        have hr := rest_rd hf hB (e0 + 1 + 3) e hen he (fun i w1 w2 => h13 i (by omega) w2) hbe3
        rw [show e0 + 4 = e0 + 1 + 3 by omega]
        cases hrs : restF F n S (e0 + 1 + 3) with
        | none =>
          rw [hrs] at hr
          dsimp only at hr ⊢
          have hbad := rdS_bad (z := z) hb0 hr
          by_cases hen2 : e < n
          · rw [if_pos hen2, if_neg (by rw [hbad]; decide)]
          · have : e = n := by omega
            subst this
            rw [if_neg hen2, if_neg hbn]
            exact hbad
        | some p =>
          rw [hrs] at hr
          dsimp only at hr ⊢
          obtain ⟨hpe, hrd⟩ := hr
          have hcl : ([clF F n (e0 + 1), clF F n (e0 + 1 + 1), clF F n (e0 + 1 + 2)] : List Int32) = [nowF F n (e0 + 1), nowF F n (e0 + 2), nowF F n (e0 + 3)] := by
            unfold clF nowF
            rw [if_pos (by omega), if_pos (by omega), if_pos (by omega), if_pos (by omega), if_pos (by omega), if_pos (by omega)]
          obtain ⟨hok, hcls⟩ := cls_app (S := S) hc hl hb0 hnc hrd
          rw [hcl] at hcls
          rw [hpe]
          by_cases hen2 : e < n
          · rw [if_pos hen2, if_pos hok]
            have hi := ih e _ _ hcls (by simp) hen2 (by omega)
            cases hsg : segsF F n S q e with
            | none =>
              rw [hsg] at hi
              exact hi
            | some l =>
              rw [hsg] at hi
              refine ⟨hi.1, ?_⟩
              have := hi.2
              rw [List.append_assoc] at this
              exact this
          · have : e = n := by omega
            subst this
            rw [if_neg hen2, if_neg hbn]
            have hsg : segsF F e S q e = some [] := by
              cases q with
              | zero => rfl
              | succ q => rw [segsF, if_neg (by omega)]
            rw [hsg]
            exact ⟨hok, hcls⟩
    · rw [if_neg hlt]
      have hen2 : e = n := by omega
      rw [if_neg (by omega), if_pos (by omega)]
      refine ⟨rfl, ?_⟩
      rw [List.append_nil]
      exact hc
/-- a frame read by either -/
theorem msg_rd {F S : Nat → Int32} {n : Nat} (hf : fitF S = true) (hB : byt F n) (hH : headF F n = true) (h8 : 8 ≤ n) (hS : ∀ k, k < 5 → F (3 + k) = S k) (st : Nat → Int32) : match msgF F n S with
    | none => (rdA F n S n 0 0 ([], st, 0)).2 = false
    | some l => (rdA F n S n 0 0 ([], st, 0)).2 = true ∧ cls (rdA F n S n 0 0 ([], st, 0)).1 l := by
  obtain ⟨e, hbe, hen, he, h13⟩ := seg_end F n n 0 (by omega)
  unfold headF at hH
  simp only [Bool.and_eq_true, decide_eq_true_eq] at hH
  have hne : ∀ i, i < 8 → ¬ F i = 13 := by
    intro i hi
    rcases (show i = 0 ∨ i = 1 ∨ i = 2 ∨ (3 ≤ i ∧ i < 8) by omega) with rfl | rfl | rfl | w
    · rw [hH.2.1]; decide
    · rw [hH.2.2.1]; decide
    · rw [hH.2.2.2]; decide
    · have := hS (i - 3) (by omega)
      rw [show 3 + (i - 3) = i by omega] at this
      rw [this]
      exact (fit_ne hf (by omega)).2.2.1
  have he8 : 8 ≤ e := by
    rcases Nat.lt_or_ge e 8 with w | w
    · exact absurd he (fun q => q.elim (fun q => by omega) (hne e w))
    · exact w
  have hr := rest_rd hf hB 8 e hen he (fun i w1 w2 => h13 i (by omega) w2) he8
  rw [rdA_scan hen 0 ([], st, 0) n 0 (by omega) hbe h13 he]
  have hS0 : ∀ e', rdS F n S ([], st, 0) 0 e' = (([72, 68, 82] ++ (rdB F n S 8 e').1, upd st 0 (nI 0), 1), (rdB F n S 8 e').2) := by
    intro e'
    unfold rdS
    rw [if_pos (Or.inl rfl)]
    show (([] ++ [clF F n 0, clF F n 1, clF F n 2] ++ (rdB F n S 8 e').1, _, _), _) = _
    unfold clF
    rw [if_pos (by omega), if_pos (by omega), if_pos (by omega), hH.2.1, hH.2.2.1, hH.2.2.2]
    rfl
  unfold msgF
  cases hrs : restF F n S 8 with
  | none =>
    rw [hrs] at hr
    dsimp only at hr ⊢
    by_cases hen2 : e < n
    · rw [if_pos hen2, if_neg (by rw [hS0, hr]; decide)]
    · have : e = n := by omega
      subst this
      rw [if_neg hen2, if_neg (by omega), hS0]
      exact hr
  | some p =>
    rw [hrs] at hr
    dsimp only at hr ⊢
    obtain ⟨hpe, hrd⟩ := hr
    have hcl : cls ([72, 68, 82] ++ p.1.map encG, upd st 0 (nI 0), 1) [([72, 68, 82], p.1)] := by
      refine ⟨?_, rfl, fun _ i hi _ => ?_⟩
      · show _ = encS _ ++ []
        rw [List.append_nil]; rfl
      · have hi : i < 1 := hi
        have : i = 0 := by omega
        subst this
        show upd st 0 (nI 0) 0 = _
        rw [pk_us]; rfl
    rw [hpe]
    by_cases hen2 : e < n
    · rw [if_pos hen2, hS0, hrd, if_pos rfl]
      have hi := segs_rd hf hB n e _ _ hcl (by simp) hen2 (by omega)
      cases hsg : segsF F n S n e with
      | none =>
        rw [hsg] at hi
        exact hi
      | some l =>
        rw [hsg] at hi
        exact hi
    · have : e = n := by omega
      subst this
      rw [if_neg hen2, if_neg (by omega), hS0, hrd]
      have hsg : segsF F e S e e = some [] := by
        cases e with
        | zero => rfl
        | succ q => rw [segsF, if_neg (by omega)]
      rw [hsg]
      exact ⟨rfl, hcl⟩
