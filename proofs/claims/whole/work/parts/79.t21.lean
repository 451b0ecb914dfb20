/-! BOTH: write -/
theorem pl_none {S : Nat → Int32} (hf : fitF S = true) {c : Int32} (hc : (zcap c || zdig c) = true) : putF S c = [c] := by
  unfold putF
  rw [wg_pl hf]
  cases hp : plF S c with
  | none => rfl
  | some w =>
    exfalso
    obtain ⟨h1, h2⟩ := plF_lt hp
    have := (fitF_true hf w h1).1
    rw [h2] at this
    unfold prop1 at this
    simp only [Bool.and_eq_true, Bool.not_eq_true'] at this
    rw [this.2.2.1, this.2.2.2.2.1] at hc
    cases hc
theorem nm_wt {S : Nat → Int32} (hf : fitF S = true) : ∀ (w : List Int32), (∀ c, c ∈ w → chr c ∧ (zcap c || zdig c) = true) → w.flatMap (wtS S) = w := by
  intro w
  induction w with
  | nil => intro _; rfl
  | cons c w ih =>
    intro h
    obtain ⟨h1, h2⟩ := h c List.mem_cons_self
    show wtS S c ++ w.flatMap (wtS S) = c :: w
    rw [ih (fun x hx => h x (List.mem_cons_of_mem _ hx)), show wtS S c = [c] from ?_]
    · rfl
    · unfold wtS
      rw [if_pos (chr_lt h1), put_same hf, pl_none hf h2]
theorem bd_wt {S : Nat → Int32} (hf : fitF S = true) : ∀ (g : List zG), (∀ x, x ∈ g → okG x) → (g.map encG).flatMap (wtS S) = g.flatMap (wg1 S) := by
  intro g
  induction g with
  | nil => intro _; rfl
  | cons x g ih =>
    intro h
    show wtS S (encG x) ++ (g.map encG).flatMap (wtS S) = wg1 S x ++ g.flatMap (wg1 S)
    rw [wtS_g hf (h x List.mem_cons_self), ih (fun y hy => h y (List.mem_cons_of_mem _ hy))]
/-- the segments behind the first, written -/
def oT (S : Nat → Int32) (l : List zSeg) : List Int32 := l.flatMap (fun s => 13 :: (s.1 ++ s.2.flatMap (wg1 S)))
theorem tl_wt {S : Nat → Int32} (hf : fitF S = true) : ∀ (l : List zSeg), (∀ s, s ∈ l → segOk s) → (∀ s, s ∈ l → ∀ c, c ∈ s.1 → (zcap c || zdig c) = true) → (tailM l).flatMap (wtS S) = oT S l := by
  intro l
  induction l with
  | nil => intro _ _; rfl
  | cons s l ih =>
    intro h1 h2
    have hs := h1 s List.mem_cons_self
    show ((261 :: encS s) ++ tailM l).flatMap (wtS S) = (13 :: (s.1 ++ s.2.flatMap (wg1 S))) ++ oT S l
    rw [List.flatMap_append, ih (fun x hx => h1 x (List.mem_cons_of_mem _ hx)) (fun x hx => h2 x (List.mem_cons_of_mem _ hx))]
    congr 1
    show wtS S 261 ++ (encS s).flatMap (wtS S) = _
    unfold encS
    rw [List.flatMap_append, nm_wt hf s.1 (fun c hc => ⟨hs.2.1 c hc, h2 s List.mem_cons_self c hc⟩), bd_wt hf s.2 hs.2.2.1]
    rfl
theorem encB_len {l : List zSeg} : ∀ {s : zSeg}, s ∈ l → s.2.length ≤ (encM l).length := by
  intro s hs
  cases l with
  | nil => cases hs
  | cons a r =>
    show s.2.length ≤ (encS a ++ r.flatMap _).length
    rw [List.length_append]
    rcases List.mem_cons.mp hs with rfl | q
    · unfold encS; rw [List.length_append, List.length_map]; omega
    · have : s.2.length ≤ (r.flatMap (fun s => 261 :: encS s)).length := by
        clear hs
        induction r with
        | nil => cases q
        | cons b r ih =>
          show s.2.length ≤ ((261 :: encS b) ++ r.flatMap _).length
          rw [List.length_append, List.length_cons]
          rcases List.mem_cons.mp q with rfl | q2
          · unfold encS; rw [List.length_append, List.length_map]; omega
          · have := ih q2; omega
      omega
theorem three {w : List Int32} (h : w.length = 3) : ∃ a b c, w = [a, b, c] := by
  match w, h with
  | [a, b, c], _ => exact ⟨a, b, c, rfl⟩
/-- the reference's text, from a segment on -/
theorem outW_T {S nm : Nat → Int32} {l : List zSeg} (hl : l.length ≤ 100) (hok : ∀ s, s ∈ l → segOk s) (h200 : (encM l).length ≤ 200) (hn : ∀ i x, (nmA l)[i]? = some x → nm (600 + i) = x) : ∀ (k s : Nat), 2 ≤ s → s + k = l.length + 1 → outW S nm (entA 1 l) s k = oT S (l.drop (s - 1)) := by
  intro k
  induction k with
  | zero =>
    intro s h1 h2
    rw [outW, List.drop_eq_nil_of_le (by omega)]
    rfl
  | succ k ih =>
    intro s h1 h2
    have hi : s - 1 < l.length := by omega
    obtain ⟨z, hz⟩ : ∃ z, l[s - 1]? = some z := ⟨_, List.getElem?_eq_getElem hi⟩
    have hzm := List.mem_of_getElem? hz
    have hd : l.drop (s - 1) = z :: l.drop s := by
      rw [List.drop_eq_getElem_cons hi, show s - 1 + 1 = s by omega]
      rw [List.getElem?_eq_getElem hi] at hz
      cases hz
      rfl
    obtain ⟨a, b, c, hw⟩ := three (hok z hzm).1
    have at3 : ∀ j x, j < 3 → z.1[j]? = some x → nm (600 + (3 * (s - 1) + j)) = x := fun j x hj hx => hn _ _ (by rw [nmA_at l (s - 1) j z (fun s hs => (hok s hs).1) hz hj]; exact hx)
    rw [outW, ih (s + 1) (by omega) (by omega), hd, show s + 1 - 1 = s by omega]
    show _ = (13 :: (z.1 ++ z.2.flatMap (wg1 S))) ++ oT S (l.drop s)
    congr 1
    unfold segW
    rw [if_pos (by omega), if_neg (by omega), show 600 + 3 * s - 3 = 600 + (3 * (s - 1) + 0) by omega, at3 0 a (by decide) (by rw [hw]; rfl), show 600 + (3 * (s - 1) + 0) + 1 = 600 + (3 * (s - 1) + 1) by omega, at3 1 b (by decide) (by rw [hw]; rfl), show 600 + (3 * (s - 1) + 0) + 2 = 600 + (3 * (s - 1) + 2) by omega, at3 2 c (by decide) (by rw [hw]; rfl)]
    have hws := wr_seg (S := S) hz hl (hok z hzm) (by have := encB_len hzm; omega)
    rw [show 1 + (s - 1) = s by omega] at hws
    rw [hws, hw]
    rfl
/-- the whole text, by either -/
theorem out_same {S f nm : Nat → Int32} {l : List zSeg} (hf : fitF S = true) (hl0 : l ≠ []) (hl : l.length ≤ 100) (hok : ∀ s, s ∈ l → segOk s) (hh : hdOk l) (hag : agr f 0 (encM l)) (h200 : (encM l).length ≤ 200) (hn : ∀ i x, (nmA l)[i]? = some x → nm (600 + i) = x) : sT 1 ++ [S 0, S 1, S 2, S 3, S 4] ++ wtL f S 3 ((encM l).length - 3) = outW S nm (entA 1 l) 1 l.length ∧ 3 ≤ (encM l).length := by
  cases l with
  | nil => exact absurd rfl hl0
  | cons z r =>
    have hz := hok z List.mem_cons_self
    have hz1 := hh.1 z rfl
    have henc : encM (z :: r) = z.1 ++ (z.2.map encG ++ tailM r) := by
      show (z.1 ++ z.2.map encG) ++ tailM r = _
      rw [List.append_assoc]
    have hag3 : agr f 3 (z.2.map encG ++ tailM r) := by
      rw [henc] at hag
      have := agr_app hag
      rw [hz.1, Nat.zero_add] at this
      exact this
    have hlen : (encM (z :: r)).length = 3 + (z.2.map encG ++ tailM r).length := by rw [henc, List.length_append, hz.1]
    have hw := wtL_app (S := S) (z.2.map encG ++ tailM r) 3 0 hag3
    rw [Nat.add_zero] at hw
    refine ⟨?_, by omega⟩
    rw [show (encM (z :: r)).length - 3 = (z.2.map encG ++ tailM r).length by omega, hw, wtL, List.append_nil, List.flatMap_append, bd_wt hf z.2 hz.2.2.1, tl_wt hf r (fun s hs => hok s (List.mem_cons_of_mem _ hs)) (fun s hs => hh.2 s (List.mem_cons_of_mem _ hs))]
    have hT := outW_T (S := S) (nm := nm) hl hok h200 hn r.length 2 (by decide) (by rw [List.length_cons]; omega)
    rw [List.length_cons, outW, hT]
    have at3 : ∀ j x, j < 3 → z.1[j]? = some x → nm (600 + j) = x := fun j x hj hx => hn j x (by
      have := nmA_at (z :: r) 0 j z (fun s hs => (hok s hs).1) rfl hj
      rw [show 3 * 0 + j = j by omega] at this
      rw [this]; exact hx)
    have hws := wr_seg (S := S) (l := z :: r) (i := 0) (sg := z) rfl hl hz (by have := encB_len (l := z :: r) (s := z) List.mem_cons_self; omega)
    unfold segW
    rw [if_neg (by decide), if_pos rfl, show 600 + 3 * 1 - 3 = 600 + 0 by omega, at3 0 72 (by decide) (by rw [hz1]; rfl), show 600 + 0 + 1 = 600 + 1 from rfl, at3 1 68 (by decide) (by rw [hz1]; rfl), show 600 + 0 + 2 = 600 + 2 from rfl, at3 2 82 (by decide) (by rw [hz1]; rfl), show (1 : Nat) = 1 + 0 from rfl, hws]
    show sT 1 ++ _ ++ _ = _
    rw [show sT 1 = [72, 68, 82] from rfl]
    simp [oT]
