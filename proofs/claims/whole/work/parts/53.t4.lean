/-! BOTH: a message's segments, their names and texts -/
def tailM (l : List zSeg) : List Int32 := l.flatMap (fun s => 261 :: encS s)
theorem tailM_stop (l : List zSeg) : stopT (tailM l) := by
  cases l with
  | nil => exact Or.inl rfl
  | cons s l => exact Or.inr ⟨encS s ++ tailM l, rfl⟩
def headM (l : List zSeg) : List Int32 := if l = [] then [] else encM l ++ [261]
theorem encM_split (s : zSeg) (l2 : List zSeg) : ∀ l1 : List zSeg, encM (l1 ++ s :: l2) = headM l1 ++ (encS s ++ tailM l2) := by
  intro l1
  cases l1 with
  | nil => rfl
  | cons a r =>
    show encS a ++ (r ++ s :: l2).flatMap _ = (if a :: r = [] then [] else encM (a :: r) ++ [261]) ++ _
    rw [if_neg (by simp), List.flatMap_append]
    simp [encM, tailM]
theorem stP_head (l1 : List zSeg) (s : zSeg) (l2 : List zSeg) : stP (l1 ++ s :: l2) l1.length = (headM l1).length := by
  unfold stP headM
  cases l1 with
  | nil => rfl
  | cons a r =>
    rw [if_neg (by simp), if_neg (by simp), List.take_left, List.length_append]
    rfl
theorem split_at {l : List zSeg} {i : Nat} {s : zSeg} (h : l[i]? = some s) : ∃ l1 l2, l = l1 ++ s :: l2 ∧ l1.length = i := by
  have hi : i < l.length := by
    rcases Nat.lt_or_ge i l.length with q | q
    · exact q
    · rw [List.getElem?_eq_none q] at h; cases h
  refine ⟨l.take i, l.drop (i + 1), ?_, by rw [List.length_take]; omega⟩
  have : l.drop i = s :: l.drop (i + 1) := by
    rw [List.drop_eq_getElem_cons hi]
    rw [List.getElem?_eq_getElem hi] at h
    cases h
    rfl
  rw [← this, List.take_append_drop]
/-- a segment as a frame gives it -/
def segOk (s : zSeg) : Prop := s.1.length = 3 ∧ (∀ c, c ∈ s.1 → chr c) ∧ (∀ g, g ∈ s.2 → okG g) ∧ (s.2 = [] ∨ ∃ g, s.2 = .inr 0 :: g)
theorem agr_app {f : Nat → Int32} {p : Nat} {L1 L2 : List Int32} (h : agr f p (L1 ++ L2)) : agr f (p + L1.length) L2 := by
  intro i x hx
  have := h (L1.length + i) x (by rw [List.getElem?_append_right (by omega), Nat.add_sub_cancel_left]; exact hx)
  rw [← this]
  congr 1
  omega
theorem encS_map (s : zSeg) : encS s = (s.1.map Sum.inl ++ s.2).map encG := by
  unfold encS
  rw [List.map_append, List.map_map]
  congr 1
  exact (List.map_id' _).symm.trans (by simp [Function.comp_def, encG])
theorem segOk_all {s : zSeg} (h : segOk s) : ∀ x, x ∈ s.1.map Sum.inl ++ s.2 → okG x := by
  intro x hx
  rcases List.mem_append.mp hx with q | q
  · obtain ⟨c, hc, rfl⟩ := List.mem_map.mp q
    exact h.2.1 c hc
  · exact h.2.2.1 x q
theorem ent_pre1 (sg : Nat) (k : zK4) : ∀ (nm : List Int32) (g : List zG), (entF sg k (nm.map Sum.inl ++ g)).1 = nm ++ (entF sg k g).1 := by
  intro nm
  induction nm with
  | nil => intro g; rfl
  | cons x nm ih => intro g; exact congrArg (x :: ·) (ih g)
theorem view_at {l : List zSeg} {f : Nat → Int32} {i : Nat} {s : zSeg} (ha : agr f 0 (encM l)) (hs : l[i]? = some s) : ∃ T, stopT T ∧ agr f (stP l i) ((s.1.map Sum.inl ++ s.2).map encG ++ T) ∧ stP l i + ((s.1.map Sum.inl ++ s.2).map encG ++ T).length = (encM l).length := by
  obtain ⟨l1, l2, rfl, rfl⟩ := split_at hs
  refine ⟨tailM l2, tailM_stop l2, ?_, ?_⟩
  · rw [stP_head, ← encS_map]
    rw [encM_split] at ha
    have := agr_app ha
    rw [Nat.zero_add] at this
    exact this
  · rw [stP_head, ← encS_map, encM_split]
    simp only [List.length_append]
theorem view_seg {l : List zSeg} {f : Nat → Int32} {n i : Nat} {s : zSeg} (ha : agr f 0 (encM l)) (hn : (encM l).length = n) (hl : l.length ≤ 100) (hs : l[i]? = some s) (hok : segOk s) {F R C : Int32} (hm : ¬ (nI 0 = F ∧ nI 1 = R ∧ nI 1 = C)) : (fdL f F R C (stP l i) (n - stP l i) 0 1 1).map (tx f n) = vE (entA 1 l) (nI (1 + i)) F R C := by
  obtain ⟨T, hT, hag, hlen⟩ := view_at ha hs
  rw [vE_seg hs hl]
  have := find_body (f := f) (sg := 1 + i) (n := n) (F := F) (R := R) (C := C) hT (s.1.map Sum.inl ++ s.2) 0 1 1 1 (stP l i) (segOk_all hok) hag (by omega) hm
  rw [ent_pre] at this
  rw [← this, show n - stP l i = ((s.1.map Sum.inl ++ s.2).map encG ++ T).length by omega]
theorem view_name {l : List zSeg} {f : Nat → Int32} {n i : Nat} {s : zSeg} (ha : agr f 0 (encM l)) (hn : (encM l).length = n) (hs : l[i]? = some s) (hok : segOk s) : tx f n (stP l i) = s.1 := by
  obtain ⟨T, hT, hag, hlen⟩ := view_at ha hs
  have := tx_body (f := f) (1 + i) hT (s.1.map Sum.inl ++ s.2) (0, 1, 1, 1) (stP l i) (segOk_all hok) hag
  unfold tx
  rw [show n - stP l i = ((s.1.map Sum.inl ++ s.2).map encG ++ T).length by omega, this, ent_pre1]
  rcases hok.2.2.2 with h | ⟨g, h⟩
  · rw [h]; exact List.append_nil _
  · rw [h]; exact List.append_nil _
theorem stP_le {l : List zSeg} {i : Nat} (hi : i < l.length) : stP l i ≤ (encM l).length := by
  obtain ⟨s, hs⟩ : ∃ s, l[i]? = some s := ⟨_, List.getElem?_eq_getElem hi⟩
  obtain ⟨l1, l2, rfl, rfl⟩ := split_at hs
  rw [stP_head, encM_split, List.length_append]
  omega
/-- where a segment begins, by its number -/
def PS (l : List zSeg) (s : Nat) : Nat := stP l (s - 1)
/-- a message's texts as the class finds them are those of the reference -/
theorem view_txt {l : List zSeg} {f : Nat → Int32} {n : Nat} (ha : agr f 0 (encM l)) (hn : (encM l).length = n) (hl : l.length ≤ 100) (hok : ∀ s, s ∈ l → segOk s) (o : Option Nat) (ho : ∀ s, o = some s → 1 ≤ s ∧ s ≤ l.length) {F R C : Int32} (hm : ¬ (nI 0 = F ∧ nI 1 = R ∧ nI 1 = C)) : txo f n (fdo f n (PS l) o F R C) = vE (entA 1 l) (nI (sN o)) F R C := by
  cases o with
  | none => exact (vE_out (Or.inl rfl) (by decide) hl F R C).symm
  | some s =>
    obtain ⟨h1, h2⟩ := ho s rfl
    have hi : s - 1 < l.length := by omega
    have := view_seg ha hn hl (List.getElem?_eq_getElem hi) (hok _ (List.getElem_mem hi)) hm
    rw [show 1 + (s - 1) = s by omega] at this
    exact this
/-- the first segment with a name from one on -/
def sgL (l : List zSeg) (w : List Int32) (i : Nat) : Option Nat := zfst (fun s => decide ((l[s - 1]?).map (fun z => z.1) = some w)) i (l.length + 1 - i)
theorem zfst_congr {P Q : Nat → Bool} : ∀ (k i : Nat), (∀ j, i ≤ j → j < i + k → P j = Q j) → zfst P i k = zfst Q i k := by
  intro k
  induction k with
  | zero => intro i _; rfl
  | succ k ih =>
    intro i h
    rw [zfst, zfst, h i (Nat.le_refl _) (by omega), ih (i + 1) (fun j h1 h2 => h j (by omega) (by omega))]
theorem vis_name {w : List Int32} (hw : w.length = 3) (a b c : Int32) : vis (some w) a b c = decide (w = [a, b, c]) := by
  match w, hw with
  | [x, y, z], _ =>
    unfold vis tl tc
    simp
theorem nn_sgL {l : List zSeg} {f : Nat → Int32} {n : Nat} (ha : agr f 0 (encM l)) (hn : (encM l).length = n) (hok : ∀ s, s ∈ l → segOk s) (a b c : Int32) (i : Nat) (hi : 1 ≤ i) : nnF f n (PS l) [a, b, c] i (l.length + 1 - i) = sgL l [a, b, c] i := by
  unfold nnF sgL
  refine zfst_congr _ _ (fun s h1 h2 => ?_)
  have hs : s - 1 < l.length := by omega
  have hm := List.getElem_mem hs
  have hv := view_name ha hn (List.getElem?_eq_getElem hs) (hok _ hm)
  show sayF (some (tx f n (stP l (s - 1)))) [a, b, c] = _
  rw [hv, say3, vis_name (hok _ hm).1, List.getElem?_eq_getElem hs]
  simp
theorem nmA_at : ∀ (l : List zSeg) (i j : Nat) (s : zSeg), (∀ s, s ∈ l → s.1.length = 3) → l[i]? = some s → j < 3 → (nmA l)[3 * i + j]? = s.1[j]? := by
  intro l
  induction l with
  | nil => intro i j s _ h; cases h
  | cons x l ih =>
    intro i j s hl h hj
    have hx := hl x List.mem_cons_self
    show (x.1 ++ nmA l)[3 * i + j]? = _
    cases i with
    | zero =>
      cases h
      rw [List.getElem?_append_left (by omega)]
      congr 1
      omega
    | succ i =>
      rw [List.getElem?_append_right (by omega), hx, show 3 * (i + 1) + j - 3 = 3 * i + j by omega]
      exact ih i j s (fun s hs => hl s (List.mem_cons_of_mem _ hs)) h hj
/-- the reference finds the same segment -/
theorem mseg_sgL {ms : zMS} {l : List zSeg} (hN : mNam ms (nmA l) l.length) (hl : l.length ≤ 200) (hok : ∀ s, s ∈ l → s.1.length = 3) (a b c : Int32) (i : Nat) (hi : 1 ≤ i) : mseg ms a b c i = sN (sgL l [a, b, c] i) := by
  unfold mseg sgL
  rw [hN.1, nI_clamp (by omega)]
  congr 1
  refine zfst_congr _ _ (fun s h1 h2 => ?_)
  have hs : s - 1 < l.length := by omega
  obtain ⟨z, hz⟩ : ∃ z, l[s - 1]? = some z := ⟨_, List.getElem?_eq_getElem hs⟩
  have h3 := hok z (List.mem_of_getElem? hz)
  have at3 : ∀ j x, j < 3 → z.1[j]? = some x → ms.2 13 (3 * (s - 1) + j) = x := by
    intro j x hj hx
    refine hN.2.2 _ _ ?_
    rw [nmA_at l (s - 1) j z hok hz hj]
    exact hx
  rw [hz]
  unfold mnm
  rw [show 3 * s - 3 = 3 * (s - 1) + 0 by omega, show 3 * s - 2 = 3 * (s - 1) + 1 by omega, show 3 * s - 1 = 3 * (s - 1) + 2 by omega]
  obtain ⟨w, g⟩ := z
  dsimp only at h3 at3 ⊢
  match w, h3 with
  | [x, y, u], _ =>
    rw [at3 0 x (by decide) rfl, at3 1 y (by decide) rfl, at3 2 u (by decide) rfl]
    simp
