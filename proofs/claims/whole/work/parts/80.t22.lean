/-! BOTH: write, step by step -/
theorem zfst_cong5 {S S' : Nat → Int32} (h : ∀ k, k < 5 → S k = S' k) (c : Int32) : plF S c = plF S' c := by
  unfold plF
  exact zfst_congr 5 0 (fun j _ hj => by rw [h j (by omega)])
theorem putC_congr {S S' : Nat → Int32} (h : ∀ k, k < 5 → S k = S' k) (c : Int32) : putC S c = putC S' c := by
  unfold putC
  rw [zfst_cong5 h, h 3 (by decide)]
theorem wtS_congr {S S' : Nat → Int32} (h : ∀ k, k < 5 → S k = S' k) (x : Int32) : wtS S x = wtS S' x := by
  unfold wtS
  rw [putC_congr h, getF_congr (f := S) (g := S') (by decide) (fun i hi => h i hi)]
theorem wtL_congr {f S S' : Nat → Int32} (h : ∀ k, k < 5 → S k = S' k) : ∀ (q p : Nat), wtL f S p q = wtL f S' p q := by
  intro q
  induction q with
  | zero => intro p; rfl
  | succ q ih => intro p; rw [wtL, wtL, wtS_congr h, ih]
theorem wtS_len (S : Nat → Int32) (x : Int32) : (wtS S x).length ≤ 3 := by
  unfold wtS putC
  split
  · split <;> simp
  · simp
theorem wtL_len (f S : Nat → Int32) : ∀ (q p : Nat), (wtL f S p q).length ≤ 3 * q := by
  intro q
  induction q with
  | zero => intro p; exact Nat.le_refl _
  | succ q ih =>
    intro p
    rw [wtL, List.length_append]
    have := wtS_len S (f p)
    have := ih (p + 1)
    omega
theorem gvF_5 (S S' : Nat → Int32) (a b c e u : Int32) : ∀ k, k < 5 → gvF S a b c e u k = gvF S' a b c e u k := by
  intro k hk
  rcases (show k = 0 ∨ k = 1 ∨ k = 2 ∨ k = 3 ∨ k = 4 by omega) with rfl | rfl | rfl | rfl | rfl <;> rfl
theorem fitF_cong {S S' : Nat → Int32} (h : ∀ k, k < 5 → S k = S' k) : fitF S = fitF S' := by
  cases h1 : fitF S with
  | true => exact (fitF_congr h h1).symm
  | false =>
    cases h2 : fitF S' with
    | false => rfl
    | true => have := fitF_congr (fun k hk => (h k hk).symm) h2; rw [h1] at this; cases this
/-- what a message's row holds -/
theorem sg_ok {l : List zSeg} {f : Nat → Int32} (hag : agr f 0 (encM l)) (hok : ∀ s, s ∈ l → segOk s) : ∀ i, i < (encM l).length → (f i < 256 ∧ zch (f i)) ∨ (¬ f i < 256 ∧ (f i = 261 ∨ ∃ w, w < 5 ∧ f i = nI (256 + w))) := by
  intro i hi
  obtain ⟨y, hy⟩ : ∃ y, (encM l)[i]? = some y := ⟨_, List.getElem?_eq_getElem hi⟩
  have e := hag i y hy
  rw [Nat.zero_add] at e
  rw [e]
  have hmem : y ∈ encM l := List.mem_of_getElem? hy
  have hsg : ∀ s, s ∈ l → ∀ y, y ∈ encS s → (y < 256 ∧ zch y) ∨ (¬ y < 256 ∧ (y = 261 ∨ ∃ w, w < 5 ∧ y = nI (256 + w))) := fun s hs y hy => by
    rw [encS_map] at hy
    obtain ⟨g, hg, rfl⟩ := List.mem_map.mp hy
    have := segOk_all (hok s hs) g hg
    cases g with
    | inl c => exact Or.inl ⟨chr_lt this, chr_zch this⟩
    | inr w =>
      have hw : w < 5 := by rcases this with q | q | q | q <;> omega
      exact Or.inr ⟨nI_nlt (a := 256 + w) (b := 256) (by omega) (by omega), Or.inr ⟨w, hw, rfl⟩⟩
  cases l with
  | nil => cases hmem
  | cons s r =>
    rcases List.mem_append.mp hmem with q | q
    · exact hsg s List.mem_cons_self y q
    · obtain ⟨s', hs', hq⟩ := List.mem_flatMap.mp q
      rcases List.mem_cons.mp hq with rfl | q2
      · exact Or.inr ⟨by decide, Or.inl rfl⟩
      · exact hsg s' (List.mem_cons_of_mem _ hs') y q2
theorem s_write {X : zX} {d : Nat} (hX : X.2.2.category = 1) {h : zH} {ms : zMS} (H : Inv h ms) (a b c e u : Int32) (za : zch a) (zb' : zch b) (zc : zch c) (ze : zch e) (zu : zch u) : stp X d 29 158 [.int a, .int b, .int c, .int e, .int u] h := by
  obtain ⟨hr, hi, hz, h8, sp, la, bb, l, oc, pt, qt, hO, p1, p2, ⟨n0, g, w1, w2, w3, w4⟩, ⟨S, p4⟩, p5, ⟨p6, S', p7⟩, p8, p9, p10⟩ := H
  obtain ⟨f, st, hM, hag, h200, hl8, hok, hst⟩ := id p6
  obtain ⟨k1, k2, k3, k4, k5, k6⟩ := id p8
  have hsl := hO.2.2
  have hla : 119 ≤ la ∧ la < 125 := by omega
  have h5 := gvF_5 S (ms.2 26) a b c e u
  have hfit : fitF (gvF S a b c e u) = fitF (gvF (ms.2 26) a b c e u) := fitF_cong h5
  have hf1 : ∀ x, x ≠ 114 → (spS h 113 (gvF S a b c e u)).2.2 x = h.2.2 x := fun x hx => spS_ne hx
  have hS1 : isSp (spS h 113 (gvF S a b c e u)) 113 (gvF S a b c e u) := ⟨(hf1 113 (by decide)).trans p4.1, spS_r⟩
  have hi2 : ∀ y : zMS, (∀ k, k ≤ 24 → y.2 k = ms.2 k) → MI y := fun y hy => by
    unfold MI at hi ⊢
    rw [hy 1 (by decide), hy 12 (by decide), hy 13 (by decide), hy 16 (by decide), hy 20 (by decide), hy 22 (by decide), hy 23 (by decide)]
    exact hi
  by_cases hno : l.length = 0 ∨ fitF (gvF (ms.2 26) a b c e u) = false
  · have hc := n_B_write X (d + 6) hX h hz sp la _ _ hO.1 hla f _ st _ hM h200 (by omega) S p4 n0 g w1 a b c e u (by rw [hfit]; exact hno)
    have hR1 : RP (spS h 113 (gvF S a b c e u)) ms := fun k hk => (hf1 _ (by omega)).trans (hr k hk)
    have hm := e_Mod_write X (d + 8) (spS h 113 (gvF S a b c e u)) ms (entA 1 l) k5 l.length k1 (by omega) (fun i _ => hi.2.2.1 i) a b c e u za zb' zc ze zu (fun q1 q2 => absurd hno (fun z => z.elim q1 (fun z => by rw [q2] at z; cases z)))
    rw [RP_set hR1, if_pos hno] at hm
    refine ⟨-1, _, _, mgiv ms (gvF (ms.2 26) a b c e u), hc, hm, ⟨_, hR1⟩, fun x hx => (hf1 x (by omega)).trans (hz x hx), Inv_mset (hi2 _ (fun k hk => va_up_ne _ _ (by omega))) ?_, Nat.le_refl _, by show h.1 ≤ h.1 + 8; omega, Nat.le_refl _, by show h.2.1 ≤ h.2.1 + 59; omega⟩
    exact ⟨fun x hx => (hf1 x (by omega)).trans (hz x hx), h8, sp, la, bb, l, oc, pt, qt, ⟨(hf1 100 (by decide)).trans hO.1, hO.2⟩, cFr_fr p1 (fun x _ _ => hf1 x (by omega)), cRc_fr p2 (hf1 _ (by decide)) (hf1 _ (by decide)), cWr_fr ⟨n0, g, w1, w2, w3, w4⟩ (hf1 _ (by decide)) (hf1 _ (by decide)), ⟨_, hS1⟩, cSp_fr p5 (fun i hi => hf1 _ (by omega)), ⟨isMl_fr p6 (fun i hi => hf1 _ (by omega)), S', isSp_fr p7 (hf1 _ (by omega)) (hf1 _ (by omega))⟩, p8, cLd_fr p9 (fun x _ _ => hf1 x (by omega)), Hos_m (fun k q1 q2 => va_up_ne _ _ (by omega)) (Hos_fr p10 rfl (fun x hx => hf1 x (by omega)))⟩
  · have hl0 : ¬ l.length = 0 := fun q => hno (Or.inl q)
    have hft : fitF (gvF (ms.2 26) a b c e u) = true := by
      cases q : fitF (gvF (ms.2 26) a b c e u) with
      | true => rfl
      | false => exact absurd (Or.inr q) hno
    obtain ⟨eo, h3⟩ := out_same (S := (gvF (ms.2 26) a b c e u)) (nm := ms.2 13) hft (fun q => hl0 (by rw [q]; rfl)) (by omega) hok k6 hag h200 k4
    have ew : (sT 1 ++ [(gvF S a b c e u) 0, (gvF S a b c e u) 1, (gvF S a b c e u) 2, (gvF S a b c e u) 3, (gvF S a b c e u) 4] ++ wtL f (gvF S a b c e u) 3 ((encM l).length - 3)) = (outW (gvF (ms.2 26) a b c e u) (ms.2 13) (entA 1 l) 1 l.length) := by
      rw [wtL_congr h5, h5 0 (by decide), h5 1 (by decide), h5 2 (by decide), h5 3 (by decide), h5 4 (by decide)]
      exact eo
    have hwl : (outW (gvF (ms.2 26) a b c e u) (ms.2 13) (entA 1 l) 1 l.length).length ≤ 600 := by
      rw [← eo, List.length_append, List.length_append]
      have := wtL_len f (gvF (ms.2 26) a b c e u) ((encM l).length - 3) 3
      have e1 : (sT 1).length = 3 := rfl
      have e2 : [(gvF (ms.2 26) a b c e u) 0, (gvF (ms.2 26) a b c e u) 1, (gvF (ms.2 26) a b c e u) 2, (gvF (ms.2 26) a b c e u) 3, (gvF (ms.2 26) a b c e u) 4].length = 5 := rfl
      omega
    have hc := e_B_write X (d + 6) hX h hz sp la _ _ hO.1 hla f _ st _ hM h200 (by omega) S p4 n0 g w1 a b c e u hl0 (by rw [hfit]; exact hft) h3 (sg_ok hag hok)
    rw [ew, List.take_of_length_le hwl] at hc
    have hf2 : ∀ x, x ≠ 114 → x ≠ 117 → x ≠ 118 → (chL (spS h 113 (gvF S a b c e u)) 117 600 (outW (gvF (ms.2 26) a b c e u) (ms.2 13) (entA 1 l) 1 l.length) g).2.2 x = h.2.2 x := fun x q1 q2 q3 => (chS_ne q2 q3).trans (hf1 x q1)
    have hR1 : RP (chL (spS h 113 (gvF S a b c e u)) 117 600 (outW (gvF (ms.2 26) a b c e u) (ms.2 13) (entA 1 l) 1 l.length) g) ms := fun k hk => (hf2 _ (by omega) (by omega) (by omega)).trans (hr k hk)
    have hm := e_Mod_write X (d + 8) (chL (spS h 113 (gvF S a b c e u)) 117 600 (outW (gvF (ms.2 26) a b c e u) (ms.2 13) (entA 1 l) 1 l.length) g) ms (entA 1 l) k5 l.length k1 (by omega) (fun i _ => hi.2.2.1 i) a b c e u za zb' zc ze zu (fun _ _ => by omega)
    rw [RP_set hR1, if_neg hno] at hm
    refine ⟨_, _, _, mwr (va_up ms.1 7 (nI 0), va_up ms.2 26 (gvF (ms.2 26) a b c e u)) (outW (gvF (ms.2 26) a b c e u) (ms.2 13) (entA 1 l) 1 l.length), hc, hm, ⟨_, hR1⟩, fun x hx => (hf2 x (by omega) (by omega) (by omega)).trans (hz x hx), Inv_mset (hi2 _ (fun k hk => (va_up_ne _ _ (by omega)).trans (va_up_ne _ _ (by omega)))) ?_, Nat.le_refl _, by show h.1 ≤ h.1 + 8; omega, Nat.le_refl _, by show h.2.1 ≤ h.2.1 + 59; omega⟩
    refine ⟨fun x hx => (hf2 x (by omega) (by omega) (by omega)).trans (hz x hx), h8, sp, la, bb, l, oc, pt, qt, ⟨(hf2 100 (by decide) (by decide) (by decide)).trans hO.1, hO.2⟩, cFr_fr p1 (fun x _ _ => hf2 x (by omega) (by omega) (by omega)), cRc_fr p2 (hf2 _ (by decide) (by decide) (by decide)) (hf2 _ (by decide) (by decide) (by decide)), ⟨(outW (gvF (ms.2 26) a b c e u) (ms.2 13) (entA 1 l) 1 l.length).length, lrow g (outW (gvF (ms.2 26) a b c e u) (ms.2 13) (entA 1 l) 1 l.length), ?_, hwl, ?_, fun i hi => ?_⟩, ⟨_, isSp_fr hS1 (chS_ne (by decide) (by decide)) (chS_ne (by decide) (by decide))⟩, cSp_fr p5 (fun i hi => hf2 _ (by omega) (by omega) (by omega)), ⟨isMl_fr p6 (fun i hi => hf2 _ (by omega) (by omega) (by omega)), S', isSp_fr p7 (hf2 _ (by omega) (by omega) (by omega)) (hf2 _ (by omega) (by omega) (by omega))⟩, p8, cLd_fr p9 (fun x _ _ => hf2 x (by omega) (by omega) (by omega)), Hos_m (fun k q1 q2 => (va_up_ne _ _ (by omega)).trans (va_up_ne _ _ (by omega))) (Hos_fr p10 rfl (fun x hx => hf2 x (by omega) (by omega) (by omega)))⟩
    · have := chS_is (spS h 113 (gvF S a b c e u)) 117 600 ((outW (gvF (ms.2 26) a b c e u) (ms.2 13) (entA 1 l) 1 l.length).take 600).length (lrow g ((outW (gvF (ms.2 26) a b c e u) (ms.2 13) (entA 1 l) 1 l.length).take 600))
      rw [List.take_of_length_le hwl] at this
      unfold chL
      rw [List.take_of_length_le hwl]
      exact this
    · show va_up (va_up ms.1 7 (nI 0)) 7 (nI (outW (gvF (ms.2 26) a b c e u) (ms.2 13) (entA 1 l) 1 l.length).length) 7 = _
      exact up_at
    · have e1 : (mwr (va_up ms.1 7 (nI 0), va_up ms.2 26 (gvF (ms.2 26) a b c e u)) (outW (gvF (ms.2 26) a b c e u) (ms.2 13) (entA 1 l) 1 l.length)).2 25 = lrow (ms.2 25) (outW (gvF (ms.2 26) a b c e u) (ms.2 13) (entA 1 l) 1 l.length) := by
        unfold mwr
        dsimp only
        rw [show va_up ms.2 26 (gvF (ms.2 26) a b c e u) 25 = ms.2 25 from va_up_ne _ _ (by decide)]
        exact up_at
      rw [e1, lrow_at hi, lrow_at hi]
