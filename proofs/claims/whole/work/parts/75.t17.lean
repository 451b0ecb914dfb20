/-! BOTH: what holds between calls; what is asked -/
/-- the reference's cells -/
def RP (h : zH) (ms : zMS) : Prop := ∀ k, k < 27 → h.2.2 (129 + k) = some (mcell ms k)
theorem RP_set {h : zH} {ms : zMS} (hr : RP h ms) : mset h ms = h := by
  refine zH_ext rfl rfl (fun a => ?_)
  show (if 129 ≤ a ∧ a < 156 then some (mcell ms (a - 129)) else h.2.2 a) = h.2.2 a
  by_cases ha : 129 ≤ a ∧ a < 156
  · rw [if_pos ha]
    have := hr (a - 129) (by omega)
    rw [show 129 + (a - 129) = a by omega] at this
    exact this.symm
  · rw [if_neg ha]
theorem RP_mset (h : zH) (ms : zMS) : RP (mset h ms) ms := fun _ hk => mset_at hk
theorem mset_out {h : zH} {ms : zMS} {a : Nat} (ha : a < 129 ∨ 156 ≤ a) : (mset h ms).2.2 a = h.2.2 a := by
  show (if 129 ≤ a ∧ a < 156 then some (mcell ms (a - 129)) else h.2.2 a) = h.2.2 a
  rw [if_neg (by omega)]
/-- names as a frame gives them -/
def hdOk (l : List zSeg) : Prop := (∀ s, l[0]? = some s → s.1 = [72, 68, 82]) ∧ ∀ s, s ∈ l → ∀ c, c ∈ s.1 → (zcap c || zdig c) = true
/-- the message that the reference keeps -/
def mKp (ms : zMS) (l : List zSeg) : Prop := ms.2 2 1 = nI l.length ∧ mTV ms 1 (entA 1 l).length ∧ mV1 ms = vE (entA 1 l) ∧ (∀ i x, (nmA l)[i]? = some x → ms.2 13 (600 + i) = x) ∧ mTB ms (entA 1 l) ∧ hdOk l
def MI (ms : zMS) : Prop := (∀ i, zch (ms.2 1 i)) ∧ (∀ i, zch (ms.2 12 i)) ∧ (∀ i, zch (ms.2 13 i)) ∧ (∀ j, zch (ms.2 16 j)) ∧ ms.2 20 0 = 0 ∧ ms.2 20 1 = 0 ∧ ms.2 22 0 = 0 ∧ ∀ i, ¬ ms.2 23 i = -1
def cOb (h : zH) (ms : zMS) (sp la : Nat) (b : Bool) : Prop := h.2.2 100 = some (bmO sp la (if ms.1 2 = 0 then -1 else ms.1 3) (zb b)) ∧ ms.1 4 = zb b ∧ ((sp = 119 ∧ la = 124) ∨ (sp = 124 ∧ la = 119))
def cFr (h : zH) (ms : zMS) : Prop := ∃ sz F, isF h sz F ∧ sz ≤ 200 ∧ ms.1 0 = nI sz ∧ F = ms.2 1 ∧ byt F sz
def cRc (h : zH) (ms : zMS) : Prop := ∃ n g, isCh h 115 40 n g ∧ n ≤ 40 ∧ ms.1 5 = nI n ∧ ∀ i, i < n → g i = ms.2 15 i
def cWr (h : zH) (ms : zMS) : Prop := ∃ n g, isCh h 117 600 n g ∧ n ≤ 600 ∧ ms.1 7 = nI n ∧ ∀ i, i < n → g i = ms.2 25 i
def cSp (h : zH) (m : Nat) : Prop := (∃ f n st k, isM h m f n st k) ∧ ∃ S, isSp h (m + 1) S
def cLd (h : zH) (ms : zMS) : Prop := ∃ ids rs o kp Tx, isLd h ids rs o ∧ ms.1 6 = nI kp ∧ ledR ids rs o (ms.2 16) (ms.2 17) kp Tx
/-- what holds between calls, of the class -/
def CI (h : zH) (ms : zMS) : Prop := zlow h ∧ h.1 % 8 = 0 ∧ ∃ sp la b l oc pt qt, cOb h ms sp la b ∧ cFr h ms ∧ cRc h ms ∧ cWr h ms ∧ (∃ S, isSp h 113 S) ∧ cSp h sp ∧ (isMl h la l ∧ ∃ S, isSp h (la + 1) S) ∧ mKp ms l ∧ cLd h ms ∧ HosW h ms oc pt qt
def Inv (h : zH) (ms : zMS) : Prop := RP h ms ∧ MI ms ∧ CI h ms
theorem getF_congr {f g : Nat → Int32} {n : Nat} (hn : n < 2 ^ 31) (h : ∀ i, i < n → f i = g i) (i : Int32) : getF f n i = getF g n i := by
  rcases pk_ix i (n := n) hn with q | q | ⟨j, hj, q⟩
  · rw [getF_neg q, getF_neg q]
  · rw [getF_ge q, getF_ge q]
  · rw [q, getF_in hj hn, getF_in hj hn, h j hj]
/-- both answer the same, and nothing changes -/
def ask (X : zX) (d : Nat) (jc jm : Nat) (args : List Value) (h : zH) : Prop := ∃ v, zR X (d + 12) jc 0 (zent (zmaxL jc) (.ref 100 :: args)) [] h (some (.int v), h) ∧ zR X (d + 12) jm 0 (zent (zmaxL jm) (.ref 129 :: args)) [] h (some (.int v), h)
theorem ask_of {X : zX} {d jc jm : Nat} {args : List Value} {h : zH} {ms : zMS} (hr : RP h ms) {v : Int32} (hc : zR X (d + 12) jc 0 (zent (zmaxL jc) (.ref 100 :: args)) [] h (some (.int v), h)) (hm : zR X (d + 12) jm 0 (zent (zmaxL jm) (.ref 129 :: args)) [] (mset h ms) (some (.int v), mset h ms)) : ask X d jc jm args h := by
  rw [RP_set hr] at hm
  exact ⟨v, hc, hm⟩
theorem a_reason {X : zX} {d : Nat} {h : zH} {ms : zMS} (H : Inv h ms) : ask X d 16 144 [] h := by
  obtain ⟨hr, hi, hz, h8, sp, la, b, l, oc, pt, qt, hO, -⟩ := H
  exact ask_of hr (e_B_reason X (d + 10) h sp la _ _ hO.1) (e_Mod_reason X (d + 10) h ms)
theorem a_replayed {X : zX} {d : Nat} {h : zH} {ms : zMS} (H : Inv h ms) : ask X d 17 145 [] h := by
  obtain ⟨hr, hi, hz, h8, sp, la, b, l, oc, pt, qt, hO, -⟩ := H
  exact ask_of hr (e_B_replayed X (d + 10) h sp la _ _ hO.1 b rfl) (e_Mod_replayed X (d + 10) h ms b hO.2.1)
theorem a_receiptLength {X : zX} {d : Nat} {h : zH} {ms : zMS} (H : Inv h ms) : ask X d 18 146 [] h := by
  obtain ⟨hr, hi, hz, h8, sp, la, b, l, oc, pt, qt, hO, -, ⟨n, g, c1, c2, c3, c4⟩, -⟩ := H
  have hm := e_Mod_receiptLength X (d + 10) h ms
  rw [c3] at hm
  exact ask_of hr (e_B_receiptLength X (d + 10) h sp la _ _ hO.1 40 n g c1) hm
theorem a_receipt {X : zX} {d : Nat} {h : zH} {ms : zMS} (H : Inv h ms) (i : Int32) : ask X d 19 147 [.int i] h := by
  obtain ⟨hr, hi, hz, h8, sp, la, b, l, oc, pt, qt, hO, -, ⟨n, g, c1, c2, c3, c4⟩, -⟩ := H
  have hm := e_Mod_receipt X (d + 10) h ms n c3 (by omega) i
  rw [← getF_congr (by omega) c4 i] at hm
  exact ask_of hr (e_B_receipt X (d + 10) h sp la _ _ hO.1 40 n g c1 c2 (by decide) i) hm
theorem a_written {X : zX} {d : Nat} {h : zH} {ms : zMS} (H : Inv h ms) (i : Int32) : ask X d 30 162 [.int i] h := by
  obtain ⟨hr, hi, hz, h8, sp, la, b, l, oc, pt, qt, hO, -, -, ⟨n, g, c1, c2, c3, c4⟩, -⟩ := H
  have hm := e_Mod_written X (d + 10) h ms n c3 (by omega) i
  rw [← getF_congr (by omega) c4 i] at hm
  exact ask_of hr (e_B_written X (d + 10) h sp la _ _ hO.1 600 n g c1 c2 (by decide) i) hm
theorem a_inBeds {X : zX} {d : Nat} {h : zH} {ms : zMS} (H : Inv h ms) : ask X d 22 151 [] h := by
  obtain ⟨hr, hi, hz, h8, sp, la, b, l, oc, pt, qt, hO, -, -, -, -, -, -, -, -, hh⟩ := H
  have hm := e_Mod_inBeds X (d + 10) h ms
  have hc := e_B_inBeds X (d + 10) h sp la _ _ hO.1 oc pt hh.1
  rw [inL_P] at hm
  rw [cntL_P, hh.2.2.2.2.1.2.2] at hc
  exact ask_of hr hc hm
theorem a_segments {X : zX} {d : Nat} {h : zH} {ms : zMS} (H : Inv h ms) : ask X d 27 156 [] h := by
  obtain ⟨hr, hi, hz, h8, sp, la, b, l, oc, pt, qt, hO, -, -, -, -, -, ⟨⟨f, st, hM, -⟩, -⟩, hk, -⟩ := H
  have hm := e_Mod_segments X (d + 10) h ms
  rw [hk.1] at hm
  exact ask_of hr (e_B_segments X (d + 10) h sp la _ _ hO.1 f _ st _ hM) hm
theorem fnd_cases {pt : Nat → Option Nat} (p : Int32) : (zpat p = false ∧ fndP pt p = none) ∨ ∃ k, 1 ≤ k ∧ k ≤ 99 ∧ p = nI k ∧ zpat p = true ∧ fndP pt p = pt k := by
  cases hp : zpat p with
  | false => exact Or.inl ⟨rfl, by unfold fndP; rw [hp, if_neg (by decide)]⟩
  | true =>
    obtain ⟨k, k1, k2, e⟩ := zpat_nI hp
    exact Or.inr ⟨k, k1, k2, e, rfl, by rw [e]; exact fndP_in k1 k2⟩
theorem a_known {X : zX} {d : Nat} {h : zH} {ms : zMS} (H : Inv h ms) (p : Int32) : ask X d 23 152 [.int p] h := by
  obtain ⟨hr, hi, hz, h8, sp, la, b, l, oc, pt, qt, hO, -, -, -, -, -, -, -, -, hh⟩ := H
  have hm := e_Mod_known X (d + 10) h ms p
  rcases fnd_cases (pt := pt) p with ⟨e1, e2⟩ | ⟨k, k1, k2, e, e1, e2⟩
  · rw [e1, Bool.false_and] at hm
    exact ask_of hr (n_B_known X (d + 10) h sp la _ _ hO.1 oc pt hh.1 p e2) hm
  · rw [e1, e, nI_clamp (by omega), Bool.true_and] at hm
    cases hp : pt k with
    | none =>
      rw [(hh.2.2.2.2.2.1 k k1 k2 hp).1] at hm
      rw [e] at e2 ⊢
      exact ask_of hr (n_B_known X (d + 10) h sp la _ _ hO.1 oc pt hh.1 _ (e2.trans hp)) hm
    | some c =>
      rw [(hh.2.2.2.2.2.2.1 k c k1 k2 hp).1] at hm
      rw [e] at e2 ⊢
      exact ask_of hr (e_B_known X (d + 10) h sp la _ _ hO.1 oc pt hh.1 _ c (e2.trans hp)) hm
theorem a_bedOf {X : zX} {d : Nat} {h : zH} {ms : zMS} (H : Inv h ms) (p : Int32) : ask X d 21 149 [.int p] h := by
  obtain ⟨hr, hi, hz, h8, sp, la, b, l, oc, pt, qt, hO, -, -, -, -, -, -, -, -, hh⟩ := H
  have hm := e_Mod_bedOf X (d + 10) h ms p
  rcases fnd_cases (pt := pt) p with ⟨e1, e2⟩ | ⟨k, k1, k2, e, e1, e2⟩
  · rw [e1, if_neg (by decide)] at hm
    exact ask_of hr (n_B_bedOf X (d + 10) h sp la _ _ hO.1 oc pt hh.1 p e2) hm
  · rw [e1, if_pos rfl, e, nI_clamp (by omega)] at hm
    rw [e] at e2 ⊢
    cases hp : pt k with
    | none =>
      rw [(hh.2.2.2.2.2.1 k k1 k2 hp).2.1] at hm
      exact ask_of hr (n_B_bedOf X (d + 10) h sp la _ _ hO.1 oc pt hh.1 _ (e2.trans hp)) hm
    | some c =>
      exact ask_of hr (e_B_bedOf X (d + 10) h sp la _ _ hO.1 oc pt hh.1 _ c (e2.trans hp) _ (hh.2.2.2.2.2.2.1 k c k1 k2 hp).2.2.2.2.1) hm
theorem a_results {X : zX} {d : Nat} {h : zH} {ms : zMS} (H : Inv h ms) (p : Int32) : ask X d 26 155 [.int p] h := by
  obtain ⟨hr, hi, hz, h8, sp, la, b, l, oc, pt, qt, hO, -, -, -, -, -, -, -, -, hh⟩ := H
  have hm := e_Mod_results X (d + 10) h ms p
  rcases fnd_cases (pt := pt) p with ⟨e1, e2⟩ | ⟨k, k1, k2, e, e1, e2⟩
  · rw [e1, if_neg (by decide)] at hm
    exact ask_of hr (n_B_results X (d + 10) h sp la _ _ hO.1 oc pt hh.1 p e2) hm
  · rw [e1, if_pos rfl, e, nI_clamp (by omega)] at hm
    rw [e] at e2 ⊢
    cases hp : pt k with
    | none =>
      rw [(hh.2.2.2.2.2.1 k k1 k2 hp).2.2.2.2] at hm
      exact ask_of hr (n_B_results X (d + 10) h sp la _ _ hO.1 oc pt hh.1 _ (e2.trans hp)) hm
    | some c =>
      obtain ⟨-, -, -, -, hB, -, -, ⟨q, c3, m3, e3, f3⟩⟩ := hh.2.2.2.2.2.2.1 k c k1 k2 hp
      rw [e3] at hm
      exact ask_of hr (e_B_results X (d + 10) h sp la _ _ hO.1 oc pt hh.1 _ c (e2.trans hp) _ hB q c3) hm
theorem a_patient {X : zX} {d : Nat} {h : zH} {ms : zMS} (H : Inv h ms) (w c : Int32) : ask X d 20 148 [.int w, .int c] h := by
  obtain ⟨hr, hi, hz, h8, sp, la, b, l, oc, pt, qt, hO, -, -, -, -, -, -, -, -, hh⟩ := H
  have hm := e_Mod_patient X (d + 10) h ms w c
  have hc := e_B_patient X (d + 10) h sp la _ _ hO.1 oc pt hh.1 w c
  have e : patQ (ms.2 19) w c = (if ((¬ w < 0 ∧ ¬ 4 ≤ w) ∧ ¬ c < 0) ∧ c < 8 then getF oc 32 (8 * w + c) else -1) := by
    unfold patQ
    by_cases hw : ¬ w < 0 ∧ ¬ 3 < w
    · obtain ⟨x, x1, x2, ex⟩ := i32_rng (a := 0) (b := 3) (m := 0) (n := 3) rfl rfl (by decide) (by decide) hw.1 hw.2
      have hw4 : ¬ (4 : Int32) ≤ w := by
        rw [ex]
        exact nI_ge (a := x) (b := 4) (by omega) (by decide)
      by_cases hc' : ¬ c < 0 ∧ c ≤ 7
      · obtain ⟨y, y1, y2, ey⟩ := i32_rng (a := 0) (b := 7) (m := 0) (n := 7) rfl rfl (by decide) (by decide) hc'.1 (Int32.not_lt.mpr hc'.2)
        have hc8 : c < 8 := by rw [ey]; exact nI_lt (b := 8) (by omega) (by decide)
        rw [if_pos ⟨hw, hc'⟩, if_pos ⟨⟨⟨hw.1, hw4⟩, hc'.1⟩, hc8⟩, ex, ey, show (8 : Int32) * nI x = nI (8 * x) from pk_mul (a := 8) (b := x), nI_add, getF_in (show 8 * x + y < 32 by omega) (by decide)]
        exact (bedR_who hh.2.2.2.2.1 (by omega)).symm
      · rw [if_neg (fun z => hc' z.2)]
        rw [if_neg (fun z => hc' ⟨z.1.2, ?_⟩)]
        have h0 := z.1.2
        obtain ⟨y, y1, y2, ey⟩ := i32_rng (a := 0) (b := 7) (m := 0) (n := 7) (c := c) rfl rfl (by decide) (by decide) h0 (fun q => by
          rcases pk_ix c (n := 8) (by decide) with r | r | ⟨j, hj, r⟩
          · exact h0 r
          · exact absurd z.2 (Int32.not_lt.mpr r)
          · rw [r] at q
            have := (nI_ltI (a := 7) (b := j) (by decide) (by omega)).mp q
            omega)
        rw [ey]
        exact nI_le (b := 7) y2 (by decide)
    · rw [if_neg (fun z => hw z.1), if_neg (fun z => hw ⟨z.1.1.1, fun q => ?_⟩)]
      rcases pk_ix w (n := 4) (by decide) with r | r | ⟨j, hj, r⟩
      · exact z.1.1.1 r
      · exact z.1.1.2 r
      · rw [r] at q
        have := (nI_ltI (a := 3) (b := j) (by decide) (by omega)).mp q
        omega
  rw [e] at hm
  exact ask_of hr hc hm
