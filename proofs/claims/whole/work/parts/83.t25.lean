/-! BOTH: the identity of a message; the receipt and the message kept -/
theorem ml_zch {f : Nat → Int32} {l : List zSeg} (hag : agr f 0 (encM l)) (hok : ∀ s, s ∈ l → segOk s) : ∀ i, i < (encM l).length → f i < 256 → zch (f i) := fun i hi hlt => by
  obtain ⟨y, hy⟩ : ∃ y, (encM l)[i]? = some y := ⟨_, List.getElem?_eq_getElem hi⟩
  have e := hag i y hy
  rw [Nat.zero_add] at e
  have hmem : y ∈ encM l := List.mem_of_getElem? hy
  have hsg : ∀ s, s ∈ l → ∀ y, y ∈ encS s → y < 256 → chr y := fun s hs y hy hlt => by
    rw [encS_map] at hy
    obtain ⟨g, hg, rfl⟩ := List.mem_map.mp hy
    have := segOk_all (hok s hs) g hg
    cases g with
    | inl c => exact this
    | inr w =>
      exfalso
      have hw : w < 5 := by rcases this with q | q | q | q <;> omega
      exact absurd hlt (nI_nlt (a := 256 + w) (b := 256) (by omega) (by omega))
  have hall : ∀ y, y ∈ encM l → y < 256 → chr y := fun y hy hlt => by
    cases l with
    | nil => cases hy
    | cons s r =>
      rcases List.mem_append.mp hy with q | q
      · exact hsg s List.mem_cons_self y q hlt
      · obtain ⟨s', hs', hq⟩ := List.mem_flatMap.mp q
        rcases List.mem_cons.mp hq with rfl | q2
        · exact absurd hlt (by decide)
        · exact hsg s' (List.mem_cons_of_mem _ hs') y q2 hlt
  rw [e] at hlt ⊢
  exact chr_zch (hall y hmem hlt)
theorem ml_id {h : zH} {a : Nat} {l : List zSeg} (hMl : isMl h a l) (hl0 : l ≠ []) : ∃ f n st o, isM h a f n st l.length ∧ n ≤ 200 ∧ (∀ p, o = some p → p ≤ n) ∧ txo f n o = vE (entA 1 l) 1 2 1 1 ∧ (∀ i, i < n → f i < 256 → zch (f i)) ∧ ∀ (X : zX) (d : Nat) (h' : zH), isM h' a f n st l.length → zR X d 78 0 (zent 10 [.ref a, .int 1, .int 2, .int 1, .int 1]) [] h' (some (.int (tI o)), h') := by
  obtain ⟨f, st, hM, hag, h200, hl8, hok, hst⟩ := hMl
  have hc1 : 1 ≤ l.length := List.length_pos_iff.mpr hl0
  have hP : ∀ s, 1 ≤ s → s ≤ l.length → st (s - 1) = nI (PS l s) ∧ PS l s ≤ (encM l).length := fun s q1 q2 => ⟨hst (s - 1) (by omega), stP_le (by omega)⟩
  have hob1 : ∀ s, (some 1 : Option Nat) = some s → 1 ≤ s ∧ s ≤ l.length := fun s hs => by cases hs; omega
  refine ⟨f, (encM l).length, st, fdo f (encM l).length (PS l) (some 1) 2 1 1, hM, h200, fdo_le (fun s hs => (hP s (hob1 s hs).1 (hob1 s hs).2).2), ?_, ml_zch hag hok, fun X d h' hM' => ?_⟩
  · exact view_txt hag rfl (by omega) hok (some 1) hob1 (F := 2) (R := 1) (C := 1) (by decide)
  · exact e1_Mess_find X d h' a f (encM l).length st l.length hM' h200 (PS l) hP hl8 (some 1) hob1 2 1 1
theorem recF_len {s : Nat → Int32} {id : List Int32} {r : Nat} (h : id.length ≤ 6) : (recF s id r).length ≤ 40 := by
  have hb : (if 9 < r then [(49 : Int32)] else []).length ≤ 1 := by split <;> simp
  unfold recF
  simp only [List.length_append, List.length_cons, List.length_nil]
  omega
theorem recF_cong {s s' : Nat → Int32} (h : ∀ k, k < 5 → s k = s' k) (id : List Int32) (r : Nat) : recF s id r = recF s' id r := by
  unfold recF
  rw [h 0 (by decide), h 1 (by decide), h 2 (by decide), h 3 (by decide), h 4 (by decide)]
theorem ent_b {l : List zSeg} (hl : l ≠ []) (hok : ∀ s, s ∈ l → segOk s) (h200 : (encM l).length ≤ 200) : (entA 1 l).length ≤ 220 ∧ (flat (entA 1 l)).length ≤ 200 := by
  have := enc_len hl hok
  have hc1 : 1 ≤ l.length := List.length_pos_iff.mpr hl
  omega
theorem end_r (w : zMS) (id : List Int32) (cnt cs sg rr k : Nat) (hk : k = 1 ∨ k = 14 ∨ 16 ≤ k) : (endT w id cnt cs sg rr).2 k = w.2 k := by
  show (mkeep (mrc w (recF (w.2 14) id rr)) cnt cs sg).2 k = w.2 k
  unfold mkeep mk13 mk12 mk7 mrc
  dsimp only
  rw [va_up_ne _ _ (by omega), va_up_ne _ _ (by omega), if_neg (by omega), va_up_ne _ _ (by omega), va_up_ne _ _ (by omega), va_up_ne _ _ (by omega), va_up_ne _ _ (by omega)]
theorem end_12 (w : zMS) (id : List Int32) (cnt cs sg rr : Nat) : (endT w id cnt cs sg rr).2 12 = va_cpy (w.2 12) (w.2 12) 0 200 cs := rfl
theorem end_13 (w : zMS) (id : List Int32) (cnt cs sg rr : Nat) : (endT w id cnt cs sg rr).2 13 = va_cpy (w.2 13) (w.2 13) 0 600 (3 * sg) := rfl
theorem end_15 (w : zMS) (id : List Int32) (cnt cs sg rr : Nat) : (endT w id cnt cs sg rr).2 15 = lrow (w.2 15) (recF (w.2 14) id rr) := rfl
theorem end_MI {w : zMS} (hi : MI w) (id : List Int32) (cnt cs sg rr : Nat) : MI (endT w id cnt cs sg rr) := by
  obtain ⟨i1, i2, i3, i4, i5, i6, i7, i8⟩ := hi
  unfold MI
  rw [end_r w id cnt cs sg rr 1 (by omega), end_r w id cnt cs sg rr 16 (by omega), end_r w id cnt cs sg rr 20 (by omega), end_r w id cnt cs sg rr 22 (by omega), end_r w id cnt cs sg rr 23 (by omega), end_12, end_13]
  exact ⟨i1, fun i => zch_cpy i2 _ _ _ i, fun i => zch_cpy i3 _ _ _ i, i4, i5, i6, i7, i8⟩
theorem end_Kp {w : zMS} {l : List zSeg} (hT : mTab w (entA 1 l)) (hN : mNam w (nmA l) l.length) (hC : ∀ i, zch (w.2 12 i)) (hl : (entA 1 l).length ≤ 220) (hf : (flat (entA 1 l)).length ≤ 200) (hh : hdOk l) (id : List Int32) (rr : Nat) : mKp (endT w id (entA 1 l).length (flat (entA 1 l)).length l.length rr) l := by
  have := keep_Kp (w := mrc w (recF (w.2 14) id rr)) (l := l) hT hN hC hl hf hh
  exact this
theorem fin_end (X : zX) (d : Nat) (hX : X.2.2.category = 1) {hq : zH} {l : List zSeg} {sp la rr : Nat} {b' : Bool} {S F g : Nat → Int32} (hz : zlow hq) (h8 : hq.1 % 8 = 0) (hO : hq.2.2 100 = some (bmO la sp (nI rr) (zb b'))) (hsl : (sp = 119 ∧ la = 124) ∨ (sp = 124 ∧ la = 119)) (hrr : rr < 20) (hF : isF hq 0 F) (hR : isCh hq 115 40 0 g) (hA : ∃ S, isSp hq 113 S) (hSpare : cSp hq la) (hMl : isMl hq sp l) (hl0 : l ≠ []) (hS : isSp hq (sp + 1) S) (hSz : ∀ k, k < 5 → zch (S k)) (hhd : hdOk l) (hid : idOk (vE (entA 1 l) 1 2 1 1)) (x : Option Value) : ∃ h', zR X (d + 11) 5 116 [some (.ref 100), x] [] hq (some (.int (nI (ansF rr))), h') ∧ (∀ (w : zMS) (oc : Nat → Int32) (pt : Nat → Option Nat) (qt : zMe), w.1 2 = 1 → w.1 3 = nI rr → w.1 4 = zb b' → F = w.2 1 → cWr hq w → (∀ k, k < 5 → S k = w.2 14 k) → mTab w (entA 1 l) → mNam w (nmA l) l.length → (∀ i, zch (w.2 12 i)) → cLd hq w → HosW hq w oc pt qt → CI h' (endT w ((vE (entA 1 l) 1 2 1 1).getD []) (entA 1 l).length (flat (entA 1 l)).length l.length rr)) ∧ (∀ c, 129 ≤ c → c < 156 → h'.2.2 c = hq.2.2 c) ∧ h'.1 = hq.1 ∧ h'.2.1 = hq.2.1 ∧ zlow h' := by
  obtain ⟨f, n, st, o, m1, m2, m3, m4, m5, m6⟩ := ml_id hMl hl0
  have hla : 119 ≤ sp ∧ sp < 125 := by omega
  have e0 : chL hq 115 40 [] g = hq := chS_self hR
  have hne : ∀ (L : List Int32) (c : Nat), c ≠ 115 → c ≠ 116 → (chL hq 115 40 L g).2.2 c = hq.2.2 c := fun L c q1 q2 => chS_ne q1 q2
  have hfd : ∀ L, zR X (d + 4 + 4) 78 0 (zent 10 [.ref sp, .int 1, .int 2, .int 1, .int 1]) [] (chL hq 115 40 L g) (some (.int (tI o)), (chL hq 115 40 L g)) := fun L => m6 X _ _ (isM_fr m1 (fun i hi => hne L _ (by omega) (by omega)))
  have hwr := e_B_writeReceipt X (d + 4) hX hq hz la sp rr hrr (zb b') hO hla f n st l.length m1 m2 S hS hSz g o m3 m5 hfd
  rw [e0, m4, recC_F _ _ _ hrr] at hwr
  generalize hrec : recF S ((vE (entA 1 l) 1 2 1 1).getD []) rr = rec at hwr
  have hlen : rec.length ≤ 40 := by rw [← hrec]; exact recF_len hid.2.1
  have hO' := (hne rec 100 (by decide) (by decide)).trans hO
  have hnf := f_B_end X d hq _ la sp rr hrr (zb b') x hO hO' hwr
  refine ⟨_, hnf, fun w oc pt qt hw2 hw3 hw4 hFw hWr hS5 hT hN hC hLd hHo => ?_, fun c q1 q2 => hne rec c (by omega) (by omega), rfl, rfl, chS_low hz (by decide)⟩
  rw [recF_cong hS5] at hrec
  obtain ⟨f', st', hM', hag, h200, hl8, hok, hst⟩ := id hMl
  obtain ⟨b1, b2⟩ := ent_b hl0 hok h200
  have er : ∀ k, k = 1 ∨ k = 14 ∨ 16 ≤ k → (endT w ((vE (entA 1 l) 1 2 1 1).getD []) (entA 1 l).length (flat (entA 1 l)).length l.length rr).2 k = w.2 k := fun k hk => end_r _ _ _ _ _ _ k hk
  have en : ∀ k, k ≠ 0 → k ≠ 5 → (endT w ((vE (entA 1 l) 1 2 1 1).getD []) (entA 1 l).length (flat (entA 1 l)).length l.length rr).1 k = w.1 k := fun k k0 k5 => by
    show va_up (va_up w.1 5 _) 0 0 k = w.1 k
    rw [va_up_ne _ _ k0, va_up_ne _ _ k5]
  have e15 : (endT w ((vE (entA 1 l) 1 2 1 1).getD []) (entA 1 l).length (flat (entA 1 l)).length l.length rr).2 15 = lrow (w.2 15) rec := by rw [← hrec]; exact end_15 _ _ _ _ _ _
  have en5 : (endT w ((vE (entA 1 l) 1 2 1 1).getD []) (entA 1 l).length (flat (entA 1 l)).length l.length rr).1 5 = nI rec.length := by rw [← hrec]; rfl
  have en0 : (endT w ((vE (entA 1 l) 1 2 1 1).getD []) (entA 1 l).length (flat (entA 1 l)).length l.length rr).1 0 = nI 0 := rfl
  have hK := end_Kp hT hN hC b1 b2 hhd ((vE (entA 1 l) 1 2 1 1).getD []) rr
  generalize endT w ((vE (entA 1 l) 1 2 1 1).getD []) (entA 1 l).length (flat (entA 1 l)).length l.length rr = y at er en e15 en5 en0 hK ⊢
  refine ⟨chS_low hz (by decide), h8, la, sp, b', l, oc, pt, qt, ⟨?_, (en 4 (by decide) (by decide)).trans hw4, by omega⟩, ⟨0, F, ⟨(hne rec 101 (by decide) (by decide)).trans hF.1, isCh_fr hF.2 (hne rec _ (by decide) (by decide)) (hne rec _ (by decide) (by decide))⟩, by decide, en0, hFw.trans (er 1 (by omega)).symm, fun i hi => absurd hi (Nat.not_lt_zero _)⟩, ⟨rec.length, lrow g rec, ?_, hlen, en5, fun i hi => ?_⟩, ?_, ?_, cSp_fr hSpare (fun i hi => hne rec _ (by omega) (by omega)), ⟨isMl_fr hMl (fun i hi => hne rec _ (by omega) (by omega)), S, isSp_fr hS (hne rec _ (by omega) (by omega)) (hne rec _ (by omega) (by omega))⟩, hK, ?_, ?_⟩
  · rw [en 2 (by decide) (by decide), en 3 (by decide) (by decide), hw2, if_neg (by decide), hw3]
    exact hO'
  · have := chS_is hq 115 40 (rec.take 40).length (lrow g (rec.take 40))
    unfold chL
    rw [List.take_of_length_le hlen] at this ⊢
    exact this
  · rw [e15, lrow_at hi, lrow_at hi]
  · obtain ⟨n2, g2, c1, c2, c3, c4⟩ := hWr
    exact ⟨n2, g2, isCh_fr c1 (hne rec _ (by decide) (by decide)) (hne rec _ (by decide) (by decide)), c2, (en 7 (by decide) (by decide)).trans c3, fun i hi => by rw [er 25 (by omega)]; exact c4 i hi⟩
  · obtain ⟨S2, c1⟩ := hA
    exact ⟨S2, isSp_fr c1 (hne rec _ (by decide) (by decide)) (hne rec _ (by decide) (by decide))⟩
  · obtain ⟨ids, rs, o2, kp, Tx, c1, c2, c3⟩ := cLd_fr hLd (fun a q1 q2 => hne rec a (by omega) (by omega))
    exact ⟨ids, rs, o2, kp, Tx, c1, (en 6 (by decide) (by decide)).trans c2, by rw [er 16 (by omega), er 17 (by omega)]; exact c3⟩
  · exact Hos_m (fun k k1 k2 => er k (by omega)) (Hos_fr hHo rfl (fun a ha => hne rec a (by omega) (by omega)))
