/-! BOTH: what a change leaves; typing -/
theorem pat_refl (x : zMS) (p : Nat) : patSame x x p := ⟨rfl, rfl, rfl, rfl, fun _ _ => rfl, rfl, fun _ _ => ⟨rfl, rfl⟩⟩
theorem Hos_fr {h h' : zH} {ms : zMS} {oc : Nat → Int32} {pt : Nat → Option Nat} {qt : zMe} (H : HosW h ms oc pt qt) (hn : h'.1 = h.1) (hf : ∀ a, (104 ≤ a ∧ a < 110) ∨ 156 ≤ a → h'.2.2 a = h.2.2 a) : HosW h' ms oc pt qt :=
  Hos_same H ⟨(hf 104 (by omega)).trans H.1.1, (hf 105 (by omega)).trans H.1.2.1, (hf 106 (by omega)).trans H.1.2.2⟩ ⟨(hf 107 (by omega)).trans H.2.1.1, (hf 108 (by omega)).trans H.2.1.2.1, (hf 109 (by omega)).trans H.2.1.2.2⟩ H.2.2.1 hn (fun a ha => hf a (Or.inr ha)) (fun p _ _ => pat_refl ms p) rfl
theorem isCh_fr {h h' : zH} {a N n : Nat} {g : Nat → Int32} (hc : isCh h a N n g) (h0 : h'.2.2 a = h.2.2 a) (h1 : h'.2.2 (a + 1) = h.2.2 (a + 1)) : isCh h' a N n g := ⟨h0.trans hc.1, h1.trans hc.2⟩
theorem isSp_fr {h h' : zH} {a : Nat} {S : Nat → Int32} (hc : isSp h a S) (h0 : h'.2.2 a = h.2.2 a) (h1 : h'.2.2 (a + 1) = h.2.2 (a + 1)) : isSp h' a S := ⟨h0.trans hc.1, h1.trans hc.2⟩
theorem isM_fr {h h' : zH} {a : Nat} {f : Nat → Int32} {n : Nat} {st : Nat → Int32} {k : Nat} (hM : isM h a f n st k) (hf : ∀ i, i < 5 → h'.2.2 (a + i) = h.2.2 (a + i)) : isM h' a f n st k := ⟨(hf 0 (by decide)).trans hM.1, (hf 3 (by decide)).trans hM.2.1, (hf 4 (by decide)).trans hM.2.2⟩
theorem isMl_fr {h h' : zH} {a : Nat} {l : List zSeg} (hM : isMl h a l) (hf : ∀ i, i < 5 → h'.2.2 (a + i) = h.2.2 (a + i)) : isMl h' a l := by
  obtain ⟨f, st, m, r⟩ := hM
  exact ⟨f, st, isM_fr m hf, r⟩
theorem cFr_fr {h h' : zH} {ms : zMS} (hc : cFr h ms) (hf : ∀ a, 101 ≤ a → a < 104 → h'.2.2 a = h.2.2 a) : cFr h' ms := by
  obtain ⟨sz, F, f1, r⟩ := hc
  exact ⟨sz, F, ⟨(hf 101 (by decide) (by decide)).trans f1.1, isCh_fr f1.2 (hf 102 (by decide) (by decide)) (hf 103 (by decide) (by decide))⟩, r⟩
theorem cRc_fr {h h' : zH} {ms : zMS} (hc : cRc h ms) (h0 : h'.2.2 115 = h.2.2 115) (h1 : h'.2.2 116 = h.2.2 116) : cRc h' ms := by
  obtain ⟨n, g, c, r⟩ := hc
  exact ⟨n, g, isCh_fr c h0 h1, r⟩
theorem cWr_fr {h h' : zH} {ms : zMS} (hc : cWr h ms) (h0 : h'.2.2 117 = h.2.2 117) (h1 : h'.2.2 118 = h.2.2 118) : cWr h' ms := by
  obtain ⟨n, g, c, r⟩ := hc
  exact ⟨n, g, isCh_fr c h0 h1, r⟩
theorem cSp_fr {h h' : zH} {m : Nat} (hc : cSp h m) (hf : ∀ i, i < 5 → h'.2.2 (m + i) = h.2.2 (m + i)) : cSp h' m := by
  obtain ⟨⟨f, n, st, k, c⟩, S, s⟩ := hc
  exact ⟨⟨f, n, st, k, isM_fr c hf⟩, S, isSp_fr s (hf 1 (by decide)) (hf 2 (by decide))⟩
theorem cLd_fr {h h' : zH} {ms : zMS} (hc : cLd h ms) (hf : ∀ a, 110 ≤ a → a < 113 → h'.2.2 a = h.2.2 a) : cLd h' ms := by
  obtain ⟨ids, rs, o, kp, Tx, c, r⟩ := hc
  exact ⟨ids, rs, o, kp, Tx, ⟨(hf 110 (by decide) (by decide)).trans c.1, (hf 111 (by decide) (by decide)).trans c.2.1, (hf 112 (by decide) (by decide)).trans c.2.2⟩, r⟩
/-- the class's cells stay as they are -/
theorem CI_fr {h h' : zH} {ms : zMS} (H : CI h ms) (hn : h'.1 = h.1) (hf : ∀ a, a < 129 ∨ 156 ≤ a → h'.2.2 a = h.2.2 a) : CI h' ms := by
  obtain ⟨hz, h8, sp, la, b, l, oc, pt, qt, hO, p1, p2, p3, ⟨S, p4⟩, p5, ⟨p6, S', p7⟩, p8, p9, p10⟩ := H
  have hsl := hO.2.2
  refine ⟨fun a ha => (hf a (by omega)).trans (hz a ha), by omega, sp, la, b, l, oc, pt, qt, ⟨(hf 100 (by omega)).trans hO.1, hO.2⟩, cFr_fr p1 (fun a _ _ => hf a (by omega)), cRc_fr p2 (hf _ (by omega)) (hf _ (by omega)), cWr_fr p3 (hf _ (by omega)) (hf _ (by omega)), ⟨S, isSp_fr p4 (hf _ (by omega)) (hf _ (by omega))⟩, cSp_fr p5 (fun i hi => hf _ (by omega)), ⟨isMl_fr p6 (fun i hi => hf _ (by omega)), S', isSp_fr p7 (hf _ (by omega)) (hf _ (by omega))⟩, p8, cLd_fr p9 (fun a _ _ => hf a (by omega)), Hos_fr p10 hn (fun a ha => hf a (by omega))⟩
theorem Inv_mset {h : zH} {ms : zMS} (hi : MI ms) (hc : CI h ms) : Inv (mset h ms) ms := ⟨RP_mset h ms, hi, CI_fr hc rfl (fun _ ha => mset_out ha)⟩
/-- only seven rows of the reference speak of the hospital -/
theorem Hos_m {h : zH} {x y : zMS} {oc : Nat → Int32} {pt : Nat → Option Nat} {qt : zMe} (e : ∀ k, 18 ≤ k → k ≤ 24 → y.2 k = x.2 k) (H : HosW h x oc pt qt) : HosW h y oc pt qt :=
  Hos_same H H.1 H.2.1 H.2.2.1 rfl (fun _ _ => rfl) (fun p _ _ => ⟨by rw [e 18 (by decide) (by decide)], by rw [e 19 (by decide) (by decide)], by rw [e 20 (by decide) (by decide)], by rw [e 20 (by decide) (by decide)], fun j _ => by rw [e 21 (by decide) (by decide)], by rw [e 22 (by decide) (by decide)], fun j _ => ⟨by rw [e 23 (by decide) (by decide)], by rw [e 24 (by decide) (by decide)]⟩⟩) (e 19 (by decide) (by decide))
/-- a call: both answer the same, and all holds again -/
def stp (X : zX) (d : Nat) (jc jm : Nat) (args : List Value) (h : zH) : Prop := ∃ v h1 h2 ms2, zR X (d + 12) jc 0 (zent (zmaxL jc) (.ref 100 :: args)) [] h (some (.int v), h1) ∧ zR X (d + 12) jm 0 (zent (zmaxL jm) (.ref 129 :: args)) [] h1 (some (.int v), h2) ∧ (∃ ms1, RP h1 ms1) ∧ zlow h1 ∧ Inv h2 ms2 ∧ h.1 ≤ h2.1 ∧ h2.1 ≤ h.1 + 8 ∧ h.2.1 ≤ h2.2.1 ∧ h2.2.1 ≤ h.2.1 + 59
theorem stp_ask {X : zX} {d jc jm : Nat} {args : List Value} {h : zH} {ms : zMS} (H : Inv h ms) (ha : ask X d jc jm args h) : stp X d jc jm args h := by
  obtain ⟨v, h1, h2⟩ := ha
  exact ⟨v, h, h, ms, h1, h2, ⟨_, H.1⟩, H.2.2.1, H, Nat.le_refl _, by omega, Nat.le_refl _, by omega⟩
theorem s_type {X : zX} {d : Nat} {h : zH} {ms : zMS} (H : Inv h ms) (x : Int64) : stp X d 1 97 [.long x] h := by
  obtain ⟨hr, hi, hC⟩ := id H
  obtain ⟨hz, h8, sp, la, b, l, oc, pt, qt, hO, ⟨sz, F, f1, f2, f3, f4, f5⟩, p2, p3, ⟨S, p4⟩, p5, ⟨p6, S', p7⟩, p8, p9, p10⟩ := hC
  have hc := e_B_type X (d + 10) h sp la _ _ hO.1 f1.1 x sz f2 F
  rw [chS_self f1.2] at hc
  have hm := e_Mod_type X (d + 12) h ms x sz f3 f2
  have hm1 := hm
  rw [RP_set hr] at hm
  cases ht : tyF x with
  | none =>
    rw [ht] at hc hm
    exact ⟨-1, h, h, ms, hc, hm, ⟨_, hr⟩, hz, H, Nat.le_refl _, by omega, Nat.le_refl _, by omega⟩
  | some n =>
    rw [ht] at hc hm hm1
    dsimp only at hc hm hm1
    by_cases hl : 200 < sz + n
    · rw [if_pos hl] at hc hm
      exact ⟨-1, h, h, ms, hc, hm, ⟨_, hr⟩, hz, H, Nat.le_refl _, by omega, Nat.le_refl _, by omega⟩
    · rw [if_neg hl] at hc
      have hsl := hO.2.2
      have hf : ∀ a, a ≠ 102 → a ≠ 103 → (chS h 102 200 (sz + n) (zpas F sz (fun i => nI (bt x i)) n)).2.2 a = h.2.2 a := fun a q1 q2 => chS_ne q1 q2
      have hR1 : RP (chS h 102 200 (sz + n) (zpas F sz (fun i => nI (bt x i)) n)) ms := fun k hk => (hf _ (by omega) (by omega)).trans (hr k hk)
      have hm2 := e_Mod_type X (d + 12) (chS h 102 200 (sz + n) (zpas F sz (fun i => nI (bt x i)) n)) ms x sz f3 f2
      rw [RP_set hR1, ht] at hm2
      dsimp only at hm2
      rw [if_neg hl] at hm2
      refine ⟨nI n, _, _, mty ms sz x n, hc, hm2, ⟨_, hR1⟩, fun a ha => (hf a (by omega) (by omega)).trans (hz a ha), Inv_mset ?_ ?_, Nat.le_refl _, by show h.1 ≤ h.1 + 8; omega, Nat.le_refl _, by show h.2.1 ≤ h.2.1 + 59; omega⟩
      · obtain ⟨i1, i2, i3, i4, i5⟩ := hi
        refine ⟨fun i => ?_, i2, i3, i4, i5⟩
        show zch (zpas (ms.2 1) sz (fun i => nI (bt x i)) n i)
        unfold zpas
        split
        · exact zch_bt (bt_lt x _)
        · exact i1 i
      · refine ⟨fun a ha => (hf a (by omega) (by omega)).trans (hz a ha), h8, sp, la, b, l, oc, pt, qt, ⟨(hf 100 (by decide) (by decide)).trans hO.1, hO.2⟩, ⟨sz + n, _, ⟨(hf 101 (by decide) (by decide)).trans f1.1, chS_is _ _ _ _ _⟩, by omega, rfl, ?_, fun i hi => ?_⟩, cRc_fr p2 (hf _ (by decide) (by decide)) (hf _ (by decide) (by decide)), cWr_fr p3 (hf _ (by decide) (by decide)) (hf _ (by decide) (by decide)), ⟨S, isSp_fr p4 (hf _ (by decide) (by decide)) (hf _ (by decide) (by decide))⟩, cSp_fr p5 (fun i hi => hf _ (by omega) (by omega)), ⟨isMl_fr p6 (fun i hi => hf _ (by omega) (by omega)), S', isSp_fr p7 (hf _ (by omega) (by omega)) (hf _ (by omega) (by omega))⟩, p8, cLd_fr p9 (fun a _ _ => hf a (by omega) (by omega)), Hos_m (fun k k1 k2 => va_up_ne _ _ (by omega)) (Hos_fr p10 rfl (fun a ha => hf a (by omega) (by omega)))⟩
        · rw [show (mty ms sz x n).2 1 = zpas (ms.2 1) sz (fun i => nI (bt x i)) n by (unfold mty; dsimp only; exact up_at)]
          rw [f4]
        · unfold zpas
          by_cases q : sz ≤ i ∧ i < sz + n
          · rw [if_pos q]; exact ⟨_, bt_lt x _, rfl⟩
          · rw [if_neg q]; exact f5 i (by omega)
