/-! BOTH: end, a message that comes again -/
theorem eX_n {ms m1 : zMS} {S' : Nat → Int32} (h : mpar (msep (eA ms) S') m1) {k : Nat} (k1 : k ≠ 1) (k3 : k ≠ 3) : (eX m1).1 k = (eA ms).1 k := by
  show va_up (va_up m1.1 0 (m1.1 0)) 3 (nI 0) k = _
  rw [va_up_ne _ _ k3, up_self]
  exact h.n k k1
theorem s_end_old {X : zX} {d : Nat} (hX : X.2.2.category = 1) {h : zH} {ms : zMS} (H : Inv h ms) {sz : Nat} (h0 : ms.1 0 = nI sz) (hsz : sz ≤ 200) (hrej : rejF (ms.2 1) sz (sepF (ms.2 1) sz (ms.2 14)) = 0) {h5 : zH} {sp la : Nat} {g S : Nat → Int32} {l : List zSeg} {oc : Nat → Int32} {pt : Nat → Option Nat} {qt : zMe} {ids : Nat → Int64} {rs : Nat → Int32} {o kp : Nat} {Tx : Nat → zT} (cA : zlow h5 ∧ h5.1 = h.1 ∧ h5.2.1 = h.2.1 ∧ h5.1 % 8 = 0 ∧ ((sp = 119 ∧ la = 124) ∨ (sp = 124 ∧ la = 119))) (cB : h5.2.2 100 = some (bmO la sp (nI 0) 0) ∧ isF h5 0 (ms.2 1) ∧ isCh h5 115 40 0 g ∧ (∃ S, isSp h5 113 S) ∧ cSp h5 la ∧ isMl h5 sp l ∧ l ≠ [] ∧ isSp h5 (sp + 1) S ∧ (∀ k, k < 5 → S k = sepF (ms.2 1) sz (ms.2 14) k) ∧ (∀ k, k < 5 → zch (S k)) ∧ hdOk l ∧ idOk (vE (entA 1 l) 1 2 1 1) ∧ msgF (ms.2 1) sz (sepF (ms.2 1) sz (ms.2 14)) = some l ∧ cWr h5 ms) (cC : isLd h5 ids rs o ∧ ms.1 6 = nI kp ∧ ledR ids rs o (ms.2 16) (ms.2 17) kp Tx ∧ HosW h5 ms oc pt qt ∧ RP h5 ms) {k : Nat} (hzf : zfst (same6 (ms.2 16) (vE (entA 1 l) 1 2 1 1)) 0 kp = some k) (hcls : ∀ u, zR X (d + 1 + 11) 5 65 [some (.ref 100), some (.int (ms.2 17 k))] [] h5 u → zR X (d + 1 + 11) 5 0 (zent 2 [.ref 100]) [] h u) : stp X d 5 98 [] h := by
  obtain ⟨hr, hi, -⟩ := id H
  obtain ⟨z5, e1, e2, e8, hsl⟩ := cA
  obtain ⟨hO, hF, hR, hA, hSp, hMl, hl0, hS, hS5, hSz, hhd, hid, hmsg, hWr⟩ := cB
  obtain ⟨hL, hk6, hled, hHo, hRP⟩ := cC
  have hk := zfst_some hzf
  obtain ⟨rk, hrk, erk⟩ := hled.2.2.2.2.2.2 k (by omega)
  rw [erk] at hcls
  have h6n : ∀ c, c ≠ 100 → (zwr h5 100 (bmO la sp (nI rk) 1)).2.2 c = h5.2.2 c := fun c q => zwr_ne q
  have h6O : (zwr h5 100 (bmO la sp (nI rk) 1)).2.2 100 = some (bmO la sp (nI rk) (zb true)) := zwr_at _ _ _
  have h6z : zlow (zwr h5 100 (bmO la sp (nI rk) 1)) := zlow_wr z5 (by decide)
  have h61 : (zwr h5 100 (bmO la sp (nI rk) 1)).1 = h5.1 := rfl
  have h62 : (zwr h5 100 (bmO la sp (nI rk) 1)).2.1 = h5.2.1 := rfl
  have hde := d_B_end X (d + 1) h5 la sp (nI 0) 0 (nI rk) (fun q => nI_neg1 (w := rk) (by omega) q) hO
  generalize zwr h5 100 (bmO la sp (nI rk) 1) = h6 at h6n h6O h6z h61 h62 hde
  obtain ⟨h', hrun, hCI, hfr, q1, q2, q3⟩ := fin_end X (d + 1) hX (hq := h6) (l := l) (sp := sp) (la := la) (rr := rk) (b' := true) (S := S) (F := ms.2 1) (g := g) h6z (by rw [h61]; exact e8) h6O hsl hrk ⟨(h6n _ (by decide)).trans hF.1, isCh_fr hF.2 (h6n _ (by decide)) (h6n _ (by decide))⟩ (isCh_fr hR (h6n _ (by decide)) (h6n _ (by decide))) (by obtain ⟨S2, c⟩ := hA; exact ⟨S2, isSp_fr c (h6n _ (by decide)) (h6n _ (by decide))⟩) (cSp_fr hSp (fun i hi => h6n _ (by omega))) (isMl_fr hMl (fun i hi => h6n _ (by omega))) hl0 (isSp_fr hS (h6n _ (by omega)) (h6n _ (by omega))) hSz hhd hid (some (.int (nI rk)))
  have hcl := hcls _ (hde _ hrun)
  have hR' : RP h' ms := fun k hk => (hfr _ (by omega) (by omega)).trans ((h6n _ (by omega)).trans (hRP k hk))
  obtain ⟨m1, S1, hpar, -, hacc⟩ := e_Mod_end X (d + 5) h' ms sz h0 hsz hi.1 hi.2.1 hi.2.2.1 (fun j _ => hi.2.2.2.1 j) kp hk6 hled.1 hled.2.2.2.2.2.2 (fun p => (ms.2 22 p).toNatClampNeg) (nr_of hi.2.2.2.2.2.2.1 hHo)
  obtain ⟨l', kd, rr, zk, hrr, hkf, hs14, hfit, h8n, hmsg', hl8, hidF, hT, hNm, hV, h3, hrows, hmrun⟩ := hacc hrej
  have el : l' = l := Option.some.inj (hmsg'.symm.trans hmsg)
  subst el
  have hst : stepS (eX m1) l'.length kp kd = (va_up (va_up (eX m1).1 4 1) 3 (nI rk), m1.2) := by
    unfold stepS
    rw [hV, show (eX m1).2 16 = ms.2 16 from par_r hpar (by omega), hzf]
    dsimp only
    rw [show (eX m1).2 17 = ms.2 17 from par_r hpar (by omega), erk]
    rfl
  rw [hst] at h3 hrows hmrun
  have er : rr = rk := by
    have h3' : va_up (va_up (eX m1).1 4 1) 3 (nI rk) 3 = nI rr := h3
    rw [up_at] at h3'
    have : nI rk = nI rr := h3'
    exact ((nI_eq (by omega) (by omega)).mp this).symm
  subst er
  rw [RP_set hR'] at hmrun
  have hmi : MI m1 := par_MI hpar hi
  have wn : ∀ j, j ≠ 1 → j ≠ 3 → j ≠ 4 → (va_up (va_up (eX m1).1 4 1) 3 (nI rr)) j = (eA ms).1 j := fun j j1 j3 j4 => by
    rw [va_up_ne _ _ j3, va_up_ne _ _ j4]; exact eX_n hpar j1 j3
  refine ⟨_, h', _, _, hcl, hmrun, ⟨_, hR'⟩, q3, Inv_mset (end_MI (w := (va_up (va_up (eX m1).1 4 1) 3 (nI rr), m1.2)) hmi _ _ _ _ _) (hCI (va_up (va_up (eX m1).1 4 1) 3 (nI rr), m1.2) oc pt qt ?_ (show va_up (va_up (eX m1).1 4 1) 3 (nI rr) 3 = nI rr from up_at) ?_ (par_r hpar (by omega)).symm ?_ ?_ hT hNm hmi.2.1 ?_ ?_), ?_, ?_, ?_, ?_⟩
  · exact (wn 2 (by decide) (by decide) (by decide)).trans rfl
  · show va_up (va_up (eX m1).1 4 1) 3 (nI rr) 4 = zb true
    rw [va_up_ne _ _ (by decide), up_at]; rfl
  · obtain ⟨n2, g2, w1, w2, w3, w4⟩ := hWr
    exact ⟨n2, g2, isCh_fr w1 (h6n _ (by decide)) (h6n _ (by decide)), w2, (wn 7 (by decide) (by decide) (by decide)).trans w3, fun i hi => by rw [show (va_up (va_up (eX m1).1 4 1) 3 (nI rr), m1.2).2 25 = ms.2 25 from par_r hpar (by omega)]; exact w4 i hi⟩
  · intro j hj
    rw [hS5 j hj, ← hs14]
  · refine ⟨ids, rs, o, kp, Tx, ⟨(h6n _ (by decide)).trans hL.1, (h6n _ (by decide)).trans hL.2.1, (h6n _ (by decide)).trans hL.2.2⟩, (wn 6 (by decide) (by decide) (by decide)).trans hk6, ?_⟩
    rw [show (va_up (va_up (eX m1).1 4 1) 3 (nI rr), m1.2).2 16 = ms.2 16 from par_r hpar (by omega), show (va_up (va_up (eX m1).1 4 1) 3 (nI rr), m1.2).2 17 = ms.2 17 from par_r hpar (by omega)]
    exact hled
  · exact Hos_m (fun k k1 k2 => par_r hpar (by omega)) (Hos_fr hHo h61 (fun a ha => h6n a (by omega)))
  · show h.1 ≤ h'.1; omega
  · show h'.1 ≤ h.1 + 8; omega
  · show h.2.1 ≤ h'.2.1; omega
  · show h'.2.1 ≤ h.2.1 + 59; omega
