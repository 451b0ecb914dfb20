/-! BOTH: end, a new message -/
theorem s_end_new {X : zX} {d : Nat} (hX : X.2.2.category = 1) {h : zH} {ms : zMS} (H : Inv h ms) {sz : Nat} (h0 : ms.1 0 = nI sz) (hsz : sz ≤ 200) (hrej : rejF (ms.2 1) sz (sepF (ms.2 1) sz (ms.2 14)) = 0) {h5 : zH} {sp la : Nat} {g S : Nat → Int32} {l : List zSeg} {oc : Nat → Int32} {pt : Nat → Option Nat} {qt : zMe} {ids : Nat → Int64} {rs : Nat → Int32} {o kp : Nat} {Tx : Nat → zT} (cA : zlow h5 ∧ h5.1 = h.1 ∧ h5.2.1 = h.2.1 ∧ h5.1 % 8 = 0 ∧ ((sp = 119 ∧ la = 124) ∨ (sp = 124 ∧ la = 119))) (cB : h5.2.2 100 = some (bmO la sp (nI 0) 0) ∧ isF h5 0 (ms.2 1) ∧ isCh h5 115 40 0 g ∧ (∃ S, isSp h5 113 S) ∧ cSp h5 la ∧ isMl h5 sp l ∧ l ≠ [] ∧ isSp h5 (sp + 1) S ∧ (∀ k, k < 5 → S k = sepF (ms.2 1) sz (ms.2 14) k) ∧ (∀ k, k < 5 → zch (S k)) ∧ hdOk l ∧ idOk (vE (entA 1 l) 1 2 1 1) ∧ msgF (ms.2 1) sz (sepF (ms.2 1) sz (ms.2 14)) = some l ∧ cWr h5 ms) (cC : isLd h5 ids rs o ∧ ms.1 6 = nI kp ∧ ledR ids rs o (ms.2 16) (ms.2 17) kp Tx ∧ HosW h5 ms oc pt qt ∧ RP h5 ms) (hzf : zfst (same6 (ms.2 16) (vE (entA 1 l) 1 2 1 1)) 0 kp = none) (hcls : ∀ u, zR X (d + 1 + 11) 5 65 [some (.ref 100), some (.int (-1))] [] h5 u → zR X (d + 1 + 11) 5 0 (zent 2 [.ref 100]) [] h u) : stp X d 5 98 [] h := by
  obtain ⟨hr, hi, -⟩ := id H
  obtain ⟨z5, e1, e2, e8, hsl⟩ := cA
  obtain ⟨hO, hF, hR, hA, hSp, hMl, hl0, hS, hS5, hSz, hhd, hid, hmsg, hWr⟩ := cB
  obtain ⟨hL, hk6, hled, hHo, hRP⟩ := cC
  have hM := fun g' => e_Mod_end X (d + 5) g' ms sz h0 hsz hi.1 hi.2.1 hi.2.2.1 (fun j _ => hi.2.2.2.1 j) kp hk6 hled.1 hled.2.2.2.2.2.2 (fun p => (ms.2 22 p).toNatClampNeg) (nr_of hi.2.2.2.2.2.2.1 hHo)
  have hl1 : 1 ≤ l.length := List.length_pos_iff.mpr hl0
  have hok : ∀ s, s ∈ l → s.1.length = 3 := by
    obtain ⟨f, st, -, -, -, -, hok, -⟩ := id hMl
    exact fun s hs => (hok s hs).1
  -- the reference, once, for its state
  obtain ⟨ma, Sa, para, -, hacca⟩ := hM h
  obtain ⟨l', kd, ra, zk, -, hkf, -, -, -, hmsg', hl8, -, -, hNa, hVa, -, -, -⟩ := hacca hrej
  clear hacca
  have el : l' = l := Option.some.inj (hmsg'.symm.trans hmsg)
  subst el
  have hxH : HosW h5 (eX ma) oc pt qt := Hos_m (fun k k1 k2 => par_r para (by omega)) hHo
  obtain ⟨h7, oc', pt', qt', t1, t2, t3⟩ := take_tie X (d + 1 + 2) hX z5 hxH e8 (a := sp) (by omega) (by omega) hl0 hMl hVa (fun a b c i hi => mseg_sgL (ms := eX ma) hNa (by omega) hok a b c i hi) zk (by rw [hVa]; exact hkf)
  obtain ⟨r7, hr7, er7, hans⟩ := judge_c (mV (eX ma)) (mseg (eX ma)) l'.length ((eX ma).2 19) ((eX ma).2 18) (mq (eX ma)) kd
  have hans2 : ∀ (_ : Unit), (ansF r7 = 2 ↔ r7 = 6) := fun _ => hans
  clear hans
  rw [er7] at t1
  obtain ⟨tf, tn, ts1, ts2⟩ := t3
  have h7n : ∀ c, c < 104 ∨ (110 ≤ c ∧ c < 156) → h7.2.2 c = h5.2.2 c := tf
  have h7O := (h7n 100 (by omega)).trans hO
  have h7z : zlow h7 := fun a ha => (h7n a (by omega)).trans (z5 a ha)
  -- the object
  have h8n : ∀ c, c ≠ 100 → (zwr h7 100 (bmO la sp (nI r7) 0)).2.2 c = h7.2.2 c := fun c q => zwr_ne q
  have h8O : (zwr h7 100 (bmO la sp (nI r7) 0)).2.2 100 = some (bmO la sp (nI r7) (zb false)) := zwr_at _ _ _
  have h8z : zlow (zwr h7 100 (bmO la sp (nI r7) 0)) := zlow_wr h7z (by decide)
  have h81 : (zwr h7 100 (bmO la sp (nI r7) 0)).1 = h7.1 := rfl
  have h82 : (zwr h7 100 (bmO la sp (nI r7) 0)).2.1 = h7.2.1 := rfl
  have hee := fun h9 => e_B_end X (d + 1) h5 h7 h9 la sp (nI 0) 0 hO r7 (idP (vE (entA 1 l') 1 2 1 1)) ⟨_, hHo.1.1⟩ t1 h7O ⟨_, (h7n 110 (by omega)).trans hL.1⟩ (by obtain ⟨f6, st6, q6, -⟩ := hMl; exact ⟨_, (h7n sp (by omega)).trans q6.1⟩) (by omega)
  generalize zwr h7 100 (bmO la sp (nI r7) 0) = h8 at h8n h8O h8z h81 h82 hee
  have hg : ∀ c, c ≠ 100 → (c < 104 ∨ (110 ≤ c ∧ c < 156)) → h8.2.2 c = h5.2.2 c := fun c q0 q1 => (h8n c q0).trans (h7n c q1)
  have m8 : isMl h8 sp l' := isMl_fr hMl (fun i hi => hg _ (by omega) (by omega))
  have l8 : isLd h8 ids rs o := ⟨(hg _ (by omega) (by omega)).trans hL.1, (hg _ (by omega) (by omega)).trans hL.2.1, (hg _ (by omega) (by omega)).trans hL.2.2⟩
  obtain ⟨f, n, st, o', m1, m2, m3, m4, -, m6⟩ := ml_id m8 hl0
  have hidr := e_Mess_identity X (d + 1 + 7) h8 sp f n st l'.length m1 m2 o' m3 (m6 X _ h8 m1)
  rw [m4] at hidr
  have had := e_Ledg_add X (d + 1 + 9) h8 ids rs o hled.2.1 (idP (vE (entA 1 l') 1 2 1 1)) r7 hr7
  rw [ldS_self l8] at had
  have h9n : ∀ c, c ≠ 110 → c ≠ 111 → c ≠ 112 → (if ansF r7 = 2 then h8 else ldS h8 (vp_updL ids o (idP (vE (entA 1 l') 1 2 1 1))) (upd rs o (nI r7)) (if o + 1 < 16 then o + 1 else 0)).2.2 c = h8.2.2 c := fun c q0 q1 q2 => by
    split
    · rfl
    · exact ldS_ne q0 q1 q2
  have h91 : (if ansF r7 = 2 then h8 else ldS h8 (vp_updL ids o (idP (vE (entA 1 l') 1 2 1 1))) (upd rs o (nI r7)) (if o + 1 < 16 then o + 1 else 0)).1 = h8.1 := by split <;> rfl
  have h92 : (if ansF r7 = 2 then h8 else ldS h8 (vp_updL ids o (idP (vE (entA 1 l') 1 2 1 1))) (upd rs o (nI r7)) (if o + 1 < 16 then o + 1 else 0)).2.1 = h8.2.1 := by split <;> rfl
  have h9L : ∀ (_ : Unit), (r7 = 6 → isLd (if ansF r7 = 2 then h8 else ldS h8 (vp_updL ids o (idP (vE (entA 1 l') 1 2 1 1))) (upd rs o (nI r7)) (if o + 1 < 16 then o + 1 else 0)) ids rs o) ∧ (r7 ≠ 6 → isLd (if ansF r7 = 2 then h8 else ldS h8 (vp_updL ids o (idP (vE (entA 1 l') 1 2 1 1))) (upd rs o (nI r7)) (if o + 1 < 16 then o + 1 else 0)) (vp_updL ids o (idP (vE (entA 1 l') 1 2 1 1))) (upd rs o (nI r7)) (if o + 1 < 16 then o + 1 else 0)) := by
    refine fun _ => ⟨fun q => ?_, fun q => ?_⟩
    · rw [if_pos ((hans2 ()).mpr q)]; exact l8
    · rw [if_neg (fun z => q ((hans2 ()).mp z))]; exact ldS_is
  have hke := hee _ hidr had
  generalize (if ansF r7 = 2 then h8 else ldS h8 (vp_updL ids o (idP (vE (entA 1 l') 1 2 1 1))) (upd rs o (nI r7)) (if o + 1 < 16 then o + 1 else 0)) = h9 at h9n h91 h92 h9L hke
  have hw : ∀ c, c ≠ 100 → (c < 104 ∨ (113 ≤ c ∧ c < 156)) → h9.2.2 c = h5.2.2 c := fun c q0 q1 => (h9n c (by omega) (by omega) (by omega)).trans (hg c q0 (by omega))
  have h9z : zlow h9 := fun a ha => (hw a (by omega) (by omega)).trans (z5 a ha)
  obtain ⟨h', hrun, hCI, hfr, q1, q2, q3⟩ := fin_end X (d + 1) hX (hq := h9) (l := l') (sp := sp) (la := la) (rr := r7) (b' := false) (S := S) (F := ms.2 1) (g := g) h9z (by rw [h91, h81]; omega) ((h9n 100 (by decide) (by decide) (by decide)).trans h8O) hsl hr7 ⟨(hw _ (by decide) (by omega)).trans hF.1, isCh_fr hF.2 (hw _ (by decide) (by omega)) (hw _ (by decide) (by omega))⟩ (isCh_fr hR (hw _ (by decide) (by omega)) (hw _ (by decide) (by omega))) (by obtain ⟨S2, c⟩ := hA; exact ⟨S2, isSp_fr c (hw _ (by decide) (by omega)) (hw _ (by decide) (by omega))⟩) (cSp_fr hSp (fun i hi => hw _ (by omega) (by omega))) (isMl_fr hMl (fun i hi => hw _ (by omega) (by omega))) hl0 (isSp_fr hS (hw _ (by omega) (by omega)) (hw _ (by omega) (by omega))) hSz hhd hid (some (.int (-1)))
  have hcl := hcls _ (hke _ hrun)
  have hR' : RP h' ms := fun k hk => (hfr _ (by omega) (by omega)).trans ((hw _ (by omega) (by omega)).trans (hRP k hk))
  -- the reference, at the heap that the class leaves
  obtain ⟨mb, Sb, hpar, -, hacc⟩ := hM h'
  obtain ⟨l2, kd2, rr, zk2, hrr, hkf2, hs14, -, -, hmsg2, -, -, hT, hNm, hV, h3, hrows, hmrun⟩ := hacc hrej
  clear hacc
  have el2 : l2 = l' := Option.some.inj (hmsg2.symm.trans hmsg)
  subst el2
  have ekd : kd2 = kd := by
    have b1 : kd < 10 := by rcases zk with q | q | q | q | q | q <;> omega
    have b2 : kd2 < 10 := by rcases zk2 with q | q | q | q | q | q <;> omega
    exact (nI_eq (by omega) (by omega)).mp (hkf2.symm.trans hkf)
  subst ekd
  have hSeq : mseg (eX mb) = mseg (eX ma) := mseg_eq (x := eX mb) (y := eX ma) hNm hNa hl1 (by omega)
  have hVeq : mV (eX mb) = mV (eX ma) := hV.trans hVa.symm
  have hrq : ∀ k, 14 < k → (eX mb).2 k = (eX ma).2 k := fun k hk => (par_r hpar (Or.inr hk)).trans (par_r para (Or.inr hk)).symm
  have hjeq : judgeF (mV (eX mb)) (mseg (eX mb)) l2.length ((eX mb).2 19) ((eX mb).2 18) (mq (eX mb)) kd2 = judgeF (mV (eX ma)) (mseg (eX ma)) l2.length ((eX ma).2 19) ((eX ma).2 18) (mq (eX ma)) kd2 := by
    unfold mq
    rw [hSeq, hVeq, hrq 19 (by decide), hrq 18 (by decide), hrq 22 (by decide), hrq 23 (by decide), hrq 24 (by decide)]
  have hst : stepS (eX mb) l2.length kp kd2 = stepN (eX mb) l2.length kp kd2 := by
    unfold stepS
    rw [hV, show (eX mb).2 16 = ms.2 16 from par_r hpar (by omega), hzf]
  rw [hst] at h3 hrows hmrun
  have hmx0 : MI mb := par_MI hpar hi
  have hmx : MI (eX mb) := hmx0
  have hmi := stepN_MI hmx l2.length kp kd2
  have hsn := fun k (hk : k ≠ 6) => stepN_n (eX mb) l2.length kp kd2 hk
  have hsr := fun k (hk : k < 16 ∨ 25 ≤ k) => stepN_r (eX mb) l2.length kp kd2 k hk
  have hsN := step_N (eX mb) l2.length kp kd2
  rw [hjeq] at hsn hsN
  have hjc := jdg_cong (x := eX ma) (y := eX mb) (fun k k1 k2 => hrq k (by omega)) hVeq hSeq (judgeF (mV (eX ma)) (mseg (eX ma)) l2.length ((eX ma).2 19) ((eX ma).2 18) (mq (eX ma)) kd2) kd2
  have er : rr = r7 := by
    have e3 := (hsn 3 (by decide)).trans up_at
    rw [h3, er7] at e3
    exact (nI_eq (by omega) (by omega)).mp e3
  subst er
  rw [RP_set hR'] at hmrun
  have hV1 : mV (eX mb) 1 2 1 1 = vE (entA 1 l2) 1 2 1 1 := by rw [hV]
  rw [hV1] at hsN
  generalize hjj : judgeF (mV (eX ma)) (mseg (eX ma)) l2.length ((eX ma).2 19) ((eX ma).2 18) (mq (eX ma)) kd2 = j at *
  generalize stepN (eX mb) l2.length kp kd2 = w at *
  have wn : ∀ i, i ≠ 1 → i ≠ 3 → i ≠ 6 → w.1 i = (eA ms).1 i := fun i i1 i3 i6 => by
    rw [hsn i i6, va_up_ne _ _ i3]
    exact eX_n hpar i1 i3
  have w3 : w.1 3 = nI rr := by rw [hsn 3 (by decide), up_at]; exact er7
  have hHw : HosW h9 w oc' pt' qt' := by
    have a0 : HosW h9 (jdgW (eX ma) j kd2) oc' pt' qt' := Hos_fr t2 (h91.trans h81) (fun a ha => (h9n a (by omega) (by omega) (by omega)).trans (h8n a (by omega)))
    refine Hos_m (fun k k1 k2 => ?_) a0
    rw [hsN]
    split
    · exact hjc k k1 k2
    · rw [rem_r _ _ _ _ (by omega) (by omega)]
      exact hjc k k1 k2
  have hLw : cLd h9 w := by
    have j16 : (jdgW (eX mb) j kd2).2 16 = ms.2 16 := (jdg_r _ _ _ 16 (by omega)).trans (par_r hpar (by omega))
    have j17 : (jdgW (eX mb) j kd2).2 17 = ms.2 17 := (jdg_r _ _ _ 17 (by omega)).trans (par_r hpar (by omega))
    by_cases h6 : rr = 6
    · have hw' : w = jdgW (eX mb) j kd2 := by rw [hsN, er7, h6, if_pos (show nI 6 = (6 : Int32) from rfl)]
      refine ⟨ids, rs, o, kp, Tx, (h9L ()).1 h6, ?_, ?_⟩
      · rw [hw', jdg_n, va_up_ne _ _ (by decide), eX_n hpar (by decide) (by decide)]
        exact hk6
      · rw [hw', j16, j17]
        exact hled
    · have hw' : w = remF (jdgW (eX mb) j kd2) (vE (entA 1 l2) 1 2 1 1) kp (nI rr) := by
        rw [hsN, er7, if_neg (show ¬ nI rr = (6 : Int32) from fun z => h6 ((nI_eq (b := 6) (by omega) (by decide)).mp z))]
      have hled' : ledR ids rs o ((jdgW (eX mb) j kd2).2 16) ((jdgW (eX mb) j kd2).2 17) kp Tx := by rw [j16, j17]; exact hled
      obtain ⟨kp', Tx', y1, y2⟩ := led_add hled' hid (fun k hk q => by
        have := zfst_no hzf k (by omega) (by omega)
        rw [(same_id hled hid hk).mpr q] at this
        cases this) hrr
      refine ⟨_, _, _, kp', Tx', (h9L ()).2 h6, ?_, ?_⟩
      · rw [hw']; exact y1
      · rw [hw']; exact y2
  refine ⟨_, h', _, _, hcl, hmrun, ⟨_, hR'⟩, q3, Inv_mset (end_MI (w := w) hmi _ _ _ _ _) (hCI w oc' pt' qt' ?_ w3 ?_ ?_ ?_ ?_ ?_ ?_ hmi.2.1 hLw hHw), ?_, ?_, ?_, ?_⟩
  · exact (wn 2 (by decide) (by decide) (by decide)).trans rfl
  · exact (wn 4 (by decide) (by decide) (by decide)).trans rfl
  · rw [hsr 1 (by omega)]; exact (par_r hpar (by omega)).symm
  · obtain ⟨n2, g2, w1, w2, w3, w4⟩ := hWr
    exact ⟨n2, g2, isCh_fr w1 (hw _ (by decide) (by omega)) (hw _ (by decide) (by omega)), w2, (wn 7 (by decide) (by decide) (by decide)).trans w3, fun i hi => by rw [hsr 25 (by omega), show (eX mb).2 25 = ms.2 25 from par_r hpar (by omega)]; exact w4 i hi⟩
  · intro j hj
    rw [hS5 j hj, ← hs14, hsr 14 (by omega)]
    rfl
  · have hT' : mTab (eX mb) (entA 1 l2) := hT
    obtain ⟨y1, y2, y3, y4⟩ := hT'
    refine ⟨by rw [hsr 3 (by omega)]; exact y1, by rw [hsr 4 (by omega)]; exact y2, fun t e he => ?_, fun i x hx => by rw [hsr 12 (by omega)]; exact y4 i x hx⟩
    obtain ⟨a1, a2, a3, a4, a5, a6, a7⟩ := y3 t e he
    exact ⟨by rw [hsr 5 (by omega)]; exact a1, by rw [hsr 6 (by omega)]; exact a2, by rw [hsr 7 (by omega)]; exact a3, by rw [hsr 8 (by omega)]; exact a4, by rw [hsr 9 (by omega)]; exact a5, by rw [hsr 10 (by omega)]; exact a6, by rw [hsr 11 (by omega)]; exact a7⟩
  · have hN' : mNam (eX mb) (nmA l2) l2.length := hNm
    exact ⟨by rw [hsr 2 (by omega)]; exact hN'.1, hN'.2.1, fun i x hx => by rw [hsr 13 (by omega)]; exact hN'.2.2 i x hx⟩
  · show h.1 ≤ h'.1; omega
  · show h'.1 ≤ h.1 + 8; omega
  · show h.2.1 ≤ h'.2.1; omega
  · show h'.2.1 ≤ h.2.1 + 59; omega
theorem s_end {X : zX} {d : Nat} (hX : X.2.2.category = 1) {h : zH} {ms : zMS} (H : Inv h ms) : stp X d 5 98 [] h := by
  obtain ⟨sz, F, -, f2, f3, -, -⟩ := H.2.2.2.2.choose_spec.choose_spec.choose_spec.choose_spec.choose_spec.choose_spec.choose_spec.2.1
  by_cases hrej : rejF (ms.2 1) sz (sepF (ms.2 1) sz (ms.2 14)) = 0
  · obtain ⟨h5, sp, la, g, S, l, oc, pt, qt, ids, rs, o, kp, Tx, cA, cB, cC, hcls⟩ := sw_end (X := X) (d + 1) hX H f3 f2 hrej
    cases hz : zfst (same6 (ms.2 16) (vE (entA 1 l) 1 2 1 1)) 0 kp with
    | some k =>
      rw [hz] at hcls
      exact s_end_old hX H f3 f2 hrej cA cB cC hz hcls
    | none =>
      rw [hz] at hcls
      exact s_end_new hX H f3 f2 hrej cA cB cC hz hcls
  · refine s_end_rej hX H (fun sz' g3 g2 => ?_)
    have es : sz' = sz := (nI_eq (by omega) (by omega)).mp (g3.symm.trans f3)
    rw [es]
    exact hrej
