/-! BOTH: end, a message that was read -/
theorem sw_end {X : zX} (d : Nat) (hX : X.2.2.category = 1) {h : zH} {ms : zMS} (H : Inv h ms) {sz : Nat} (h0 : ms.1 0 = nI sz) (hsz : sz ≤ 200) (hrej : rejF (ms.2 1) sz (sepF (ms.2 1) sz (ms.2 14)) = 0) :
    ∃ h5 sp la g S l oc pt qt ids rs o kp Tx, (zlow h5 ∧ h5.1 = h.1 ∧ h5.2.1 = h.2.1 ∧ h5.1 % 8 = 0 ∧ ((sp = 119 ∧ la = 124) ∨ (sp = 124 ∧ la = 119))) ∧ (h5.2.2 100 = some (bmO la sp (nI 0) 0) ∧ isF h5 0 (ms.2 1) ∧ isCh h5 115 40 0 g ∧ (∃ S, isSp h5 113 S) ∧ cSp h5 la ∧ isMl h5 sp l ∧ l ≠ [] ∧ isSp h5 (sp + 1) S ∧ (∀ k, k < 5 → S k = sepF (ms.2 1) sz (ms.2 14) k) ∧ (∀ k, k < 5 → zch (S k)) ∧ hdOk l ∧ idOk (vE (entA 1 l) 1 2 1 1) ∧ msgF (ms.2 1) sz (sepF (ms.2 1) sz (ms.2 14)) = some l ∧ cWr h5 ms) ∧ (isLd h5 ids rs o ∧ ms.1 6 = nI kp ∧ ledR ids rs o (ms.2 16) (ms.2 17) kp Tx ∧ HosW h5 ms oc pt qt ∧ RP h5 ms) ∧ ∀ u, zR X (d + 11) 5 65 [some (.ref 100), some (.int (match zfst (same6 (ms.2 16) (vE (entA 1 l) 1 2 1 1)) 0 kp with | none => -1 | some k => ms.2 17 k))] [] h5 u → zR X (d + 11) 5 0 (zent 2 [.ref 100]) [] h u := by
  obtain ⟨hr, hi, hC⟩ := id H
  obtain ⟨hz, h8, sp, la, b, l0, oc, pt, qt, hO, ⟨sz', F, f1, f2, f3, f4, f5⟩, ⟨n0, g, r1, r2, r3, r4⟩, p3, ⟨S3, p4⟩, ⟨⟨fm, nm, stm, km, pM⟩, Sx, pS⟩, ⟨p6, S', p7⟩, p8, p9, p10⟩ := hC
  subst f4
  have es : sz' = sz := (nI_eq (by omega) (by omega)).mp (f3.symm.trans h0)
  subst es
  have hsl := hO.2.2
  obtain ⟨ids, rs, o, kp, Tx, d1, d2, d3⟩ := id p9
  obtain ⟨h4, c1, c2, c3, c4, c5, c6, c7, c8, c9, c10⟩ := rd_end X d hX hz hO.1 hsl f1 f2 f5 r1 pM pS (sepF (ms.2 1) sz' (ms.2 14)) (fun k hk => sepF_at _ _ _ hk)
  obtain ⟨l, a1, a2, a3, a4⟩ := c9 hrej
  have hidF : idF (vE (entA 1 l)) = true := by
    unfold rejF at hrej
    rw [a1] at hrej
    dsimp only at hrej
    split at hrej
    · exact absurd hrej (by decide)
    · split at hrej
      · exact absurd hrej (by decide)
      · split at hrej
        · exact absurd hrej (by decide)
        · split at hrej
          · assumption
          · exact absurd hrej (by decide)
  have hid := (idF_iff _).mp hidF
  obtain ⟨hhd, hl0⟩ := hd_msg a1
  rw [hrej] at c4
  have h5n : ∀ c, c ≠ 100 → (zwr h4 100 (bmO la sp (nI 0) 0)).2.2 c = h4.2.2 c := fun c q => zwr_ne q
  have h5O : (zwr h4 100 (bmO la sp (nI 0) 0)).2.2 100 = some (bmO la sp (nI 0) 0) := zwr_at _ _ _
  have h5z : zlow (zwr h4 100 (bmO la sp (nI 0) 0)) := zlow_wr c8 (by decide)
  have h51 : (zwr h4 100 (bmO la sp (nI 0) 0)).1 = h4.1 := rfl
  have h52 : (zwr h4 100 (bmO la sp (nI 0) 0)).2.1 = h4.2.1 := rfl
  have hce := c_B_end X d h4 sp la 0 c4 (lkR ids rs (zfst (fun i => decide (ids i = idP (vE (entA 1 l) 1 2 1 1))) 0 16)) (idP (vE (entA 1 l) 1 2 1 1)) (Or.inr trivial)
  generalize zwr h4 100 (bmO la sp (nI 0) 0) = h5 at h5n h5O h5z h51 h52 hce
  have hf : ∀ c, (c ≠ 100 ∧ c ≠ 102 ∧ c ≠ 103 ∧ c ≠ 115 ∧ c ≠ 116 ∧ ¬ (sp ≤ c ∧ c < sp + 5)) → h5.2.2 c = h.2.2 c := fun c hc => (h5n c hc.1).trans (c1 c hc)
  have m5 : isMl h5 sp l := isMl_fr a2 (fun i hi => h5n _ (by omega))
  have l5 : isLd h5 ids rs o := ⟨(hf _ (by omega)).trans d1.1, (hf _ (by omega)).trans d1.2.1, (hf _ (by omega)).trans d1.2.2⟩
  obtain ⟨f, n, st, o', m1, m2, m3, m4, -, m6⟩ := ml_id m5 hl0
  have hidr := e_Mess_identity X (d + 7) h5 sp f n st l.length m1 m2 o' m3 (m6 X _ h5 m1)
  rw [m4] at hidr
  have hre := e_Ledg_reasonOf X (d + 10) h5 ids rs o l5 (idP (vE (entA 1 l) 1 2 1 1))
  have hlk := led_look d3 hid
  refine ⟨h5, sp, la, g, sp5 (ms.2 1) sz' Sx, l, oc, pt, qt, ids, rs, o, kp, Tx, ⟨h5z, h51.trans c2, h52.trans c3, by rw [h51, c2]; exact h8, hsl⟩, ⟨h5O, ⟨(h5n _ (by decide)).trans c5.1, isCh_fr c5.2 (h5n _ (by decide)) (h5n _ (by decide))⟩, isCh_fr c6 (h5n _ (by decide)) (h5n _ (by decide)), ⟨S3, isSp_fr p4 (hf _ (by omega)) (hf _ (by omega))⟩, ?_, m5, hl0, isSp_fr a3 (h5n _ (by omega)) (h5n _ (by omega)), a4, fun k hk => ?_, hhd, hid, a1, cWr_fr p3 (hf _ (by omega)) (hf _ (by omega))⟩, ⟨l5, d2, d3, Hos_fr p10 (h51.trans c2) (fun a ha => hf a (by omega)), fun k hk => (hf _ (by omega)).trans (hr k hk)⟩, fun u hu => ?_⟩
  · obtain ⟨f6, st6, q6, -⟩ := p6
    exact ⟨⟨f6, _, st6, _, isM_fr q6 (fun i hi => hf _ (by omega))⟩, S', isSp_fr p7 (hf _ (by omega)) (hf _ (by omega))⟩
  · rw [a4 k hk, sepF_at _ _ _ hk]
    exact zch_now hi.1 _ _
  · refine c10 u (hce ?_ ?_ hidr hre (by omega) u ?_)
    · obtain ⟨f6, st6, q6, -⟩ := a2
      exact ⟨_, q6.1⟩
    · exact ⟨_, (c1 110 (by omega)).trans d1.1⟩
    · rw [hlk]
      exact hu
