/-! BOTH: end, the frame read -/
theorem rd_end (X : zX) (d : Nat) (hX : X.2.2.category = 1) {h : zH} {sp la : Nat} {rs rp : Int32} {sz : Nat} {F : Nat → Int32} {n0 : Nat} {g : Nat → Int32} {Sx : Nat → Int32} {f : Nat → Int32} {n1 : Nat} {st : Nat → Int32} {k1 : Nat} (hz : zlow h) (hO : h.2.2 100 = some (bmO sp la rs rp)) (hsl : (sp = 119 ∧ la = 124) ∨ (sp = 124 ∧ la = 119)) (hF : isF h sz F) (hsz : sz ≤ 200) (hB : byt F sz) (hC : isCh h 115 40 n0 g) (hM : isM h sp f n1 st k1) (hS : isSp h (sp + 1) Sx) (Sm : Nat → Int32) (hSm : ∀ k, k < 5 → Sm k = nowF F sz (3 + k)) :
    ∃ h4, (∀ c, (c ≠ 100 ∧ c ≠ 102 ∧ c ≠ 103 ∧ c ≠ 115 ∧ c ≠ 116 ∧ ¬ (sp ≤ c ∧ c < sp + 5)) → h4.2.2 c = h.2.2 c) ∧ h4.1 = h.1 ∧ h4.2.1 = h.2.1 ∧ h4.2.2 100 = some (bmO sp la (nI (rejF F sz Sm)) 0) ∧ isF h4 0 F ∧ isCh h4 115 40 0 g ∧ cSp h4 sp ∧ zlow h4 ∧ (rejF F sz Sm = 0 → ∃ l, msgF F sz Sm = some l ∧ isMl h4 sp l ∧ isSp h4 (sp + 1) (sp5 F sz Sx) ∧ ∀ k, k < 5 → sp5 F sz Sx k = Sm k) ∧ ∀ u, zR X (d + 11) 5 37 [some (.ref 100), none] [] h4 u → zR X (d + 11) 5 0 (zent 2 [.ref 100]) [] h u := by
  have hbn : ∀ c, c ≠ 100 → c ≠ 115 → c ≠ 116 → (zwr (chS h 115 40 0 g) 100 (bmO sp la rs 0)).2.2 c = h.2.2 c := fun c q0 q1 q2 => (zwr_ne q0).trans (chS_ne q1 q2)
  have hbO : (zwr (chS h 115 40 0 g) 100 (bmO sp la rs 0)).2.2 100 = some (bmO sp la rs 0) := zwr_at _ _ _
  have hbC : isCh (zwr (chS h 115 40 0 g) 100 (bmO sp la rs 0)) 115 40 0 g := ⟨(zwr_ne (by decide)).trans (chS_is h 115 40 0 g).1, (zwr_ne (by decide)).trans (chS_is h 115 40 0 g).2⟩
  have hbz : zlow (zwr (chS h 115 40 0 g) 100 (bmO sp la rs 0)) := zlow_wr (chS_low hz (by decide)) (by decide)
  have hb1 : (zwr (chS h 115 40 0 g) 100 (bmO sp la rs 0)).1 = h.1 := rfl
  have hb2 : (zwr (chS h 115 40 0 g) 100 (bmO sp la rs 0)).2.1 = h.2.1 := rfl
  have hae := fun h3 => a_B_end X d h h3 sp la rs rp hO n0 g hC hF.1
  generalize zwr (chS h 115 40 0 g) 100 (bmO sp la rs 0) = hb at hbn hbO hbC hbz hb1 hb2 hae
  have hbM : isM hb sp f n1 st k1 := isM_fr hM (fun i hi => hbn _ (by omega) (by omega) (by omega))
  have hbF : isF hb sz F := ⟨(hbn 101 (by decide) (by decide) (by decide)).trans hF.1, isCh_fr hF.2 (hbn _ (by decide) (by decide) (by decide)) (hbn _ (by decide) (by decide) (by decide))⟩
  have hbS : isSp hb (sp + 1) Sx := isSp_fr hS (hbn _ (by omega) (by omega) (by omega)) (hbn _ (by omega) (by omega) (by omega))
  obtain ⟨h3, hrun, ⟨S', f', n', st', k', e3⟩, hacc⟩ := e_Frame_readInto X d hX hb sz F hbF hsz hbz hB sp (by omega) Sx hbS f st n1 k1 Sm hSm
  rw [msS_self hbM] at hrun
  have h3n : ∀ c, ¬ (sp ≤ c ∧ c < sp + 5) → h3.2.2 c = hb.2.2 c := fun c hc => by
    rw [e3]
    exact (msS_ne (by omega) (by omega) (by omega)).trans (spS_ne (by omega))
  have h3M : isM h3 sp f' n' st' k' := by rw [e3]; exact msS_is
  have h3S : isSp h3 (sp + 1) S' := by
    rw [e3]
    exact ⟨(msS_ne (by omega) (by omega) (by omega)).trans ((spS_ne (by omega)).trans hbS.1), (msS_ne (by omega) (by omega) (by omega)).trans spS_r⟩
  have h31 : h3.1 = hb.1 := by rw [e3]; rfl
  have h32 : h3.2.1 = hb.2.1 := by rw [e3]; rfl
  have h3z : zlow h3 := fun a ha => (h3n a (by omega)).trans (hbz a ha)
  have h3O := (h3n 100 (by omega)).trans hbO
  have h3F := (h3n 101 (by omega)).trans hbF.1
  have h3T : isCh h3 102 200 sz F := isCh_fr hbF.2 (h3n 102 (by omega)) (h3n 103 (by omega))
  clear e3
  generalize hr : rejF F sz Sm = r at hrun hacc ⊢
  have h4n : ∀ c, c ≠ 100 → c ≠ 102 → c ≠ 103 → (chS (zwr h3 100 (bmO sp la (nI r) 0)) 102 200 0 F).2.2 c = h3.2.2 c := fun c q0 q1 q2 => (chS_ne q1 q2).trans (zwr_ne q0)
  refine ⟨chS (zwr h3 100 (bmO sp la (nI r) 0)) 102 200 0 F, fun c hc => (h4n c hc.1 hc.2.1 hc.2.2.1).trans ((h3n c hc.2.2.2.2.2).trans (hbn c hc.1 hc.2.2.2.1 hc.2.2.2.2.1)), h31.trans hb1, h32.trans hb2, (chS_ne (by decide) (by decide)).trans (zwr_at _ _ _), ⟨(h4n 101 (by decide) (by decide) (by decide)).trans h3F, chS_is _ _ _ _ _⟩, isCh_fr hbC ((h4n _ (by decide) (by decide) (by decide)).trans (h3n _ (by omega))) ((h4n _ (by decide) (by decide) (by decide)).trans (h3n _ (by omega))), ⟨⟨f', n', st', k', isM_fr h3M (fun i hi => h4n _ (by omega) (by omega) (by omega))⟩, S', isSp_fr h3S (h4n _ (by omega) (by omega) (by omega)) (h4n _ (by omega) (by omega) (by omega))⟩, chS_low (zlow_wr h3z (by decide)) (by decide), fun hr0 => ?_, fun u hu => hae h3 r hrun h3O h3F sz F h3T u hu⟩
  obtain ⟨s1, s2, l, l1, l2⟩ := hacc hr0
  exact ⟨l, l1, isMl_fr l2 (fun i hi => h4n _ (by omega) (by omega) (by omega)), isSp_fr s1 (h4n _ (by omega) (by omega) (by omega)) (h4n _ (by omega) (by omega) (by omega)), s2⟩
