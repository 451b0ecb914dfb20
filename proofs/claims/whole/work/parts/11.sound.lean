/-! CALLS, and the soundness of runs -/
theorem zret_ok {t : Option FieldType} {i : Jvm.ClassFile.Instr} {st : List Value} {v : Option Value} (h : zret t i st = some v) : st = v.toList ∧ zlen i = 1 := by
  unfold zret at h
  split at h
  · split at h
    · split at h
      · cases h; exact ⟨rfl, rfl⟩
      · cases h
    · cases h
  · split at h
    · split at h
      · cases h; exact ⟨rfl, rfl⟩
      · cases h
    · cases h
  · split at h
    · split at h
      · cases h; exact ⟨rfl, rfl⟩
      · cases h
    · split at h
      · cases h; exact ⟨rfl, rfl⟩
      · cases h
    · cases h
  · split at h
    · split at h
      · cases h; exact ⟨rfl, rfl⟩
      · cases h
    · cases h
  · cases h
theorem z_spec {l : Launch} {D : va_G} {cA : Nat → ClassId} {ad : Nat → Nat} {base : Nat} {X : zX} {d j pc : Nat} {L : zL} {st : List Value} {h : zH} {v : Option Value} {h' : zH} {i : Jvm.ClassFile.Instr} {F : zF} (hi : zins j pc = some i) (hs : zspec d (zown j) pc L st h i = some F) (hk0 : zS l D cA ad base X d j F.1 F.2.1 F.2.2.1 F.2.2.2 v h') : zS l D cA ad base X d j pc L st h v h' := by
  unfold zspec at hs
  split at hs
  · rename_i idx
    split at hs
    · rename_i x1 x2 hml
      split at hs
      · rename_i a r
        split at hs
        · rename_i hc
          cases hs
          refine ⟨hk0.1, ?_⟩
          intro p e R s m args below meth c Q c0 s0 hC hf hlo hRc hRs hR
          have hk := hk0.2 p e R s m args below meth c Q c0 s0 hC hf hlo hRc hRs hR
          obtain ⟨hx, hb, hmL, hown, hcore, hname, hE⟩ := hC
          intro ls H locs cells slots g1 g2 g3 g4 g5
          obtain ⟨w1, w2, w3⟩ := zml_obj hml
          have hsum : ((r.map (zv ad)).map fun v => v.category).sum ≤ 8 := by rw [zcat_map]; exact hc.2
          exact W.objInit hx hb hown (hcore _ w1) (hcore _ w2) (hcore _ w3) rfl (by rw [hmL]; exact g1.2.1) rfl (zins_dec hi (show (3 : Nat) ≠ 0 by decide)) (by omega) (by show 2 * 0 + _ + 12 ≤ _; omega) (hk ls H locs cells slots g1 g2 g3 g4 g5)
        · cases hs
      · cases hs
    · cases hs
  · rename_i idx
    split at hs
    · rename_i x1 x2 hml
      split at hs
      · rename_i y x r
        split at hs
        · rename_i hc
          cases hs
          refine ⟨hk0.1, ?_⟩
          intro p e R s m args below meth c Q c0 s0 hC hf hlo hRc hRs hR
          have hk := hk0.2 p e R s m args below meth c Q c0 s0 hC hf hlo hRc hRs hR
          obtain ⟨hx, hb, hmL, hown, hcore, hname, hE⟩ := hC
          intro ls H locs cells slots g1 g2 g3 g4 g5
          obtain ⟨w1, w2, w3, w4⟩ := zml_max hml
          have hsum : ((r.map (zv ad)).map fun v => v.category).sum ≤ 8 := by rw [zcat_map]; exact hc.2
          have m1 : h.1 ≤ h'.1 := hk0.1.1
          have m2 : h.2.1 ≤ h'.2.1 := hk0.1.2
          have g4' : cells + c0 = h.1 := g4
          have g5' : slots + s0 = h.2.1 := g5
          exact va_mmax hx hb (by rw [hmL]; exact g1.2.1.symm) hown (hcore _ w1) (hcore _ w2) (hcore _ w3) (hcore _ w4) (by omega) (by omega) (by omega) (by omega) (zins_dec hi (show (3 : Nat) ≠ 0 by decide)) (hk ls H locs cells slots g1 g2 g3 g4 g5)
        · cases hs
      · cases hs
    · cases hs
  · cases hs
theorem zPc_blind {D : va_G} {cA : Nat → ClassId} {ad : Nat → Nat} {base : Nat} {X : zX} {As : List Value} {h : zH} : FrameBlind (zPc D cA ad base X As h) := fun _ _ _ _ q => ⟨q.1, q.2.1, zENV.same rfl rfl q.2.2⟩
theorem z_recv {s : State} {D : va_G} {cA : Nat → ClassId} {ad : Nat → Nat} {base : Nat} {X : zX} {h : zH} {H : Heap} {locs : List Loc} {b k : Nat} (hE : zENV s D cA ad base X) (hw : zW D classes cA ad base h H) (hS : va_S (zA base) s.heap H locs) (hr : zrcv h b = some k) : ∃ cell : Cell, H[ad b]? = some cell ∧ cell.vm.isStatics = false ∧ s.vm.findClass (zRn k) = some cell.cls := by
  unfold zrcv at hr
  split at hr
  · rename_i ci fs hc
    cases hr
    have hat := (hw.2 b _ hc).2.2.2
    obtain ⟨r, h1, -⟩ := id hat
    have h2 := va_recv hE.2.2.1 (zP1 hat) h1 (q0 := 0) rfl
    rw [← zRn_cls h1]
    exact h2
  · cases hr
  · obtain ⟨cell, h1, h2, h3, -⟩ := (hE.2.2.2.2.2.2.2.1 (b, k) (zlook_mem hr)).kept hS.2.1
    exact ⟨cell, h1, h2, h3⟩
theorem z_callstep {l : Launch} {D : va_G} {cA : Nat → ClassId} {ad : Nat → Nat} {base : Nat} {X : zX} {d j pc : Nat} {L : zL} {st As rest : List Value} {h h1 : zH} {v v1 : Option Value} {h' : zH} {i : Jvm.ClassFile.Instr} {q : Nat × Nat × Nat} (hi : zins j pc = some i) (hq : zinv (zown j) i = some q) (hp : zprep q st h = some (As, rest)) (hc : zS l D cA ad base X d q.2.1 0 (zent (zmaxL q.2.1) As) [] h v1 h1) (hk0 : zS l D cA ad base X (d + 1) j (pc + 3) L (v1.toList ++ rest) h1 v h') : zS l D cA ad base X (d + 1) j pc L st h v h' := by
  refine ⟨⟨Nat.le_trans hc.1.1 hk0.1.1, Nat.le_trans hc.1.2 hk0.1.2⟩, ?_⟩
  intro p e R s m args below meth c Q c0 s0 hC hf hlo hRc hRs hR
  have hk := hk0.2 p e R s m args below meth c Q c0 s0 hC hf hlo hRc hRs hR
  obtain ⟨hx, hb, hmL, hown, hcore, hname, hE⟩ := hC
  intro ls H locs cells slots g1 g2 g3 g4 g5
  obtain ⟨kd, jj, n⟩ := q
  have hlen : (zentl As).length ≤ zmaxL jj := zprep_len hp
  have m1 := hc.1.1
  have m2 := hc.1.2
  have n1 := hk0.1.1
  have n2 := hk0.1.2
  have g4' : cells + c0 = h.1 := g4
  have g5' : slots + s0 = h.2.1 := g5
  have hsz : ls.size = zmaxL j := g1.2.1
  have hcs : cells + (h1.1 - h.1) ≤ R.cells ∧ slots + (h1.2.1 - h.2.1) ≤ R.slots := ⟨by omega, by omega⟩
  have cont : ∀ (H1 : Heap) (locs1 : List Loc), zW D classes cA ad base h1 H1 → va_S (zA base) s.heap H1 locs1 → W p l e R s m args below meth c H1 locs1 (cells + (h1.1 - h.1)) (slots + (h1.2.1 - h.2.1)) Q (F0 m (pc + 3) ls ((v1.map (zv ad)).toList ++ rest.map (zv ad))) := by
    intro H1 locs1 w1 w2
    have hk' : W p l e R s m args below meth c H1 locs1 (cells + (h1.1 - h.1)) (slots + (h1.2.1 - h.2.1)) Q (F0 m (pc + 3) ls ((v1.toList ++ rest).map (zv ad))) := hk ls H1 locs1 _ _ g1 w1 w2 (by show cells + (h1.1 - h.1) + c0 = h1.1; omega) (by show slots + (h1.2.1 - h.2.1) + s0 = h1.2.1; omega)
    cases v1 <;> exact hk'
  have pre : ∀ U : State, U.heap = H → s.WarmedH U.vm → zPc D cA ad base X As h (As.map (zv ad)).toArray U := fun U hU hW => ⟨rfl, by rw [hU]; exact g2, hE.go hW (by rw [hU]; exact g3.1) (by rw [hU]; exact g3.2.1)⟩
  have fin : va_Run p l e R s m args below meth c H locs cells slots (h1.1 - h.1) (h1.2.1 - h.2.1) (F0 m pc ls (st.map (zv ad))) (rest.map (zv ad)) (zQc D cA ad base v1 h1 (As.map (zv ad)).toArray) (zA base) := by
    unfold zinv at hq
    split at hq
    · rename_i idx
      have hd := zins_dec hi (i := .invokevirtual idx) (show (3 : Nat) ≠ 0 by decide)
      split at hq
      · rename_i j2 n2 hml
        cases hq
        obtain ⟨hj, w1, w2, w3, w4, hds⟩ := zml_v hml
        have hM := z_met (l := l) hj hlen hc
        obtain ⟨b, Bs, rfl, hstk, hl, hsum, hrc⟩ := zprep_i (ad := ad) hp (Or.inl rfl)
        exact va_runV (As := Bs.map (zv ad)) (b := ad b) (C := zRn (zown jj)) ⟨hx, hb, hmL, hown, hcore⟩ hM (cwV n hcore (zgoodV w1 w2 w3 w4 (zcode_in hj)) rfl rfl rfl hds ⟨hf, by have := zmaxL_le hj; show 8 + (zmaxL jj + 11) + 40 * d ≤ R.locals; omega⟩) ⟨zPc_blind, z_recv hE g2 g3 (hrc (Or.inl rfl)), pre⟩ rfl (by simpa using hl) hsz hstk (by show 2 * 0 + _ ≤ 8; rw [zcat_map]; omega) hd hcs
      · rename_i j2 n2 hml
        cases hq
        obtain ⟨hj, ⟨host, w1⟩, w2, w3, w4, hds⟩ := zml_vn hml
        have hM := z_met (l := l) hj hlen hc
        obtain ⟨b, Bs, rfl, hstk, hl, hsum, hrc⟩ := zprep_i (ad := ad) hp (Or.inr (Or.inl rfl))
        exact va_runVN (As := Bs.map (zv ad)) (b := ad b) (C := zRn (zown jj)) ⟨hx, hb, hmL, hown, hcore⟩ hM ⟨va_cnB n hcore (zgoodW (zcode_in hj)) rfl rfl rfl (hE.2.1 _ w1) (hcore _ w4) hds ⟨hf, by have := zmaxL_le hj; show 8 + (zmaxL jj + 11) + 40 * d ≤ R.locals; omega⟩, hcore _ w2, hcore _ w3⟩ ⟨zPc_blind, z_recv hE g2 g3 (hrc (Or.inr rfl)), pre⟩ rfl (by simpa using hl) hsz hstk (by show 2 * 0 + _ ≤ 8; rw [zcat_map]; omega) hd hcs
      · cases hq
    · rename_i idx
      have hd := zins_dec hi (i := .invokestatic idx) (show (3 : Nat) ≠ 0 by decide)
      split at hq
      · rename_i j2 n2 hml
        cases hq
        obtain ⟨hj, w1, w2, w3, hds⟩ := zml_s hml
        have hM := z_met (l := l) hj hlen hc
        obtain ⟨hstk, hl, hsum⟩ := zprep_s (ad := ad) hp (Or.inl rfl)
        exact va_runS (As := As.map (zv ad)) ⟨hx, hb, hmL, hown, hcore⟩ hM (va_cwS n hcore (zgoodS w1 w2 w3 (zcode_in hj)) rfl rfl rfl hds ⟨hf, by have := zmaxL_le hj; show 8 + (zmaxL jj + 11) + 40 * d ≤ R.locals; omega⟩) ⟨zPc_blind, pre⟩ rfl (by simpa using hl) hsz hstk (by show 2 * 0 + _ ≤ 8; rw [zcat_map]; omega) hd hcs
      · rename_i j2 n2 hml
        cases hq
        obtain ⟨hj, ⟨host, w1⟩, w2, w3, hds⟩ := zml_sn hml
        have hM := z_met (l := l) hj hlen hc
        obtain ⟨hstk, hl, hsum⟩ := zprep_s (ad := ad) hp (Or.inr rfl)
        exact va_runSN (As := As.map (zv ad)) ⟨hx, hb, hmL, hown, hcore⟩ hM ⟨va_cnB n hcore (zgoodW (zcode_in hj)) rfl rfl rfl (hE.2.1 _ w1) (hcore _ w3) hds ⟨hf, by have := zmaxL_le hj; show 8 + (zmaxL jj + 11) + 40 * d ≤ R.locals; omega⟩, hcore _ w2, trivial⟩ ⟨zPc_blind, pre⟩ rfl (by simpa using hl) hsz hstk (by show 2 * 0 + _ ≤ 8; rw [zcat_map]; omega) hd hcs
      · cases hq
    · rename_i idx
      have hd := zins_dec hi (i := .invokespecial idx) (show (3 : Nat) ≠ 0 by decide)
      split at hq
      · rename_i j2 n2 hml
        cases hq
        obtain ⟨hj, w1, w2, w3, hnm, hrt, hds⟩ := zml_i hml
        have hM := z_met (l := l) hj hlen hc
        obtain ⟨b, Bs, rfl, hstk, hl, hsum, hrc⟩ := zprep_i (ad := ad) hp (Or.inr (Or.inr (Or.inl rfl)))
        exact va_runI (As := Bs.map (zv ad)) (b := ad b) ⟨hx, hb, hmL, hown, hcore⟩ hM (cwI n hcore (zgoodW (zcode_in hj)) (by rw [← hrt]; rfl) rfl rfl (hcore _ w3) (hcore _ w1) (hcore _ w2) hnm hds ⟨hf, by have := zmaxL_le hj; show 8 + (zmaxL jj + 11) + 40 * d ≤ R.locals; omega⟩) ⟨zPc_blind, pre⟩ rfl (by simpa using hl) hsz hstk (by show 2 * 0 + _ ≤ 8; rw [zcat_map]; omega) hd hcs
      · rename_i j2 n2 hml
        cases hq
        obtain ⟨hj, ⟨host, w1⟩, w2, w3, hnm, hrt, hds⟩ := zml_in hml
        have hM := z_met (l := l) hj hlen hc
        obtain ⟨b, Bs, rfl, hstk, hl, hsum, hrc⟩ := zprep_i (ad := ad) hp (Or.inr (Or.inr (Or.inr rfl)))
        exact va_runIN (As := Bs.map (zv ad)) (b := ad b) ⟨hx, hb, hmL, hown, hcore⟩ hM ⟨va_cnB n hcore (zgoodW (zcode_in hj)) (by rw [← hrt]; rfl) rfl rfl (hE.2.1 _ w1) (hcore _ w3) hds ⟨hf, by have := zmaxL_le hj; show 8 + (zmaxL jj + 11) + 40 * d ≤ R.locals; omega⟩, hnm, hcore _ w2⟩ ⟨zPc_blind, pre⟩ rfl (by simpa using hl) hsz hstk (by show 2 * 0 + _ ≤ 8; rw [zcat_map]; omega) hd hcs
      · cases hq
    · cases hq
  exact z_call fin g3 cont
theorem z_sound {l : Launch} {D : va_G} {cA : Nat → ClassId} {ad : Nat → Nat} {base : Nat} {X : zX} : ∀ (n d j pc : Nat) (L : zL) (st : List Value) (h : zH) (v : Option Value) (h' : zH), zrun X n d j pc L st h = some (v, h') → zS l D cA ad base X d j pc L st h v h' := by
  intro n
  induction n with
  | zero => intro d j pc L st h v h' hz; cases hz
  | succ n ih =>
    intro d j pc L st h v h' hz
    rw [zrun] at hz
    split at hz
    · cases hz
    · rename_i i hi
      split at hz
      · rename_i v' hv
        cases hz
        refine ⟨⟨Nat.le_refl _, Nat.le_refl _⟩, ?_⟩
        intro p e R s m args below meth c Q c0 s0 hC hf hlo hRc hRs hR ls H locs cells slots g1 g2 g3 g4 g5
        obtain ⟨rfl, hl⟩ := zret_ok hv
        have hd := zins_dec hi (by rw [hl]; decide)
        rw [hl] at hd
        exact hR pc i ls H locs cells slots hd hv g2 g3 g4 g5
      · split at hz
        · rename_i q hq
          split at hz
          · rename_i As rest hp
            split at hz
            · cases hz
            · rename_i d'
              split at hz
              · rename_i v1 h1 hc
                exact z_callstep hi hq hp (ih _ _ _ _ _ _ _ _ hc) (ih _ _ _ _ _ _ _ _ hz)
              · cases hz
          · cases hz
        · split at hz
          · rename_i pc' L' st' h2 hs
            exact z_spec hi hs (ih _ _ _ _ _ _ _ _ hz)
          · split at hz
            · rename_i pc' L' st' h2 hs
              exact z_plain hi hs (ih _ _ _ _ _ _ _ _ hz)
            · cases hz
