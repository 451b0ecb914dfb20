/-! CALLS, and the soundness of runs -/
theorem zret_ok {t : Option FieldType} {i : Jvm.ClassFile.Instr} {st : List Value} {v : Option Value} (h : zret t i st = some v) : st = v.toList ∧ zlen i = 1 := by
  unfold zret at h
  split at h
  · split at h
    · split at h
      · cases h; exact ⟨rfl, rfl⟩
      · cases h
    · cases h
  · split at h
    · split at h
      · cases h; exact ⟨rfl, rfl⟩
      · cases h
    · cases h
  · split at h
    · split at h
      · cases h; exact ⟨rfl, rfl⟩
      · cases h
    · split at h
      · cases h; exact ⟨rfl, rfl⟩
      · cases h
    · cases h
  · split at h
    · split at h
      · cases h; exact ⟨rfl, rfl⟩
      · cases h
    · cases h
  · cases h
theorem z_spec {l : Launch} {D : va_G} {cA : Nat → ClassId} {ad : Nat → Nat} {base : Nat} {X : zX} {d j pc : Nat} {L : zL} {st : List Value} {h : zH} {v : Option Value} {h' : zH} {i : Jvm.ClassFile.Instr} {F : zF} (hi : zins j pc = some i) (hs : zspec d (zown j) pc L st h i = some F) (hk0 : zS l D cA ad base X d j F.1 F.2.1 F.2.2.1 F.2.2.2 v h') : zS l D cA ad base X d j pc L st h v h' := by
  unfold zspec at hs
  split at hs
  · rename_i idx
    split at hs
    · rename_i x1 x2 hml
      split at hs
      · rename_i a r
        split at hs
        · rename_i hc
          cases hs
          refine ⟨hk0.1, ?_⟩
          intro p e R s m args below meth c Q c0 s0 hC hf hlo hRc hRs hR
          have hk := hk0.2 p e R s m args below meth c Q c0 s0 hC hf hlo hRc hRs hR
          obtain ⟨hx, hb, hmL, hown, hcore, hname, hE⟩ := hC
          intro ls H locs cells slots g1 g2 g3 g4 g5
          obtain ⟨w1, w2, w3⟩ := zml_obj hml
          have hsum : ((r.map (zv ad)).map fun v => v.category).sum ≤ 8 := by rw [zcat_map]; exact hc.2
          exact W.objInit hx hb hown (hcore _ w1) (hcore _ w2) (hcore _ w3) rfl (by rw [hmL]; exact g1.2.1) rfl (zins_dec hi (show (3 : Nat) ≠ 0 by decide)) (by omega) (by show 2 * 0 + _ + 12 ≤ _; omega) (hk ls H locs cells slots g1 g2 g3 g4 g5)
        · cases hs
      · cases hs
    · cases hs
  · rename_i idx
    split at hs
    · rename_i x1 x2 hml
      split at hs
      · rename_i y x r
        split at hs
        · rename_i hc
          cases hs
          refine ⟨hk0.1, ?_⟩
          intro p e R s m args below meth c Q c0 s0 hC hf hlo hRc hRs hR
          have hk := hk0.2 p e R s m args below meth c Q c0 s0 hC hf hlo hRc hRs hR
          obtain ⟨hx, hb, hmL, hown, hcore, hname, hE⟩ := hC
          intro ls H locs cells slots g1 g2 g3 g4 g5
          obtain ⟨w1, w2, w3, w4⟩ := zml_max hml
          have hsum : ((r.map (zv ad)).map fun v => v.category).sum ≤ 8 := by rw [zcat_map]; exact hc.2
          have m1 : h.1 ≤ h'.1 := hk0.1.1
          have m2 : h.2.1 ≤ h'.2.1 := hk0.1.2
          have g4' : cells + c0 = h.1 := g4
          have g5' : slots + s0 = h.2.1 := g5
          exact va_mmax hx hb (by rw [hmL]; exact g1.2.1.symm) hown (hcore _ w1) (hcore _ w2) (hcore _ w3) (hcore _ w4) (by omega) (by omega) (by omega) (by omega) (zins_dec hi (show (3 : Nat) ≠ 0 by decide)) (hk ls H locs cells slots g1 g2 g3 g4 g5)
        · cases hs
      · cases hs
    · rename_i x1 x2 hml
      split at hs
      · rename_i y x r
        split at hs
        · rename_i hc
          cases hs
          refine ⟨hk0.1, ?_⟩
          intro p e R s m args below meth c Q c0 s0 hC hf hlo hRc hRs hR
          have hk := hk0.2 p e R s m args below meth c Q c0 s0 hC hf hlo hRc hRs hR
          obtain ⟨hx, hb, hmL, hown, hcore, hname, hE⟩ := hC
          intro ls H locs cells slots g1 g2 g3 g4 g5
          obtain ⟨w1, w2, w3, w4⟩ := zml_min hml
          have hsum : ((r.map (zv ad)).map fun v => v.category).sum ≤ 8 := by rw [zcat_map]; exact hc.2
          have m1 : h.1 ≤ h'.1 := hk0.1.1
          have m2 : h.2.1 ≤ h'.2.1 := hk0.1.2
          have g4' : cells + c0 = h.1 := g4
          have g5' : slots + s0 = h.2.1 := g5
          exact va_mmin hx hb (by rw [hmL]; exact g1.2.1.symm) hown (hcore _ w1) (hcore _ w2) (hcore _ w3) (hcore _ w4) (by omega) (by omega) (by omega) (by omega) (zins_dec hi (show (3 : Nat) ≠ 0 by decide)) (hk ls H locs cells slots g1 g2 g3 g4 g5)
        · cases hs
      · cases hs
    · cases hs
  · rename_i idx
    split at hs
    · rename_i x1 x2 hml
      split at hs
      · rename_i b r
        split at hs
        · rename_i v0 hv0
          split at hs
          · rename_i hc
            cases hs
            refine ⟨hk0.1, ?_⟩
            intro p e R s m args below meth c Q c0 s0 hC hf hlo hRc hRs hR
            have hk := hk0.2 p e R s m args below meth c Q c0 s0 hC hf hlo hRc hRs hR
            obtain ⟨hx, hb, hmL, hown, hcore, hname, hE⟩ := hC
            intro ls H locs cells slots g1 g2 g3 g4 g5
            have hsum : ((r.map (zv ad)).map fun v => v.category).sum ≤ 8 := by rw [zcat_map]; exact hc.2.1
            have hO : va_O "BedMessages$Kind" (ad b) (zA base) s s.heap := hE.2.2.2.2.2.2.2.1 (b, 14) (zlook_mem hc.2.2)
            have hF : va_OF "java/lang/Enum" "ordinal" "I" (.int v0) (ad b) (zA base) s s.heap := hE.2.2.2.2.2.2.1 (b, 4, .int v0) (zcf_mem hv0)
            exact z_ord hx hb (by rw [hmL]; exact g1.2.1.symm) hown (hcore _ (zml_ordl hml)) (hcore _ zord_2) (hcore _ zord_3) (hcore _ zord_4) (hcore _ zord_5) (hcore _ zord_6) hO hF g3 (by omega) (by omega) hsum (zins_dec hi (show (3 : Nat) ≠ 0 by decide)) (hk ls H locs cells slots g1 g2 g3 g4 g5)
          · cases hs
        · cases hs
      · cases hs
    · cases hs
  · cases hs
theorem zPc_blind {D : va_G} {cA : Nat → ClassId} {ad : Nat → Nat} {base : Nat} {X : zX} {As : List Value} {h : zH} : FrameBlind (zPc D cA ad base X As h) := fun _ _ _ _ q => ⟨q.1, q.2.1, zENV.same rfl rfl q.2.2⟩
theorem z_recv {s : State} {D : va_G} {cA : Nat → ClassId} {ad : Nat → Nat} {base : Nat} {X : zX} {h : zH} {H : Heap} {locs : List Loc} {b k : Nat} (hE : zENV s D cA ad base X) (hw : zW D classes cA ad base h H) (hS : va_S (zA base) s.heap H locs) (hr : zrcv h b = some k) : ∃ cell : Cell, H[ad b]? = some cell ∧ cell.vm.isStatics = false ∧ s.vm.findClass (zRn k) = some cell.cls := by
  unfold zrcv at hr
  split at hr
  · rename_i ci fs hc
    cases hr
    have hat := (hw.2 b _ hc).2.2.2
    obtain ⟨r, h1, -⟩ := id hat
    have h2 := va_recv hE.2.2.1 (zP1 hat) h1 (q0 := 0) rfl
    rw [← zRn_cls h1]
    exact h2
  · cases hr
  · obtain ⟨cell, h1, h2, h3, -⟩ := (hE.2.2.2.2.2.2.2.1 (b, k) (zlook_mem hr)).kept hS.2.1
    exact ⟨cell, h1, h2, h3⟩
