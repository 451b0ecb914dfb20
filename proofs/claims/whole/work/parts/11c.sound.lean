theorem z_callstep {l : Launch} {D : va_G} {cA : Nat → ClassId} {ad : Nat → Nat} {base : Nat} {X : zX} {d j pc : Nat} {L : zL} {st As rest : List Value} {h h1 : zH} {v v1 : Option Value} {h' : zH} {i : Jvm.ClassFile.Instr} {q : Nat × Nat × Nat} (hi : zins j pc = some i) (hq : zinv (zown j) i = some q) (hp : zprep q st h = some (As, rest)) (hc : zS l D cA ad base X d q.2.1 0 (zent (zmaxL q.2.1) As) [] h v1 h1) (hk0 : zS l D cA ad base X (d + 1) j (pc + 3) L (v1.toList ++ rest) h1 v h') : zS l D cA ad base X (d + 1) j pc L st h v h' := by
  refine ⟨⟨Nat.le_trans hc.1.1 hk0.1.1, Nat.le_trans hc.1.2 hk0.1.2⟩, ?_⟩
  intro p e R s m args below meth c Q c0 s0 hC hf hlo hRc hRs hR
  have hk := hk0.2 p e R s m args below meth c Q c0 s0 hC hf hlo hRc hRs hR
  obtain ⟨hx, hb, hmL, hown, hcore, hname, hE⟩ := hC
  intro ls H locs cells slots g1 g2 g3 g4 g5
  obtain ⟨kd, jj, n⟩ := q
  have hlen : (zentl As).length ≤ zmaxL jj := zprep_len hp
  have m1 := hc.1.1
  have m2 := hc.1.2
  have n1 := hk0.1.1
  have n2 := hk0.1.2
  have g4' : cells + c0 = h.1 := g4
  have g5' : slots + s0 = h.2.1 := g5
  have hsz : ls.size = zmaxL j := g1.2.1
  have hcs : cells + (h1.1 - h.1) ≤ R.cells ∧ slots + (h1.2.1 - h.2.1) ≤ R.slots := ⟨by omega, by omega⟩
  have cont : ∀ (H1 : Heap) (locs1 : List Loc), zW D classes cA ad base h1 H1 → va_S (zA base) s.heap H1 locs1 → W p l e R s m args below meth c H1 locs1 (cells + (h1.1 - h.1)) (slots + (h1.2.1 - h.2.1)) Q (F0 m (pc + 3) ls ((v1.map (zv ad)).toList ++ rest.map (zv ad))) := by
    intro H1 locs1 w1 w2
    have hk' : W p l e R s m args below meth c H1 locs1 (cells + (h1.1 - h.1)) (slots + (h1.2.1 - h.2.1)) Q (F0 m (pc + 3) ls ((v1.toList ++ rest).map (zv ad))) := hk ls H1 locs1 _ _ g1 w1 w2 (by show cells + (h1.1 - h.1) + c0 = h1.1; omega) (by show slots + (h1.2.1 - h.2.1) + s0 = h1.2.1; omega)
    cases v1 <;> exact hk'
  have fin : va_Run p l e R s m args below meth c H locs cells slots (h1.1 - h.1) (h1.2.1 - h.2.1) (F0 m pc ls (st.map (zv ad))) (rest.map (zv ad)) (zQc D cA ad base v1 h1 (As.map (zv ad)).toArray) (zA base) := by
    unfold zinv at hq
    split at hq
    · rename_i idx
      have hd := zins_dec hi (i := .invokevirtual idx) (show (3 : Nat) ≠ 0 by decide)
      split at hq
      · rename_i j2 n2 hml
        cases hq
        exact z_rv hx hb hmL hown hcore hE g2 g3 hsz hcs hf hlo hlen hc hd hml hp
      · rename_i j2 n2 hml
        cases hq
        exact z_rvn hx hb hmL hown hcore hE g2 g3 hsz hcs hf hlo hlen hc hd hml hp
      · cases hq
    · rename_i idx
      have hd := zins_dec hi (i := .invokestatic idx) (show (3 : Nat) ≠ 0 by decide)
      split at hq
      · rename_i j2 n2 hml
        cases hq
        exact z_rs hx hb hmL hown hcore hE g2 g3 hsz hcs hf hlo hlen hc hd hml hp
      · rename_i j2 n2 hml
        cases hq
        exact z_rsn hx hb hmL hown hcore hE g2 g3 hsz hcs hf hlo hlen hc hd hml hp
      · cases hq
    · rename_i idx
      have hd := zins_dec hi (i := .invokespecial idx) (show (3 : Nat) ≠ 0 by decide)
      split at hq
      · rename_i j2 n2 hml
        cases hq
        exact z_ri hx hb hmL hown hcore hE g2 g3 hsz hcs hf hlo hlen hc hd hml hp
      · rename_i j2 n2 hml
        cases hq
        exact z_rin hx hb hmL hown hcore hE g2 g3 hsz hcs hf hlo hlen hc hd hml hp
      · cases hq
    · cases hq
  exact z_call fin g3 cont
theorem z_sound {l : Launch} {D : va_G} {cA : Nat → ClassId} {ad : Nat → Nat} {base : Nat} {X : zX} : ∀ (n d j pc : Nat) (L : zL) (st : List Value) (h : zH) (v : Option Value) (h' : zH), zrun X n d j pc L st h = some (v, h') → zS l D cA ad base X d j pc L st h v h' := by
  intro n
  induction n with
  | zero => intro d j pc L st h v h' hz; cases hz
  | succ n ih =>
    intro d j pc L st h v h' hz
    rw [zrun] at hz
    split at hz
    · cases hz
    · rename_i i hi
      split at hz
      · rename_i v' hv
        cases hz
        refine ⟨⟨Nat.le_refl _, Nat.le_refl _⟩, ?_⟩
        intro p e R s m args below meth c Q c0 s0 hC hf hlo hRc hRs hR ls H locs cells slots g1 g2 g3 g4 g5
        obtain ⟨rfl, hl⟩ := zret_ok hv
        have hd := zins_dec hi (by rw [hl]; decide)
        rw [hl] at hd
        exact hR pc i ls H locs cells slots hd hv g2 g3 g4 g5
      · split at hz
        · rename_i q hq
          split at hz
          · rename_i As rest hp
            split at hz
            · cases hz
            · rename_i d'
              split at hz
              · rename_i v1 h1 hc
                exact z_callstep hi hq hp (ih _ _ _ _ _ _ _ _ hc) (ih _ _ _ _ _ _ _ _ hz)
              · cases hz
          · cases hz
        · split at hz
          · rename_i pc' L' st' h2 hs
            exact z_spec hi hs (ih _ _ _ _ _ _ _ _ hz)
          · split at hz
            · rename_i pc' L' st' h2 hs
              exact z_plain hi hs (ih _ _ _ _ _ _ _ _ hz)
            · cases hz
