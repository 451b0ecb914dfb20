section ZRUN
variable {p : Program} {l : Launch} {e : Env} {R : Room} {s : State} {m : MethodId} {args : Array Value} {below : List Frame} {meth : Method} {c : Code} {D : va_G} {cA : Nat → ClassId} {ad : Nat → Nat} {base : Nat} {X : zX} {d j pc jj n idx : Nat} {ls : Array Slot} {H : Heap} {locs : List Loc} {cells slots : Nat} {st As rest : List Value} {h h1 : zH} {v1 : Option Value}
set_option maxHeartbeats 8000000 in
theorem z_rv (hx : p.tables.exec = Jvm.exec) (hb : c.code = zcode j) (hmL : c.maxLocals = zmaxL j) (hown : s.vm.findClass (zRn (zown j)) = some m.cls) (hcore : ∀ w ∈ zcore, w.before args s = true) (hE : zENV s D cA ad base X) (g2 : zW D classes cA ad base h H) (g3 : va_S (zA base) s.heap H locs) (hsz : ls.size = zmaxL j) (hcs : cells + (h1.1 - h.1) ≤ R.cells ∧ slots + (h1.2.1 - h.2.1) ≤ R.slots) (hf : d + 1 ≤ R.frames) (hlo : 40 * (d + 1) ≤ R.locals) (hlen : (zentl As).length ≤ zmaxL jj) (hc : zS l D cA ad base X d jj 0 (zent (zmaxL jj) As) [] h v1 h1) (hd : decode (zcode j) pc = .ok (.invokevirtual idx, 3)) (hml : zml (zown j) idx = some (0, jj, n)) (hp : zprep (0, jj, n) st h = some (As, rest)) : va_Run p l e R s m args below meth c H locs cells slots (h1.1 - h.1) (h1.2.1 - h.2.1) (F0 m pc ls (st.map (zv ad))) (rest.map (zv ad)) (zQc D cA ad base v1 h1 (As.map (zv ad)).toArray) (zA base) := by
  obtain ⟨hj, w1, w2, w3, w4, hds⟩ := zml_v hml
  have hj21 := zmaxL_le hj
  have hlo' : 8 + (zmaxL jj + 11) + 40 * d ≤ R.locals := by omega
  have pre : ∀ U : State, U.heap = H → s.WarmedH U.vm → zPc D cA ad base X As h (As.map (zv ad)).toArray U := fun U hU hW => ⟨rfl, by rw [hU]; exact g2, hE.go hW (by rw [hU]; exact g3.1) (by rw [hU]; exact g3.2.1)⟩
  have hM := z_met (l := l) hj hlen hc
  obtain ⟨b, Bs, rfl, hstk, hl, hsum, hrc⟩ := zprep_i (ad := ad) hp (Or.inl rfl)
  have hl' : (Bs.map (zv ad)).length = n := by rw [List.length_map]; exact hl
  have cw := cwV (R := R) (rm := { frames := d, cells := h1.1 - h.1, slots := h1.2.1 - h.2.1, locals := 40 * d }) (own := zRn (zown j)) (C := zRn (zown jj)) n hcore (zgoodV w1 w2 w3 w4 (zcode_in hj)) rfl rfl rfl hds ⟨hf, hlo'⟩
  exact va_runV (As := Bs.map (zv ad)) (b := ad b) ⟨hx, hb, hmL, hown, hcore⟩ hM cw ⟨zPc_blind, z_recv hE g2 g3 (hrc (Or.inl rfl)), pre⟩ rfl hl' hsz hstk (by show 2 * 0 + _ ≤ 8; rw [zcat_map]; omega) hd hcs
set_option maxHeartbeats 8000000 in
theorem z_rvn (hx : p.tables.exec = Jvm.exec) (hb : c.code = zcode j) (hmL : c.maxLocals = zmaxL j) (hown : s.vm.findClass (zRn (zown j)) = some m.cls) (hcore : ∀ w ∈ zcore, w.before args s = true) (hE : zENV s D cA ad base X) (g2 : zW D classes cA ad base h H) (g3 : va_S (zA base) s.heap H locs) (hsz : ls.size = zmaxL j) (hcs : cells + (h1.1 - h.1) ≤ R.cells ∧ slots + (h1.2.1 - h.2.1) ≤ R.slots) (hf : d + 1 ≤ R.frames) (hlo : 40 * (d + 1) ≤ R.locals) (hlen : (zentl As).length ≤ zmaxL jj) (hc : zS l D cA ad base X d jj 0 (zent (zmaxL jj) As) [] h v1 h1) (hd : decode (zcode j) pc = .ok (.invokevirtual idx, 3)) (hml : zml (zown j) idx = some (1, jj, n)) (hp : zprep (1, jj, n) st h = some (As, rest)) : va_Run p l e R s m args below meth c H locs cells slots (h1.1 - h.1) (h1.2.1 - h.2.1) (F0 m pc ls (st.map (zv ad))) (rest.map (zv ad)) (zQc D cA ad base v1 h1 (As.map (zv ad)).toArray) (zA base) := by
  obtain ⟨hj, ⟨host, w1⟩, w2, w3, w4, hds⟩ := zml_vn hml
  have hj21 := zmaxL_le hj
  have hlo' : 8 + (zmaxL jj + 11) + 40 * d ≤ R.locals := by omega
  have pre : ∀ U : State, U.heap = H → s.WarmedH U.vm → zPc D cA ad base X As h (As.map (zv ad)).toArray U := fun U hU hW => ⟨rfl, by rw [hU]; exact g2, hE.go hW (by rw [hU]; exact g3.1) (by rw [hU]; exact g3.2.1)⟩
  have hM := z_met (l := l) hj hlen hc
  obtain ⟨b, Bs, rfl, hstk, hl, hsum, hrc⟩ := zprep_i (ad := ad) hp (Or.inr (Or.inl rfl))
  have hl' : (Bs.map (zv ad)).length = n := by rw [List.length_map]; exact hl
  have cw := va_cnB (R := R) (rm := { frames := d, cells := h1.1 - h.1, slots := h1.2.1 - h.2.1, locals := 40 * d }) n hcore (zgoodW (zcode_in hj)) rfl rfl rfl (hE.2.1 _ w1) (hcore _ w4) hds ⟨hf, hlo'⟩
  exact va_runVN (As := Bs.map (zv ad)) (b := ad b) (C := zRn (zown jj)) ⟨hx, hb, hmL, hown, hcore⟩ hM ⟨cw, hcore _ w2, hcore _ w3⟩ ⟨zPc_blind, z_recv hE g2 g3 (hrc (Or.inr rfl)), pre⟩ rfl hl' hsz hstk (by show 2 * 0 + _ ≤ 8; rw [zcat_map]; omega) hd hcs
set_option maxHeartbeats 8000000 in
theorem z_rs (hx : p.tables.exec = Jvm.exec) (hb : c.code = zcode j) (hmL : c.maxLocals = zmaxL j) (hown : s.vm.findClass (zRn (zown j)) = some m.cls) (hcore : ∀ w ∈ zcore, w.before args s = true) (hE : zENV s D cA ad base X) (g2 : zW D classes cA ad base h H) (g3 : va_S (zA base) s.heap H locs) (hsz : ls.size = zmaxL j) (hcs : cells + (h1.1 - h.1) ≤ R.cells ∧ slots + (h1.2.1 - h.2.1) ≤ R.slots) (hf : d + 1 ≤ R.frames) (hlo : 40 * (d + 1) ≤ R.locals) (hlen : (zentl As).length ≤ zmaxL jj) (hc : zS l D cA ad base X d jj 0 (zent (zmaxL jj) As) [] h v1 h1) (hd : decode (zcode j) pc = .ok (.invokestatic idx, 3)) (hml : zml (zown j) idx = some (2, jj, n)) (hp : zprep (2, jj, n) st h = some (As, rest)) : va_Run p l e R s m args below meth c H locs cells slots (h1.1 - h.1) (h1.2.1 - h.2.1) (F0 m pc ls (st.map (zv ad))) (rest.map (zv ad)) (zQc D cA ad base v1 h1 (As.map (zv ad)).toArray) (zA base) := by
  obtain ⟨hj, w1, w2, w3, hds⟩ := zml_s hml
  have hj21 := zmaxL_le hj
  have hlo' : 8 + (zmaxL jj + 11) + 40 * d ≤ R.locals := by omega
  have pre : ∀ U : State, U.heap = H → s.WarmedH U.vm → zPc D cA ad base X As h (As.map (zv ad)).toArray U := fun U hU hW => ⟨rfl, by rw [hU]; exact g2, hE.go hW (by rw [hU]; exact g3.1) (by rw [hU]; exact g3.2.1)⟩
  have hM := z_met (l := l) hj hlen hc
  obtain ⟨hstk, hl, hsum⟩ := zprep_s (ad := ad) hp (Or.inl rfl)
  have hl' : (As.map (zv ad)).length = n := by rw [List.length_map]; exact hl
  have cw := va_cwS (R := R) (rm := { frames := d, cells := h1.1 - h.1, slots := h1.2.1 - h.2.1, locals := 40 * d }) (own := zRn (zown j)) n hcore (zgoodS w1 w2 w3 (zcode_in hj)) rfl rfl rfl hds ⟨hf, hlo'⟩
  exact va_runS (As := As.map (zv ad)) ⟨hx, hb, hmL, hown, hcore⟩ hM cw ⟨zPc_blind, pre⟩ rfl hl' hsz hstk (by show 2 * 0 + _ ≤ 8; rw [zcat_map]; omega) hd hcs
set_option maxHeartbeats 8000000 in
theorem z_rsn (hx : p.tables.exec = Jvm.exec) (hb : c.code = zcode j) (hmL : c.maxLocals = zmaxL j) (hown : s.vm.findClass (zRn (zown j)) = some m.cls) (hcore : ∀ w ∈ zcore, w.before args s = true) (hE : zENV s D cA ad base X) (g2 : zW D classes cA ad base h H) (g3 : va_S (zA base) s.heap H locs) (hsz : ls.size = zmaxL j) (hcs : cells + (h1.1 - h.1) ≤ R.cells ∧ slots + (h1.2.1 - h.2.1) ≤ R.slots) (hf : d + 1 ≤ R.frames) (hlo : 40 * (d + 1) ≤ R.locals) (hlen : (zentl As).length ≤ zmaxL jj) (hc : zS l D cA ad base X d jj 0 (zent (zmaxL jj) As) [] h v1 h1) (hd : decode (zcode j) pc = .ok (.invokestatic idx, 3)) (hml : zml (zown j) idx = some (3, jj, n)) (hp : zprep (3, jj, n) st h = some (As, rest)) : va_Run p l e R s m args below meth c H locs cells slots (h1.1 - h.1) (h1.2.1 - h.2.1) (F0 m pc ls (st.map (zv ad))) (rest.map (zv ad)) (zQc D cA ad base v1 h1 (As.map (zv ad)).toArray) (zA base) := by
  obtain ⟨hj, ⟨host, w1⟩, w2, w3, hds⟩ := zml_sn hml
  have hj21 := zmaxL_le hj
  have hlo' : 8 + (zmaxL jj + 11) + 40 * d ≤ R.locals := by omega
  have pre : ∀ U : State, U.heap = H → s.WarmedH U.vm → zPc D cA ad base X As h (As.map (zv ad)).toArray U := fun U hU hW => ⟨rfl, by rw [hU]; exact g2, hE.go hW (by rw [hU]; exact g3.1) (by rw [hU]; exact g3.2.1)⟩
  have hM := z_met (l := l) hj hlen hc
  obtain ⟨hstk, hl, hsum⟩ := zprep_s (ad := ad) hp (Or.inr rfl)
  have hl' : (As.map (zv ad)).length = n := by rw [List.length_map]; exact hl
  have cw := va_cnB (R := R) (rm := { frames := d, cells := h1.1 - h.1, slots := h1.2.1 - h.2.1, locals := 40 * d }) n hcore (zgoodW (zcode_in hj)) rfl rfl rfl (hE.2.1 _ w1) (hcore _ w3) hds ⟨hf, hlo'⟩
  exact va_runSN (As := As.map (zv ad)) ⟨hx, hb, hmL, hown, hcore⟩ hM ⟨cw, hcore _ w2, trivial⟩ ⟨zPc_blind, pre⟩ rfl hl' hsz hstk (by show 2 * 0 + _ ≤ 8; rw [zcat_map]; omega) hd hcs
set_option maxHeartbeats 8000000 in
theorem z_ri (hx : p.tables.exec = Jvm.exec) (hb : c.code = zcode j) (hmL : c.maxLocals = zmaxL j) (hown : s.vm.findClass (zRn (zown j)) = some m.cls) (hcore : ∀ w ∈ zcore, w.before args s = true) (hE : zENV s D cA ad base X) (g2 : zW D classes cA ad base h H) (g3 : va_S (zA base) s.heap H locs) (hsz : ls.size = zmaxL j) (hcs : cells + (h1.1 - h.1) ≤ R.cells ∧ slots + (h1.2.1 - h.2.1) ≤ R.slots) (hf : d + 1 ≤ R.frames) (hlo : 40 * (d + 1) ≤ R.locals) (hlen : (zentl As).length ≤ zmaxL jj) (hc : zS l D cA ad base X d jj 0 (zent (zmaxL jj) As) [] h v1 h1) (hd : decode (zcode j) pc = .ok (.invokespecial idx, 3)) (hml : zml (zown j) idx = some (4, jj, n)) (hp : zprep (4, jj, n) st h = some (As, rest)) : va_Run p l e R s m args below meth c H locs cells slots (h1.1 - h.1) (h1.2.1 - h.2.1) (F0 m pc ls (st.map (zv ad))) (rest.map (zv ad)) (zQc D cA ad base v1 h1 (As.map (zv ad)).toArray) (zA base) := by
  obtain ⟨hj, w1, w2, w3, hnm, hrt, hds⟩ := zml_i hml
  have hj21 := zmaxL_le hj
  have hlo' : 8 + (zmaxL jj + 11) + 40 * d ≤ R.locals := by omega
  have pre : ∀ U : State, U.heap = H → s.WarmedH U.vm → zPc D cA ad base X As h (As.map (zv ad)).toArray U := fun U hU hW => ⟨rfl, by rw [hU]; exact g2, hE.go hW (by rw [hU]; exact g3.1) (by rw [hU]; exact g3.2.1)⟩
  have hM := z_met (l := l) hj hlen hc
  obtain ⟨b, Bs, rfl, hstk, hl, hsum, hrc⟩ := zprep_i (ad := ad) hp (Or.inr (Or.inr (Or.inl rfl)))
  have hl' : (Bs.map (zv ad)).length = n := by rw [List.length_map]; exact hl
  have hw : zws jj = Cond.code (zname jj) (zcode jj) (zmaxL jj) none :: zcore := by rw [← hrt]; rfl
  have cw := cwI (R := R) (rm := { frames := d, cells := h1.1 - h.1, slots := h1.2.1 - h.2.1, locals := 40 * d }) n hcore (zgoodW (zcode_in hj)) hw rfl rfl (hcore _ w3) (hcore _ w1) (hcore _ w2) hnm hds ⟨hf, hlo'⟩
  exact va_runI (As := Bs.map (zv ad)) (b := ad b) ⟨hx, hb, hmL, hown, hcore⟩ hM cw ⟨zPc_blind, pre⟩ rfl hl' hsz hstk (by show 2 * 0 + _ ≤ 8; rw [zcat_map]; omega) hd hcs
set_option maxHeartbeats 8000000 in
theorem z_rin (hx : p.tables.exec = Jvm.exec) (hb : c.code = zcode j) (hmL : c.maxLocals = zmaxL j) (hown : s.vm.findClass (zRn (zown j)) = some m.cls) (hcore : ∀ w ∈ zcore, w.before args s = true) (hE : zENV s D cA ad base X) (g2 : zW D classes cA ad base h H) (g3 : va_S (zA base) s.heap H locs) (hsz : ls.size = zmaxL j) (hcs : cells + (h1.1 - h.1) ≤ R.cells ∧ slots + (h1.2.1 - h.2.1) ≤ R.slots) (hf : d + 1 ≤ R.frames) (hlo : 40 * (d + 1) ≤ R.locals) (hlen : (zentl As).length ≤ zmaxL jj) (hc : zS l D cA ad base X d jj 0 (zent (zmaxL jj) As) [] h v1 h1) (hd : decode (zcode j) pc = .ok (.invokespecial idx, 3)) (hml : zml (zown j) idx = some (5, jj, n)) (hp : zprep (5, jj, n) st h = some (As, rest)) : va_Run p l e R s m args below meth c H locs cells slots (h1.1 - h.1) (h1.2.1 - h.2.1) (F0 m pc ls (st.map (zv ad))) (rest.map (zv ad)) (zQc D cA ad base v1 h1 (As.map (zv ad)).toArray) (zA base) := by
  obtain ⟨hj, ⟨host, w1⟩, w2, w3, hnm, hrt, hds⟩ := zml_in hml
  have hj21 := zmaxL_le hj
  have hlo' : 8 + (zmaxL jj + 11) + 40 * d ≤ R.locals := by omega
  have pre : ∀ U : State, U.heap = H → s.WarmedH U.vm → zPc D cA ad base X As h (As.map (zv ad)).toArray U := fun U hU hW => ⟨rfl, by rw [hU]; exact g2, hE.go hW (by rw [hU]; exact g3.1) (by rw [hU]; exact g3.2.1)⟩
  have hM := z_met (l := l) hj hlen hc
  obtain ⟨b, Bs, rfl, hstk, hl, hsum, hrc⟩ := zprep_i (ad := ad) hp (Or.inr (Or.inr (Or.inr rfl)))
  have hl' : (Bs.map (zv ad)).length = n := by rw [List.length_map]; exact hl
  have hw : zws jj = Cond.code (zname jj) (zcode jj) (zmaxL jj) none :: zcore := by rw [← hrt]; rfl
  have cw := va_cnB (R := R) (rm := { frames := d, cells := h1.1 - h.1, slots := h1.2.1 - h.2.1, locals := 40 * d }) n hcore (zgoodW (zcode_in hj)) hw rfl rfl (hE.2.1 _ w1) (hcore _ w3) hds ⟨hf, hlo'⟩
  exact va_runIN (As := Bs.map (zv ad)) (b := ad b) ⟨hx, hb, hmL, hown, hcore⟩ hM ⟨cw, hnm, hcore _ w2⟩ ⟨zPc_blind, pre⟩ rfl hl' hsz hstk (by show 2 * 0 + _ ≤ 8; rw [zcat_map]; omega) hd hcs
end ZRUN
