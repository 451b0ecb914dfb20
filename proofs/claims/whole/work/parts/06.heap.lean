/-! THE STEPS that read or write cells -/
def ztys (cA : Nat → ClassId) : List (ClassId × FieldType) := [(cA 0, .int), (cA 1, .char), (cA 2, .long), (cA 3, .boolean), (cA 4, .byte), (cA 5, .object zPatN)]
theorem zP1 {D : va_G} {cl : List vw_C} {q : Nat × va_E} {H : Heap} (h : va_at D cl q H) : va_P D cl [q] H := by
  intro k x hx
  match k, hx with
  | 0, hx => cases hx; exact h
  | k + 1, hx => simp at hx
theorem zin_ok {i : Int32} {n : Nat} (h : 0 ≤ i.toInt ∧ i.toInt < n) : vp_in i n := vp_in_iff.mpr h
theorem zclamp {n : Int32} (h : 0 ≤ n.toInt) : ¬ n < 0 := by
  intro q
  have q' := Int32.lt_iff_toInt_lt.mp q
  have : (0 : Int32).toInt = 0 := by decide
  omega
theorem zfit_ok {ad : Nat → Nat} {ty : FieldType} {v : Value} (h : zfit ty v = true) : narrow ty (zv ad v) = zv ad v ∧ fits ty (zv ad v) = true := by
  unfold zfit at h
  split at h
  · exact ⟨rfl, rfl⟩
  · exact ⟨rfl, rfl⟩
  · rename_i x
    simp only [Bool.or_eq_true, beq_iff_eq] at h
    rcases h with rfl | rfl
    · exact (by decide : narrow .boolean (.int 0) = .int 0 ∧ fits .boolean (.int 0) = true)
    · exact (by decide : narrow .boolean (.int 1) = .int 1 ∧ fits .boolean (.int 1) = true)
  · exact ⟨rfl, rfl⟩
  · exact ⟨rfl, rfl⟩
  · exact ⟨rfl, rfl⟩
  · exact ⟨rfl, rfl⟩
  · cases h
section ZP
variable {p : Program} {l : Launch} {e : Env} {R : Room} {s : State} {m : MethodId} {args : Array Value} {below : List Frame} {meth : Method} {c : Code} {Q : State → Prop} {D : va_G} {cl : List vw_C} {cA : Nat → ClassId} {ad : Nat → Nat} {base nL c0 s0 : Nat} {cc : ByteArray} {pc : Nat} {L : zL} {st : List Value} {h : zH} {F : zF} {own : String} {Ts : List Cond} {o idx : Nat} {X : zX} {ini : Bool}
theorem zo_getf (hx : p.tables.exec = Jvm.exec) (hb : c.code = cc) (hown : s.vm.findClass own = some m.cls) (hts : ∀ w ∈ Ts, w.before args s = true) (hK : va_K D cl (ztys cA) s)
    (hfl : ∀ ci k ne, zfl o idx = some (ci, k, ne) → ∃ C T N, cl[ci]? = some (C, T, N) ∧ k < N ∧ (∀ w ∈ u_ws C T N, w ∈ Ts) ∧ ((Cond.fieldLink own idx (T k).1 (T k).2.1 (T k).2.2.1).before args s = true ∨ ∃ host, (Cond.fieldLinkNest own idx (T k).1 (T k).2.1 (T k).2.2.1 host).before args s = true))
    (hkf : ∀ a v, zkf o idx a = some v → ∃ oo n d, va_OF oo n d (zv ad v) (ad a) (zA base) s s.heap ∧ ((Cond.fieldLink own idx oo n d).before args s = true ∨ ∃ host, (Cond.fieldLinkNest own idx oo n d host).before args s = true))
    (hd : decode cc pc = .ok (.getfield idx, 3)) (hz : zs_getf pc o idx L st h = some F) (k : zGo p l e R s m args below meth c Q D cl cA ad base nL c0 s0 F) : zGo p l e R s m args below meth c Q D cl cA ad base nL c0 s0 (pc, L, st, h) := by
  unfold zs_getf at hz
  split at hz
  · rename_i a r
    split at hz
    · rename_i ci fs hc
      split at hz
      · rename_i ci' k' ne hf
        split at hz
        · rename_i hci
          subst hci
          split at hz
          · rename_i v hv
            cases hz
            intro ls H locs cells slots g1 g2 g3 g4 g5
            obtain ⟨C, T, N, h1, h2, h3, h4⟩ := hfl _ _ _ hf
            have hP := zP1 (g2.2 a _ hc).2.2.2
            have hv' : (fs.map (zv ad))[k']? = some (zv ad v) := by rw [List.getElem?_map, hv]; rfl
            rcases h4 with h4 | ⟨host, h4⟩
            · exact va_get (D := D) (ci := ci') hx hb hts h3 hown hK hP 0 rfl h1 k' h2 h4 (fun _ q => q) hv' hd (k ls H locs cells slots g1 g2 g3 g4 g5)
            · exact va_getN (D := D) (ci := ci') hx hb hts h3 hown hK hP 0 rfl h1 k' h2 h4 (fun _ q => q) hv' hd (k ls H locs cells slots g1 g2 g3 g4 g5)
          · cases hz
        · cases hz
      · cases hz
    · cases hz
    · split at hz
      · rename_i v hv
        cases hz
        intro ls H locs cells slots g1 g2 g3 g4 g5
        obtain ⟨oo, n, d, hE, h4⟩ := hkf _ _ hv
        rcases h4 with h4 | ⟨host, h4⟩
        · exact vk_getf hx hb hE g3 hown h4 (fun _ q => q) hd (k ls H locs cells slots g1 g2 g3 g4 g5)
        · obtain ⟨cf, kk, fi, f, cell, q1, q2, q3, q4, q5, q6⟩ := hE.kept g3.2.1
          exact va_Wgetf hx hb hown h4 q1 q2 q3 q4 q5 rfl rfl hd (k ls H locs cells slots g1 g2 g3 g4 g5)
      · cases hz
  · cases hz
theorem zo_putf (hx : p.tables.exec = Jvm.exec) (hb : c.code = cc) (hown : s.vm.findClass own = some m.cls) (hts : ∀ w ∈ Ts, w.before args s = true) (hK : va_K D cl (ztys cA) s)
    (hfl : ∀ ci k ne, zfl o idx = some (ci, k, ne) → (zfin ci k = false ∨ (ini = true ∧ ci = o ∧ ne = false)) → ∃ C T N, cl[ci]? = some (C, T, N) ∧ k < N ∧ (∀ w ∈ u_ws C T N, w ∈ Ts) ∧ (∀ x, x < N → parseFieldDescriptor (T x).2.2.1 = some (zty ci x)) ∧ (∀ a, a < N → ∀ b, b < N → a ≠ b → (T a).2.1 ≠ (T b).2.1) ∧ (((T k).2.2.2 = false ∧ (Cond.fieldLink own idx (T k).1 (T k).2.1 (T k).2.2.1).before args s = true) ∨ ((T k).2.2.2 = true ∧ meth.name = "<init>" ∧ (T k).1 = own ∧ (Cond.fieldLink own idx (T k).1 (T k).2.1 (T k).2.2.1).before args s = true) ∨ ((T k).2.2.2 = false ∧ ∃ host, (Cond.fieldLinkNest own idx (T k).1 (T k).2.1 (T k).2.2.1 host).before args s = true)))
    (hd : decode cc pc = .ok (.putfield idx, 3)) (hz : zs_putf ini pc o idx L st h = some F) (k : zGo p l e R s m args below meth c Q D cl cA ad base nL c0 s0 F) : zGo p l e R s m args below meth c Q D cl cA ad base nL c0 s0 (pc, L, st, h) := by
  unfold zs_putf at hz
  split at hz
  · rename_i v a r
    split at hz
    · rename_i ci fs hc
      split at hz
      · rename_i ci' k' ne hf
        split at hz
        · rename_i hci
          obtain ⟨rfl, hlen, hfit, hfn⟩ := hci
          cases hz
          intro ls H locs cells slots g1 g2 g3 g4 g5
          obtain ⟨C, T, N, h1, h2, h3, hty, hnm, h4⟩ := hfl _ _ _ hf hfn
          obtain ⟨hn, hft⟩ := zfit_ok (ad := ad) hfit
          obtain ⟨w1, w2, w3, w4⟩ := g2.2 a _ hc
          have hap := va_apart (own := own) hts h3 (zty ci') hty hnm hK h1
          obtain ⟨r0, hr0, cell, q1, q2, q3, q4⟩ := w4
          have hr : r0 = (C, T, N) := Option.some.inj (hr0.symm.trans h1)
          subst hr
          obtain ⟨hS, hfc, kC, hkC, hkind⟩ := hK.1 ci' _ h1
          obtain ⟨cf, kf, fi, f, hi, hsl⟩ := hS k' h2
          have hst := (u_facts hfc hkC (u_lays hts h3 h2) hi).1
          have hlay := hts _ (h3 _ (u_in_lay h2))
          unfold u_lay at hlay
          have hlen' : k' < (fs.map (zv ad)).length := by simpa using hlen
          have hA : base ≤ ad a := by omega
          have fin : ∀ H' : Heap, H'[ad a]? = some (cell.setSlot f.slot (zv ad v)) → H'.size = H.size → (∀ q, q ≠ ad a → H'[q]? = H[q]?) → W p l e R s m args below meth c H' (locs ++ [⟨ad a, f.slot⟩]) cells slots Q (F0 m (pc + 3) ls (r.map (zv ad))) := by
            intro H' e1 e2 e3
            rw [hsl] at e1 ⊢
            refine k ls H' _ cells slots g1 (g2.set hc e2 e3 ?_) (g3.put e2 e3 hA) g4 g5
            show va_at D cl (ad a, .inr (ci', (fs.set k' v).map (zv ad))) H'
            rw [List.map_set]
            exact ⟨_, h1, t_OB.to (V := updV (vp_V (fs.map (zv ad))) k' (zv ad v)) ⟨_, e1, q2, q3, t_set q4 hap h2 (zv ad v)⟩ (fun j _ => vp_updV_set hlen' (zv ad v) j)⟩
          rcases h4 with ⟨hfin, hlink⟩ | ⟨hfin, hin2, hdecl, hlink⟩ | ⟨hfin, host, hlink⟩
          · rw [if_neg (by rw [hfin]; decide)] at hlay
            have h6 := u_store hfc hkC hkind hlay hi (hty k' h2) hn hft
            exact W.putK hx hb (f := f) ⟨hown, hlink, ⟨_, _, _, hi⟩, hst⟩ (by rw [q2]; exact h6) q1 q3 (by rw [hsl]; exact k2_hasslot (q4 k' h2)) rfl rfl hd fin
          · rw [if_pos hfin] at hlay
            have hcf : m.cls = cf := by
              obtain ⟨_, _, c', _, _, _, -, -, hf', -, -, -, hown2, -⟩ := Cond.laysFinal_spec hlay
              have e1 : c' = cf := by have := hi.symm.trans hf'; simp at this; exact this.1.symm
              rw [hdecl] at hown2
              rw [← e1]; exact Option.some.inj (hown.symm.trans hown2)
            have h6 := u_fits hfc hkC hkind (Or.inr hlay) hi (hty k' h2) hn hft
            exact W.putFinK hx hb hown hlink hi hst hcf hin2 (by rw [q2]; exact h6) q1 q3 (by rw [hsl]; exact k2_hasslot (q4 k' h2)) rfl rfl hd fin
          · rw [if_neg (by rw [hfin]; decide)] at hlay
            have h6 := u_store hfc hkC hkind hlay hi (hty k' h2) hn hft
            exact va_WputK hx hb (f := f) hown hlink hi hst (by rw [q2]; exact h6) q1 q3 (by rw [hsl]; exact k2_hasslot (q4 k' h2)) rfl rfl hd fin
        · cases hz
      · cases hz
    · cases hz
  · cases hz
theorem zo_ldc (hx : p.tables.exec = Jvm.exec) (hb : c.code = cc) (hown : s.vm.findClass own = some m.cls)
    (hld : ∀ v, zld o idx = some v → (∃ x, v = .int x ∧ (Cond.constant own idx x).before args s = true) ∨ (∃ k tx, v = .ref k ∧ vk_R own idx tx (ad k) s))
    (hd : decode cc pc = .ok (.ldc idx, 2)) (hz : zs_ldc pc o idx L st h = some F) (k : zGo p l e R s m args below meth c Q D cl cA ad base nL c0 s0 F) : zGo p l e R s m args below meth c Q D cl cA ad base nL c0 s0 (pc, L, st, h) := by
  unfold zs_ldc at hz
  split at hz
  · rename_i v hv
    cases hz
    intro ls H locs cells slots g1 g2 g3 g4 g5
    rcases hld _ hv with ⟨x, rfl, hc⟩ | ⟨q, tx, rfl, hc⟩
    · exact lv_ldc hx hb hown hc hd (k ls H locs cells slots g1 g2 g3 g4 g5)
    · exact va_ldcS hx hb hown hc hd (k ls H locs cells slots g1 g2 g3 g4 g5)
  · cases hz
theorem zo_ldc2 (hx : p.tables.exec = Jvm.exec) (hb : c.code = cc) (hown : s.vm.findClass own = some m.cls)
    (hld : ∀ x, zl2 o idx = some x → (Cond.constantLong own idx x).before args s = true)
    (hd : decode cc pc = .ok (.ldc2_w idx, 3)) (hz : zs_ldc2 pc o idx L st h = some F) (k : zGo p l e R s m args below meth c Q D cl cA ad base nL c0 s0 F) : zGo p l e R s m args below meth c Q D cl cA ad base nL c0 s0 (pc, L, st, h) := by
  unfold zs_ldc2 at hz
  split at hz
  · rename_i v hv
    cases hz
    intro ls H locs cells slots g1 g2 g3 g4 g5
    exact lv_ldc2 hx hb hown (hld _ hv) hd (k ls H locs cells slots g1 g2 g3 g4 g5)
  · cases hz
theorem zo_gets (hx : p.tables.exec = Jvm.exec) (hb : c.code = cc) (hown : s.vm.findClass own = some m.cls)
    (hsl : ∀ q, zsl X o idx = some q → ∃ C n d, va_Z C n d (zv ad q.1) (zA base) s s.heap ∧ ((Cond.fieldLink own idx C n d).before args s = true ∨ ∃ host, (Cond.fieldLinkNest own idx C n d host).before args s = true))
    (hd : decode cc pc = .ok (.getstatic idx, 3)) (hz : zs_gets pc o idx X L st h = some F) (k : zGo p l e R s m args below meth c Q D cl cA ad base nL c0 s0 F) : zGo p l e R s m args below meth c Q D cl cA ad base nL c0 s0 (pc, L, st, h) := by
  unfold zs_gets at hz
  split at hz
  · rename_i q hq
    cases hz
    intro ls H locs cells slots g1 g2 g3 g4 g5
    obtain ⟨C, n, d, hZ, h4⟩ := hsl _ hq
    rcases h4 with h4 | ⟨host, h4⟩
    · exact va_gets hx hb hZ g3 hown h4 (fun _ q => q) hd (k ls H locs cells slots g1 g2 g3 g4 g5)
    · exact va_getsN hx hb hZ g3 hown h4 (fun _ q => q) hd (k ls H locs cells slots g1 g2 g3 g4 g5)
  · cases hz
theorem zo_iaload (hx : p.tables.exec = Jvm.exec) (hb : c.code = cc) (hK : va_K D cl (ztys cA) s) (hka : ∀ a t n f, zka X a = some (t, n, f) → va_T (zkty t) (ad a) n (fun j => zv ad (f j)) (zA base) s s.heap) (hd : decode cc pc = .ok (.iaload, 1)) (hz : zs_ald pc 0 X L st h = some F) (k : zGo p l e R s m args below meth c Q D cl cA ad base nL c0 s0 F) : zGo p l e R s m args below meth c Q D cl cA ad base nL c0 s0 (pc, L, st, h) := by
  unfold zs_ald at hz
  split at hz
  · rename_i i a r
    split at hz
    · rename_i t' n f hc
      split at hz
      · rename_i hq
        obtain ⟨rfl, hq⟩ := hq
        cases hz
        intro ls H locs cells slots g1 g2 g3 g4 g5
        have hP := zP1 (g2.2 a _ hc).2.2.2
        exact va_iald (D := D) (cA := cA 0) hx hb hK hP 0 0 rfl rfl (zin_ok hq) hd (k ls H locs cells slots g1 g2 g3 g4 g5)
      · cases hz
    · cases hz
    · split at hz
      · rename_i t' n f hc
        split at hz
        · rename_i hq
          obtain ⟨rfl, hq⟩ := hq
          cases hz
          intro ls H locs cells slots g1 g2 g3 g4 g5
          exact va_ti hx hb (hka _ _ _ _ hc) g3 (zin_ok hq) rfl hd (k ls H locs cells slots g1 g2 g3 g4 g5)
        · cases hz
      · cases hz
  · cases hz
theorem zo_caload (hx : p.tables.exec = Jvm.exec) (hb : c.code = cc) (hK : va_K D cl (ztys cA) s) (hka : ∀ a t n f, zka X a = some (t, n, f) → va_T (zkty t) (ad a) n (fun j => zv ad (f j)) (zA base) s s.heap) (hd : decode cc pc = .ok (.caload, 1)) (hz : zs_ald pc 1 X L st h = some F) (k : zGo p l e R s m args below meth c Q D cl cA ad base nL c0 s0 F) : zGo p l e R s m args below meth c Q D cl cA ad base nL c0 s0 (pc, L, st, h) := by
  unfold zs_ald at hz
  split at hz
  · rename_i i a r
    split at hz
    · rename_i t' n f hc
      split at hz
      · rename_i hq
        obtain ⟨rfl, hq⟩ := hq
        cases hz
        intro ls H locs cells slots g1 g2 g3 g4 g5
        have hP := zP1 (g2.2 a _ hc).2.2.2
        exact va_cald (D := D) (cA := cA 1) hx hb hK hP 0 1 rfl rfl (zin_ok hq) hd (k ls H locs cells slots g1 g2 g3 g4 g5)
      · cases hz
    · cases hz
    · split at hz
      · rename_i t' n f hc
        split at hz
        · rename_i hq
          obtain ⟨rfl, hq⟩ := hq
          cases hz
          intro ls H locs cells slots g1 g2 g3 g4 g5
          exact va_tc hx hb (hka _ _ _ _ hc) g3 (zin_ok hq) rfl hd (k ls H locs cells slots g1 g2 g3 g4 g5)
        · cases hz
      · cases hz
  · cases hz
theorem zo_baload (hx : p.tables.exec = Jvm.exec) (hb : c.code = cc) (hK : va_K D cl (ztys cA) s) (hka : ∀ a t n f, zka X a = some (t, n, f) → va_T (zkty t) (ad a) n (fun j => zv ad (f j)) (zA base) s s.heap) (hd : decode cc pc = .ok (.baload, 1)) (hz : zs_bld pc X L st h = some F) (k : zGo p l e R s m args below meth c Q D cl cA ad base nL c0 s0 F) : zGo p l e R s m args below meth c Q D cl cA ad base nL c0 s0 (pc, L, st, h) := by
  unfold zs_bld at hz
  split at hz
  · rename_i i a r
    split at hz
    · rename_i t' n f hc
      split at hz
      · rename_i hq
        obtain ⟨rfl, hq⟩ := hq
        cases hz
        intro ls H locs cells slots g1 g2 g3 g4 g5
        have hP := zP1 (g2.2 a _ hc).2.2.2
        exact va_zald (D := D) (cA := cA 3) hx hb hK hP 0 3 rfl rfl (zin_ok hq) hd (k ls H locs cells slots g1 g2 g3 g4 g5)
      · cases hz
    · cases hz
    · split at hz
      · rename_i t' n f hc
        split at hz
        · rename_i hq
          obtain ⟨rfl, hq⟩ := hq
          cases hz
          intro ls H locs cells slots g1 g2 g3 g4 g5
          exact va_tb hx hb (hka _ _ _ _ hc) g3 (zin_ok hq) rfl hd (k ls H locs cells slots g1 g2 g3 g4 g5)
        · cases hz
      · cases hz
  · cases hz
theorem zo_laload (hx : p.tables.exec = Jvm.exec) (hb : c.code = cc) (hK : va_K D cl (ztys cA) s) (hd : decode cc pc = .ok (.laload, 1)) (hz : zs_jld pc L st h = some F) (k : zGo p l e R s m args below meth c Q D cl cA ad base nL c0 s0 F) : zGo p l e R s m args below meth c Q D cl cA ad base nL c0 s0 (pc, L, st, h) := by
  unfold zs_jld at hz
  split at hz
  · rename_i i a r
    split at hz
    · rename_i t' n f hc
      split at hz
      · rename_i hq
        obtain ⟨rfl, hq⟩ := hq
        cases hz
        intro ls H locs cells slots g1 g2 g3 g4 g5
        have hP := zP1 (g2.2 a _ hc).2.2.2
        exact va_lald (D := D) (cA := cA 2) hx hb hK hP 0 2 rfl rfl (zin_ok hq) hd (k ls H locs cells slots g1 g2 g3 g4 g5)
      · cases hz
    · cases hz
  · cases hz
theorem zrf_map (ad : Nat → Nat) (r : Option Nat) : va_rf (r.map ad) = zv ad (va_rf r) := by cases r <;> rfl
theorem zo_aaload (hx : p.tables.exec = Jvm.exec) (hb : c.code = cc) (hK : va_K D cl (ztys cA) s) (hka : ∀ a t n f, zka X a = some (t, n, f) → va_T (zkty t) (ad a) n (fun j => zv ad (f j)) (zA base) s s.heap) (hd : decode cc pc = .ok (.aaload, 1)) (hz : zs_rld pc X L st h = some F) (k : zGo p l e R s m args below meth c Q D cl cA ad base nL c0 s0 F) : zGo p l e R s m args below meth c Q D cl cA ad base nL c0 s0 (pc, L, st, h) := by
  unfold zs_rld at hz
  split at hz
  · rename_i i a r
    split at hz
    · rename_i t' n f hc
      split at hz
      · rename_i hq
        obtain ⟨rfl, hq⟩ := hq
        cases hz
        intro ls H locs cells slots g1 g2 g3 g4 g5
        have hP := zP1 (g2.2 a _ hc).2.2.2
        refine va_aldq (D := D) (cA := cA 5) hx hb hK hP 0 5 rfl rfl (zin_ok hq) hd ?_
        have hk := k ls H locs cells slots g1 g2 g3 g4 g5
        rw [zrf_map]
        exact hk
      · cases hz
    · cases hz
    · split at hz
      · rename_i t' n f hc
        split at hz
        · rename_i hq
          obtain ⟨rfl, hq⟩ := hq
          cases hz
          intro ls H locs cells slots g1 g2 g3 g4 g5
          exact vb_tq hx hb (hka _ _ _ _ hc) g3 (zin_ok hq) rfl hd (k ls H locs cells slots g1 g2 g3 g4 g5)
        · cases hz
      · cases hz
  · cases hz
theorem zo_iastore (hx : p.tables.exec = Jvm.exec) (hb : c.code = cc) (hK : va_K D cl (ztys cA) s) (hd : decode cc pc = .ok (.iastore, 1)) (hz : zs_ast pc 0 .int L st h = some F) (k : zGo p l e R s m args below meth c Q D cl cA ad base nL c0 s0 F) : zGo p l e R s m args below meth c Q D cl cA ad base nL c0 s0 (pc, L, st, h) := by
  unfold zs_ast at hz
  split at hz
  · rename_i x i a r
    split at hz
    · rename_i t' n f hc
      split at hz
      · rename_i hq
        obtain ⟨rfl, hq⟩ := hq
        cases hz
        intro ls H locs cells slots g1 g2 g3 g4 g5
        obtain ⟨w1, w2, w3, w4⟩ := g2.2 a _ hc
        have hin := zin_ok hq
        refine W.iast hx hb (cell := vp_cell (cA 0) (n, .inl f)) w4 ((hK.2 0 _ rfl).1 n (fun j => .int (f j))) (fun q => by cases q) (by show ¬ (i < 0 ∨ (arrV _ _ _).slots.size ≤ _); rw [arrV_size]; exact hin) rfl rfl hd fun H1 e z oq => ?_
        refine k ls H1 _ cells slots g1 (g2.set hc z oq ?_) (g3.put z oq (show base ≤ ad a by omega)) g4 g5
        show H1[ad a]? = some (vp_cell (cA 0) (n, .inl (upd f i.toNatClampNeg (vp_nar .int x))))
        rw [e]
        rw [vp_cell_i, vp_cell_i, arrV_store]
        congr 2
        funext q
        by_cases hq : q = i.toNatClampNeg
        · subst hq
          simp [updV, upd, vp_nar]
          try rfl
        · simp [updV, upd, hq]
      · cases hz
    · cases hz
  · cases hz
theorem zo_castore (hx : p.tables.exec = Jvm.exec) (hb : c.code = cc) (hK : va_K D cl (ztys cA) s) (hd : decode cc pc = .ok (.castore, 1)) (hz : zs_ast pc 1 .char L st h = some F) (k : zGo p l e R s m args below meth c Q D cl cA ad base nL c0 s0 F) : zGo p l e R s m args below meth c Q D cl cA ad base nL c0 s0 (pc, L, st, h) := by
  unfold zs_ast at hz
  split at hz
  · rename_i x i a r
    split at hz
    · rename_i t' n f hc
      split at hz
      · rename_i hq
        obtain ⟨rfl, hq⟩ := hq
        cases hz
        intro ls H locs cells slots g1 g2 g3 g4 g5
        obtain ⟨w1, w2, w3, w4⟩ := g2.2 a _ hc
        have hin := zin_ok hq
        refine W.cast hx hb (cell := vp_cell (cA 1) (n, .inl f)) w4 ((hK.2 1 _ rfl).1 n (fun j => .int (f j))) (fun q => by cases q) (by show ¬ (i < 0 ∨ (arrV _ _ _).slots.size ≤ _); rw [arrV_size]; exact hin) rfl rfl hd fun H1 e z oq => ?_
        refine k ls H1 _ cells slots g1 (g2.set hc z oq ?_) (g3.put z oq (show base ≤ ad a by omega)) g4 g5
        show H1[ad a]? = some (vp_cell (cA 1) (n, .inl (upd f i.toNatClampNeg (vp_nar .char x))))
        rw [e]
        rw [vp_cell_i, vp_cell_i, arrV_store]
        congr 2
        funext q
        by_cases hq : q = i.toNatClampNeg
        · subst hq
          simp [updV, upd, vp_nar]
          try rfl
        · simp [updV, upd, hq]
      · cases hz
    · cases hz
  · cases hz
theorem zo_bastore (hx : p.tables.exec = Jvm.exec) (hb : c.code = cc) (hK : va_K D cl (ztys cA) s) (hd : decode cc pc = .ok (.bastore, 1)) (hz : zs_ast pc 3 .boolean L st h = some F) (k : zGo p l e R s m args below meth c Q D cl cA ad base nL c0 s0 F) : zGo p l e R s m args below meth c Q D cl cA ad base nL c0 s0 (pc, L, st, h) := by
  unfold zs_ast at hz
  split at hz
  · rename_i x i a r
    split at hz
    · rename_i t' n f hc
      split at hz
      · rename_i hq
        obtain ⟨rfl, hq⟩ := hq
        cases hz
        intro ls H locs cells slots g1 g2 g3 g4 g5
        obtain ⟨w1, w2, w3, w4⟩ := g2.2 a _ hc
        have hin := zin_ok hq
        refine W.zast hx hb (cell := vp_cell (cA 3) (n, .inl f)) w4 ((hK.2 3 _ rfl).1 n (fun j => .int (f j))) (fun q => by cases q) (by show ¬ (i < 0 ∨ (arrV _ _ _).slots.size ≤ _); rw [arrV_size]; exact hin) rfl rfl hd fun H1 e z oq => ?_
        refine k ls H1 _ cells slots g1 (g2.set hc z oq ?_) (g3.put z oq (show base ≤ ad a by omega)) g4 g5
        show H1[ad a]? = some (vp_cell (cA 3) (n, .inl (upd f i.toNatClampNeg (vp_nar .boolean x))))
        rw [e]
        rw [vp_cell_i, vp_cell_i, arrV_store]
        congr 2
        funext q
        by_cases hq : q = i.toNatClampNeg
        · subst hq
          simp [updV, upd, vp_nar]
          try rfl
        · simp [updV, upd, hq]
      · cases hz
    · cases hz
  · cases hz
theorem zo_lastore (hx : p.tables.exec = Jvm.exec) (hb : c.code = cc) (hK : va_K D cl (ztys cA) s) (hd : decode cc pc = .ok (.lastore, 1)) (hz : zs_jst pc L st h = some F) (k : zGo p l e R s m args below meth c Q D cl cA ad base nL c0 s0 F) : zGo p l e R s m args below meth c Q D cl cA ad base nL c0 s0 (pc, L, st, h) := by
  unfold zs_jst at hz
  split at hz
  · rename_i x i a r
    split at hz
    · rename_i t' n f hc
      split at hz
      · rename_i hq
        obtain ⟨rfl, hq⟩ := hq
        cases hz
        intro ls H locs cells slots g1 g2 g3 g4 g5
        obtain ⟨w1, w2, w3, w4⟩ := g2.2 a _ hc
        have hin := zin_ok hq
        refine W.last hx hb (cell := vp_cell (cA 2) (n, .inr (.inl f))) w4 ((hK.2 2 _ rfl).1 n (fun j => .long (f j))) (fun q => by cases q) (by show ¬ (i < 0 ∨ (arrV _ _ _).slots.size ≤ _); rw [arrV_size]; exact hin) rfl rfl hd fun H1 e z oq => ?_
        refine k ls H1 _ cells slots g1 (g2.set hc z oq ?_) (g3.put z oq (show base ≤ ad a by omega)) g4 g5
        show H1[ad a]? = some (vp_cell (cA 2) (n, .inr (.inl (vp_updL f i.toNatClampNeg x))))
        rw [e]
        rw [vp_cell_l, vp_cell_l, arrV_store]
        congr 2
        funext q
        by_cases hq : q = i.toNatClampNeg
        · subst hq
          simp [updV, vp_updL]
        · simp [updV, vp_updL, hq]
      · cases hz
    · cases hz
  · cases hz
theorem zo_aastore (hx : p.tables.exec = Jvm.exec) (hb : c.code = cc) (hK : va_K D cl (ztys cA) s) (hpat : cl[zPat]? = some zPatC) (hpn : zPatC.1 = zPatN) (hd : decode cc pc = .ok (.aastore, 1)) (hz : zs_rst pc L st h = some F) (k : zGo p l e R s m args below meth c Q D cl cA ad base nL c0 s0 F) : zGo p l e R s m args below meth c Q D cl cA ad base nL c0 s0 (pc, L, st, h) := by
  unfold zs_rst at hz
  split at hz
  · rename_i b i a r
    split at hz
    · rename_i t' n f ci vs hc hcb
      split at hz
      · rename_i hq
        obtain ⟨rfl, rfl, hq⟩ := hq
        cases hz
        intro ls H locs cells slots g1 g2 g3 g4 g5
        obtain ⟨w1, w2, w3, w4⟩ := g2.2 a _ hc
        obtain ⟨v1, v2, v3, r0, hr0, cellV, y1, y2, y3, -⟩ := g2.2 b _ hcb
        have hin := zin_ok hq
        have hlt : i.toNatClampNeg < n := Nat.not_le.mp fun q => hin (Or.inr q)
        have h0 : ¬ i < 0 := fun q => hin (Or.inl q)
        have hcls := (hK.1 zPat zPatC hpat).2
        obtain ⟨kA, comp, k1, k2, k3, -⟩ := (hK.2 5 _ rfl).2
        rw [hpn] at hcls
        have hcomp : comp = D.1 zPat := Option.some.inj (k3.symm.trans hcls.1)
        subst hcomp
        obtain ⟨kC, hkC, -⟩ := hcls.2
        refine W.aast hx hb (cell := vp_cell (cA 5) (n, .inr (.inr (.inr (.inr (fun j => (f j).map ad)))))) w4 (fun q h => by cases h) (fun h => by cases h) k1 k2 rfl hkC ⟨h0, by show _ < (arrV _ _ _).slots.size; rw [arrV_size]; exact hlt⟩ y1 (fun q h => by rw [y3] at h; cases h) (by rw [y2]; exact hkC) (by rw [y2]; exact va_assign hcls) rfl rfl hd fun H1 e z oq => ?_
        refine k ls H1 _ cells slots g1 (g2.set hc z oq ?_) (g3.put z oq (show base ≤ ad a by omega)) g4 g5
        show H1[ad a]? = some (vp_cell (cA 5) (n, .inr (.inr (.inr (.inr (fun j => (va_up f i.toNatClampNeg (some b) j).map ad))))))
        rw [e]
        rw [vp_cell_q, vp_cell_q, arrV_store]
        congr 2
        funext q
        by_cases hq : q = i.toNatClampNeg
        · subst hq
          simp [updV, va_up, va_rf]
        · simp [updV, va_up, hq]
      · cases hz
    · cases hz
  · cases hz
theorem zo_len (hx : p.tables.exec = Jvm.exec) (hb : c.code = cc) (hK : va_K D cl (ztys cA) s) (hka : ∀ a t n f, zka X a = some (t, n, f) → va_T (zkty t) (ad a) n (fun j => zv ad (f j)) (zA base) s s.heap) (hd : decode cc pc = .ok (.arraylength, 1)) (hz : zs_len pc X L st h = some F) (k : zGo p l e R s m args below meth c Q D cl cA ad base nL c0 s0 F) : zGo p l e R s m args below meth c Q D cl cA ad base nL c0 s0 (pc, L, st, h) := by
  unfold zs_len at hz
  split at hz
  · rename_i a r
    split at hz
    · rename_i t' q hc
      split at hz
      · rename_i hq
        cases hz
        intro ls H locs cells slots g1 g2 g3 g4 g5
        have hP := zP1 (g2.2 a _ hc).2.2.2
        have hq1 : (zvA ad q).1 = q.1 := by unfold zvA; split <;> rfl
        have ht : ∃ ty, (ztys cA)[t']? = some (cA t', ty) := by
          rcases (show t' = 0 ∨ t' = 1 ∨ t' = 2 ∨ t' = 3 ∨ t' = 4 ∨ t' = 5 by omega) with rfl | rfl | rfl | rfl | rfl | rfl <;> exact ⟨_, rfl⟩
        obtain ⟨ty, ht⟩ := ht
        exact va_alen (D := D) (cA := cA t') (x := zvA ad q) hx hb hK hP 0 t' rfl ht (by rw [hq1]) hd (k ls H locs cells slots g1 g2 g3 g4 g5)
      · cases hz
    · cases hz
    · split at hz
      · rename_i t' n f hc
        cases hz
        intro ls H locs cells slots g1 g2 g3 g4 g5
        exact va_tlen hx hb (hka _ _ _ _ hc) g3 rfl hd (k ls H locs cells slots g1 g2 g3 g4 g5)
      · cases hz
  · cases hz
theorem zo_newa_int (hx : p.tables.exec = Jvm.exec) (hb : c.code = cc) (hK : va_K D cl (ztys cA) s) (hadd : ∀ i, ad (zK + i) = base + i) (harr : (Cond.arrayClass .int).before args s = true) (hRc : F.2.2.2.1 ≤ c0 + R.cells) (hRs : F.2.2.2.2.1 ≤ s0 + R.slots) (hd : decode cc pc = .ok (.newarray .int, 2)) (hz : zs_newa pc 0 (fun n => (n, .inl (fun _ => 0))) L st h = some F) (k : zGo p l e R s m args below meth c Q D cl cA ad base nL c0 s0 F) : zGo p l e R s m args below meth c Q D cl cA ad base nL c0 s0 (pc, L, st, h) := by
  unfold zs_newa at hz
  split at hz
  · rename_i n r
    split at hz
    · rename_i hq
      cases hz
      intro ls H locs cells slots g1 g2 g3 g4 g5
      have hn := zclamp hq.1
      have hnc : (n.toNatClampNeg : Int) = n.toInt := by show ((n.toInt.toNat : Nat) : Int) = n.toInt; omega
      have r1 : h.1 + 1 ≤ c0 + R.cells := hRc
      have r2 : h.2.1 + n.toNatClampNeg ≤ s0 + R.slots := hRs
      have g4' : cells + c0 = h.1 := g4
      have g5' : slots + s0 = h.2.1 := g5
      have hbt : n.toNatClampNeg * 4 ≤ 536870912 := by omega
      refine va_newaK (atype := .int) hx hb harr rfl hd rfl hn rfl hbt (by omega) (by omega) rfl fun H1 cB e1 z1 o1 hAr hNm => ?_
      have hcB : cB = cA 0 := Option.some.inj (hNm.symm.trans (hK.2 0 _ rfl).2)
      subst hcB
      have hk := k ls H1 locs (cells + 1) (slots + n.toNatClampNeg) g1 (g2.push (n := n.toNatClampNeg) hadd z1 o1 (show H1[H.size]? = some (vp_cell (cA 0) (n.toNatClampNeg, .inl (fun _ => 0))) from by rw [vp_cell_i]; exact e1)) ⟨Nat.le_trans g3.1 (by omega), fun q w1 w2 => (o1 q (Nat.lt_of_lt_of_le w1 g3.1)).trans (g3.2.1 q w1 w2), g3.2.2⟩ (by show cells + 1 + c0 = h.1 + 1; omega) (by show slots + n.toNatClampNeg + s0 = h.2.1 + n.toNatClampNeg; omega)
      have e9 : ad (zK + h.1) = H.size := by rw [hadd]; exact g2.1.symm
      have hk' : W p l e R s m args below meth c H1 locs (cells + 1) (slots + n.toNatClampNeg) Q (F0 m (pc + 2) ls (.ref (ad (zK + h.1)) :: r.map (zv ad))) := hk
      rw [e9] at hk'
      exact hk'
    · cases hz
  · cases hz
theorem zo_newa_char (hx : p.tables.exec = Jvm.exec) (hb : c.code = cc) (hK : va_K D cl (ztys cA) s) (hadd : ∀ i, ad (zK + i) = base + i) (harr : (Cond.arrayClass .char).before args s = true) (hRc : F.2.2.2.1 ≤ c0 + R.cells) (hRs : F.2.2.2.2.1 ≤ s0 + R.slots) (hd : decode cc pc = .ok (.newarray .char, 2)) (hz : zs_newa pc 1 (fun n => (n, .inl (fun _ => 0))) L st h = some F) (k : zGo p l e R s m args below meth c Q D cl cA ad base nL c0 s0 F) : zGo p l e R s m args below meth c Q D cl cA ad base nL c0 s0 (pc, L, st, h) := by
  unfold zs_newa at hz
  split at hz
  · rename_i n r
    split at hz
    · rename_i hq
      cases hz
      intro ls H locs cells slots g1 g2 g3 g4 g5
      have hn := zclamp hq.1
      have hnc : (n.toNatClampNeg : Int) = n.toInt := by show ((n.toInt.toNat : Nat) : Int) = n.toInt; omega
      have r1 : h.1 + 1 ≤ c0 + R.cells := hRc
      have r2 : h.2.1 + n.toNatClampNeg ≤ s0 + R.slots := hRs
      have g4' : cells + c0 = h.1 := g4
      have g5' : slots + s0 = h.2.1 := g5
      have hbt : n.toNatClampNeg * 2 ≤ 536870912 := by omega
      refine va_newaK (atype := .char) hx hb harr rfl hd rfl hn rfl hbt (by omega) (by omega) rfl fun H1 cB e1 z1 o1 hAr hNm => ?_
      have hcB : cB = cA 1 := Option.some.inj (hNm.symm.trans (hK.2 1 _ rfl).2)
      subst hcB
      have hk := k ls H1 locs (cells + 1) (slots + n.toNatClampNeg) g1 (g2.push (n := n.toNatClampNeg) hadd z1 o1 (show H1[H.size]? = some (vp_cell (cA 1) (n.toNatClampNeg, .inl (fun _ => 0))) from by rw [vp_cell_i]; exact e1)) ⟨Nat.le_trans g3.1 (by omega), fun q w1 w2 => (o1 q (Nat.lt_of_lt_of_le w1 g3.1)).trans (g3.2.1 q w1 w2), g3.2.2⟩ (by show cells + 1 + c0 = h.1 + 1; omega) (by show slots + n.toNatClampNeg + s0 = h.2.1 + n.toNatClampNeg; omega)
      have e9 : ad (zK + h.1) = H.size := by rw [hadd]; exact g2.1.symm
      have hk' : W p l e R s m args below meth c H1 locs (cells + 1) (slots + n.toNatClampNeg) Q (F0 m (pc + 2) ls (.ref (ad (zK + h.1)) :: r.map (zv ad))) := hk
      rw [e9] at hk'
      exact hk'
    · cases hz
  · cases hz
theorem zo_newa_long (hx : p.tables.exec = Jvm.exec) (hb : c.code = cc) (hK : va_K D cl (ztys cA) s) (hadd : ∀ i, ad (zK + i) = base + i) (harr : (Cond.arrayClass .long).before args s = true) (hRc : F.2.2.2.1 ≤ c0 + R.cells) (hRs : F.2.2.2.2.1 ≤ s0 + R.slots) (hd : decode cc pc = .ok (.newarray .long, 2)) (hz : zs_newa pc 2 (fun n => (n, .inr (.inl (fun _ => 0)))) L st h = some F) (k : zGo p l e R s m args below meth c Q D cl cA ad base nL c0 s0 F) : zGo p l e R s m args below meth c Q D cl cA ad base nL c0 s0 (pc, L, st, h) := by
  unfold zs_newa at hz
  split at hz
  · rename_i n r
    split at hz
    · rename_i hq
      cases hz
      intro ls H locs cells slots g1 g2 g3 g4 g5
      have hn := zclamp hq.1
      have hnc : (n.toNatClampNeg : Int) = n.toInt := by show ((n.toInt.toNat : Nat) : Int) = n.toInt; omega
      have r1 : h.1 + 1 ≤ c0 + R.cells := hRc
      have r2 : h.2.1 + n.toNatClampNeg ≤ s0 + R.slots := hRs
      have g4' : cells + c0 = h.1 := g4
      have g5' : slots + s0 = h.2.1 := g5
      have hbt : n.toNatClampNeg * 8 ≤ 536870912 := by omega
      refine va_newaK (atype := .long) hx hb harr rfl hd rfl hn rfl hbt (by omega) (by omega) rfl fun H1 cB e1 z1 o1 hAr hNm => ?_
      have hcB : cB = cA 2 := Option.some.inj (hNm.symm.trans (hK.2 2 _ rfl).2)
      subst hcB
      have hk := k ls H1 locs (cells + 1) (slots + n.toNatClampNeg) g1 (g2.push (n := n.toNatClampNeg) hadd z1 o1 (show H1[H.size]? = some (vp_cell (cA 2) (n.toNatClampNeg, .inr (.inl (fun _ => 0)))) from by rw [vp_cell_l]; exact e1)) ⟨Nat.le_trans g3.1 (by omega), fun q w1 w2 => (o1 q (Nat.lt_of_lt_of_le w1 g3.1)).trans (g3.2.1 q w1 w2), g3.2.2⟩ (by show cells + 1 + c0 = h.1 + 1; omega) (by show slots + n.toNatClampNeg + s0 = h.2.1 + n.toNatClampNeg; omega)
      have e9 : ad (zK + h.1) = H.size := by rw [hadd]; exact g2.1.symm
      have hk' : W p l e R s m args below meth c H1 locs (cells + 1) (slots + n.toNatClampNeg) Q (F0 m (pc + 2) ls (.ref (ad (zK + h.1)) :: r.map (zv ad))) := hk
      rw [e9] at hk'
      exact hk'
    · cases hz
  · cases hz
theorem zo_newa_boolean (hx : p.tables.exec = Jvm.exec) (hb : c.code = cc) (hK : va_K D cl (ztys cA) s) (hadd : ∀ i, ad (zK + i) = base + i) (harr : (Cond.arrayClass .boolean).before args s = true) (hRc : F.2.2.2.1 ≤ c0 + R.cells) (hRs : F.2.2.2.2.1 ≤ s0 + R.slots) (hd : decode cc pc = .ok (.newarray .boolean, 2)) (hz : zs_newa pc 3 (fun n => (n, .inl (fun _ => 0))) L st h = some F) (k : zGo p l e R s m args below meth c Q D cl cA ad base nL c0 s0 F) : zGo p l e R s m args below meth c Q D cl cA ad base nL c0 s0 (pc, L, st, h) := by
  unfold zs_newa at hz
  split at hz
  · rename_i n r
    split at hz
    · rename_i hq
      cases hz
      intro ls H locs cells slots g1 g2 g3 g4 g5
      have hn := zclamp hq.1
      have hnc : (n.toNatClampNeg : Int) = n.toInt := by show ((n.toInt.toNat : Nat) : Int) = n.toInt; omega
      have r1 : h.1 + 1 ≤ c0 + R.cells := hRc
      have r2 : h.2.1 + n.toNatClampNeg ≤ s0 + R.slots := hRs
      have g4' : cells + c0 = h.1 := g4
      have g5' : slots + s0 = h.2.1 := g5
      have hbt : n.toNatClampNeg * 1 ≤ 536870912 := by omega
      refine va_newaK (atype := .boolean) hx hb harr rfl hd rfl hn rfl hbt (by omega) (by omega) rfl fun H1 cB e1 z1 o1 hAr hNm => ?_
      have hcB : cB = cA 3 := Option.some.inj (hNm.symm.trans (hK.2 3 _ rfl).2)
      subst hcB
      have hk := k ls H1 locs (cells + 1) (slots + n.toNatClampNeg) g1 (g2.push (n := n.toNatClampNeg) hadd z1 o1 (show H1[H.size]? = some (vp_cell (cA 3) (n.toNatClampNeg, .inl (fun _ => 0))) from by rw [vp_cell_i]; exact e1)) ⟨Nat.le_trans g3.1 (by omega), fun q w1 w2 => (o1 q (Nat.lt_of_lt_of_le w1 g3.1)).trans (g3.2.1 q w1 w2), g3.2.2⟩ (by show cells + 1 + c0 = h.1 + 1; omega) (by show slots + n.toNatClampNeg + s0 = h.2.1 + n.toNatClampNeg; omega)
      have e9 : ad (zK + h.1) = H.size := by rw [hadd]; exact g2.1.symm
      have hk' : W p l e R s m args below meth c H1 locs (cells + 1) (slots + n.toNatClampNeg) Q (F0 m (pc + 2) ls (.ref (ad (zK + h.1)) :: r.map (zv ad))) := hk
      rw [e9] at hk'
      exact hk'
    · cases hz
  · cases hz
theorem zo_anew (hx : p.tables.exec = Jvm.exec) (hb : c.code = cc) (hown : s.vm.findClass own = some m.cls) (hK : va_K D cl (ztys cA) s) (hadd : ∀ i, ad (zK + i) = base + i) (hal : zal o idx = true → (Cond.classLink own idx zPatN).before args s = true ∧ (Cond.arrayOver (.object zPatN)).before args s = true) (hRc : F.2.2.2.1 ≤ c0 + R.cells) (hRs : F.2.2.2.2.1 ≤ s0 + R.slots) (hd : decode cc pc = .ok (.anewarray idx, 3)) (hz : zs_anew pc o idx L st h = some F) (k : zGo p l e R s m args below meth c Q D cl cA ad base nL c0 s0 F) : zGo p l e R s m args below meth c Q D cl cA ad base nL c0 s0 (pc, L, st, h) := by
  unfold zs_anew at hz
  split at hz
  · rename_i n r
    split at hz
    · rename_i hq
      obtain ⟨hl, hq⟩ := hq
      cases hz
      intro ls H locs cells slots g1 g2 g3 g4 g5
      obtain ⟨l1, l2⟩ := hal hl
      have hn := zclamp hq.1
      have hnc : (n.toNatClampNeg : Int) = n.toInt := by show ((n.toInt.toNat : Nat) : Int) = n.toInt; omega
      have r1 : h.1 + 1 ≤ c0 + R.cells := hRc
      have r2 : h.2.1 + n.toNatClampNeg ≤ s0 + R.slots := hRs
      have g4' : cells + c0 = h.1 := g4
      have g5' : slots + s0 = h.2.1 := g5
      refine W.anew hx hb hown l1 l2 rfl hd rfl hn (by omega) (by omega) (by omega) fun cB kA comp f1 f2 f3 f4 => ?_
      have hcB : cB = cA 5 := by
        obtain ⟨kA', comp', -, -, -, h9⟩ := (hK.2 5 _ rfl).2
        exact Option.some.inj (f1.symm.trans h9)
      subst hcB
      generalize hH1 : H.push ({ cls := cA 5, slots := Array.replicate n.toNatClampNeg .null, vm := .none } : Cell) = H1
      have z1 : H1.size = H.size + 1 := by rw [← hH1, Array.size_push]
      have e1 : H1[H.size]? = some (arrV (cA 5) n.toNatClampNeg (fun _ => .null)) := by rw [← hH1, Array.getElem?_push_size, ← arrV_new]
      have o1 : ∀ q : Nat, q < H.size → H1[q]? = H[q]? := fun q hq => by rw [← hH1, Array.getElem?_push, if_neg (Nat.ne_of_lt hq)]
      have hk := k ls H1 locs (cells + 1) (slots + n.toNatClampNeg) g1 (g2.push (n := n.toNatClampNeg) hadd z1 o1 (show H1[H.size]? = some (vp_cell (cA 5) (n.toNatClampNeg, .inr (.inr (.inr (.inr (fun _ => none)))))) from by rw [vp_cell_q]; exact e1)) ⟨Nat.le_trans g3.1 (by omega), fun q w1 w2 => (o1 q (Nat.lt_of_lt_of_le w1 g3.1)).trans (g3.2.1 q w1 w2), g3.2.2⟩ (by show cells + 1 + c0 = h.1 + 1; omega) (by show slots + n.toNatClampNeg + s0 = h.2.1 + n.toNatClampNeg; omega)
      have e9 : ad (zK + h.1) = H.size := by rw [hadd]; exact g2.1.symm
      have hk' : W p l e R s m args below meth c H1 locs (cells + 1) (slots + n.toNatClampNeg) Q (F0 m (pc + 3) ls (.ref (ad (zK + h.1)) :: r.map (zv ad))) := hk
      rw [e9] at hk'
      exact hk'
    · cases hz
  · cases hz
theorem zo_new (hx : p.tables.exec = Jvm.exec) (hb : c.code = cc) (hown : s.vm.findClass own = some m.cls) (hts : ∀ w ∈ Ts, w.before args s = true) (hK : va_K D cl (ztys cA) s) (hadd : ∀ i, ad (zK + i) = base + i)
    (hcl : ∀ ci, zcl o idx = some ci → ∃ C T, cl[ci]? = some (C, T, (zdef ci).length) ∧ (∀ w ∈ u_ws C T (zdef ci).length, w ∈ Ts) ∧ (∀ x, x < (zdef ci).length → parseFieldDescriptor (T x).2.2.1 = some (zty ci x)) ∧ (∀ j, j < (zdef ci).length → defaultValue (zty ci j) = vp_V ((zdef ci).map (zv ad)) j) ∧ (Cond.classLink own idx C).before args s = true ∧ (Cond.instantiable C (zdef ci).length).before args s = true ∧ (Cond.initialized C).before args s = true)
    (hRc : F.2.2.2.1 ≤ c0 + R.cells) (hRs : F.2.2.2.2.1 ≤ s0 + R.slots) (hd : decode cc pc = .ok (.new idx, 3)) (hz : zs_new pc o idx L st h = some F) (k : zGo p l e R s m args below meth c Q D cl cA ad base nL c0 s0 F) : zGo p l e R s m args below meth c Q D cl cA ad base nL c0 s0 (pc, L, st, h) := by
  unfold zs_new at hz
  split at hz
  · rename_i ci hci
    cases hz
    intro ls H locs cells slots g1 g2 g3 g4 g5
    obtain ⟨C, T, hc, h3, hty, hdf, l1, l2, l3⟩ := hcl _ hci
    have r1 : h.1 + 1 ≤ c0 + R.cells := hRc
    have r2 : h.2.1 + (zdef ci).length ≤ s0 + R.slots := hRs
    have g4' : cells + c0 = h.1 := g4
    have g5' : slots + s0 = h.2.1 := g5
    have hKn := hK.1 ci _ hc
    refine W.newcK hx hb hown l1 l2 l3 rfl hd (by omega) (by omega) hKn.2.1 rfl fun H1 kC hkC e1 z1 o1 => ?_
    have hk := k ls H1 locs (cells + 1) (slots + (zdef ci).length) g1 (g2.push (n := (zdef ci).length) hadd z1 o1 (show va_at D cl (H.size, .inr (ci, (zdef ci).map (zv ad))) H1 from ⟨_, hc, (u_born (zty ci) hts h3 hKn hkC e1 hty).to hdf⟩)) ⟨Nat.le_trans g3.1 (by omega), fun q w1 w2 => (o1 q (Nat.lt_of_lt_of_le w1 g3.1)).trans (g3.2.1 q w1 w2), g3.2.2⟩ (by show cells + 1 + c0 = h.1 + 1; omega) (by show slots + (zdef ci).length + s0 = h.2.1 + (zdef ci).length; omega)
    have e9 : ad (zK + h.1) = H.size := by rw [hadd]; exact g2.1.symm
    have hk' : W p l e R s m args below meth c H1 locs (cells + 1) (slots + (zdef ci).length) Q (F0 m (pc + 3) ls (.ref (ad (zK + h.1)) :: st.map (zv ad))) := hk
    rw [e9] at hk'
    exact hk'
  · cases hz
end ZP
