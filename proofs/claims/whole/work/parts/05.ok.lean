/-! EACH STEP of the pure machine is a step of the machine -/
abbrev zA (base : Nat) : Nat → Prop := fun q => base ≤ q
def zGo (p : Program) (l : Launch) (e : Env) (R : Room) (s : State) (m : MethodId) (args : Array Value) (below : List Frame) (meth : Method) (c : Code) (Q : State → Prop) (D : va_G) (cl : List vw_C) (cA : Nat → ClassId) (ad : Nat → Nat) (base nL c0 s0 : Nat) (F : zF) : Prop :=
  ∀ (ls : Array Slot) (H : Heap) (locs : List Loc) (cells slots : Nat), zLH ad ls nL F.2.1 → zW D cl cA ad base F.2.2.2 H → va_S (zA base) s.heap H locs → cells + c0 = F.2.2.2.1 → slots + s0 = F.2.2.2.2.1 → W p l e R s m args below meth c H locs cells slots Q (F0 m F.1 ls (F.2.2.1.map (zv ad)))
section ZO
variable {p : Program} {l : Launch} {e : Env} {R : Room} {s : State} {m : MethodId} {args : Array Value} {below : List Frame} {meth : Method} {c : Code} {Q : State → Prop} {D : va_G} {cl : List vw_C} {cA : Nat → ClassId} {ad : Nat → Nat} {base nL c0 s0 : Nat} {cc : ByteArray} {pc : Nat} {L : zL} {st : List Value} {h : zH} {F : zF}
theorem zo_iconst (hx : p.tables.exec = Jvm.exec) (hb : c.code = cc) {n : Int} (hd : decode cc pc = .ok (.iconst n, 1)) (hz : some (pc + 1, L, .int (Int32.ofInt n) :: st, h) = some F) (k : zGo p l e R s m args below meth c Q D cl cA ad base nL c0 s0 F) : zGo p l e R s m args below meth c Q D cl cA ad base nL c0 s0 (pc, L, st, h) := by
  cases hz
  intro ls H locs cells slots g1 g2 g3 g4 g5
  exact lv_iconst hx hb hd rfl (k ls H locs cells slots g1 g2 g3 g4 g5)
theorem zo_bipush (hx : p.tables.exec = Jvm.exec) (hb : c.code = cc) {n : Int} (hd : decode cc pc = .ok (.bipush n, 2)) (hz : some (pc + 2, L, .int ((Int8.ofInt n).toInt32) :: st, h) = some F) (k : zGo p l e R s m args below meth c Q D cl cA ad base nL c0 s0 F) : zGo p l e R s m args below meth c Q D cl cA ad base nL c0 s0 (pc, L, st, h) := by
  cases hz
  intro ls H locs cells slots g1 g2 g3 g4 g5
  exact lv_bipush hx hb hd rfl (k ls H locs cells slots g1 g2 g3 g4 g5)
theorem zo_sipush (hx : p.tables.exec = Jvm.exec) (hb : c.code = cc) {n : Int} (hd : decode cc pc = .ok (.sipush n, 3)) (hz : some (pc + 3, L, .int ((Int16.ofInt n).toInt32) :: st, h) = some F) (k : zGo p l e R s m args below meth c Q D cl cA ad base nL c0 s0 F) : zGo p l e R s m args below meth c Q D cl cA ad base nL c0 s0 (pc, L, st, h) := by
  cases hz
  intro ls H locs cells slots g1 g2 g3 g4 g5
  exact lv_sipush hx hb hd rfl (k ls H locs cells slots g1 g2 g3 g4 g5)
theorem zo_lconst (hx : p.tables.exec = Jvm.exec) (hb : c.code = cc) {n : Fin 2} (hd : decode cc pc = .ok (.lconst n, 1)) (hz : some (pc + 1, L, .long (Int64.ofNat (n : Nat)) :: st, h) = some F) (k : zGo p l e R s m args below meth c Q D cl cA ad base nL c0 s0 F) : zGo p l e R s m args below meth c Q D cl cA ad base nL c0 s0 (pc, L, st, h) := by
  cases hz
  intro ls H locs cells slots g1 g2 g3 g4 g5
  exact lv_lconst hx hb hd rfl (k ls H locs cells slots g1 g2 g3 g4 g5)
theorem zo_anull (hx : p.tables.exec = Jvm.exec) (hb : c.code = cc) (hd : decode cc pc = .ok (.aconst_null, 1)) (hz : some (pc + 1, L, .null :: st, h) = some F) (k : zGo p l e R s m args below meth c Q D cl cA ad base nL c0 s0 F) : zGo p l e R s m args below meth c Q D cl cA ad base nL c0 s0 (pc, L, st, h) := by
  cases hz
  intro ls H locs cells slots g1 g2 g3 g4 g5
  exact lv_null hx hb hd (k ls H locs cells slots g1 g2 g3 g4 g5)
theorem zo_iload_n (hx : p.tables.exec = Jvm.exec) (hb : c.code = cc) {i : Fin 4} (hd : decode cc pc = .ok (.iload_n i, 1)) (hz : zs_il 1 pc i L st h = some F) (k : zGo p l e R s m args below meth c Q D cl cA ad base nL c0 s0 F) : zGo p l e R s m args below meth c Q D cl cA ad base nL c0 s0 (pc, L, st, h) := by
  unfold zs_il at hz
  split at hz
  · rename_i x hx1
    cases hz
    intro ls H locs cells slots g1 g2 g3 g4 g5
    exact lv_iload_n hx hb hd rfl (g1.2.2.2 _ _ hx1) (k ls H locs cells slots g1 g2 g3 g4 g5)
  · cases hz
theorem zo_iload (hx : p.tables.exec = Jvm.exec) (hb : c.code = cc) {i : Nat} (hd : decode cc pc = .ok (.iload i, 2)) (hz : zs_il 2 pc i L st h = some F) (k : zGo p l e R s m args below meth c Q D cl cA ad base nL c0 s0 F) : zGo p l e R s m args below meth c Q D cl cA ad base nL c0 s0 (pc, L, st, h) := by
  unfold zs_il at hz
  split at hz
  · rename_i x hx1
    cases hz
    intro ls H locs cells slots g1 g2 g3 g4 g5
    exact lv_iload hx hb hd (g1.2.2.2 _ _ hx1) (k ls H locs cells slots g1 g2 g3 g4 g5)
  · cases hz
theorem zo_lload_n (hx : p.tables.exec = Jvm.exec) (hb : c.code = cc) {i : Fin 4} (hd : decode cc pc = .ok (.lload_n i, 1)) (hz : zs_jl 1 pc i L st h = some F) (k : zGo p l e R s m args below meth c Q D cl cA ad base nL c0 s0 F) : zGo p l e R s m args below meth c Q D cl cA ad base nL c0 s0 (pc, L, st, h) := by
  unfold zs_jl at hz
  split at hz
  · rename_i x hx1
    cases hz
    intro ls H locs cells slots g1 g2 g3 g4 g5
    exact lv_lload_n hx hb hd rfl (g1.2.2.2 _ _ hx1) (k ls H locs cells slots g1 g2 g3 g4 g5)
  · cases hz
theorem zo_lload (hx : p.tables.exec = Jvm.exec) (hb : c.code = cc) {i : Nat} (hd : decode cc pc = .ok (.lload i, 2)) (hz : zs_jl 2 pc i L st h = some F) (k : zGo p l e R s m args below meth c Q D cl cA ad base nL c0 s0 F) : zGo p l e R s m args below meth c Q D cl cA ad base nL c0 s0 (pc, L, st, h) := by
  unfold zs_jl at hz
  split at hz
  · rename_i x hx1
    cases hz
    intro ls H locs cells slots g1 g2 g3 g4 g5
    exact lv_lload hx hb hd (g1.2.2.2 _ _ hx1) (k ls H locs cells slots g1 g2 g3 g4 g5)
  · cases hz
theorem zo_aload_n (hx : p.tables.exec = Jvm.exec) (hb : c.code = cc) {i : Fin 4} (hd : decode cc pc = .ok (.aload_n i, 1)) (hz : zs_al 1 pc i L st h = some F) (k : zGo p l e R s m args below meth c Q D cl cA ad base nL c0 s0 F) : zGo p l e R s m args below meth c Q D cl cA ad base nL c0 s0 (pc, L, st, h) := by
  unfold zs_al at hz
  split at hz
  · rename_i x hx1
    cases hz
    intro ls H locs cells slots g1 g2 g3 g4 g5
    exact lv_aload_n hx hb hd rfl (g1.2.2.2 _ _ hx1) (k ls H locs cells slots g1 g2 g3 g4 g5)
  · rename_i hx1
    cases hz
    intro ls H locs cells slots g1 g2 g3 g4 g5
    exact lv_aload_nN hx hb hd rfl (g1.2.2.2 _ _ hx1) (k ls H locs cells slots g1 g2 g3 g4 g5)
  · cases hz
theorem zo_aload (hx : p.tables.exec = Jvm.exec) (hb : c.code = cc) {i : Nat} (hd : decode cc pc = .ok (.aload i, 2)) (hz : zs_al 2 pc i L st h = some F) (k : zGo p l e R s m args below meth c Q D cl cA ad base nL c0 s0 F) : zGo p l e R s m args below meth c Q D cl cA ad base nL c0 s0 (pc, L, st, h) := by
  unfold zs_al at hz
  split at hz
  · rename_i x hx1
    cases hz
    intro ls H locs cells slots g1 g2 g3 g4 g5
    exact lv_aload hx hb hd (g1.2.2.2 _ _ hx1) (k ls H locs cells slots g1 g2 g3 g4 g5)
  · rename_i hx1
    cases hz
    intro ls H locs cells slots g1 g2 g3 g4 g5
    exact lv_aloadN hx hb hd (g1.2.2.2 _ _ hx1) (k ls H locs cells slots g1 g2 g3 g4 g5)
  · cases hz
theorem zo_istore_n (hx : p.tables.exec = Jvm.exec) (hb : c.code = cc) {i : Fin 4} (hd : decode cc pc = .ok (.istore_n i, 1)) (hz : zs_is 1 pc i L st h = some F) (k : zGo p l e R s m args below meth c Q D cl cA ad base nL c0 s0 F) : zGo p l e R s m args below meth c Q D cl cA ad base nL c0 s0 (pc, L, st, h) := by
  unfold zs_is at hz
  split at hz
  · rename_i x r
    split at hz
    · rename_i L' hL'
      cases hz
      intro ls H locs cells slots g1 g2 g3 g4 g5
      have hk := zst1_ok g1 hL'
      exact lv_istore_n hx hb hd rfl g1.has hk.1 rfl (fun ls2 h2 => k ls2 H locs cells slots (hk.2 ls2 h2) g2 g3 g4 g5)
    · cases hz
  · cases hz
theorem zo_istore (hx : p.tables.exec = Jvm.exec) (hb : c.code = cc) {i : Nat} (hd : decode cc pc = .ok (.istore i, 2)) (hz : zs_is 2 pc i L st h = some F) (k : zGo p l e R s m args below meth c Q D cl cA ad base nL c0 s0 F) : zGo p l e R s m args below meth c Q D cl cA ad base nL c0 s0 (pc, L, st, h) := by
  unfold zs_is at hz
  split at hz
  · rename_i x r
    split at hz
    · rename_i L' hL'
      cases hz
      intro ls H locs cells slots g1 g2 g3 g4 g5
      have hk := zst1_ok g1 hL'
      exact lv_istore hx hb hd g1.has hk.1 rfl (fun ls2 h2 => k ls2 H locs cells slots (hk.2 ls2 h2) g2 g3 g4 g5)
    · cases hz
  · cases hz
theorem zo_lstore_n (hx : p.tables.exec = Jvm.exec) (hb : c.code = cc) {i : Fin 4} (hd : decode cc pc = .ok (.lstore_n i, 1)) (hz : zs_js 1 pc i L st h = some F) (k : zGo p l e R s m args below meth c Q D cl cA ad base nL c0 s0 F) : zGo p l e R s m args below meth c Q D cl cA ad base nL c0 s0 (pc, L, st, h) := by
  unfold zs_js at hz
  split at hz
  · rename_i x r
    split at hz
    · rename_i L' hL'
      cases hz
      intro ls H locs cells slots g1 g2 g3 g4 g5
      have hk := zst2_ok g1 hL'
      exact lv_lstore_n hx hb hd rfl g1.has hk.1 rfl (fun ls2 h2 => k ls2 H locs cells slots (hk.2 ls2 h2) g2 g3 g4 g5)
    · cases hz
  · cases hz
theorem zo_lstore (hx : p.tables.exec = Jvm.exec) (hb : c.code = cc) {i : Nat} (hd : decode cc pc = .ok (.lstore i, 2)) (hz : zs_js 2 pc i L st h = some F) (k : zGo p l e R s m args below meth c Q D cl cA ad base nL c0 s0 F) : zGo p l e R s m args below meth c Q D cl cA ad base nL c0 s0 (pc, L, st, h) := by
  unfold zs_js at hz
  split at hz
  · rename_i x r
    split at hz
    · rename_i L' hL'
      cases hz
      intro ls H locs cells slots g1 g2 g3 g4 g5
      have hk := zst2_ok g1 hL'
      exact lv_lstore hx hb hd g1.has hk.1 rfl (fun ls2 h2 => k ls2 H locs cells slots (hk.2 ls2 h2) g2 g3 g4 g5)
    · cases hz
  · cases hz
theorem zo_astore_n (hx : p.tables.exec = Jvm.exec) (hb : c.code = cc) {i : Fin 4} (hd : decode cc pc = .ok (.astore_n i, 1)) (hz : zs_as 1 pc i L st h = some F) (k : zGo p l e R s m args below meth c Q D cl cA ad base nL c0 s0 F) : zGo p l e R s m args below meth c Q D cl cA ad base nL c0 s0 (pc, L, st, h) := by
  unfold zs_as at hz
  split at hz
  · rename_i x r
    split at hz
    · rename_i L' hL'
      cases hz
      intro ls H locs cells slots g1 g2 g3 g4 g5
      have hk := zst1_ok g1 hL'
      exact lv_astore_n hx hb hd rfl g1.has hk.1 rfl (fun ls2 h2 => k ls2 H locs cells slots (hk.2 ls2 h2) g2 g3 g4 g5)
    · cases hz
  · rename_i r
    split at hz
    · rename_i L' hL'
      cases hz
      intro ls H locs cells slots g1 g2 g3 g4 g5
      have hk := zst1_ok g1 hL'
      exact lv_astore_nN hx hb hd rfl g1.has hk.1 rfl (fun ls2 h2 => k ls2 H locs cells slots (hk.2 ls2 h2) g2 g3 g4 g5)
    · cases hz
  · cases hz
theorem zo_astore (hx : p.tables.exec = Jvm.exec) (hb : c.code = cc) {i : Nat} (hd : decode cc pc = .ok (.astore i, 2)) (hz : zs_as 2 pc i L st h = some F) (k : zGo p l e R s m args below meth c Q D cl cA ad base nL c0 s0 F) : zGo p l e R s m args below meth c Q D cl cA ad base nL c0 s0 (pc, L, st, h) := by
  unfold zs_as at hz
  split at hz
  · rename_i x r
    split at hz
    · rename_i L' hL'
      cases hz
      intro ls H locs cells slots g1 g2 g3 g4 g5
      have hk := zst1_ok g1 hL'
      exact lv_astore hx hb hd g1.has hk.1 rfl (fun ls2 h2 => k ls2 H locs cells slots (hk.2 ls2 h2) g2 g3 g4 g5)
    · cases hz
  · rename_i r
    split at hz
    · rename_i L' hL'
      cases hz
      intro ls H locs cells slots g1 g2 g3 g4 g5
      have hk := zst1_ok g1 hL'
      exact lv_astoreN hx hb hd g1.has hk.1 rfl (fun ls2 h2 => k ls2 H locs cells slots (hk.2 ls2 h2) g2 g3 g4 g5)
    · cases hz
  · cases hz
theorem zo_iinc (hx : p.tables.exec = Jvm.exec) (hb : c.code = cc) {i : Nat} {n : Int} (hd : decode cc pc = .ok (.iinc i n, 3)) (hz : zs_inc pc i n L st h = some F) (k : zGo p l e R s m args below meth c Q D cl cA ad base nL c0 s0 F) : zGo p l e R s m args below meth c Q D cl cA ad base nL c0 s0 (pc, L, st, h) := by
  unfold zs_inc at hz
  split at hz
  · rename_i x hx1
    split at hz
    · rename_i L' hL'
      cases hz
      intro ls H locs cells slots g1 g2 g3 g4 g5
      have hk := zst1_ok g1 hL'
      obtain ⟨q, hq⟩ := List.getElem?_of_mem (zll_mem (ad := ad) hx1)
      exact lv_iinc hx hb hd g1.has hq rfl hk.1 rfl (fun ls2 h2 => k ls2 H locs cells slots (hk.2 ls2 h2) g2 g3 g4 g5)
    · cases hz
  · cases hz
theorem zo_iadd (hx : p.tables.exec = Jvm.exec) (hb : c.code = cc) (hd : decode cc pc = .ok (.iadd, 1)) (hz : zs_ii pc L st h (fun x y => x + y) = some F) (k : zGo p l e R s m args below meth c Q D cl cA ad base nL c0 s0 F) : zGo p l e R s m args below meth c Q D cl cA ad base nL c0 s0 (pc, L, st, h) := by
  unfold zs_ii at hz
  split at hz
  · rename_i y x r
    cases hz
    intro ls H locs cells slots g1 g2 g3 g4 g5
    exact lv_iadd hx hb hd (k ls H locs cells slots g1 g2 g3 g4 g5)
  · cases hz
theorem zo_isub (hx : p.tables.exec = Jvm.exec) (hb : c.code = cc) (hd : decode cc pc = .ok (.isub, 1)) (hz : zs_ii pc L st h (fun x y => x - y) = some F) (k : zGo p l e R s m args below meth c Q D cl cA ad base nL c0 s0 F) : zGo p l e R s m args below meth c Q D cl cA ad base nL c0 s0 (pc, L, st, h) := by
  unfold zs_ii at hz
  split at hz
  · rename_i y x r
    cases hz
    intro ls H locs cells slots g1 g2 g3 g4 g5
    exact lv_isub hx hb hd (k ls H locs cells slots g1 g2 g3 g4 g5)
  · cases hz
theorem zo_imul (hx : p.tables.exec = Jvm.exec) (hb : c.code = cc) (hd : decode cc pc = .ok (.imul, 1)) (hz : zs_ii pc L st h (fun x y => x * y) = some F) (k : zGo p l e R s m args below meth c Q D cl cA ad base nL c0 s0 F) : zGo p l e R s m args below meth c Q D cl cA ad base nL c0 s0 (pc, L, st, h) := by
  unfold zs_ii at hz
  split at hz
  · rename_i y x r
    cases hz
    intro ls H locs cells slots g1 g2 g3 g4 g5
    exact lv_imul hx hb hd (k ls H locs cells slots g1 g2 g3 g4 g5)
  · cases hz
theorem zo_iand (hx : p.tables.exec = Jvm.exec) (hb : c.code = cc) (hd : decode cc pc = .ok (.iand, 1)) (hz : zs_ii pc L st h (fun x y => x &&& y) = some F) (k : zGo p l e R s m args below meth c Q D cl cA ad base nL c0 s0 F) : zGo p l e R s m args below meth c Q D cl cA ad base nL c0 s0 (pc, L, st, h) := by
  unfold zs_ii at hz
  split at hz
  · rename_i y x r
    cases hz
    intro ls H locs cells slots g1 g2 g3 g4 g5
    exact lv_iand hx hb hd (k ls H locs cells slots g1 g2 g3 g4 g5)
  · cases hz
theorem zo_ishr (hx : p.tables.exec = Jvm.exec) (hb : c.code = cc) (hd : decode cc pc = .ok (.ishr, 1)) (hz : zs_ii pc L st h (fun x y => x >>> (y &&& 31)) = some F) (k : zGo p l e R s m args below meth c Q D cl cA ad base nL c0 s0 F) : zGo p l e R s m args below meth c Q D cl cA ad base nL c0 s0 (pc, L, st, h) := by
  unfold zs_ii at hz
  split at hz
  · rename_i y x r
    cases hz
    intro ls H locs cells slots g1 g2 g3 g4 g5
    exact lv_ishr hx hb hd (k ls H locs cells slots g1 g2 g3 g4 g5)
  · cases hz
theorem zo_idiv (hx : p.tables.exec = Jvm.exec) (hb : c.code = cc) (hd : decode cc pc = .ok (.idiv, 1)) (hz : zs_dv pc L st h (fun x y => x / y) = some F) (k : zGo p l e R s m args below meth c Q D cl cA ad base nL c0 s0 F) : zGo p l e R s m args below meth c Q D cl cA ad base nL c0 s0 (pc, L, st, h) := by
  unfold zs_dv at hz
  split at hz
  · rename_i y x r
    split at hz
    · cases hz
    · rename_i hy
      cases hz
      intro ls H locs cells slots g1 g2 g3 g4 g5
      exact lv_idiv hx hb hd hy (k ls H locs cells slots g1 g2 g3 g4 g5)
  · cases hz
theorem zo_irem (hx : p.tables.exec = Jvm.exec) (hb : c.code = cc) (hd : decode cc pc = .ok (.irem, 1)) (hz : zs_dv pc L st h (fun x y => x - x / y * y) = some F) (k : zGo p l e R s m args below meth c Q D cl cA ad base nL c0 s0 F) : zGo p l e R s m args below meth c Q D cl cA ad base nL c0 s0 (pc, L, st, h) := by
  unfold zs_dv at hz
  split at hz
  · rename_i y x r
    split at hz
    · cases hz
    · rename_i hy
      cases hz
      intro ls H locs cells slots g1 g2 g3 g4 g5
      exact lv_irem hx hb hd hy (k ls H locs cells slots g1 g2 g3 g4 g5)
  · cases hz
theorem zo_ladd (hx : p.tables.exec = Jvm.exec) (hb : c.code = cc) (hd : decode cc pc = .ok (.ladd, 1)) (hz : zs_jj pc L st h (fun x y => .long (x + y)) = some F) (k : zGo p l e R s m args below meth c Q D cl cA ad base nL c0 s0 F) : zGo p l e R s m args below meth c Q D cl cA ad base nL c0 s0 (pc, L, st, h) := by
  unfold zs_jj at hz
  split at hz
  · rename_i y x r
    cases hz
    intro ls H locs cells slots g1 g2 g3 g4 g5
    exact lv_ladd hx hb hd (k ls H locs cells slots g1 g2 g3 g4 g5)
  · cases hz
theorem zo_lmul (hx : p.tables.exec = Jvm.exec) (hb : c.code = cc) (hd : decode cc pc = .ok (.lmul, 1)) (hz : zs_jj pc L st h (fun x y => .long (x * y)) = some F) (k : zGo p l e R s m args below meth c Q D cl cA ad base nL c0 s0 F) : zGo p l e R s m args below meth c Q D cl cA ad base nL c0 s0 (pc, L, st, h) := by
  unfold zs_jj at hz
  split at hz
  · rename_i y x r
    cases hz
    intro ls H locs cells slots g1 g2 g3 g4 g5
    exact lv_lmul hx hb hd (k ls H locs cells slots g1 g2 g3 g4 g5)
  · cases hz
theorem zo_land (hx : p.tables.exec = Jvm.exec) (hb : c.code = cc) (hd : decode cc pc = .ok (.land, 1)) (hz : zs_jj pc L st h (fun x y => .long (x &&& y)) = some F) (k : zGo p l e R s m args below meth c Q D cl cA ad base nL c0 s0 F) : zGo p l e R s m args below meth c Q D cl cA ad base nL c0 s0 (pc, L, st, h) := by
  unfold zs_jj at hz
  split at hz
  · rename_i y x r
    cases hz
    intro ls H locs cells slots g1 g2 g3 g4 g5
    exact lv_land hx hb hd (k ls H locs cells slots g1 g2 g3 g4 g5)
  · cases hz
theorem zo_lor (hx : p.tables.exec = Jvm.exec) (hb : c.code = cc) (hd : decode cc pc = .ok (.lor, 1)) (hz : zs_jj pc L st h (fun x y => .long (x ||| y)) = some F) (k : zGo p l e R s m args below meth c Q D cl cA ad base nL c0 s0 F) : zGo p l e R s m args below meth c Q D cl cA ad base nL c0 s0 (pc, L, st, h) := by
  unfold zs_jj at hz
  split at hz
  · rename_i y x r
    cases hz
    intro ls H locs cells slots g1 g2 g3 g4 g5
    exact lv_lor hx hb hd (k ls H locs cells slots g1 g2 g3 g4 g5)
  · cases hz
theorem zo_lcmp (hx : p.tables.exec = Jvm.exec) (hb : c.code = cc) (hd : decode cc pc = .ok (.lcmp, 1)) (hz : zs_jj pc L st h (fun x y => .int (lg_cmp x y)) = some F) (k : zGo p l e R s m args below meth c Q D cl cA ad base nL c0 s0 F) : zGo p l e R s m args below meth c Q D cl cA ad base nL c0 s0 (pc, L, st, h) := by
  unfold zs_jj at hz
  split at hz
  · rename_i y x r
    cases hz
    intro ls H locs cells slots g1 g2 g3 g4 g5
    exact W.lcmp hx hb hd (k ls H locs cells slots g1 g2 g3 g4 g5)
  · cases hz
theorem zo_lshl (hx : p.tables.exec = Jvm.exec) (hb : c.code = cc) (hd : decode cc pc = .ok (.lshl, 1)) (hz : zs_ji pc L st h (fun x y => x <<< (y.toInt64 &&& 63)) = some F) (k : zGo p l e R s m args below meth c Q D cl cA ad base nL c0 s0 F) : zGo p l e R s m args below meth c Q D cl cA ad base nL c0 s0 (pc, L, st, h) := by
  unfold zs_ji at hz
  split at hz
  · rename_i y x r
    cases hz
    intro ls H locs cells slots g1 g2 g3 g4 g5
    exact lv_lshl hx hb hd rfl (k ls H locs cells slots g1 g2 g3 g4 g5)
  · cases hz
theorem zo_lushr (hx : p.tables.exec = Jvm.exec) (hb : c.code = cc) (hd : decode cc pc = .ok (.lushr, 1)) (hz : zs_ji pc L st h (fun x y => (x.toUInt64 >>> (y.toInt64.toUInt64 &&& Int64.toUInt64 63)).toInt64) = some F) (k : zGo p l e R s m args below meth c Q D cl cA ad base nL c0 s0 F) : zGo p l e R s m args below meth c Q D cl cA ad base nL c0 s0 (pc, L, st, h) := by
  unfold zs_ji at hz
  split at hz
  · rename_i y x r
    cases hz
    intro ls H locs cells slots g1 g2 g3 g4 g5
    exact lv_lushr hx hb hd rfl (k ls H locs cells slots g1 g2 g3 g4 g5)
  · cases hz
theorem zo_i2l (hx : p.tables.exec = Jvm.exec) (hb : c.code = cc) (hd : decode cc pc = .ok (.i2l, 1)) (hz : zs_i1 pc L st h (fun x => .long x.toInt64) = some F) (k : zGo p l e R s m args below meth c Q D cl cA ad base nL c0 s0 F) : zGo p l e R s m args below meth c Q D cl cA ad base nL c0 s0 (pc, L, st, h) := by
  unfold zs_i1 at hz
  split at hz
  · rename_i x r
    cases hz
    intro ls H locs cells slots g1 g2 g3 g4 g5
    exact lv_i2l hx hb hd rfl (k ls H locs cells slots g1 g2 g3 g4 g5)
  · cases hz
theorem zo_i2c (hx : p.tables.exec = Jvm.exec) (hb : c.code = cc) (hd : decode cc pc = .ok (.i2c, 1)) (hz : zs_i1 pc L st h (fun x => .int (x.toUInt32 % 65536).toInt32) = some F) (k : zGo p l e R s m args below meth c Q D cl cA ad base nL c0 s0 F) : zGo p l e R s m args below meth c Q D cl cA ad base nL c0 s0 (pc, L, st, h) := by
  unfold zs_i1 at hz
  split at hz
  · rename_i x r
    cases hz
    intro ls H locs cells slots g1 g2 g3 g4 g5
    exact lv_i2c hx hb hd rfl (k ls H locs cells slots g1 g2 g3 g4 g5)
  · cases hz
theorem zo_i2b (hx : p.tables.exec = Jvm.exec) (hb : c.code = cc) (hd : decode cc pc = .ok (.i2b, 1)) (hz : zs_i1 pc L st h (fun x => .int x.toInt8.toInt32) = some F) (k : zGo p l e R s m args below meth c Q D cl cA ad base nL c0 s0 F) : zGo p l e R s m args below meth c Q D cl cA ad base nL c0 s0 (pc, L, st, h) := by
  unfold zs_i1 at hz
  split at hz
  · rename_i x r
    cases hz
    intro ls H locs cells slots g1 g2 g3 g4 g5
    exact lv_i2b hx hb hd rfl (k ls H locs cells slots g1 g2 g3 g4 g5)
  · cases hz
theorem zo_l2i (hx : p.tables.exec = Jvm.exec) (hb : c.code = cc) (hd : decode cc pc = .ok (.l2i, 1)) (hz : zs_j1 pc L st h (fun x => .int x.toInt32) = some F) (k : zGo p l e R s m args below meth c Q D cl cA ad base nL c0 s0 F) : zGo p l e R s m args below meth c Q D cl cA ad base nL c0 s0 (pc, L, st, h) := by
  unfold zs_j1 at hz
  split at hz
  · rename_i x r
    cases hz
    intro ls H locs cells slots g1 g2 g3 g4 g5
    exact lv_l2i hx hb hd rfl (k ls H locs cells slots g1 g2 g3 g4 g5)
  · cases hz
theorem zgo_some {off : Int} (hz : zgo pc off L st h = some F) : ∃ t : Nat, (pc : Int) + off = (t : Int) ∧ F = (t, L, st, h) := by
  unfold zgo at hz
  split at hz
  · rename_i hc
    exact ⟨_, (Int.toNat_of_nonneg hc).symm, (Option.some.inj hz).symm⟩
  · cases hz
theorem zo_goto (hx : p.tables.exec = Jvm.exec) (hb : c.code = cc) {off : Int} (hd : decode cc pc = .ok (.goto off, 3)) (hz : zgo pc off L st h = some F) (k : zGo p l e R s m args below meth c Q D cl cA ad base nL c0 s0 F) : zGo p l e R s m args below meth c Q D cl cA ad base nL c0 s0 (pc, L, st, h) := by
  obtain ⟨t, ht, rfl⟩ := zgo_some hz
  intro ls H locs cells slots g1 g2 g3 g4 g5
  exact lv_goto hx hb hd ht (k ls H locs cells slots g1 g2 g3 g4 g5)
theorem zo_if_eq (hx : p.tables.exec = Jvm.exec) (hb : c.code = cc) {off : Int} (hd : decode cc pc = .ok (.ifCond .eq off, 3)) (hz : zs_if pc off L st h (fun x => decide (x = 0)) = some F) (k : zGo p l e R s m args below meth c Q D cl cA ad base nL c0 s0 F) : zGo p l e R s m args below meth c Q D cl cA ad base nL c0 s0 (pc, L, st, h) := by
  unfold zs_if at hz
  split at hz
  · rename_i x r
    split at hz
    · rename_i ho
      split at hz
      · rename_i hc
        cases hz
        intro ls H locs cells slots g1 g2 g3 g4 g5
        exact lv_if_eq hx hb hd (Int.toNat_of_nonneg ho).symm (fun _ => k ls H locs cells slots g1 g2 g3 g4 g5) (fun q => absurd (of_decide_eq_true hc) q)
      · rename_i hc
        cases hz
        intro ls H locs cells slots g1 g2 g3 g4 g5
        exact lv_if_eq hx hb hd (Int.toNat_of_nonneg ho).symm (fun q => absurd (decide_eq_true q) hc) (fun _ => k ls H locs cells slots g1 g2 g3 g4 g5)
    · cases hz
  · cases hz
theorem zo_icmp_eq (hx : p.tables.exec = Jvm.exec) (hb : c.code = cc) {off : Int} (hd : decode cc pc = .ok (.if_icmp .eq off, 3)) (hz : zs_ic pc off L st h (fun x y => decide (x = y)) = some F) (k : zGo p l e R s m args below meth c Q D cl cA ad base nL c0 s0 F) : zGo p l e R s m args below meth c Q D cl cA ad base nL c0 s0 (pc, L, st, h) := by
  unfold zs_ic at hz
  split at hz
  · rename_i y x r
    split at hz
    · rename_i ho
      split at hz
      · rename_i hc
        cases hz
        intro ls H locs cells slots g1 g2 g3 g4 g5
        exact lv_icmp_eq hx hb hd (Int.toNat_of_nonneg ho).symm (fun _ => k ls H locs cells slots g1 g2 g3 g4 g5) (fun q => absurd (of_decide_eq_true hc) q)
      · rename_i hc
        cases hz
        intro ls H locs cells slots g1 g2 g3 g4 g5
        exact lv_icmp_eq hx hb hd (Int.toNat_of_nonneg ho).symm (fun q => absurd (decide_eq_true q) hc) (fun _ => k ls H locs cells slots g1 g2 g3 g4 g5)
    · cases hz
  · cases hz
theorem zo_if_ne (hx : p.tables.exec = Jvm.exec) (hb : c.code = cc) {off : Int} (hd : decode cc pc = .ok (.ifCond .ne off, 3)) (hz : zs_if pc off L st h (fun x => decide (¬ x = 0)) = some F) (k : zGo p l e R s m args below meth c Q D cl cA ad base nL c0 s0 F) : zGo p l e R s m args below meth c Q D cl cA ad base nL c0 s0 (pc, L, st, h) := by
  unfold zs_if at hz
  split at hz
  · rename_i x r
    split at hz
    · rename_i ho
      split at hz
      · rename_i hc
        cases hz
        intro ls H locs cells slots g1 g2 g3 g4 g5
        exact lv_if_ne hx hb hd (Int.toNat_of_nonneg ho).symm (fun _ => k ls H locs cells slots g1 g2 g3 g4 g5) (fun q => absurd q (of_decide_eq_true hc))
      · rename_i hc
        cases hz
        intro ls H locs cells slots g1 g2 g3 g4 g5
        exact lv_if_ne hx hb hd (Int.toNat_of_nonneg ho).symm (fun q => absurd (decide_eq_true q) hc) (fun q => k ls H locs cells slots g1 g2 g3 g4 g5)
    · cases hz
  · cases hz
theorem zo_icmp_ne (hx : p.tables.exec = Jvm.exec) (hb : c.code = cc) {off : Int} (hd : decode cc pc = .ok (.if_icmp .ne off, 3)) (hz : zs_ic pc off L st h (fun x y => decide (¬ x = y)) = some F) (k : zGo p l e R s m args below meth c Q D cl cA ad base nL c0 s0 F) : zGo p l e R s m args below meth c Q D cl cA ad base nL c0 s0 (pc, L, st, h) := by
  unfold zs_ic at hz
  split at hz
  · rename_i y x r
    split at hz
    · rename_i ho
      split at hz
      · rename_i hc
        cases hz
        intro ls H locs cells slots g1 g2 g3 g4 g5
        exact lv_icmp_ne hx hb hd (Int.toNat_of_nonneg ho).symm (fun _ => k ls H locs cells slots g1 g2 g3 g4 g5) (fun q => absurd q (of_decide_eq_true hc))
      · rename_i hc
        cases hz
        intro ls H locs cells slots g1 g2 g3 g4 g5
        exact lv_icmp_ne hx hb hd (Int.toNat_of_nonneg ho).symm (fun q => absurd (decide_eq_true q) hc) (fun q => k ls H locs cells slots g1 g2 g3 g4 g5)
    · cases hz
  · cases hz
theorem zo_if_lt (hx : p.tables.exec = Jvm.exec) (hb : c.code = cc) {off : Int} (hd : decode cc pc = .ok (.ifCond .lt off, 3)) (hz : zs_if pc off L st h (fun x => decide (x < 0)) = some F) (k : zGo p l e R s m args below meth c Q D cl cA ad base nL c0 s0 F) : zGo p l e R s m args below meth c Q D cl cA ad base nL c0 s0 (pc, L, st, h) := by
  unfold zs_if at hz
  split at hz
  · rename_i x r
    split at hz
    · rename_i ho
      split at hz
      · rename_i hc
        cases hz
        intro ls H locs cells slots g1 g2 g3 g4 g5
        exact lv_if_lt hx hb hd (Int.toNat_of_nonneg ho).symm (fun _ => k ls H locs cells slots g1 g2 g3 g4 g5) (fun q => absurd (of_decide_eq_true hc) q)
      · rename_i hc
        cases hz
        intro ls H locs cells slots g1 g2 g3 g4 g5
        exact lv_if_lt hx hb hd (Int.toNat_of_nonneg ho).symm (fun q => absurd (decide_eq_true q) hc) (fun _ => k ls H locs cells slots g1 g2 g3 g4 g5)
    · cases hz
  · cases hz
theorem zo_icmp_lt (hx : p.tables.exec = Jvm.exec) (hb : c.code = cc) {off : Int} (hd : decode cc pc = .ok (.if_icmp .lt off, 3)) (hz : zs_ic pc off L st h (fun x y => decide (x < y)) = some F) (k : zGo p l e R s m args below meth c Q D cl cA ad base nL c0 s0 F) : zGo p l e R s m args below meth c Q D cl cA ad base nL c0 s0 (pc, L, st, h) := by
  unfold zs_ic at hz
  split at hz
  · rename_i y x r
    split at hz
    · rename_i ho
      split at hz
      · rename_i hc
        cases hz
        intro ls H locs cells slots g1 g2 g3 g4 g5
        exact lv_icmp_lt hx hb hd (Int.toNat_of_nonneg ho).symm (fun _ => k ls H locs cells slots g1 g2 g3 g4 g5) (fun q => absurd (of_decide_eq_true hc) q)
      · rename_i hc
        cases hz
        intro ls H locs cells slots g1 g2 g3 g4 g5
        exact lv_icmp_lt hx hb hd (Int.toNat_of_nonneg ho).symm (fun q => absurd (decide_eq_true q) hc) (fun _ => k ls H locs cells slots g1 g2 g3 g4 g5)
    · cases hz
  · cases hz
theorem zo_if_ge (hx : p.tables.exec = Jvm.exec) (hb : c.code = cc) {off : Int} (hd : decode cc pc = .ok (.ifCond .ge off, 3)) (hz : zs_if pc off L st h (fun x => decide (0 ≤ x)) = some F) (k : zGo p l e R s m args below meth c Q D cl cA ad base nL c0 s0 F) : zGo p l e R s m args below meth c Q D cl cA ad base nL c0 s0 (pc, L, st, h) := by
  unfold zs_if at hz
  split at hz
  · rename_i x r
    split at hz
    · rename_i ho
      split at hz
      · rename_i hc
        cases hz
        intro ls H locs cells slots g1 g2 g3 g4 g5
        exact lv_if_ge hx hb hd (Int.toNat_of_nonneg ho).symm (fun _ => k ls H locs cells slots g1 g2 g3 g4 g5) (fun q => absurd (of_decide_eq_true hc) q)
      · rename_i hc
        cases hz
        intro ls H locs cells slots g1 g2 g3 g4 g5
        exact lv_if_ge hx hb hd (Int.toNat_of_nonneg ho).symm (fun q => absurd (decide_eq_true q) hc) (fun _ => k ls H locs cells slots g1 g2 g3 g4 g5)
    · cases hz
  · cases hz
theorem zo_icmp_ge (hx : p.tables.exec = Jvm.exec) (hb : c.code = cc) {off : Int} (hd : decode cc pc = .ok (.if_icmp .ge off, 3)) (hz : zs_ic pc off L st h (fun x y => decide (y ≤ x)) = some F) (k : zGo p l e R s m args below meth c Q D cl cA ad base nL c0 s0 F) : zGo p l e R s m args below meth c Q D cl cA ad base nL c0 s0 (pc, L, st, h) := by
  unfold zs_ic at hz
  split at hz
  · rename_i y x r
    split at hz
    · rename_i ho
      split at hz
      · rename_i hc
        cases hz
        intro ls H locs cells slots g1 g2 g3 g4 g5
        exact lv_icmp_ge hx hb hd (Int.toNat_of_nonneg ho).symm (fun _ => k ls H locs cells slots g1 g2 g3 g4 g5) (fun q => absurd (of_decide_eq_true hc) q)
      · rename_i hc
        cases hz
        intro ls H locs cells slots g1 g2 g3 g4 g5
        exact lv_icmp_ge hx hb hd (Int.toNat_of_nonneg ho).symm (fun q => absurd (decide_eq_true q) hc) (fun _ => k ls H locs cells slots g1 g2 g3 g4 g5)
    · cases hz
  · cases hz
theorem zo_if_gt (hx : p.tables.exec = Jvm.exec) (hb : c.code = cc) {off : Int} (hd : decode cc pc = .ok (.ifCond .gt off, 3)) (hz : zs_if pc off L st h (fun x => decide (0 < x)) = some F) (k : zGo p l e R s m args below meth c Q D cl cA ad base nL c0 s0 F) : zGo p l e R s m args below meth c Q D cl cA ad base nL c0 s0 (pc, L, st, h) := by
  unfold zs_if at hz
  split at hz
  · rename_i x r
    split at hz
    · rename_i ho
      split at hz
      · rename_i hc
        cases hz
        intro ls H locs cells slots g1 g2 g3 g4 g5
        exact lv_if_gt hx hb hd (Int.toNat_of_nonneg ho).symm (fun _ => k ls H locs cells slots g1 g2 g3 g4 g5) (fun q => absurd (of_decide_eq_true hc) q)
      · rename_i hc
        cases hz
        intro ls H locs cells slots g1 g2 g3 g4 g5
        exact lv_if_gt hx hb hd (Int.toNat_of_nonneg ho).symm (fun q => absurd (decide_eq_true q) hc) (fun _ => k ls H locs cells slots g1 g2 g3 g4 g5)
    · cases hz
  · cases hz
theorem zo_icmp_gt (hx : p.tables.exec = Jvm.exec) (hb : c.code = cc) {off : Int} (hd : decode cc pc = .ok (.if_icmp .gt off, 3)) (hz : zs_ic pc off L st h (fun x y => decide (y < x)) = some F) (k : zGo p l e R s m args below meth c Q D cl cA ad base nL c0 s0 F) : zGo p l e R s m args below meth c Q D cl cA ad base nL c0 s0 (pc, L, st, h) := by
  unfold zs_ic at hz
  split at hz
  · rename_i y x r
    split at hz
    · rename_i ho
      split at hz
      · rename_i hc
        cases hz
        intro ls H locs cells slots g1 g2 g3 g4 g5
        exact lv_icmp_gt hx hb hd (Int.toNat_of_nonneg ho).symm (fun _ => k ls H locs cells slots g1 g2 g3 g4 g5) (fun q => absurd (of_decide_eq_true hc) q)
      · rename_i hc
        cases hz
        intro ls H locs cells slots g1 g2 g3 g4 g5
        exact lv_icmp_gt hx hb hd (Int.toNat_of_nonneg ho).symm (fun q => absurd (decide_eq_true q) hc) (fun _ => k ls H locs cells slots g1 g2 g3 g4 g5)
    · cases hz
  · cases hz
theorem zo_if_le (hx : p.tables.exec = Jvm.exec) (hb : c.code = cc) {off : Int} (hd : decode cc pc = .ok (.ifCond .le off, 3)) (hz : zs_if pc off L st h (fun x => decide (x ≤ 0)) = some F) (k : zGo p l e R s m args below meth c Q D cl cA ad base nL c0 s0 F) : zGo p l e R s m args below meth c Q D cl cA ad base nL c0 s0 (pc, L, st, h) := by
  unfold zs_if at hz
  split at hz
  · rename_i x r
    split at hz
    · rename_i ho
      split at hz
      · rename_i hc
        cases hz
        intro ls H locs cells slots g1 g2 g3 g4 g5
        exact lv_if_le hx hb hd (Int.toNat_of_nonneg ho).symm (fun _ => k ls H locs cells slots g1 g2 g3 g4 g5) (fun q => absurd (of_decide_eq_true hc) q)
      · rename_i hc
        cases hz
        intro ls H locs cells slots g1 g2 g3 g4 g5
        exact lv_if_le hx hb hd (Int.toNat_of_nonneg ho).symm (fun q => absurd (decide_eq_true q) hc) (fun _ => k ls H locs cells slots g1 g2 g3 g4 g5)
    · cases hz
  · cases hz
theorem zo_icmp_le (hx : p.tables.exec = Jvm.exec) (hb : c.code = cc) {off : Int} (hd : decode cc pc = .ok (.if_icmp .le off, 3)) (hz : zs_ic pc off L st h (fun x y => decide (x ≤ y)) = some F) (k : zGo p l e R s m args below meth c Q D cl cA ad base nL c0 s0 F) : zGo p l e R s m args below meth c Q D cl cA ad base nL c0 s0 (pc, L, st, h) := by
  unfold zs_ic at hz
  split at hz
  · rename_i y x r
    split at hz
    · rename_i ho
      split at hz
      · rename_i hc
        cases hz
        intro ls H locs cells slots g1 g2 g3 g4 g5
        exact lv_icmp_le hx hb hd (Int.toNat_of_nonneg ho).symm (fun _ => k ls H locs cells slots g1 g2 g3 g4 g5) (fun q => absurd (of_decide_eq_true hc) q)
      · rename_i hc
        cases hz
        intro ls H locs cells slots g1 g2 g3 g4 g5
        exact lv_icmp_le hx hb hd (Int.toNat_of_nonneg ho).symm (fun q => absurd (decide_eq_true q) hc) (fun _ => k ls H locs cells slots g1 g2 g3 g4 g5)
    · cases hz
  · cases hz
theorem zo_ifnull (hx : p.tables.exec = Jvm.exec) (hb : c.code = cc) {off : Int} (hd : decode cc pc = .ok (.ifnull off, 3)) (hz : zs_nu pc off L st h = some F) (k : zGo p l e R s m args below meth c Q D cl cA ad base nL c0 s0 F) : zGo p l e R s m args below meth c Q D cl cA ad base nL c0 s0 (pc, L, st, h) := by
  unfold zs_nu at hz
  split at hz
  · obtain ⟨t, ht, rfl⟩ := zgo_some hz
    intro ls H locs cells slots g1 g2 g3 g4 g5
    exact lv_ifnullN hx hb hd ht (k ls H locs cells slots g1 g2 g3 g4 g5)
  · cases hz
    intro ls H locs cells slots g1 g2 g3 g4 g5
    exact lv_ifnull hx hb hd (k ls H locs cells slots g1 g2 g3 g4 g5)
  · cases hz
theorem zo_ifnonnull (hx : p.tables.exec = Jvm.exec) (hb : c.code = cc) {off : Int} (hd : decode cc pc = .ok (.ifnonnull off, 3)) (hz : zs_nn pc off L st h = some F) (k : zGo p l e R s m args below meth c Q D cl cA ad base nL c0 s0 F) : zGo p l e R s m args below meth c Q D cl cA ad base nL c0 s0 (pc, L, st, h) := by
  unfold zs_nn at hz
  split at hz
  · cases hz
    intro ls H locs cells slots g1 g2 g3 g4 g5
    exact lv_ifnonnullN hx hb hd (k ls H locs cells slots g1 g2 g3 g4 g5)
  · obtain ⟨t, ht, rfl⟩ := zgo_some hz
    intro ls H locs cells slots g1 g2 g3 g4 g5
    exact lv_ifnonnull hx hb hd ht (k ls H locs cells slots g1 g2 g3 g4 g5)
  · cases hz
theorem zo_tableswitch (hx : p.tables.exec = Jvm.exec) (hb : c.code = cc) {d lo hi : Int} {offs : Array Int} {len : Nat} (hd : decode cc pc = .ok (.tableswitch d lo hi offs, len)) (hz : zs_tab pc d lo hi offs L st h = some F) (k : zGo p l e R s m args below meth c Q D cl cA ad base nL c0 s0 F) : zGo p l e R s m args below meth c Q D cl cA ad base nL c0 s0 (pc, L, st, h) := by
  unfold zs_tab at hz
  split at hz
  · split at hz
    · rename_i hc
      obtain ⟨t, ht, rfl⟩ := zgo_some hz
      intro ls H locs cells slots g1 g2 g3 g4 g5
      exact lv_tableOut hx hb hd hc ht (k ls H locs cells slots g1 g2 g3 g4 g5)
    · rename_i hc
      split at hz
      · rename_i off ho
        obtain ⟨t, ht, rfl⟩ := zgo_some hz
        intro ls H locs cells slots g1 g2 g3 g4 g5
        exact lv_tableIn hx hb hd (fun q => hc (Or.inl q)) (fun q => hc (Or.inr q)) ho ht (k ls H locs cells slots g1 g2 g3 g4 g5)
      · cases hz
  · cases hz
theorem zo_dup (hx : p.tables.exec = Jvm.exec) (hb : c.code = cc) (hd : decode cc pc = .ok (.dup, 1)) (hz : zs_dup pc L st h = some F) (k : zGo p l e R s m args below meth c Q D cl cA ad base nL c0 s0 F) : zGo p l e R s m args below meth c Q D cl cA ad base nL c0 s0 (pc, L, st, h) := by
  unfold zs_dup at hz
  split at hz
  · split at hz
    · rename_i v r hc
      cases hz
      intro ls H locs cells slots g1 g2 g3 g4 g5
      exact lv_dup hx hb hd (by rw [zv_cat]; exact hc) (k ls H locs cells slots g1 g2 g3 g4 g5)
    · cases hz
  · cases hz
theorem zo_pop (hx : p.tables.exec = Jvm.exec) (hb : c.code = cc) (hd : decode cc pc = .ok (.pop, 1)) (hz : zs_pop pc L st h = some F) (k : zGo p l e R s m args below meth c Q D cl cA ad base nL c0 s0 F) : zGo p l e R s m args below meth c Q D cl cA ad base nL c0 s0 (pc, L, st, h) := by
  unfold zs_pop at hz
  split at hz
  · split at hz
    · rename_i v r hc
      cases hz
      intro ls H locs cells slots g1 g2 g3 g4 g5
      exact lv_pop (va := zv ad v) hx hb hd (by rw [zv_cat]; exact hc) (k ls H locs cells slots g1 g2 g3 g4 g5)
    · cases hz
  · cases hz
theorem zo_dup2 (hx : p.tables.exec = Jvm.exec) (hb : c.code = cc) (hd : decode cc pc = .ok (.dup2, 1)) (hz : zs_dup2 pc L st h = some F) (k : zGo p l e R s m args below meth c Q D cl cA ad base nL c0 s0 F) : zGo p l e R s m args below meth c Q D cl cA ad base nL c0 s0 (pc, L, st, h) := by
  unfold zs_dup2 at hz
  split at hz
  · split at hz
    · rename_i v w r hc
      cases hz
      intro ls H locs cells slots g1 g2 g3 g4 g5
      exact lv_dup2_11 hx hb hd (by rw [zv_cat]; exact hc.1) (by rw [zv_cat]; exact hc.2) (k ls H locs cells slots g1 g2 g3 g4 g5)
    · cases hz
  · cases hz
end ZO
