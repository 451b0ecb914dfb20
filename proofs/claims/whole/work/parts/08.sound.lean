/-! A RUN of the pure machine is a run of the machine -/
def zENV (s : State) (D : va_G) (cA : Nat → ClassId) (ad : Nat → Nat) (base : Nat) (X : zX) : Prop :=
  (∀ q ∈ znF, va_Nw (.fieldLinkNest q.1 q.2.1 q.2.2.1 q.2.2.2.1 q.2.2.2.2.1 q.2.2.2.2.2) s) ∧ (∀ q ∈ znM, va_Nw (.methodLinkNest q.1 q.2.1 q.2.2.1 q.2.2.2) s) ∧ va_K D classes (ztys cA) s ∧ (∀ i, ad (zK + i) = base + i) ∧ base ≤ s.heap.size ∧
  (∀ q ∈ zSV X, va_Z q.1 q.2.1 q.2.2.1 (zv ad q.2.2.2) (zA base) s s.heap) ∧
  (∀ q ∈ zCF, va_OF (zfn q.2.1).1 (zfn q.2.1).2.1 (zfn q.2.1).2.2 (zv ad q.2.2) (ad q.1) (zA base) s s.heap) ∧
  (∀ q ∈ zCO, va_O (zRn q.2) (ad q.1) (zA base) s s.heap) ∧
  (∀ a t n f, zka X a = some (t, n, f) → va_T (zkty t) (ad a) n (fun j => zv ad (f j)) (zA base) s s.heap) ∧
  (∀ q ∈ zSR, vk_R (zRn q.1) q.2.1 q.2.2.1 (ad q.2.2.2) s) ∧ va_AO zPatN s
theorem zENV.go {s U : State} {D : va_G} {cA : Nat → ClassId} {ad : Nat → Nat} {base : Nat} {X : zX} (hW : s.WarmedH U.vm) (hz : s.heap.size ≤ U.heap.size) (hq : ∀ q : Nat, q < s.heap.size → ¬ zA base q → U.heap[q]? = s.heap[q]?) (h : zENV s D cA ad base X) : zENV U D cA ad base X := by
  obtain ⟨h1, h2, h3, h4, h5, h6, h7, h8, h9, h10, h11⟩ := h
  exact ⟨fun q m => va_Nw.warmF hW (h1 q m), fun q m => va_Nw.warmM hW (h2 q m), va_K.moved hW.alike h3, h4, Nat.le_trans h5 hz, fun q m => (va_Z.moved hW.alike (h6 q m)).kept hq, fun q m => (va_OF.moved hW.alike (h7 q m)).kept hq, fun q m => (va_O.moved hW.alike (h8 q m)).kept hq, fun a t n f m => (va_T.moved hW.alike (h9 a t n f m)).kept hq, fun q m => vk_R.warm hW (h10 q m), va_AO.moved hW.alike h11⟩
theorem zENV.same {s U : State} {D : va_G} {cA : Nat → ClassId} {ad : Nat → Nat} {base : Nat} {X : zX} (hv : s.vm = U.vm) (hh : U.heap = s.heap) (h : zENV s D cA ad base X) : zENV U D cA ad base X := by
  obtain ⟨h1, h2, h3, h4, h5, h6, h7, h8, h9, h10, h11⟩ := h
  have ha : s.vm.Alike U.vm := by rw [hv]; exact Vm.Alike.refl _
  have hq : ∀ q : Nat, q < s.heap.size → ¬ zA base q → U.heap[q]? = s.heap[q]? := fun q _ _ => by rw [hh]
  exact ⟨fun q m => va_Nw.same rfl hv (h1 q m), fun q m => va_Nw.same rfl hv (h2 q m), va_K.moved ha h3, h4, by rw [hh]; exact h5, fun q m => (va_Z.moved ha (h6 q m)).kept hq, fun q m => (va_OF.moved ha (h7 q m)).kept hq, fun q m => (va_O.moved ha (h8 q m)).kept hq, fun a t n f m => (va_T.moved ha (h9 a t n f m)).kept hq, fun q m => vk_R.same hv.symm (h10 q m), va_AO.moved ha h11⟩
/-- a method's frame -/
def zCx (p : Program) (s : State) (m : MethodId) (args : Array Value) (meth : Method) (c : Code) (j : Nat) (D : va_G) (cA : Nat → ClassId) (ad : Nat → Nat) (base : Nat) (X : zX) : Prop :=
  p.tables.exec = Jvm.exec ∧ c.code = zcode j ∧ c.maxLocals = zmaxL j ∧ s.vm.findClass (zRn (zown j)) = some m.cls ∧ (∀ w ∈ zcore, w.before args s = true) ∧ meth.name = (zname j).name ∧ zENV s D cA ad base X
def zRt (p : Program) (l : Launch) (e : Env) (R : Room) (s : State) (m : MethodId) (args : Array Value) (below : List Frame) (meth : Method) (c : Code) (Q : State → Prop) (D : va_G) (cA : Nat → ClassId) (ad : Nat → Nat) (base c0 s0 j : Nat) (v : Option Value) (h' : zH) : Prop :=
  ∀ (pc : Nat) (i : Jvm.ClassFile.Instr) (ls : Array Slot) (H : Heap) (locs : List Loc) (cells slots : Nat), decode (zcode j) pc = .ok (i, 1) → zret (zrt j) i v.toList = some v → zW D classes cA ad base h' H → va_S (zA base) s.heap H locs → cells + c0 = h'.1 → slots + s0 = h'.2.1 → W p l e R s m args below meth c H locs cells slots Q (F0 m pc ls (v.toList.map (zv ad)))
def zS (l : Launch) (D : va_G) (cA : Nat → ClassId) (ad : Nat → Nat) (base : Nat) (X : zX) (d j pc : Nat) (L : zL) (st : List Value) (h : zH) (v : Option Value) (h' : zH) : Prop :=
  (h.1 ≤ h'.1 ∧ h.2.1 ≤ h'.2.1) ∧ ∀ (p : Program) (e : Env) (R : Room) (s : State) (m : MethodId) (args : Array Value) (below : List Frame) (meth : Method) (c : Code) (Q : State → Prop) (c0 s0 : Nat), zCx p s m args meth c j D cA ad base X → d ≤ R.frames → 40 * d ≤ R.locals → h'.1 ≤ c0 + R.cells → h'.2.1 ≤ s0 + R.slots → zRt p l e R s m args below meth c Q D cA ad base c0 s0 j v h' → zGo p l e R s m args below meth c Q D classes cA ad base (zmaxL j) c0 s0 (pc, L, st, h)
theorem zentl_len (ad : Nat → Nat) (vs : List Value) : (lg_sl (vs.map (zv ad))).length = (zentl vs).length := by
  induction vs with
  | nil => rfl
  | cons v r ih =>
    have e : lg_sl ((v :: r).map (zv ad)) = (if v.category = 2 then [.val (zv ad v), .second] else [.val (zv ad v)]) ++ lg_sl (r.map (zv ad)) := by
      simp [lg_sl, zv_cat]
    rw [e, zentl, List.length_append, ih]
    split <;> simp <;> omega
theorem zentl_in (ad : Nat → Nat) : ∀ (vs : List Value) (k i : Nat) (v : Value), (zentl vs)[i]? = some (some v) → (k + i, zv ad v) ∈ lv_args k (vs.map (zv ad)) := by
  intro vs
  induction vs with
  | nil => intro k i v h; simp [zentl] at h
  | cons w r ih =>
    intro k i v h
    rw [zentl] at h
    rw [List.map_cons, lv_args, zv_cat]
    split at h
    · rename_i hc
      rw [if_pos hc]
      match i, h with
      | 0, h =>
        have e : some w = some v := by simpa using h
        cases e
        exact List.mem_cons_self
      | 1, h => simp at h
      | i + 2, h =>
        have := ih (k + 2) i v (by simpa using h)
        refine List.mem_cons_of_mem _ ?_
        rw [show k + (i + 2) = k + 2 + i by omega]
        exact this
    · rename_i hc
      rw [if_neg hc]
      match i, h with
      | 0, h =>
        have e : some w = some v := by simpa using h
        cases e
        exact List.mem_cons_self
      | i + 1, h =>
        have := ih (k + 1) i v (by simpa using h)
        refine List.mem_cons_of_mem _ ?_
        rw [show k + (i + 1) = k + 1 + i by omega]
        exact this
theorem zent_ok {ad : Nat → Nat} {ls : Array Slot} {n : Nat} {vs : List Value} (hl : lv_has ls n (lv_args 0 (vs.map (zv ad)))) (hlen : (zentl vs).length ≤ n) : zLH ad ls n (zent n vs) := by
  refine ⟨by simp [zent]; omega, hl.1, hl.2.1, fun i v h => ?_⟩
  unfold zent at h
  by_cases hi : i < (zentl vs).length
  · rw [List.getElem?_append_left hi] at h
    have := zentl_in ad vs 0 i v h
    rw [Nat.zero_add] at this
    exact hl.2.2 _ this
  · rw [List.getElem?_append_right (by omega), List.getElem?_replicate] at h
    split at h <;> simp at h
section ZM
variable {l : Launch} {D : va_G} {cA : Nat → ClassId} {ad : Nat → Nat} {base : Nat} {X : zX}
def zPc (D : va_G) (cA : Nat → ClassId) (ad : Nat → Nat) (base : Nat) (X : zX) (As : List Value) (h : zH) : Array Value → State → Prop := fun a U => a = (As.map (zv ad)).toArray ∧ zW D classes cA ad base h U.heap ∧ zENV U D cA ad base X
def zQc (D : va_G) (cA : Nat → ClassId) (ad : Nat → Nat) (base : Nat) (v : Option Value) (h1 : zH) : Array Value → State → Outcome → State → Prop := fun _ st oc t => oc = .returned (v.map (zv ad)) ∧ zW D classes cA ad base h1 t.heap ∧ va_F (zA base) st t
theorem z_met {d j : Nat} {As : List Value} {h h1 : zH} {v : Option Value} (hj : zjok j = true) (hlen : (zentl As).length ≤ zmaxL j) (hS : zS l D cA ad base X d j 0 (zent (zmaxL j) As) [] h v h1) :
    Met l (zname j) (zws j) { frames := d, cells := h1.1 - h.1, slots := h1.2.1 - h.2.1, locals := 40 * d } (zPc D cA ad base X As h) (zQc D cA ad base v h1) (h1.1 - h.1) (h1.2.1 - h.2.1) (zA base) := by
  obtain ⟨j1, j2⟩ := zjok_ok hj
  refine Met.ofW (cc := zcode j) (maxL := zmaxL j) (ret := zrt j) j1 rfl ?_
  intro p e s m args below meth c s₁ B hml hv
  obtain ⟨rfl, hw, hE⟩ := hv
  have hts := atoms_spec (ws := zws j) B.pre
  have hown : s.vm.findClass (zRn (zown j)) = some m.cls := by rw [← j2]; exact findClass_of_methodNamed B.named
  have hlk := B.notSynchronized
  rw [lg_entry_eq]
  have hl := lv_entry (As.map (zv ad)) (n := zmaxL j) (by rw [zentl_len]; exact hlen)
  obtain ⟨m1, m2⟩ := hS.1
  refine hS.2 p e _ s m _ below meth c _ h.1 h.2.1 ⟨B.exec, B.bytes, hml, hown, fun w hw => hts w (List.mem_cons_of_mem _ hw), (name_of_methodNamed B.named B.method).1, hE⟩ (Nat.le_refl _) (Nat.le_refl _) (by show h1.1 ≤ h.1 + (h1.1 - h.1); omega) (by show h1.2.1 ≤ h.2.1 + (h1.2.1 - h.2.1); omega) ?_ _ s.heap [] 0 0 (zent_ok hl hlen) hw va_S.rf (by show 0 + h.1 = h.1; omega) (by show 0 + h.2.1 = h.2.1; omega)
  intro pc i ls H locs cells slots hd hr hw1 hS1 hc hs
  obtain rfl : cells = h1.1 - h.1 := by omega
  obtain rfl : slots = h1.2.1 - h.2.1 := by omega
  have hret := B.returns
  have hq : ∀ t : State, t.heap = H → s.WarmedH t.vm → zQc D cA ad base v h1 (As.map (zv ad)).toArray s (.returned (v.map (zv ad))) t := fun t ht _ => ⟨rfl, by rw [ht]; exact hw1, hS1.F ht⟩
  unfold zret at hr
  split at hr
  · split at hr
    · rename_i x hx
      split at hr
      · rename_i hf
        cases hr
        unfold zrfit at hf
        split at hf
        · rename_i ht
          rw [ht] at hret
          exact W.zret B.exec B.bytes hret rfl hq hS1.2.2 hd
        · rename_i ht
          rw [ht] at hret
          simp only [Bool.or_eq_true, beq_iff_eq] at hf
          rcases hf with rfl | rfl
          · exact W.zret B.exec B.bytes hret (by decide) hq hS1.2.2 hd
          · exact W.zret B.exec B.bytes hret (by decide) hq hS1.2.2 hd
        · rename_i ht
          rw [ht] at hret
          exact W.zret B.exec B.bytes hret (of_decide_eq_true hf) hq hS1.2.2 hd
        · rename_i ht
          rw [ht] at hret
          exact W.zret B.exec B.bytes hret (of_decide_eq_true hf) hq hS1.2.2 hd
        · cases hf
      · cases hr
    · cases hr
  · split at hr
    · rename_i x hx
      split at hr
      · rename_i ht
        cases hr
        rw [ht] at hret
        exact W.lret B.exec B.bytes hret hq hS1.2.2 hd
      · cases hr
    · cases hr
  · split at hr
    · rename_i a hx
      split at hr
      · rename_i ht
        cases hr
        obtain ⟨rt, ht1, ht2⟩ := zrref_ok ht
        rw [ht1] at hret
        exact W.aret B.exec B.bytes hret ht2 (Or.inr ⟨_, rfl⟩) hq hS1.2.2 hd
      · cases hr
    · rename_i hx
      split at hr
      · rename_i ht
        cases hr
        obtain ⟨rt, ht1, ht2⟩ := zrref_ok ht
        rw [ht1] at hret
        exact W.aret B.exec B.bytes hret ht2 (Or.inl rfl) hq hS1.2.2 hd
      · cases hr
    · cases hr
  · split at hr
    · rename_i hx
      split at hr
      · rename_i ht
        cases hr
        rw [ht] at hret
        exact W.vret B.exec B.bytes hret hq hS1.2.2 hd
      · cases hr
    · cases hr
  · cases hr
end ZM
section ZC
variable {p : Program} {l : Launch} {e : Env} {R : Room} {s : State} {m : MethodId} {args : Array Value} {below : List Frame} {meth : Method} {c : Code} {Q : State → Prop} {D : va_G} {cA : Nat → ClassId} {ad : Nat → Nat} {base : Nat} {X : zX} {pc : Nat} {ls : Array Slot} {H : Heap} {locs : List Loc} {cells slots mc ms : Nat} {st0 rest : List Value} {a : Array Value} {v : Option Value} {h1 : zH} {free : Addr → Prop}
theorem z_call (hr : va_Run p l e R s m args below meth c H locs cells slots mc ms (F0 m pc ls st0) rest (zQc D cA ad base v h1 a) (zA base)) (hS : va_S (zA base) s.heap H locs)
    (kk : ∀ (H1 : Heap) (locs1 : List Loc), zW D classes cA ad base h1 H1 → va_S (zA base) s.heap H1 locs1 → W p l e R s m args below meth c H1 locs1 (cells + mc) (slots + ms) Q (F0 m (pc + 3) ls ((v.map (zv ad)).toList ++ rest))) : W p l e R s m args below meth c H locs cells slots Q (F0 m pc ls st0) := by
  intro T hT X
  obtain ⟨v', st₀, t, T', L, h0, X', hL, e1, e2, ⟨hv, hw, hz, hk⟩, st⟩ := hr T hT X
  cases hv
  rw [h0] at hz hk
  obtain ⟨t2, a1, b1⟩ := kk T'.heap (locs ++ L) (by rw [e1]; exact hw) ⟨Nat.le_trans hS.1 (by rw [e1]; exact hz), fun q w1 w2 => by rw [e1, hk q (Nat.lt_of_lt_of_le w1 hS.1) w2]; exact hS.2.1 q w1 w2, fun q hq => by
      rcases List.mem_append.mp hq with h | h
      · exact hS.2.2 q h
      · exact hL q h⟩ T' rfl X'
  exact ⟨t2, st t2 a1, b1⟩
end ZC
