/-! THE CLAIM OUT OF ONE WALK OF THE LAW'S BODY. Your part is whole_start (and what it stands on); all else here is the same for every law, but numbers. -/
def R_law : String := "BedMessagesLaw"
def lw_P (b : Addr) (xs : List Int32) (args : Array Value) (s : State) : Prop := args = #[.ref b] ∧ s.IntsAt b xs ∧ xs.length ≤ 3072 ∧ (Jvm.Cond.and given_1 narrow_1).before args s = true
def lw_Q (_ : Array Value) (s : State) (o : Outcome) (t : State) : Prop := o = .returned (some (.int 1)) ∧ Framed s o t [] 600000 7302250
def lw_Z (below : List Frame) (a : Array Value) (s : State) : State → Prop := fun t => ∃ o, t.status = .running ∧ Ended t below o ∧ lw_Q a s o t
/-- the law's own end, with 1 on the stack, nothing written that was there before, its room as the claim has it -/
theorem lw_ret {p : Program} {l : Launch} {e : Env} {s : State} {m : MethodId} {below : List Frame} {meth : Method} {c : Code} {b : Nat} (hx : p.tables.exec = Jvm.exec) (hb : c.code = code) (hr : meth.sig.returnType = ret) (hlocks : meth.locks = false) {pc : Nat} {H : Heap} {ls : Array Slot} (hdg : decode code pc = .ok (.ireturn, 1)) : W p l e room_1 s m #[Value.ref b] below meth c H [] 600000 7302250 (lw_Z below #[Value.ref b] s) (F0 m pc ls [.int 1]) := by
  intro T hT X
  obtain ⟨fs, hret, hrun, hended, hW, hframe⟩ := X.leave (v := some (.int 1)) (hlocks := hlocks) (fun h => by rw [hr] at h; cases h)
  have hmeth' : T.vm.method? m = some meth := X.method'
  refine ⟨T.setFrames fs, ?_, .returned (some (.int 1)), hrun, hended, rfl, ⟨_, rfl⟩, hW, hframe⟩
  jvm_step X.here [X.here.top, hx, hb, hdg, hmeth', hr, ret, narrow_b1]
  (try refine ⟨rfl, ?_⟩); (try refine ⟨rfl, ?_⟩)
  first | (intro acts; rw [hret _ acts rfl rfl rfl]) | rw [hret _ _ rfl rfl rfl]
  exact Steps.refl _
/-- what holds at the law's entry: the machine, the code, the tables' words (any of lw_tbl by 'hts w (by decide +kernel)'), the script of L ints xs at the cell b, what the Statement gives of the start (any of its parts by flat_of_before) -/
def lw_At (p : Program) (s : State) (m : MethodId) (meth : Method) (c : Code) (b L : Nat) (xs : Nat → Int32) : Prop :=
  p.tables.exec = Jvm.exec ∧ c.code = code ∧ meth.sig.returnType = ret ∧ c.maxLocals = 4 ∧ s.vm.findClass R_law = some m.cls ∧ (∀ w ∈ lw_tbl, w.before #[Value.ref b] s = true) ∧ va_X b L xs s s.heap ∧ b < s.heap.size ∧ meth.locks = false ∧ (Jvm.Cond.and given_1 narrow_1).before #[Value.ref b] s = true ∧ meth.name = "law"
theorem zc_law : zcode 176 = code := rfl
theorem zm_law : zmaxL 176 = 4 := rfl
theorem zo_law : zRn (zown 176) = R_law := rfl
theorem zn_law : (zname 176).name = "law" := rfl
theorem zret_law {i : Jvm.ClassFile.Instr} {t : Option FieldType} (h : zret t i [.int 1] = some (some (.int 1))) : i = .ireturn := by
  unfold zret at h
  split at h
  · rfl
  · cases h
  · cases h
  · cases h
  · cases h
theorem whole_start {p : Program} {e : Env} {s : State} {m : MethodId} {below : List Frame} {meth : Method} {c : Code} (l : Launch) {b L : Nat} {xs : Nat → Int32} (hL : L ≤ 3072) (C0 : lw_At p s m meth c b L xs) : W p l e room_1 s m #[Value.ref b] below meth c s.heap [] 0 0 (lw_Z below #[Value.ref b] s) (entryFrame m ([Value.ref b] : List Value).toArray 4) := by
  obtain ⟨hx, hb, hr, hml, hown, hts, hX, hbl, hlocks, hgv, hnm⟩ := id C0
  obtain ⟨D, cA, ad, v, hv, h0, hE⟩ := zenv_of (flat_of_before _ hgv) hts hX hbl
  obtain ⟨h', ⟨n, hn⟩, hc, hsl⟩ := law_all (L, xs, v) 0 hv hL
  have hS := z_sound (l := l) (D := D) (cA := cA) (ad := ad) (base := s.heap.size) n _ _ _ _ _ _ _ _ hn
  have hl := lv_entry ([.ref b]) (n := 4) (Nat.le_of_ble_eq_true rfl)
  rw [lg_entry_eq]
  have hl2 : lv_has (lg_sl ([.ref b]) ++ List.replicate (4 - (lg_sl ([.ref b])).length) Slot.unset).toArray 4 (lv_args 0 (([.ref 0] : List Value).map (zv ad))) := by
    show lv_has _ 4 (lv_args 0 [.ref (ad 0)])
    rw [h0]
    exact hl
  refine hS.2 p e room_1 s m _ below meth c _ 0 0 ⟨hx, by rw [zc_law]; exact hb, by rw [zm_law]; exact hml, by rw [zo_law]; exact hown, fun w hw => hts w (List.mem_filter.mp hw).1, by rw [zn_law]; exact hnm, hE⟩ (by decide) (by decide) (by show h'.1 ≤ 0 + 600000; omega) (by show h'.2.1 ≤ 0 + 7302250; omega) ?_ _ s.heap [] 0 0 (zent_ok hl2 (Nat.le_of_ble_eq_true rfl)) ⟨rfl, fun a c h => by cases h⟩ va_S.rf rfl rfl
  intro pc i ls H locs cells slots hd hret hw hS1 hcc hss
  have hi := zret_law hret
  subst hi
  rw [zc_law] at hd
  exact va_forget hS1.2.2 (W.widen (by omega) (by omega) (lw_ret hx hb hr hlocks hd))
