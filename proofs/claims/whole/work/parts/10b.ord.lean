/-! Enum.ordinal(): its class's initialisation is nowhere said, so it is walked where it is called, not taken by a contract -/
abbrev yOrd : MethodName := ⟨"java/lang/Enum", "ordinal", "()I"⟩
section ZORD
variable {p : Program} {l : Launch} {e : Env} {R : Room} {s : State} {m : MethodId} {args : Array Value} {below : List Frame} {meth : Method} {c : Code} {H : Heap} {locs : List Loc} {cells slots : Nat} {Q : State → Prop}
theorem d_ord_0 : decode prog_15_method_2_code 0 = .ok (.aload_n 0, 1) := by decide +kernel
theorem d_ord_1 : decode prog_15_method_2_code 1 = .ok (.getfield 7, 3) := by decide +kernel
theorem d_ord_4 : decode prog_15_method_2_code 4 = .ok (.ireturn, 1) := by decide +kernel
theorem z_ordBack {q : Nat} {v : Int32} {A : Nat → Prop} (hx : p.tables.exec = Jvm.exec)
    (w4 : (Cond.instanceMethod yOrd).before args s = true) (w5 : (Cond.code yOrd prog_15_method_2_code 1 (some .int)).before args s = true) (w6 : (Cond.fieldLink "java/lang/Enum" 7 "java/lang/Enum" "ordinal" "I").before args s = true)
    (hF : va_OF "java/lang/Enum" "ordinal" "I" (.int v) q A s H) (hfr : 1 ≤ R.frames) (hlo : 20 ≤ R.locals) :
    Back l R p e below s args yOrd 3 8 (fun A a => A.U.heap = H ∧ a = #[.ref q] ∧ A.locs = locs ∧ A.cells = cells ∧ A.slots = slots) (fun _ _ v' B => v' = some (.int v) ∧ B.U.heap = H ∧ B.locs = locs ∧ B.cells = cells ∧ B.slots = slots) := by
  intro m' meth' c' A g ig mk a X hg hsize hdg hWt hn hp
  obtain ⟨U, Ls, c0, s0⟩ := A
  dsimp only [Pt.U, Pt.locs, Pt.cells, Pt.slots] at hp X hn ⊢
  obtain ⟨hH, rfl, rfl, rfl, rfl⟩ := hp
  have h : At U g.method c' below := by rw [hg]; exact X.here
  have hcodeU : (Cond.code yOrd prog_15_method_2_code 1 (some .int)).before #[.ref q] U = true := word_at X.warmed (Or.inl rfl) w5
  obtain ⟨methY, cY, hmY, hcY, hbY, hlY, hrY, hlkY, -, -⟩ := Cond.code_spec hn hcodeU
  obtain ⟨mk2, methM, hnamed, hmethM, -, -⟩ := Cond.instanceMethod_spec w4
  have hmk : mk2 = mk := Option.some.inj ((X.named hnamed).symm.trans hn)
  subst hmk
  have hEnum : s.vm.findClass "java/lang/Enum" = some mk2.cls := findClass_of_methodNamed hnamed
  have hplain : U.plainMethod mk2 := State.plainMethod.of_named (x := yOrd) (by decide +kernel) hn hmY
  have hroom := X.notFull (g := g) hsize (vars := cY.maxLocals) hfr (by rw [hlY]; omega)
  rw [doInvoke_enter h.top [] hmY hcY hlkY hroom]
  have hA1 : At ((U.setTop g).pushFrame (.java (entryFrame mk2 #[.ref q] cY.maxLocals))) mk2 cY below := At.enter h #[.ref q] hmY hcY hplain
  have hfr1 := frames_entered (g := g) h.top (.java (entryFrame mk2 #[.ref q] cY.maxLocals))
  rw [hlY] at hA1 hfr1 ⊢
  have he : entryFrame mk2 #[Value.ref q] 1 = F0 mk2 0 #[.val (.ref q)] [] := by
    have := lg_entry_eq mk2 [Value.ref q] 1
    exact this
  rw [he] at hA1 hfr1 ⊢
  obtain ⟨mid, hmid⟩ := h.above
  generalize hS1 : (U.setTop g).pushFrame (.java (F0 mk2 0 #[.val (.ref q)] [])) = S1 at hA1 hfr1 ⊢
  have hS1vm : S1.vm = U.vm := by rw [← hS1]; rfl
  have hS1h : S1.heap = H := by rw [← hS1]; exact hH
  have hpl : e.platform.magicAccessors = ({} : Platform).magicAccessors := by rw [X.admits.platform]
  obtain ⟨ci', cfl, k', i', f', hi', hlinks, hright⟩ := Cond.fieldLink_spec hEnum w6 e.platform hpl
  obtain ⟨cf, kf, fi, f, cell, q1, q2, q3, q4, q5, q6⟩ := hF
  cases q1.symm.trans hi'
  obtain ⟨hk, hf⟩ := State.fieldFound?_spec hi'
  obtain ⟨vm', hW', st2⟩ := Steps.getfieldCold (tb := p.tables) (e := e) (s₀ := s) (U := S1) (f := F0 mk2 1 #[.val (.ref q)] [.ref q]) (rest := []) (a := q) (cell := cell) (v := .int v) hA1 hx (by rw [hbY]; exact d_ord_1) (by rw [hS1vm]; exact X.warmed) hlinks hright hk hf q2 rfl (by rw [hS1h]; exact q3) q4 q5
  refine ⟨some (.int v), ⟨U.setVm vm', Ls, c0, s0⟩, X.noted hW', ⟨rfl, hH, rfl, rfl, rfl⟩, ?_⟩
  have st1 : ∀ tg, Steps p.tables e below (S1.setTop (F0 mk2 1 #[.val (.ref q)] [.ref q])) tg → Steps p.tables e below (S1.setTop (F0 mk2 0 #[.val (.ref q)] [])) tg := by
    intro tg ht
    jvm_step hA1 [hA1.top, hx, hbY, d_ord_0, Value.isRef]
    exact ht
  refine st1 _ (st2 _ ?_)
  have hal : U.vm.Alike vm' := X.warmed.alike.symm.trans hW'.alike
  have hA2 : At (S1.setVm vm') mk2 cY below := hA1.setVm (by rw [hS1vm]; exact hal)
  have hm2 : (S1.setVm vm').vm.method? mk2 = some methY := by
    show vm'.method? mk2 = some methY
    rw [hal.method?]
    exact hmY
  have hcg : (S1.setVm vm').code? g.method = some c' := by
    have h1 := h.code
    rw [State.code?_eq] at h1 ⊢
    show (vm'.method? g.method).bind _ = _
    rw [hal.method?]
    exact h1
  obtain ⟨g₀, hg0⟩ := Option.isSome_iff_exists.mp h.top
  obtain ⟨r, hr⟩ := State.topJava?_eq_some.mp hg0
  have e9 : (S1.setVm vm').setFrames (.java g :: U.frames.tail) = (U.setTop g).setVm vm' := by
    rw [← hS1]
    exact congrArg (fun z : State => z.setVm vm') (setFrames_entered h.top _)
  have e10 : ∀ g' : JFrame, ((U.setTop g).setVm vm').setTop g' = (U.setVm vm').setTop g' := by
    intro g'
    have h1 : ((U.setTop g).setVm vm').frames = .java g :: r := by
      show (U.setTop g).frames = _
      exact State.frames_setTop g hr
    have h2 : (U.setVm vm').frames = .java g₀ :: r := hr
    rw [State.setTop_of_frames _ h1, State.setTop_of_frames _ h2]
    show ((U.setTop g).setFrames (.java g' :: r)).setVm vm' = (U.setFrames (.java g' :: r)).setVm vm'
    rw [State.setTop_of_frames _ hr, State.setFrames_setFrames]
  have hret : ∀ acts : List Action, (doReturn e ((S1.setVm vm').setTop (F0 mk2 4 #[.val (.ref q)] [])) acts (some (.int v))).1 = (U.setVm vm').setTop { g with pc := g.pc + 3, stack := (some (Value.int v)).toList ++ g.stack } := by
    intro acts
    have h9 := doReturn_leave (e := e) (u := S1.setVm vm') (f := F0 mk2 4 #[.val (.ref q)] []) (v := some (.int v)) acts hfr1 hm2 hlkY rfl rfl hcg hdg
    rw [h9, e9, e10]
  show Steps p.tables e below ((S1.setVm vm').setTop (F0 mk2 4 #[.val (.ref q)] [.int v])) ((U.setVm vm').setTop { g with pc := g.pc + 3, stack := (some (Value.int v)).toList ++ g.stack })
  generalize (U.setVm vm').setTop { g with pc := g.pc + 3, stack := (some (Value.int v)).toList ++ g.stack } = tgt at hret ⊢
  generalize S1.setVm vm' = T2 at hA2 hm2 hret ⊢
  jvm_step hA2 [hA2.top, hx, hbY, d_ord_4, hm2, hrY, narrow]
  (try refine ⟨rfl, ?_⟩); (try refine ⟨rfl, ?_⟩)
  first | (intro acts; rw [hret acts]) | rw [hret _]
  exact Steps.refl _
theorem z_ord {cc : ByteArray} {pc : Nat} {ls : Array Slot} {rest : List Value} (hx : p.tables.exec = Jvm.exec) (hb : c.code = cc) (hmL : c.maxLocals = ls.size) {own C : String} {idx q : Nat} {v : Int32} {A : Nat → Prop}
    (hown : s.vm.findClass own = some m.cls) (w1 : (Cond.methodLink own idx ⟨C, "ordinal", "()I"⟩).before args s = true) (w2 : (Cond.sameMethod C "java/lang/Enum" "ordinal" "()I").before args s = true) (w3 : (Cond.selects C ⟨C, "ordinal", "()I"⟩ yOrd).before args s = true)
    (w4 : (Cond.instanceMethod yOrd).before args s = true) (w5 : (Cond.code yOrd prog_15_method_2_code 1 (some .int)).before args s = true) (w6 : (Cond.fieldLink "java/lang/Enum" 7 "java/lang/Enum" "ordinal" "I").before args s = true)
    (hO : va_O C q A s s.heap) (hF : va_OF "java/lang/Enum" "ordinal" "I" (.int v) q A s s.heap) (hS : va_S A s.heap H locs) (hfr : 1 ≤ R.frames) (hlo : 20 ≤ R.locals) (hsum : (rest.map fun v => v.category).sum ≤ 8) (hd : decode cc pc = .ok (.invokevirtual idx, 3))
    (k : W p l e R s m args below meth c H locs cells slots Q (F0 m (pc + 3) ls (.int v :: rest))) : W p l e R s m args below meth c H locs cells slots Q (F0 m pc ls (.ref q :: rest)) := by
  intro T hT X
  obtain ⟨cellB, b1, b2, b3, -⟩ := hO.kept hS.2.1
  have hdecl : va_Decl s ⟨"java/lang/Enum", "ordinal", "()I"⟩ := va_Decl.of w4 w5
  have hK := z_ordBack (p := p) (l := l) (e := e) (R := R) (below := below) (locs := locs) (cells := cells) (slots := slots) hx w4 w5 w6 (hF.kept hS.2.1) hfr hlo
  obtain ⟨v', vm₁, ⟨U', l2, c2, s2⟩, hW₁, X', hpost, st⟩ := va_callVU X hx (C := C) (owner := "java/lang/Enum") (x := ⟨C, "ordinal", "()I"⟩) (y := yOrd) (bytes := prog_15_method_2_code) (maxL := 1) (ret := some .int) hown w1 w2 hdecl ⟨by decide, by decide⟩ w3 w4 w5 hK (b := q) (by rw [hT]; exact b1) b2 b3 (g := F0 m pc ls (.ref q :: rest)) rfl hmL.symm (argsL := []) (rest := rest)
    (fun sig hs => by
      have h0 : parseMethodDescriptor "()I" = some { parameters := [], returnType := some .int } := by decide +kernel
      rw [show (⟨C, "ordinal", "()I"⟩ : MethodName).desc = "()I" from rfl, h0] at hs
      rw [← Option.some.inj hs]; rfl)
    rfl (by show 2 * 0 + _ ≤ 8; omega) (by rw [hb]; exact hd) (fun vm₂ hW₂ => ⟨hT, rfl, rfl, rfl, rfl⟩)
  dsimp only [Pt.U, Pt.locs, Pt.cells, Pt.slots] at X' hpost st
  obtain ⟨rfl, e1, rfl, rfl, rfl⟩ := hpost
  obtain ⟨t, a1, b1'⟩ := k U' e1 X'
  exact ⟨t, st t a1, b1'⟩
end ZORD
