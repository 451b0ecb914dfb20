/-! THE START: classes and arrays of the tables, texts -/
section ZST
variable {args : Array Value} {s : State}
theorem zarr_of {ty : FieldType} (h : (Cond.arrayClass ty).before args s = true) : ∃ cA, ArrOfT s cA ty ∧ s.vm.findClass ("[" ++ ty.toString) = some cA := by
  obtain ⟨cA, kA, comp, h1, h2, h3⟩ := Cond.arrayClass_spec h
  exact ⟨cA, fun n z => ⟨fun k h => (by cases h), kA, h2, comp, h3⟩, h1⟩
theorem zarr_ov {C : String} (h : (Cond.arrayOver (.object C)).before args s = true) : ∃ cA, ArrOfT s cA (.object C) ∧ va_RA s cA (.object C) := by
  obtain ⟨comp, cA, kA, f1, f2, f3, f4, f5⟩ := Cond.arrayOver_spec h
  exact ⟨cA, fun N z => ⟨fun k h => (by cases h), kA, f3, comp, f4⟩, kA, comp, f3, f4, f1, f5⟩
theorem zK_of (hcore : ∀ w ∈ zcore, w.before args s = true) (hbyte : (Cond.arrayClass .byte).before args s = true) (hov : (Cond.arrayOver (.object zPatN)).before args s = true) : ∃ (D : va_G) (cA : Nat → ClassId), va_K D classes (ztys cA) s := by
  have hc : ∀ k : Nat, ∃ q : ClassId × (Nat → Nat), ∀ r : vw_C, classes[k]? = some r → u_Kn s r.1 r.2.1 r.2.2 q.1 q.2 := by
    intro k
    cases hk : classes[k]? with
    | none => exact ⟨((0 : Nat), fun _ => 0), fun r h => by cases h⟩
    | some r =>
      obtain ⟨C, T, N⟩ := r
      obtain ⟨-, -, h1, -, -, -, -, h2, -⟩ := zcls hk
      obtain ⟨cC, iS, h3⟩ := u_known (C := C) (T := T) (N := N) (n := N) hcore h1 (hcore _ h2)
      exact ⟨(cC, iS), fun r h => by cases h; exact h3⟩
  obtain ⟨f, hf⟩ := Classical.axiomOfChoice hc
  obtain ⟨c0, a0, b0⟩ := zarr_of (hcore _ zarr_int)
  obtain ⟨c1, a1, b1⟩ := zarr_of (hcore _ zarr_char)
  obtain ⟨c2, a2, b2⟩ := zarr_of (hcore _ zarr_long)
  obtain ⟨c3, a3, b3⟩ := zarr_of (hcore _ zarr_boolean)
  obtain ⟨c4, a4, b4⟩ := zarr_of hbyte
  obtain ⟨c5, a5, b5⟩ := zarr_ov hov
  refine ⟨(fun k => (f k).1, fun k => (f k).2), fun k => if k = 0 then c0 else if k = 1 then c1 else if k = 2 then c2 else if k = 3 then c3 else if k = 4 then c4 else c5, fun k r h => hf k r h, fun k q h => ?_⟩
  match k, h with
  | 0, h => cases h; exact ⟨a0, b0⟩
  | 1, h => cases h; exact ⟨a1, b1⟩
  | 2, h => cases h; exact ⟨a2, b2⟩
  | 3, h => cases h; exact ⟨a3, b3⟩
  | 4, h => cases h; exact ⟨a4, b4⟩
  | 5, h => cases h; exact ⟨a5, b5⟩
  | k + 6, h => cases h
/-- a text of the start: where it lies, where its characters lie -/
def zSat (args : Array Value) (s : State) (tm : Term) (byt : List Int32) (A : Nat → Prop) (q : Nat × Nat) : Prop := tm.eval args s none [] s = some (.ref q.1) ∧ va_O "java/lang/String" q.1 A s s.heap ∧ va_OF "java/lang/String" "coder" "B" (.int 0) q.1 A s s.heap ∧ va_OF "java/lang/String" "value" "[B" (.ref q.2) q.1 A s s.heap ∧ va_T .byte q.2 byt.length (fun j => .int (byt.getD j 0)) A s s.heap
def zStrC (tm : Term) (byt : List Int32) : List Cond := [.exactly tm "java/lang/String", .eq (.field tm "java/lang/String" "coder" "B") (.int 0), .arrayOf (.field tm "java/lang/String" "value" "[B") .byte, .eq (.length (.field tm "java/lang/String" "value" "[B")) (.int (Int32.ofNat byt.length))] ++ (List.range byt.length).map (fun j => .eq (.elem (.field tm "java/lang/String" "value" "[B") (.int (Int32.ofNat j))) (.int (byt.getD j 0)))
theorem zstr_of {tm : Term} {byt : List Int32} {A : Nat → Prop} (hN : byt.length < 2 ^ 31) (h : ∀ w ∈ zStrC tm byt, w.before args s = true) (hA : ∀ a : Nat, a < s.heap.size → ¬ A a) : ∃ q, zSat args s tm byt A q := by
  have h1 := h (.exactly tm "java/lang/String") (List.mem_append_left _ (List.Mem.head _))
  have h2 := h (.eq (.field tm "java/lang/String" "coder" "B") (.int 0)) (List.mem_append_left _ (List.Mem.tail _ (List.Mem.head _)))
  have h3 := h (.arrayOf (.field tm "java/lang/String" "value" "[B") .byte) (List.mem_append_left _ (List.Mem.tail _ (List.Mem.tail _ (List.Mem.head _))))
  have h4 := h (.eq (.length (.field tm "java/lang/String" "value" "[B")) (.int (Int32.ofNat byt.length))) (List.mem_append_left _ (List.Mem.tail _ (List.Mem.tail _ (List.Mem.tail _ (List.Mem.head _)))))
  have h5 : ∀ j : Nat, j < byt.length → (Cond.eq (.elem (.field tm "java/lang/String" "value" "[B") (.int (Int32.ofNat j))) (.int (byt.getD j 0))).before args s = true := fun j hj => h _ (List.mem_append_right _ (List.mem_map.mpr ⟨j, List.mem_range.mpr hj, rfl⟩))
  obtain ⟨a, c, cA, kA, q1, q2, q3, q4, q5, q6, -⟩ := Cond.exactly_spec (args := args) (first := s) (o := none) (s := s) (idx := []) (t := tm) (cls := "java/lang/String") h1
  obtain ⟨t, ht, hT⟩ := va_Tof (f := fun j => .int (byt.getD j 0)) (A := A) hN h3 (va_eqt h4) (fun j hj => va_eqt (h5 j hj)) hA
  exact ⟨(a, t), q1, ⟨cA, q3, q5, by rw [q6]; exact q2, hA a (Array.getElem?_eq_some_iff.mp q3).1⟩, vk_OFof q1 (va_eqt h2) hA, vk_OFof q1 ht hA, hT⟩
theorem zX_T {b L : Nat} {xs : Nat → Int32} {A : Nat → Prop} (h : va_X b L xs s s.heap) (hA : ¬ A b) : va_T .int b L (fun j => .int (xs j)) A s s.heap := by
  obtain ⟨scr, h1, h2, h3, h4, h5⟩ := h
  exact ⟨scr, h1, h2, h3, by omega, by rw [h4], h5, hA⟩
end ZST
