/-! RUNS of the pure machine: calls and returns -/
def zentl (vs : List Value) : zL := match vs with
  | [] => []
  | v :: r => if v.category = 2 then some v :: none :: zentl r else some v :: zentl r
def zent (n : Nat) (vs : List Value) : zL := zentl vs ++ List.replicate (n - (zentl vs).length) none
def zrfit (t : Option FieldType) (x : Int32) : Bool := match t with
  | some .int => true
  | some .boolean => x == 0 || x == 1
  | some .char => decide (narrow .char (.int x) = .int x)
  | some .byte => decide (narrow .byte (.int x) = .int x)
  | _ => false
def zret (t : Option FieldType) (i : Jvm.ClassFile.Instr) (st : List Value) : Option (Option Value) := match i with
  | .ireturn => (match st with
    | [.int x] => if zrfit t x = true then some (some (.int x)) else none
    | _ => none)
  | .lreturn => (match st with
    | [.long x] => if t = some .long then some (some (.long x)) else none
    | _ => none)
  | .areturn => (match st with
    | [.ref a] => if zrref t = true then some (some (.ref a)) else none
    | [.null] => if zrref t = true then some (some .null) else none
    | _ => none)
  | .return_ => (match st with
    | [] => if t = none then some none else none
    | _ => none)
  | _ => none
def zinv (o : Nat) (i : Jvm.ClassFile.Instr) : Option (Nat × Nat × Nat) := match i with
  | .invokevirtual idx => (match zml o idx with
    | some (0, j, n) => some (0, j, n)
    | some (1, j, n) => some (1, j, n)
    | _ => none)
  | .invokestatic idx => (match zml o idx with
    | some (2, j, n) => some (2, j, n)
    | some (3, j, n) => some (3, j, n)
    | _ => none)
  | .invokespecial idx => (match zml o idx with
    | some (4, j, n) => some (4, j, n)
    | some (5, j, n) => some (5, j, n)
    | _ => none)
  | _ => none
/-- the class of a receiver, by its number -/
def zrcv (h : zH) (b : Nat) : Option Nat := match h.2.2 b with
  | some (.inr (ci, _)) => some ci
  | some (.inl _) => none
  | none => zko b
def zprep (q : Nat × Nat × Nat) (st : List Value) (h : zH) : Option (List Value × List Value) :=
  if st.length < q.2.2 then none else
  if q.1 = 2 ∨ q.1 = 3 then (if ((st.drop q.2.2).map fun v => v.category).sum ≤ 8 ∧ (zentl (st.take q.2.2).reverse).length ≤ zmaxL q.2.1 then some ((st.take q.2.2).reverse, st.drop q.2.2) else none)
  else match st.drop q.2.2 with
    | .ref b :: r => if (r.map fun v => v.category).sum ≤ 8 ∧ (zentl (.ref b :: (st.take q.2.2).reverse)).length ≤ zmaxL q.2.1 ∧ (q.1 = 4 ∨ q.1 = 5 ∨ zrcv h b = some (zown q.2.1)) then some (.ref b :: (st.take q.2.2).reverse, r) else none
    | _ => none
/-- calls that are one step: Object's constructor, Math.max, an enum constant's place -/
def zspec (d o pc : Nat) (L : zL) (st : List Value) (h : zH) (i : Jvm.ClassFile.Instr) : Option zF := match i with
  | .invokespecial idx => (match zml o idx with
    | some (6, _, _) => (match st with
      | .ref _ :: r => if 0 < d ∧ (r.map fun v => v.category).sum ≤ 8 then some (pc + 3, L, r, h) else none
      | _ => none)
    | _ => none)
  | .invokestatic idx => (match zml o idx with
    | some (7, _, _) => (match st with
      | .int y :: .int x :: r => if 0 < d ∧ (r.map fun v => v.category).sum ≤ 8 then some (pc + 3, L, .int (if x < y then y else x) :: r, h) else none
      | _ => none)
    | some (9, _, _) => (match st with
      | .int y :: .int x :: r => if 0 < d ∧ (r.map fun v => v.category).sum ≤ 8 then some (pc + 3, L, .int (if y < x then y else x) :: r, h) else none
      | _ => none)
    | _ => none)
  | .invokevirtual idx => (match zml o idx with
    | some (8, _, _) => (match st with
      | .ref b :: r => (match zcf zCF b 4 with
        | some (.int v) => if 0 < d ∧ (r.map fun v => v.category).sum ≤ 8 ∧ zko b = some 14 then some (pc + 3, L, .int v :: r, h) else none
        | _ => none)
      | _ => none)
    | _ => none)
  | _ => none
def zins (j pc : Nat) : Option Jvm.ClassFile.Instr := match decode (zcode j) pc with
  | .ok (i, len) => if zlen i = len ∨ zlen i = 0 then some i else none
  | .error _ => none
theorem zins_any {j pc : Nat} {i : Jvm.ClassFile.Instr} (h : zins j pc = some i) : ∃ len, decode (zcode j) pc = .ok (i, len) ∧ (zlen i = len ∨ zlen i = 0) := by
  unfold zins at h
  split at h
  · rename_i i' len hd
    split at h
    · rename_i hc
      cases h
      exact ⟨_, hd, hc⟩
    · cases h
  · cases h
theorem zins_dec {j pc : Nat} {i : Jvm.ClassFile.Instr} (h : zins j pc = some i) (hn : zlen i ≠ 0) : decode (zcode j) pc = .ok (i, zlen i) := by
  obtain ⟨len, h1, h2⟩ := zins_any h
  rcases h2 with h2 | h2
  · rw [h2]; exact h1
  · exact absurd h2 hn
def zrun (X : zX) (n d j pc : Nat) (L : zL) (st : List Value) (h : zH) : Option (Option Value × zH) := match n with
  | 0 => none
  | n + 1 => match zins j pc with
    | none => none
    | some i => match zret (zrt j) i st with
      | some v => some (v, h)
      | none => match zinv (zown j) i with
        | some q => (match zprep q st h with
          | some (As, rest) => (match d with
            | 0 => none
            | d + 1 => (match zrun X n d q.2.1 0 (zent (zmaxL q.2.1) As) [] h with
              | some (v, h1) => zrun X n (d + 1) j (pc + 3) L (v.toList ++ rest) h1
              | none => none))
          | none => none)
        | none => (match zspec d (zown j) pc L st h i with
          | some (pc', L', st', h') => zrun X n d j pc' L' st' h'
          | none => (match zstep X (zini j) (zown j) pc L st h i with
            | some (pc', L', st', h') => zrun X n d j pc' L' st' h'
            | none => none))
theorem zrun_mono {X : zX} : ∀ (n : Nat) {d j pc : Nat} {L : zL} {st : List Value} {h : zH} {r : Option Value × zH}, zrun X n d j pc L st h = some r → zrun X (n + 1) d j pc L st h = some r := by
  intro n
  induction n with
  | zero => intro d j pc L st h r hz; cases hz
  | succ n ih =>
    intro d j pc L st h r hz
    rw [zrun] at hz ⊢
    split at hz
    · cases hz
    · rename_i i hi
      try rw [hi]
      try dsimp only
      split at hz
      · rename_i v hv
        try rw [hv]
        exact hz
      · rename_i hv
        try rw [hv]
        try dsimp only
        split at hz
        · rename_i q hq
          try rw [hq]
          try dsimp only
          split at hz
          · rename_i As rest hp
            try rw [hp]
            try dsimp only
            split at hz
            · cases hz
            · rename_i d'
              split at hz
              · rename_i v h1 hc
                rw [ih hc]
                exact ih hz
              · cases hz
          · cases hz
        · rename_i hq
          try rw [hq]
          try dsimp only
          split at hz
          · rename_i pc' L' st' h' hs
            try rw [hs]
            exact ih hz
          · rename_i hs
            try rw [hs]
            try dsimp only
            split at hz
            · rename_i pc' L' st' h' hs2
              try rw [hs2]
              exact ih hz
            · cases hz
theorem zrun_le {X : zX} {r : Option Value × zH} {n m d j pc : Nat} {L : zL} {st : List Value} {h : zH} (hz : zrun X n d j pc L st h = some r) (hm : n ≤ m) : zrun X m d j pc L st h = some r := by
  induction hm with
  | refl => exact hz
  | step _ ih => exact zrun_mono _ ih
/-- the machine comes from here to an answer -/
def zR (X : zX) (d j pc : Nat) (L : zL) (st : List Value) (h : zH) (r : Option Value × zH) : Prop := ∃ n, zrun X n d j pc L st h = some r
theorem zR.step {X : zX} {d j pc : Nat} {L : zL} {st : List Value} {h : zH} {r : Option Value × zH} {i : Jvm.ClassFile.Instr} {F : zF} (hi : zins j pc = some i) (hr : zret (zrt j) i st = none) (hv : zinv (zown j) i = none) (hp : zspec d (zown j) pc L st h i = none) (hs : zstep X (zini j) (zown j) pc L st h i = some F) (k : zR X d j F.1 F.2.1 F.2.2.1 F.2.2.2 r) : zR X d j pc L st h r := by
  obtain ⟨n, hn⟩ := k
  refine ⟨n + 1, ?_⟩
  rw [zrun, hi]
  dsimp only
  rw [hr]
  dsimp only
  rw [hv]
  dsimp only
  rw [hp]
  dsimp only
  rw [hs]
  exact hn
theorem zR.spec {X : zX} {d j pc : Nat} {L : zL} {st : List Value} {h : zH} {r : Option Value × zH} {i : Jvm.ClassFile.Instr} {F : zF} (hi : zins j pc = some i) (hr : zret (zrt j) i st = none) (hv : zinv (zown j) i = none) (hp : zspec d (zown j) pc L st h i = some F) (k : zR X d j F.1 F.2.1 F.2.2.1 F.2.2.2 r) : zR X d j pc L st h r := by
  obtain ⟨n, hn⟩ := k
  refine ⟨n + 1, ?_⟩
  rw [zrun, hi]
  dsimp only
  rw [hr]
  dsimp only
  rw [hv]
  dsimp only
  rw [hp]
  exact hn
theorem zR.ret {X : zX} {d j pc : Nat} {L : zL} {st : List Value} {h : zH} {v : Option Value} {i : Jvm.ClassFile.Instr} (hi : zins j pc = some i) (hr : zret (zrt j) i st = some v) : zR X d j pc L st h (v, h) := by
  refine ⟨1, ?_⟩
  rw [zrun, hi]
  dsimp only
  rw [hr]
theorem zR.call {X : zX} {d j pc : Nat} {L : zL} {st As rest : List Value} {h h1 : zH} {v : Option Value} {q : Nat × Nat × Nat} {r : Option Value × zH} {i : Jvm.ClassFile.Instr} (hi : zins j pc = some i) (hr : zret (zrt j) i st = none) (hv : zinv (zown j) i = some q) (hp : zprep q st h = some (As, rest)) (hc : zR X d q.2.1 0 (zent (zmaxL q.2.1) As) [] h (v, h1)) (k : zR X (d + 1) j (pc + 3) L (v.toList ++ rest) h1 r) : zR X (d + 1) j pc L st h r := by
  obtain ⟨n, hn⟩ := hc
  obtain ⟨n', hn'⟩ := k
  refine ⟨n + n' + 1, ?_⟩
  rw [zrun, hi]
  dsimp only
  rw [hr]
  dsimp only
  rw [hv]
  dsimp only
  rw [hp]
  dsimp only
  rw [zrun_le hn (by omega)]
  exact zrun_le hn' (by omega)
