/-! ONE STEP of the pure machine (no calls, no returns) -/
def zgo (pc : Nat) (off : Int) (L : zL) (st : List Value) (h : zH) : Option zF := if 0 ≤ (pc : Int) + off then some (((pc : Int) + off).toNat, L, st, h) else none
def zs_il (n pc i : Nat) (L : zL) (st : List Value) (h : zH) : Option zF := match L[i]? with
  | some (some (.int x)) => some (pc + n, L, .int x :: st, h)
  | _ => none
def zs_jl (n pc i : Nat) (L : zL) (st : List Value) (h : zH) : Option zF := match L[i]? with
  | some (some (.long x)) => some (pc + n, L, .long x :: st, h)
  | _ => none
def zs_al (n pc i : Nat) (L : zL) (st : List Value) (h : zH) : Option zF := match L[i]? with
  | some (some (.ref x)) => some (pc + n, L, .ref x :: st, h)
  | some (some .null) => some (pc + n, L, .null :: st, h)
  | _ => none
def zs_is (n pc i : Nat) (L : zL) (st : List Value) (h : zH) : Option zF := match st with
  | .int x :: r => (match zst1 L i (.int x) with
    | some L' => some (pc + n, L', r, h)
    | none => none)
  | _ => none
def zs_js (n pc i : Nat) (L : zL) (st : List Value) (h : zH) : Option zF := match st with
  | .long x :: r => (match zst2 L i (.long x) with
    | some L' => some (pc + n, L', r, h)
    | none => none)
  | _ => none
def zs_as (n pc i : Nat) (L : zL) (st : List Value) (h : zH) : Option zF := match st with
  | .ref x :: r => (match zst1 L i (.ref x) with
    | some L' => some (pc + n, L', r, h)
    | none => none)
  | .null :: r => (match zst1 L i .null with
    | some L' => some (pc + n, L', r, h)
    | none => none)
  | _ => none
def zs_inc (pc i : Nat) (k : Int) (L : zL) (st : List Value) (h : zH) : Option zF := match L[i]? with
  | some (some (.int x)) => (match zst1 L i (.int (x + Int32.ofInt k)) with
    | some L' => some (pc + 3, L', st, h)
    | none => none)
  | _ => none
def zs_ii (pc : Nat) (L : zL) (st : List Value) (h : zH) (f : Int32 → Int32 → Int32) : Option zF := match st with
  | .int y :: .int x :: r => some (pc + 1, L, .int (f x y) :: r, h)
  | _ => none
def zs_dv (pc : Nat) (L : zL) (st : List Value) (h : zH) (f : Int32 → Int32 → Int32) : Option zF := match st with
  | .int y :: .int x :: r => if y = 0 then none else some (pc + 1, L, .int (f x y) :: r, h)
  | _ => none
def zs_jj (pc : Nat) (L : zL) (st : List Value) (h : zH) (f : Int64 → Int64 → Value) : Option zF := match st with
  | .long y :: .long x :: r => some (pc + 1, L, f x y :: r, h)
  | _ => none
def zs_ji (pc : Nat) (L : zL) (st : List Value) (h : zH) (f : Int64 → Int32 → Int64) : Option zF := match st with
  | .int y :: .long x :: r => some (pc + 1, L, .long (f x y) :: r, h)
  | _ => none
def zs_i1 (pc : Nat) (L : zL) (st : List Value) (h : zH) (f : Int32 → Value) : Option zF := match st with
  | .int x :: r => some (pc + 1, L, f x :: r, h)
  | _ => none
def zs_j1 (pc : Nat) (L : zL) (st : List Value) (h : zH) (f : Int64 → Value) : Option zF := match st with
  | .long x :: r => some (pc + 1, L, f x :: r, h)
  | _ => none
def zs_if (pc : Nat) (off : Int) (L : zL) (st : List Value) (h : zH) (f : Int32 → Bool) : Option zF := match st with
  | .int x :: r => if 0 ≤ (pc : Int) + off then (if f x = true then some (((pc : Int) + off).toNat, L, r, h) else some (pc + 3, L, r, h)) else none
  | _ => none
def zs_ic (pc : Nat) (off : Int) (L : zL) (st : List Value) (h : zH) (f : Int32 → Int32 → Bool) : Option zF := match st with
  | .int y :: .int x :: r => if 0 ≤ (pc : Int) + off then (if f x y = true then some (((pc : Int) + off).toNat, L, r, h) else some (pc + 3, L, r, h)) else none
  | _ => none
def zs_nu (pc : Nat) (off : Int) (L : zL) (st : List Value) (h : zH) : Option zF := match st with
  | .null :: r => zgo pc off L r h
  | .ref _ :: r => some (pc + 3, L, r, h)
  | _ => none
def zs_nn (pc : Nat) (off : Int) (L : zL) (st : List Value) (h : zH) : Option zF := match st with
  | .null :: r => some (pc + 3, L, r, h)
  | .ref _ :: r => zgo pc off L r h
  | _ => none
def zs_tab (pc : Nat) (dflt lo hi : Int) (offs : Array Int) (L : zL) (st : List Value) (h : zH) : Option zF := match st with
  | .int x :: r => if x.toInt < lo ∨ hi < x.toInt then zgo pc dflt L r h else (match offs[(x.toInt - lo).toNat]? with
    | some off => zgo pc off L r h
    | none => none)
  | _ => none
def zs_dup (pc : Nat) (L : zL) (st : List Value) (h : zH) : Option zF := match st with
  | v :: r => if v.category = 1 then some (pc + 1, L, v :: v :: r, h) else none
  | _ => none
def zs_pop (pc : Nat) (L : zL) (st : List Value) (h : zH) : Option zF := match st with
  | v :: r => if v.category = 1 then some (pc + 1, L, r, h) else none
  | _ => none
def zs_dup2 (pc : Nat) (L : zL) (st : List Value) (h : zH) : Option zF := match st with
  | v :: w :: r => if v.category = 1 ∧ w.category = 1 then some (pc + 1, L, v :: w :: v :: w :: r, h) else none
  | _ => none
def zs_ldc (pc o idx : Nat) (L : zL) (st : List Value) (h : zH) : Option zF := match zld o idx with
  | some v => some (pc + 2, L, v :: st, h)
  | none => none
def zs_ldc2 (pc o idx : Nat) (L : zL) (st : List Value) (h : zH) : Option zF := match zl2 o idx with
  | some x => some (pc + 3, L, .long x :: st, h)
  | none => none
def zs_gets (pc o idx : Nat) (X : zX) (L : zL) (st : List Value) (h : zH) : Option zF := match zsl X o idx with
  | some q => some (pc + 3, L, q.1 :: st, h)
  | none => none
def zs_getf (pc o idx : Nat) (L : zL) (st : List Value) (h : zH) : Option zF := match st with
  | .ref a :: r => (match h.2.2 a with
    | some (.inr (ci, fs)) => (match zfl o idx with
      | some (ci', k, _) => if ci' = ci then (match fs[k]? with
        | some v => some (pc + 3, L, v :: r, h)
        | none => none) else none
      | none => none)
    | some (.inl _) => none
    | none => (match zkf o idx a with
      | some v => some (pc + 3, L, v :: r, h)
      | none => none))
  | _ => none
def zs_putf (ini : Bool) (pc o idx : Nat) (L : zL) (st : List Value) (h : zH) : Option zF := match st with
  | v :: .ref a :: r => (match h.2.2 a with
    | some (.inr (ci, fs)) => (match zfl o idx with
      | some (ci', k, ne) => if ci' = ci ∧ k < fs.length ∧ zfit (zty ci k) v = true ∧ (zfin ci k = false ∨ (ini = true ∧ ci = o ∧ ne = false)) then some (pc + 3, L, r, zwr h a (.inr (ci, fs.set k v))) else none
      | none => none)
    | _ => none)
  | _ => none
def zs_ald (pc t : Nat) (X : zX) (L : zL) (st : List Value) (h : zH) : Option zF := match st with
  | .int i :: .ref a :: r => (match h.2.2 a with
    | some (.inl (t', n, .inl f)) => if t' = t ∧ 0 ≤ i.toInt ∧ i.toInt < n then some (pc + 1, L, .int (f i.toNatClampNeg) :: r, h) else none
    | some _ => none
    | none => (match zka X a with
      | some (t', n, f) => if t' = t ∧ 0 ≤ i.toInt ∧ i.toInt < n then some (pc + 1, L, f i.toNatClampNeg :: r, h) else none
      | none => none))
  | _ => none
/-- bytes and booleans have one instruction -/
def zs_bld (pc : Nat) (X : zX) (L : zL) (st : List Value) (h : zH) : Option zF := match st with
  | .int i :: .ref a :: r => (match h.2.2 a with
    | some (.inl (t', n, .inl f)) => if t' = 3 ∧ 0 ≤ i.toInt ∧ i.toInt < n then some (pc + 1, L, .int (f i.toNatClampNeg) :: r, h) else none
    | some _ => none
    | none => (match zka X a with
      | some (t', n, f) => if t' = 4 ∧ 0 ≤ i.toInt ∧ i.toInt < n then some (pc + 1, L, f i.toNatClampNeg :: r, h) else none
      | none => none))
  | _ => none
def zs_jld (pc : Nat) (L : zL) (st : List Value) (h : zH) : Option zF := match st with
  | .int i :: .ref a :: r => (match h.2.2 a with
    | some (.inl (t', n, .inr (.inl f))) => if t' = 2 ∧ 0 ≤ i.toInt ∧ i.toInt < n then some (pc + 1, L, .long (f i.toNatClampNeg) :: r, h) else none
    | _ => none)
  | _ => none
def zs_rld (pc : Nat) (X : zX) (L : zL) (st : List Value) (h : zH) : Option zF := match st with
  | .int i :: .ref a :: r => (match h.2.2 a with
    | some (.inl (t', n, .inr (.inr (.inr (.inr f))))) => if t' = 5 ∧ 0 ≤ i.toInt ∧ i.toInt < n then some (pc + 1, L, va_rf (f i.toNatClampNeg) :: r, h) else none
    | some _ => none
    | none => (match zka X a with
      | some (t', n, f) => if t' = 6 ∧ 0 ≤ i.toInt ∧ i.toInt < n then some (pc + 1, L, f i.toNatClampNeg :: r, h) else none
      | none => none))
  | _ => none
def zs_ast (pc t : Nat) (ty : FieldType) (L : zL) (st : List Value) (h : zH) : Option zF := match st with
  | .int x :: .int i :: .ref a :: r => (match h.2.2 a with
    | some (.inl (t', n, .inl f)) => if t' = t ∧ 0 ≤ i.toInt ∧ i.toInt < n then some (pc + 1, L, r, zwr h a (.inl (t', n, .inl (upd f i.toNatClampNeg (vp_nar ty x))))) else none
    | _ => none)
  | _ => none
def zs_jst (pc : Nat) (L : zL) (st : List Value) (h : zH) : Option zF := match st with
  | .long x :: .int i :: .ref a :: r => (match h.2.2 a with
    | some (.inl (t', n, .inr (.inl f))) => if t' = 2 ∧ 0 ≤ i.toInt ∧ i.toInt < n then some (pc + 1, L, r, zwr h a (.inl (t', n, .inr (.inl (vp_updL f i.toNatClampNeg x))))) else none
    | _ => none)
  | _ => none
def zs_rst (pc : Nat) (L : zL) (st : List Value) (h : zH) : Option zF := match st with
  | .ref b :: .int i :: .ref a :: r => (match h.2.2 a, h.2.2 b with
    | some (.inl (t', n, .inr (.inr (.inr (.inr f))))), some (.inr (ci, _)) => if t' = 5 ∧ ci = zPat ∧ 0 ≤ i.toInt ∧ i.toInt < n then some (pc + 1, L, r, zwr h a (.inl (t', n, .inr (.inr (.inr (.inr (va_up f i.toNatClampNeg (some b)))))))) else none
    | _, _ => none)
  | _ => none
def zs_len (pc : Nat) (X : zX) (L : zL) (st : List Value) (h : zH) : Option zF := match st with
  | .ref a :: r => (match h.2.2 a with
    | some (.inl (t', q)) => if t' ≤ 5 then some (pc + 1, L, .int (Int32.ofNat q.1) :: r, h) else none
    | some (.inr _) => none
    | none => (match zka X a with
      | some (_, n, _) => some (pc + 1, L, .int (Int32.ofNat n) :: r, h)
      | none => none))
  | _ => none
def zs_newa (pc : Nat) (t : Nat) (q : Nat → vp_A) (L : zL) (st : List Value) (h : zH) : Option zF := match st with
  | .int n :: r => if 0 ≤ n.toInt ∧ n.toInt ≤ 5000 then some (pc + 2, L, .ref (zK + h.1) :: r, znew h n.toNatClampNeg (.inl (t, q n.toNatClampNeg))) else none
  | _ => none
def zs_anew (pc o idx : Nat) (L : zL) (st : List Value) (h : zH) : Option zF := match st with
  | .int n :: r => if zal o idx = true ∧ 0 ≤ n.toInt ∧ n.toInt ≤ 5000 then some (pc + 3, L, .ref (zK + h.1) :: r, znew h n.toNatClampNeg (.inl (5, n.toNatClampNeg, .inr (.inr (.inr (.inr (fun _ => none))))))) else none
  | _ => none
def zs_new (pc o idx : Nat) (L : zL) (st : List Value) (h : zH) : Option zF := match zcl o idx with
  | some ci => some (pc + 3, L, .ref (zK + h.1) :: st, znew h (zdef ci).length (.inr (ci, zdef ci)))
  | none => none
def zstep (X : zX) (ini : Bool) (o pc : Nat) (L : zL) (st : List Value) (h : zH) (i : Jvm.ClassFile.Instr) : Option zF := match i with
  | .iconst n => some (pc + 1, L, .int (Int32.ofInt n) :: st, h)
  | .bipush n => some (pc + 2, L, .int ((Int8.ofInt n).toInt32) :: st, h)
  | .sipush n => some (pc + 3, L, .int ((Int16.ofInt n).toInt32) :: st, h)
  | .lconst n => some (pc + 1, L, .long (Int64.ofNat (n : Nat)) :: st, h)
  | .aconst_null => some (pc + 1, L, .null :: st, h)
  | .ldc i => zs_ldc pc o i L st h
  | .ldc2_w i => zs_ldc2 pc o i L st h
  | .iload_n k => zs_il 1 pc k L st h
  | .iload k => zs_il 2 pc k L st h
  | .lload_n k => zs_jl 1 pc k L st h
  | .lload k => zs_jl 2 pc k L st h
  | .aload_n k => zs_al 1 pc k L st h
  | .aload k => zs_al 2 pc k L st h
  | .istore_n k => zs_is 1 pc k L st h
  | .istore k => zs_is 2 pc k L st h
  | .lstore_n k => zs_js 1 pc k L st h
  | .lstore k => zs_js 2 pc k L st h
  | .astore_n k => zs_as 1 pc k L st h
  | .astore k => zs_as 2 pc k L st h
  | .iinc i k => zs_inc pc i k L st h
  | .iadd => zs_ii pc L st h (fun x y => x + y)
  | .isub => zs_ii pc L st h (fun x y => x - y)
  | .imul => zs_ii pc L st h (fun x y => x * y)
  | .iand => zs_ii pc L st h (fun x y => x &&& y)
  | .ishr => zs_ii pc L st h (fun x y => x >>> (y &&& 31))
  | .idiv => zs_dv pc L st h (fun x y => x / y)
  | .irem => zs_dv pc L st h (fun x y => x - x / y * y)
  | .ladd => zs_jj pc L st h (fun x y => .long (x + y))
  | .lmul => zs_jj pc L st h (fun x y => .long (x * y))
  | .land => zs_jj pc L st h (fun x y => .long (x &&& y))
  | .lor => zs_jj pc L st h (fun x y => .long (x ||| y))
  | .lcmp => zs_jj pc L st h (fun x y => .int (lg_cmp x y))
  | .lshl => zs_ji pc L st h (fun x y => x <<< (y.toInt64 &&& 63))
  | .lushr => zs_ji pc L st h (fun x y => (x.toUInt64 >>> (y.toInt64.toUInt64 &&& Int64.toUInt64 63)).toInt64)
  | .i2l => zs_i1 pc L st h (fun x => .long x.toInt64)
  | .i2c => zs_i1 pc L st h (fun x => .int (x.toUInt32 % 65536).toInt32)
  | .i2b => zs_i1 pc L st h (fun x => .int x.toInt8.toInt32)
  | .l2i => zs_j1 pc L st h (fun x => .int x.toInt32)
  | .ifCond .eq off => zs_if pc off L st h (fun x => decide (x = 0))
  | .if_icmp .eq off => zs_ic pc off L st h (fun x y => decide (x = y))
  | .ifCond .ne off => zs_if pc off L st h (fun x => decide (¬ x = 0))
  | .if_icmp .ne off => zs_ic pc off L st h (fun x y => decide (¬ x = y))
  | .ifCond .lt off => zs_if pc off L st h (fun x => decide (x < 0))
  | .if_icmp .lt off => zs_ic pc off L st h (fun x y => decide (x < y))
  | .ifCond .ge off => zs_if pc off L st h (fun x => decide (0 ≤ x))
  | .if_icmp .ge off => zs_ic pc off L st h (fun x y => decide (y ≤ x))
  | .ifCond .gt off => zs_if pc off L st h (fun x => decide (0 < x))
  | .if_icmp .gt off => zs_ic pc off L st h (fun x y => decide (y < x))
  | .ifCond .le off => zs_if pc off L st h (fun x => decide (x ≤ 0))
  | .if_icmp .le off => zs_ic pc off L st h (fun x y => decide (x ≤ y))
  | .ifnull off => zs_nu pc off L st h
  | .ifnonnull off => zs_nn pc off L st h
  | .goto off => zgo pc off L st h
  | .tableswitch d lo hi offs => zs_tab pc d lo hi offs L st h
  | .dup => zs_dup pc L st h
  | .dup2 => zs_dup2 pc L st h
  | .pop => zs_pop pc L st h
  | .getfield i => zs_getf pc o i L st h
  | .putfield i => zs_putf ini pc o i L st h
  | .getstatic i => zs_gets pc o i X L st h
  | .iaload => zs_ald pc 0 X L st h
  | .caload => zs_ald pc 1 X L st h
  | .baload => zs_bld pc X L st h
  | .laload => zs_jld pc L st h
  | .aaload => zs_rld pc X L st h
  | .iastore => zs_ast pc 0 .int L st h
  | .castore => zs_ast pc 1 .char L st h
  | .bastore => zs_ast pc 3 .boolean L st h
  | .lastore => zs_jst pc L st h
  | .aastore => zs_rst pc L st h
  | .arraylength => zs_len pc X L st h
  | .newarray .int => zs_newa pc 0 (fun n => (n, .inl (fun _ => 0))) L st h
  | .newarray .char => zs_newa pc 1 (fun n => (n, .inl (fun _ => 0))) L st h
  | .newarray .long => zs_newa pc 2 (fun n => (n, .inr (.inl (fun _ => 0)))) L st h
  | .newarray .boolean => zs_newa pc 3 (fun n => (n, .inl (fun _ => 0))) L st h
  | .anewarray i => zs_anew pc o i L st h
  | .new i => zs_new pc o i L st h
  | _ => none
def zlen (i : Jvm.ClassFile.Instr) : Nat := match i with
  | .iconst _ => 1
  | .bipush _ => 2
  | .sipush _ => 3
  | .lconst _ => 1
  | .aconst_null => 1
  | .ldc _ => 2
  | .ldc2_w _ => 3
  | .iload_n _ => 1
  | .iload _ => 2
  | .lload_n _ => 1
  | .lload _ => 2
  | .aload_n _ => 1
  | .aload _ => 2
  | .istore_n _ => 1
  | .istore _ => 2
  | .lstore_n _ => 1
  | .lstore _ => 2
  | .astore_n _ => 1
  | .astore _ => 2
  | .iinc _ _ => 3
  | .iadd => 1
  | .isub => 1
  | .imul => 1
  | .iand => 1
  | .ishr => 1
  | .idiv => 1
  | .irem => 1
  | .ladd => 1
  | .lmul => 1
  | .land => 1
  | .lor => 1
  | .lcmp => 1
  | .lshl => 1
  | .lushr => 1
  | .i2l => 1
  | .i2c => 1
  | .i2b => 1
  | .l2i => 1
  | .ifCond .eq _ => 3
  | .if_icmp .eq _ => 3
  | .ifCond .ne _ => 3
  | .if_icmp .ne _ => 3
  | .ifCond .lt _ => 3
  | .if_icmp .lt _ => 3
  | .ifCond .ge _ => 3
  | .if_icmp .ge _ => 3
  | .ifCond .gt _ => 3
  | .if_icmp .gt _ => 3
  | .ifCond .le _ => 3
  | .if_icmp .le _ => 3
  | .ifnull _ => 3
  | .ifnonnull _ => 3
  | .goto _ => 3
  | .dup => 1
  | .dup2 => 1
  | .pop => 1
  | .getfield _ => 3
  | .putfield _ => 3
  | .getstatic _ => 3
  | .iaload => 1
  | .caload => 1
  | .baload => 1
  | .laload => 1
  | .aaload => 1
  | .iastore => 1
  | .castore => 1
  | .bastore => 1
  | .lastore => 1
  | .aastore => 1
  | .arraylength => 1
  | .newarray .int => 2
  | .newarray .char => 2
  | .newarray .long => 2
  | .newarray .boolean => 2
  | .anewarray _ => 3
  | .new _ => 3
  | .ireturn => 1
  | .lreturn => 1
  | .areturn => 1
  | .return_ => 1
  | .invokevirtual _ => 3
  | .invokespecial _ => 3
  | .invokestatic _ => 3
  | _ => 0
