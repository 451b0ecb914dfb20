/-! CHECKS of the tables, by the kernel -/
def znf (o i : Nat) (e : String × String × String) : Bool := znF.any (fun q => decide (q.1 = zRn o) && decide (q.2.1 = i) && decide ((q.2.2.1, q.2.2.2.1, q.2.2.2.2.1) = e))
def zlnk (o i : Nat) (e : String × String × String) (ne : Bool) : Bool := if ne = true then znf o i e else (match zlk zfpT o i with
  | some p => zat p (.fieldLink (zRn o) i e.1 e.2.1 e.2.2)
  | none => false)
def znr (v : Value) : Bool := match v with
  | .int _ => true
  | .null => true
  | _ => false
def zcck (ci : Nat) : Bool := match classes[ci]? with
  | some r => (List.range r.2.2).all (fun x => decide (parseFieldDescriptor (r.2.1 x).2.2.1 = some (zty ci x))) && (List.range r.2.2).all (fun a => (List.range r.2.2).all (fun b => decide (a = b) || decide ((r.2.1 a).2.1 ≠ (r.2.1 b).2.1))) && (List.range r.2.2).all (fun x => zat ((zlyL.getD ci []).getD x 0) (u_lay r.1 r.2.1 x)) && decide (r.1 = zRn ci) && decide ((zdef ci).length = r.2.2) && (List.range r.2.2).all (fun x => decide (defaultValue (zty ci x) = vp_V (zdef ci) x)) && (zdef ci).all znr && zat (zipL.getD ci (0, 0)).1 (.instantiable r.1 r.2.2) && zat (zipL.getD ci (0, 0)).2 (.initialized r.1)
  | none => false
theorem zcck_all : (List.range 10).all zcck = true := by decide +kernel
def zfck (o i : Nat) (q : Nat × Nat × Bool) : Bool := match classes[q.1]? with
  | some r => decide (q.2.1 < r.2.2) && zlnk o i ((r.2.1 q.2.1).1, (r.2.1 q.2.1).2.1, (r.2.1 q.2.1).2.2.1) q.2.2 && decide ((r.2.1 q.2.1).2.2.2 = zfin q.1 q.2.1) && decide ((r.2.1 q.2.1).1 = r.1)
  | none => false
theorem zfl_all : (List.range zflT.length).all (fun o => (zflT.getD o []).all (fun e => zfck o e.1 e.2)) = true := by decide +kernel
theorem zal_at : zat 119 (.classLink (zRn 3) 15 zPatN) = true := by decide +kernel
def znn (v : Value) : Bool := match v with
  | .null => false
  | _ => true
theorem zslnn_all : (List.range zslT.length).all (fun o => (zslT.getD o []).all (fun e => znn e.2.1)) = true := by decide +kernel
def zkck (o i : Nat) (q : Nat × Bool) : Bool := zlnk o i (zfn q.1) q.2
theorem zkl_all : (List.range zklT.length).all (fun o => (zklT.getD o []).all (fun e => zkck o e.1 e.2)) = true := by decide +kernel
def zldk (o i : Nat) (v : Value) : Bool := match v with
  | .ref k => zSR.any (fun e => decide (e.1 = o) && decide (e.2.1 = i) && decide (e.2.2.2 = k))
  | _ => false
theorem zld_all : (List.range zldT.length).all (fun o => (zldT.getD o []).all (fun e => zldk o e.1 e.2)) = true := by decide +kernel
def zl2k (o i : Nat) (x : Int64) : Bool := match zlk zlqT o i with
  | some p => zat p (.constantLong (zRn o) i x)
  | none => false
theorem zl2_all : (List.range zl2T.length).all (fun o => (zl2T.getD o []).all (fun e => zl2k o e.1 e.2)) = true := by decide +kernel
def zslk (o i : Nat) (q : Value × (String × String × String) × Bool) : Bool := zlnk o i q.2.1 q.2.2 && decide ((q.2.1.1, q.2.1.2.1, q.2.1.2.2, q.1) ∈ zSV (0, fun _ => 0, .null))
theorem zsl_all : (List.range zslT.length).all (fun o => (zslT.getD o []).all (fun e => zslk o e.1 e.2)) = true := by decide +kernel
theorem zfmt_link : zlnk 11 1053 ("jdk/internal/util/Preconditions", "SIOOBE_FORMATTER", "Ljava/util/function/BiFunction;") false = true := by decide +kernel
def zclk (o i ci : Nat) : Bool := match zlk zcqT o i, classes[ci]? with
  | some p, some r => zat p (.classLink (zRn o) i r.1)
  | _, _ => false
theorem zcl_all : (List.range zclT.length).all (fun o => (zclT.getD o []).all (fun e => zclk o e.1 e.2)) = true := by decide +kernel
