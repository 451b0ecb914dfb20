/-! WHAT THE TABLES SAY, as the steps want it -/
theorem znf_ok {o i : Nat} {e : String × String × String} (h : znf o i e = true) : ∃ host, (zRn o, i, e.1, e.2.1, e.2.2, host) ∈ znF := by
  obtain ⟨q, hq, h1⟩ := List.any_eq_true.mp h
  simp only [Bool.and_eq_true, decide_eq_true_eq] at h1
  obtain ⟨a, b, c, d, f, g⟩ := q
  obtain ⟨⟨rfl, rfl⟩, rfl⟩ := h1
  exact ⟨g, hq⟩
/-- a link of a field, plain or across the nest -/
theorem zlnk_ok {o i : Nat} {e : String × String × String} {ne : Bool} (h : zlnk o i e ne = true) : (ne = false ∧ Cond.fieldLink (zRn o) i e.1 e.2.1 e.2.2 ∈ zcore) ∨ (ne = true ∧ ∃ host, (zRn o, i, e.1, e.2.1, e.2.2, host) ∈ znF) := by
  unfold zlnk at h
  split at h
  · rename_i hn
    exact Or.inr ⟨hn, znf_ok h⟩
  · rename_i hn
    split at h
    · exact Or.inl ⟨Bool.eq_false_iff.mpr hn, zat_ok h⟩
    · cases h
theorem znr_map (ad : Nat → Nat) {l : List Value} (h : l.all znr = true) : l.map (zv ad) = l := by
  induction l with
  | nil => rfl
  | cons v r ih =>
    simp only [List.all_cons, Bool.and_eq_true] at h
    rw [List.map_cons, ih h.2]
    congr 1
    have h1 := h.1
    unfold znr at h1
    split at h1
    · rfl
    · rfl
    · cases h1
theorem zcls {ci : Nat} {C : String} {T : u_T} {N : Nat} (h : classes[ci]? = some (C, T, N)) : (∀ x, x < N → parseFieldDescriptor (T x).2.2.1 = some (zty ci x)) ∧ (∀ a, a < N → ∀ b, b < N → a ≠ b → (T a).2.1 ≠ (T b).2.1) ∧ (∀ w ∈ u_ws C T N, w ∈ zcore) ∧ C = zRn ci ∧ (zdef ci).length = N ∧ (∀ x, x < N → defaultValue (zty ci x) = vp_V (zdef ci) x) ∧ (zdef ci).all znr = true ∧ Cond.instantiable C N ∈ zcore ∧ Cond.initialized C ∈ zcore := by
  have hlt : ci < 10 := (List.getElem?_eq_some_iff.mp h).1
  have h1 := List.all_eq_true.mp zcck_all ci (List.mem_range.mpr hlt)
  unfold zcck at h1
  rw [h] at h1
  simp only [Bool.and_eq_true, List.all_eq_true, List.mem_range, decide_eq_true_eq, Bool.or_eq_true] at h1
  obtain ⟨⟨⟨⟨⟨⟨⟨⟨a1, a2⟩, a3⟩, a4⟩, a5⟩, a6⟩, a7⟩, a8⟩, a9⟩ := h1
  refine ⟨a1, fun a ha b hb hn => ?_, fun w hw => ?_, a4, a5, a6, List.all_eq_true.mpr a7, zat_ok a8, zat_ok a9⟩
  · rcases a2 a ha b hb with q | q
    · exact absurd q hn
    · exact q
  · obtain ⟨x, hx, rfl⟩ := List.mem_map.mp hw
    exact zat_ok (a3 x (List.mem_range.mp hx))
theorem zRn_cls {ci : Nat} {r : vw_C} (h : classes[ci]? = some r) : r.1 = zRn ci := (zcls (C := r.1) (T := r.2.1) (N := r.2.2) h).2.2.2.1
theorem zfl_ck {o i ci k : Nat} {ne : Bool} (h : zfl o i = some (ci, k, ne)) : ∃ C T N, classes[ci]? = some (C, T, N) ∧ k < N ∧ zlnk o i ((T k).1, (T k).2.1, (T k).2.2.1) ne = true ∧ (T k).2.2.2 = zfin ci k ∧ (T k).1 = C := by
  have h1 := zlk_all (p := zfck) zfl_all h
  unfold zfck at h1
  split at h1
  · rename_i r hr
    simp only [Bool.and_eq_true, decide_eq_true_eq] at h1
    exact ⟨r.1, r.2.1, r.2.2, hr, h1.1.1.1, h1.1.1.2, h1.1.2, h1.2⟩
  · cases h1
theorem zslnn {o i : Nat} {q : Value × (String × String × String) × Bool} (h : zlk zslT o i = some q) : q.1 ≠ .null := by
  have h1 : znn q.1 = true := zlk_all (p := fun _ _ e => znn e.1) zslnn_all h
  intro e
  rw [e] at h1
  cases h1
section ZFX
variable {s : State} {args : Array Value} {D : va_G} {cA : Nat → ClassId} {ad : Nat → Nat} {base : Nat} {X : zX} {o idx : Nat}
theorem zfl_get (hcore : ∀ w ∈ zcore, w.before args s = true) (hE : zENV s D cA ad base X) {ci k : Nat} {ne : Bool} (h : zfl o idx = some (ci, k, ne)) : ∃ C T N, classes[ci]? = some (C, T, N) ∧ k < N ∧ (∀ w ∈ u_ws C T N, w ∈ zcore) ∧ ((Cond.fieldLink (zRn o) idx (T k).1 (T k).2.1 (T k).2.2.1).before args s = true ∨ ∃ host, (Cond.fieldLinkNest (zRn o) idx (T k).1 (T k).2.1 (T k).2.2.1 host).before args s = true) := by
  obtain ⟨C, T, N, h1, h2, h3, -, -⟩ := zfl_ck h
  refine ⟨C, T, N, h1, h2, (zcls h1).2.2.1, ?_⟩
  rcases zlnk_ok h3 with ⟨-, q⟩ | ⟨-, host, q⟩
  · exact Or.inl (hcore _ q)
  · exact Or.inr ⟨host, va_Nw.use rfl (hE.1 _ q)⟩
theorem zfl_put {meth : Method} {ini : Bool} (hcore : ∀ w ∈ zcore, w.before args s = true) (hE : zENV s D cA ad base X) (hini : ini = true → meth.name = "<init>") {ci k : Nat} {ne : Bool} (h : zfl o idx = some (ci, k, ne)) (hf : zfin ci k = false ∨ (ini = true ∧ ci = o ∧ ne = false)) : ∃ C T N, classes[ci]? = some (C, T, N) ∧ k < N ∧ (∀ w ∈ u_ws C T N, w ∈ zcore) ∧ (∀ x, x < N → parseFieldDescriptor (T x).2.2.1 = some (zty ci x)) ∧ (∀ a, a < N → ∀ b, b < N → a ≠ b → (T a).2.1 ≠ (T b).2.1) ∧ (((T k).2.2.2 = false ∧ (Cond.fieldLink (zRn o) idx (T k).1 (T k).2.1 (T k).2.2.1).before args s = true) ∨ ((T k).2.2.2 = true ∧ meth.name = "<init>" ∧ (T k).1 = zRn o ∧ (Cond.fieldLink (zRn o) idx (T k).1 (T k).2.1 (T k).2.2.1).before args s = true) ∨ ((T k).2.2.2 = false ∧ ∃ host, (Cond.fieldLinkNest (zRn o) idx (T k).1 (T k).2.1 (T k).2.2.1 host).before args s = true)) := by
  obtain ⟨C, T, N, h1, h2, h3, h4, h5⟩ := zfl_ck h
  obtain ⟨c1, c2, c3, c4, -⟩ := zcls h1
  refine ⟨C, T, N, h1, h2, c3, c1, c2, ?_⟩
  rcases zlnk_ok h3 with ⟨hn, q⟩ | ⟨hn, host, q⟩
  · cases hz : zfin ci k with
    | false => exact Or.inl ⟨by rw [h4, hz], hcore _ q⟩
    | true =>
      rcases hf with hf | ⟨f1, f2, -⟩
      · rw [hf] at hz; cases hz
      · exact Or.inr (Or.inl ⟨by rw [h4, hz], hini f1, by rw [h5, c4, f2], hcore _ q⟩)
  · rcases hf with hf | ⟨f1, f2, f3⟩
    · exact Or.inr (Or.inr ⟨by rw [h4, hf], host, va_Nw.use rfl (hE.1 _ q)⟩)
    · rw [hn] at f3; cases f3
theorem zkf_ok (hcore : ∀ w ∈ zcore, w.before args s = true) (hE : zENV s D cA ad base X) {a : Nat} {v : Value} (h : zkf o idx a = some v) : ∃ oo n d, va_OF oo n d (zv ad v) (ad a) (zA base) s s.heap ∧ ((Cond.fieldLink (zRn o) idx oo n d).before args s = true ∨ ∃ host, (Cond.fieldLinkNest (zRn o) idx oo n d host).before args s = true) := by
  unfold zkf at h
  split at h
  · rename_i q hq
    have h1 := zlk_all (p := zkck) zkl_all hq
    have hm := zcf_mem h
    refine ⟨_, _, _, hE.2.2.2.2.2.2.1 _ hm, ?_⟩
    rcases zlnk_ok h1 with ⟨-, q⟩ | ⟨-, host, q⟩
    · exact Or.inl (hcore _ q)
    · exact Or.inr ⟨host, va_Nw.use rfl (hE.1 _ q)⟩
  · cases h
theorem zld_ok (hcore : ∀ w ∈ zcore, w.before args s = true) (hE : zENV s D cA ad base X) {v : Value} (h : zld o idx = some v) : (∃ x, v = .int x ∧ (Cond.constant (zRn o) idx x).before args s = true) ∨ (∃ k tx, v = .ref k ∧ vk_R (zRn o) idx tx (ad k) s) := by
  have h1 := zlk_all (p := zldk) zld_all h
  unfold zldk at h1
  split at h1
  · rename_i k
    obtain ⟨e, he, h2⟩ := List.any_eq_true.mp h1
    simp only [Bool.and_eq_true, decide_eq_true_eq] at h2
    obtain ⟨a, b, tx, k'⟩ := e
    obtain ⟨⟨rfl, rfl⟩, rfl⟩ := h2
    exact Or.inr ⟨_, tx, rfl, hE.2.2.2.2.2.2.2.2.2.1 _ he⟩
  · cases h1
theorem zl2_ok (hcore : ∀ w ∈ zcore, w.before args s = true) {x : Int64} (h : zl2 o idx = some x) : (Cond.constantLong (zRn o) idx x).before args s = true := by
  have h1 := zlk_all (p := zl2k) zl2_all h
  unfold zl2k at h1
  split at h1
  · exact hcore _ (zat_ok h1)
  · cases h1
theorem zsl_ok (hcore : ∀ w ∈ zcore, w.before args s = true) (hE : zENV s D cA ad base X) {q : Value × (String × String × String) × Bool} (h : zsl X o idx = some q) : ∃ C n d, va_Z C n d (zv ad q.1) (zA base) s s.heap ∧ ((Cond.fieldLink (zRn o) idx C n d).before args s = true ∨ ∃ host, (Cond.fieldLinkNest (zRn o) idx C n d host).before args s = true) := by
  unfold zsl at h
  split at h
  · rename_i hc
    obtain ⟨rfl, rfl⟩ := hc
    cases h
    refine ⟨_, _, _, hE.2.2.2.2.2.1 ("jdk/internal/util/Preconditions", "SIOOBE_FORMATTER", "Ljava/util/function/BiFunction;", X.2.2) (by simp [zSV]), ?_⟩
    rcases zlnk_ok zfmt_link with ⟨-, q⟩ | ⟨q, -⟩
    · exact Or.inl (hcore _ q)
    · cases q
  · have h1 := zlk_all (p := zslk) zsl_all h
    unfold zslk at h1
    simp only [Bool.and_eq_true, decide_eq_true_eq] at h1
    have hm : (q.2.1.1, q.2.1.2.1, q.2.1.2.2, q.1) ∈ zSV X ∨ q.1 = .null := by
      have h2 := h1.2
      simp only [zSV, List.mem_cons, List.not_mem_nil, or_false] at h2 ⊢
      rcases h2 with e | e | e | e
      · exact Or.inl (Or.inl e)
      · exact Or.inl (Or.inr (Or.inl e))
      · exact Or.inl (Or.inr (Or.inr (Or.inl e)))
      · exact Or.inr (congrArg (fun z : String × String × String × Value => z.2.2.2) e)
    have hnn : q.1 ≠ .null := zslnn h
    rcases hm with hm | hm
    · refine ⟨_, _, _, hE.2.2.2.2.2.1 _ hm, ?_⟩
      rcases zlnk_ok h1.1 with ⟨-, q⟩ | ⟨-, host, q⟩
      · exact Or.inl (hcore _ q)
      · exact Or.inr ⟨host, va_Nw.use rfl (hE.1 _ q)⟩
    · exact absurd hm hnn
theorem zal_ok (hcore : ∀ w ∈ zcore, w.before args s = true) (hE : zENV s D cA ad base X) (h : zal o idx = true) : (Cond.classLink (zRn o) idx zPatN).before args s = true ∧ (Cond.arrayOver (.object zPatN)).before args s = true := by
  obtain ⟨rfl, rfl⟩ := of_decide_eq_true h
  exact ⟨hcore _ (zat_ok zal_at), va_AO.use hE.2.2.2.2.2.2.2.2.2.2⟩
theorem zcl_ok (hcore : ∀ w ∈ zcore, w.before args s = true) {ci : Nat} (h : zcl o idx = some ci) : ∃ C T, classes[ci]? = some (C, T, (zdef ci).length) ∧ (∀ w ∈ u_ws C T (zdef ci).length, w ∈ zcore) ∧ (∀ x, x < (zdef ci).length → parseFieldDescriptor (T x).2.2.1 = some (zty ci x)) ∧ (∀ j, j < (zdef ci).length → defaultValue (zty ci j) = vp_V ((zdef ci).map (zv ad)) j) ∧ (Cond.classLink (zRn o) idx C).before args s = true ∧ (Cond.instantiable C (zdef ci).length).before args s = true ∧ (Cond.initialized C).before args s = true := by
  have h1 := zlk_all (p := zclk) zcl_all h
  unfold zclk at h1
  split at h1
  · rename_i p r hp hr
    obtain ⟨C, T, N⟩ := r
    obtain ⟨c1, c2, c3, c4, c5, c6, c7, c8, c9⟩ := zcls hr
    subst c5
    exact ⟨C, T, hr, c3, c1, by rw [znr_map ad c7]; exact c6, hcore _ (zat_ok h1), hcore _ c8, hcore _ c9⟩
  · cases h1
end ZFX
