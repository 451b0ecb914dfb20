/-! BOTH: renaming, admitting -/
theorem zch_txo {f : Nat → Int32} {n : Nat} (hz2 : ∀ i, i < n → f i < 256 → zch (f i)) (o : Option Nat) (i : Nat) : zch (tc (txo f n o) i) := by
  rcases Nat.lt_or_ge i (tl (txo f n o)) with q | q
  · cases o with
    | none => exact absurd q (Nat.not_lt_zero _)
    | some p =>
      obtain ⟨e, h1, h2⟩ := tc_tx q
      rw [e]
      exact hz2 _ h2 h1
  · rw [tc_out q]
    exact zch_0
theorem rename_tie (X : zX) (d : Nat) (hX : X.2.2.category = 1) {h : zH} (hz : zlow h) {x : zMS} {oc : Nat → Int32} {pt : Nat → Option Nat} {qt : zMe} (H : HosW h x oc pt qt) {p : Nat} (h1 : 1 ≤ p) (h2 : p ≤ 99) {a : Nat} (ha : 110 ≤ a) (ha2 : a < 125) {f : Nat → Int32} {n : Nat} {st : Nat → Int32} {cn : Nat} (hM : isM h a f n st cn) (hn : n ≤ 200) {P : Nat → Nat} (hP0 : ∀ s, 1 ≤ s → s ≤ cn → st (s - 1) = nI (P s) ∧ P s ≤ n) (hcn : cn ≤ 8) (hz2 : ∀ i, i < n → f i < 256 → zch (f i)) (o : Option Nat) (ho : ∀ s, o = some s → 1 ≤ s ∧ s ≤ cn) : ∃ h', zR X (d + 7) 58 0 (zent 5 [.ref 104, .ref a, .int (tI o), .int (nI p)]) [] h (some (.int (if x.2 18 p = 0 then nI 16 else nI 0)), h') ∧ HosW h' (if x.2 18 p = 0 then x else setNm x p (txo f n (fdo f n P o 2 1 1)) (txo f n (fdo f n P o 2 1 2))) oc pt qt ∧ frm h h' := by
  obtain ⟨a1, a2, a3, a4, a5, a6, a7, a8⟩ := id H
  cases hp : pt p with
  | none =>
    have hk := (a6 p h1 h2 hp).1
    rw [if_pos hk, if_pos hk]
    exact ⟨h, n_Hosp_rename X (d + 6) h oc pt a1 p h1 h2 a (tI o) hp, H, frm_refl h⟩
  | some b =>
    obtain ⟨k1, r1, r2, r3, r4⟩ := a7 p b h1 h2 hp
    have hk : ¬ x.2 18 p = 0 := by rw [k1]; decide
    rw [if_neg hk, if_neg hk]
    obtain ⟨hB, ⟨n1, g1, c1, m1, e1, f1⟩, ⟨n2, g2, c2, m2, e2, f2⟩, hq⟩ := r4
    obtain ⟨g1', g2', ht⟩ := e_Hosp_takeNames X d hX h hz a (by omega) f n st cn hM hn P hP0 hcn hz2 o ho b r1 (x.2 19 p) hB (rgL n1 g1) (rgL n2 g2) g1 g2
    rw [tn_self c1 c2 m1 m2] at ht
    refine ⟨_, e_Hosp_rename X (d + 6) h _ oc pt a1 p h1 h2 a b (tI o) hp ht, ?_, ?_⟩
    · have ne : ∀ c, c < b ∨ b + 8 ≤ c → (chL (chL h (b + 1) 12 (nmL (rgL n1 g1) (txo f n (fdo f n P o 2 1 1))) g1') (b + 3) 12 (nmL (rgL n2 g2) (txo f n (fdo f n P o 2 1 2))) g2').2.2 c = h.2.2 c := fun c hc => (chS_ne (by omega) (by omega)).trans (chS_ne (by omega) (by omega))
      refine Hos_set H h1 h2 hp ⟨(ne 104 (by omega)).trans a1.1, (ne 105 (by omega)).trans a1.2.1, (ne 106 (by omega)).trans a1.2.2⟩ ⟨(ne 107 (by omega)).trans a2.1, (ne 108 (by omega)).trans a2.2.1, (ne 109 (by omega)).trans a2.2.2⟩ a3 rfl (fun c _ c2 => ne c c2) (sameNm x p _ _) k1 a5 ?_
      exact nm_pa hB hq m1 e1 f1 m2 e2 f2 (zch_txo hz2 _) (zch_txo hz2 _)
    · exact ⟨fun c hc => (chS_ne (by omega) (by omega)).trans (chS_ne (by omega) (by omega)), Or.inl rfl, Nat.le_refl _, by show h.2.1 ≤ h.2.1 + 59; omega⟩
/-- a patient more -/
theorem Hos_new {h h' : zH} {ms ms' : zMS} {oc oc' : Nat → Int32} {pt : Nat → Option Nat} {qt : zMe} (H : HosW h ms oc pt qt) {p0 b0 : Nat} (h1 : 1 ≤ p0) (h2 : p0 ≤ 99) (hb0 : b0 = 100 + h.1) (hm8 : h.1 % 8 = 0) (hH : isHo h' oc' (va_up pt p0 (some b0))) (hn : h'.1 = h.1 + 8) (hf : ∀ a, a ≠ 105 → a ≠ 106 → a < b0 → h'.2.2 a = h.2.2 a) (hs : ∀ p, p ≠ p0 → patSame ms ms' p) (hkn : ms'.2 18 p0 = 1) (hbed : bedR oc' (ms'.2 19)) (hp : isPa h' b0 p0 ms') : HosW h' ms' oc' (va_up pt p0 (some b0)) qt := by
  obtain ⟨a1, a2, a3, a4, a5, a6, a7, a8⟩ := H
  refine ⟨hH, ⟨(hf 107 (by decide) (by decide) (by omega)).trans a2.1, (hf 108 (by decide) (by decide) (by omega)).trans a2.2.1, (hf 109 (by decide) (by decide) (by omega)).trans a2.2.2⟩, a3, by omega, hbed, fun p p1 p2 e => ?_, fun p b p1 p2 e => ?_, fun p p' b p1 p2 q1 q2 e e' => ?_⟩
  · have hne : p ≠ p0 := by intro z; rw [z, up_at] at e; cases e
    rw [va_up_ne _ _ hne] at e
    obtain ⟨s18, s19, s20, s20', -, s22, -⟩ := hs p hne
    obtain ⟨n1, n2, n3, n4, n5⟩ := a6 p p1 p2 e
    exact ⟨s18.trans n1, s19.trans n2, s20.trans n3, s20'.trans n4, s22.trans n5⟩
  · by_cases hpp : p = p0
    · rw [hpp, up_at] at e
      cases e
      rw [hpp]
      exact ⟨hkn, by omega, by omega, by omega, hp⟩
    · rw [va_up_ne _ _ hpp] at e
      obtain ⟨k1, r1, r2, r3, r4⟩ := a7 p b p1 p2 e
      exact ⟨(hs p hpp).1.trans k1, r1, by omega, r3, isPa_m (hs p hpp) (isPa_h (fun i hi => hf (b + i) (by omega) (by omega) (by omega)) r4)⟩
  · by_cases hpp : p = p0
    · by_cases hqq : p' = p0
      · rw [hpp, hqq]
      · rw [hpp, up_at] at e
        cases e
        rw [va_up_ne _ _ hqq] at e'
        have := (a7 p' b0 q1 q2 e').2.2.1
        omega
    · rw [va_up_ne _ _ hpp] at e
      by_cases hqq : p' = p0
      · rw [hqq, up_at] at e'
        cases e'
        have := (a7 p b0 p1 p2 e).2.2.1
        omega
      · rw [va_up_ne _ _ hqq] at e'
        exact a8 p p' b p1 p2 q1 q2 e e'
theorem same_tr {x y z : zMS} {p : Nat} (h1 : patSame x y p) (h2 : patSame y z p) : patSame x z p := ⟨h2.1.trans h1.1, h2.2.1.trans h1.2.1, h2.2.2.1.trans h1.2.2.1, h2.2.2.2.1.trans h1.2.2.2.1, fun j hj => (h2.2.2.2.2.1 j hj).trans (h1.2.2.2.2.1 j hj), h2.2.2.2.2.2.1.trans h1.2.2.2.2.2.1, fun j hj => ⟨(h2.2.2.2.2.2.2 j hj).1.trans (h1.2.2.2.2.2.2 j hj).1, (h2.2.2.2.2.2.2 j hj).2.trans (h1.2.2.2.2.2.2 j hj).2⟩⟩
theorem admit_tie (X : zX) (d : Nat) (hX : X.2.2.category = 1) {h : zH} (hz : zlow h) {x : zMS} {oc : Nat → Int32} {pt : Nat → Option Nat} {qt : zMe} (H : HosW h x oc pt qt) {p : Nat} (h1 : 1 ≤ p) (h2 : p ≤ 99) {a : Nat} (ha : 110 ≤ a) (ha2 : a < 125) {f : Nat → Int32} {n : Nat} {st : Nat → Int32} {cn : Nat} (hM : isM h a f n st cn) (hn : n ≤ 200) {P : Nat → Nat} (hP0 : ∀ s, 1 ≤ s → s ≤ cn → st (s - 1) = nI (P s) ∧ P s ≤ n) (hcn : cn ≤ 8) (hz2 : ∀ i, i < n → f i < 256 → zch (f i)) (o : Option Nat) (ho : ∀ s, o = some s → 1 ≤ s ∧ s ≤ cn) (hm8 : h.1 % 8 = 0) {k : Nat} (hk : k < 32) : ∃ h' oc' pt', zR X (d + 7) 49 0 (zent 6 [.ref 104, .ref a, .int (tI o), .int (nI p), .int (nI k)]) [] h (some (.int (if ¬ x.2 19 p < 0 then nI 14 else if ¬ whoF (x.2 19) (nI k) = 0 then nI 15 else nI 0)), h') ∧ HosW h' (if ¬ x.2 19 p < 0 then x else if ¬ whoF (x.2 19) (nI k) = 0 then x else setNm (set89 x p (nI k)) p (txo f n (fdo f n P o 2 1 1)) (txo f n (fdo f n P o 2 1 2))) oc' pt' qt ∧ frm h h' := by
  obtain ⟨a1, a2, a3, a4, a5, a6, a7, a8⟩ := id H
  cases hp : pt p with
  | none =>
    obtain ⟨z18, z19, z20, z20', z22⟩ := a6 p h1 h2 hp
    have hnn : ¬ ¬ x.2 19 p < 0 := fun z => z (by rw [z19]; exact neg1_lt)
    rw [if_neg hnn, if_neg hnn]
    by_cases hw : whoF (x.2 19) (nI k) = 0
    · have hoc := (bedR_0 a5 hk).mpr hw
      rw [if_neg (show ¬ ¬ whoF (x.2 19) (nI k) = 0 from fun z => z hw), if_neg (show ¬ ¬ whoF (x.2 19) (nI k) = 0 from fun z => z hw)]
      have al : ∀ i, i < 8 → (alloc h [paO (100 + h.1) (-1), chO ((100 + h.1) + 1) 0, chR 12 z0, chO ((100 + h.1) + 3) 0, chR 12 z0, meO ((100 + h.1) + 5) 0, meR z0, meR z0] 59).2.2 ((100 + h.1) + i) = ([paO (100 + h.1) (-1), chO ((100 + h.1) + 1) 0, chR 12 z0, chO ((100 + h.1) + 3) 0, chR 12 z0, meO ((100 + h.1) + 5) 0, meR z0, meR z0] : List zC)[i]? := fun i hi => alloc_in (H := h) (i := i) hi
      have nh : ∀ c, c ≠ 105 → c ≠ 106 → c < (100 + h.1) → (hP (zwr (alloc h [paO (100 + h.1) (-1), chO ((100 + h.1) + 1) 0, chR 12 z0, chO ((100 + h.1) + 3) 0, chR 12 z0, meO ((100 + h.1) + 5) 0, meR z0, meR z0] 59) 106 (ptC (va_up pt p (some (100 + h.1))))) oc (100 + h.1) k (nI p)).2.2 c = h.2.2 c := fun c q1 q2 q3 => (zwr_ne (by omega)).trans ((zwr_ne q1).trans ((zwr_ne q2).trans (alloc_ne q3)))
      have ni : ∀ i, 1 ≤ i → i < 8 → (hP (zwr (alloc h [paO (100 + h.1) (-1), chO ((100 + h.1) + 1) 0, chR 12 z0, chO ((100 + h.1) + 3) 0, chR 12 z0, meO ((100 + h.1) + 5) 0, meR z0, meR z0] 59) 106 (ptC (va_up pt p (some (100 + h.1))))) oc (100 + h.1) k (nI p)).2.2 ((100 + h.1) + i) = ([paO (100 + h.1) (-1), chO ((100 + h.1) + 1) 0, chR 12 z0, chO ((100 + h.1) + 3) 0, chR 12 z0, meO ((100 + h.1) + 5) 0, meR z0, meR z0] : List zC)[i]? := fun i q1 q2 => (zwr_ne (by omega)).trans ((zwr_ne (by omega)).trans ((zwr_ne (by omega)).trans (al i q2)))
      have hB : (hP (zwr (alloc h [paO (100 + h.1) (-1), chO ((100 + h.1) + 1) 0, chR 12 z0, chO ((100 + h.1) + 3) 0, chR 12 z0, meO ((100 + h.1) + 5) 0, meR z0, meR z0] 59) 106 (ptC (va_up pt p (some (100 + h.1))))) oc (100 + h.1) k (nI p)).2.2 (100 + h.1) = some (paO (100 + h.1) (nI k)) := zwr_at _ _ _
      have c1 : isCh (hP (zwr (alloc h [paO (100 + h.1) (-1), chO ((100 + h.1) + 1) 0, chR 12 z0, chO ((100 + h.1) + 3) 0, chR 12 z0, meO ((100 + h.1) + 5) 0, meR z0, meR z0] 59) 106 (ptC (va_up pt p (some (100 + h.1))))) oc (100 + h.1) k (nI p)) ((100 + h.1) + 1) 12 0 z0 := ⟨ni 1 (by decide) (by decide), ni 2 (by decide) (by decide)⟩
      have c2 : isCh (hP (zwr (alloc h [paO (100 + h.1) (-1), chO ((100 + h.1) + 1) 0, chR 12 z0, chO ((100 + h.1) + 3) 0, chR 12 z0, meO ((100 + h.1) + 5) 0, meR z0, meR z0] 59) 106 (ptC (va_up pt p (some (100 + h.1))))) oc (100 + h.1) k (nI p)) ((100 + h.1) + 3) 12 0 z0 := ⟨ni 3 (by decide) (by decide), ni 4 (by decide) (by decide)⟩
      have c3 : isMe (hP (zwr (alloc h [paO (100 + h.1) (-1), chO ((100 + h.1) + 1) 0, chR 12 z0, chO ((100 + h.1) + 3) 0, chR 12 z0, meO ((100 + h.1) + 5) 0, meR z0, meR z0] 59) 106 (ptC (va_up pt p (some (100 + h.1))))) oc (100 + h.1) k (nI p)) ((100 + h.1) + 5) (0, z0, z0) := ⟨ni 5 (by decide) (by decide), ni 6 (by decide) (by decide), ni 7 (by decide) (by decide)⟩
      have hz3 : zlow (hP (zwr (alloc h [paO (100 + h.1) (-1), chO ((100 + h.1) + 1) 0, chR 12 z0, chO ((100 + h.1) + 3) 0, chR 12 z0, meO ((100 + h.1) + 5) 0, meR z0, meR z0] 59) 106 (ptC (va_up pt p (some (100 + h.1))))) oc (100 + h.1) k (nI p)) := fun c hc => (nh c (by omega) (by omega) (by omega)).trans (hz c hc)
      have hM3 : isM (hP (zwr (alloc h [paO (100 + h.1) (-1), chO ((100 + h.1) + 1) 0, chR 12 z0, chO ((100 + h.1) + 3) 0, chR 12 z0, meO ((100 + h.1) + 5) 0, meR z0, meR z0] 59) 106 (ptC (va_up pt p (some (100 + h.1))))) oc (100 + h.1) k (nI p)) a f n st cn := ⟨(nh a (by omega) (by omega) (by omega)).trans hM.1, (nh (a + 3) (by omega) (by omega) (by omega)).trans hM.2.1, (nh (a + 4) (by omega) (by omega) (by omega)).trans hM.2.2⟩
      obtain ⟨g1', g2', ht⟩ := e_Hosp_takeNames X d hX (hP (zwr (alloc h [paO (100 + h.1) (-1), chO ((100 + h.1) + 1) 0, chR 12 z0, chO ((100 + h.1) + 3) 0, chR 12 z0, meO ((100 + h.1) + 5) 0, meR z0, meR z0] 59) 106 (ptC (va_up pt p (some (100 + h.1))))) oc (100 + h.1) k (nI p)) hz3 a (by omega) f n st cn hM3 hn P hP0 hcn hz2 o ho (100 + h.1) (by omega) (nI k) hB (rgL 0 z0) (rgL 0 z0) z0 z0
      rw [tn_self c1 c2 (by decide) (by decide)] at ht
      refine ⟨_, upd oc k (nI p), va_up pt p (some (100 + h.1)), n_Hosp_admit X (d + 3) h _ oc pt a1 p h1 h2 a (tI o) k hk a4 hp hoc ht, ?_, ?_⟩
      · have ne : ∀ c, c < (100 + h.1) → (chL (chL (hP (zwr (alloc h [paO (100 + h.1) (-1), chO ((100 + h.1) + 1) 0, chR 12 z0, chO ((100 + h.1) + 3) 0, chR 12 z0, meO ((100 + h.1) + 5) 0, meR z0, meR z0] 59) 106 (ptC (va_up pt p (some (100 + h.1))))) oc (100 + h.1) k (nI p)) ((100 + h.1) + 1) 12 (nmL (rgL 0 z0) (txo f n (fdo f n P o 2 1 1))) g1') ((100 + h.1) + 3) 12 (nmL (rgL 0 z0) (txo f n (fdo f n P o 2 1 2))) g2').2.2 c = (hP (zwr (alloc h [paO (100 + h.1) (-1), chO ((100 + h.1) + 1) 0, chR 12 z0, chO ((100 + h.1) + 3) 0, chR 12 z0, meO ((100 + h.1) + 5) 0, meR z0, meR z0] 59) 106 (ptC (va_up pt p (some (100 + h.1))))) oc (100 + h.1) k (nI p)).2.2 c := fun c hc => (chS_ne (by omega) (by omega)).trans (chS_ne (by omega) (by omega))
        have hHo : isHo (hP (zwr (alloc h [paO (100 + h.1) (-1), chO ((100 + h.1) + 1) 0, chR 12 z0, chO ((100 + h.1) + 3) 0, chR 12 z0, meO ((100 + h.1) + 5) 0, meR z0, meR z0] 59) 106 (ptC (va_up pt p (some (100 + h.1))))) oc (100 + h.1) k (nI p)) (upd oc k (nI p)) (va_up pt p (some (100 + h.1))) := hP_ho (h := (zwr (alloc h [paO (100 + h.1) (-1), chO ((100 + h.1) + 1) 0, chR 12 z0, chO ((100 + h.1) + 3) 0, chR 12 z0, meO ((100 + h.1) + 5) 0, meR z0, meR z0] 59) 106 (ptC (va_up pt p (some (100 + h.1)))))) ⟨(zwr_ne (by decide)).trans ((alloc_ne (by omega)).trans a1.1), (zwr_ne (by decide)).trans ((alloc_ne (by omega)).trans a1.2.1), zwr_at _ _ _⟩ (by omega)
        refine Hos_new H h1 h2 rfl hm8 ⟨(ne 104 (by omega)).trans hHo.1, (ne 105 (by omega)).trans hHo.2.1, (ne 106 (by omega)).trans hHo.2.2⟩ rfl (fun c q1 q2 q3 => (ne c q3).trans (nh c q1 q2 q3)) (fun q hq => same_tr (same89 x p (nI k) q hq) (sameNm _ p _ _ q hq)) pk_us (bedR_in a5 h1 h2 hk z19 hoc) ?_
        refine nm_pa (ms := set89 x p (nI k)) ?_ ⟨(0, z0, z0), c3, by decide, z22, fun i hi => absurd hi (Nat.not_lt_zero _)⟩ (by decide) z20 (fun i hi => absurd hi (Nat.not_lt_zero _)) (by decide) z20' (fun i hi => absurd hi (Nat.not_lt_zero _)) (zch_txo hz2 _) (zch_txo hz2 _)
        show (hP (zwr (alloc h [paO (100 + h.1) (-1), chO ((100 + h.1) + 1) 0, chR 12 z0, chO ((100 + h.1) + 3) 0, chR 12 z0, meO ((100 + h.1) + 5) 0, meR z0, meR z0] 59) 106 (ptC (va_up pt p (some (100 + h.1))))) oc (100 + h.1) k (nI p)).2.2 (100 + h.1) = some (paO (100 + h.1) (upd (x.2 19) p (nI k) p))
        rw [pk_us]; exact hB
      · exact ⟨fun c hc => (chS_ne (by omega) (by omega)).trans ((chS_ne (by omega) (by omega)).trans (nh c (by omega) (by omega) (by omega))), Or.inr rfl, by show h.2.1 ≤ h.2.1 + 59; omega, Nat.le_refl _⟩
    · rw [if_pos hw, if_pos hw]
      exact ⟨h, oc, pt, u_Hosp_admit X (d + 3) h oc pt a1 p h1 h2 a (tI o) k hk hp (fun z => hw ((bedR_0 a5 hk).mp z)), H, frm_refl h⟩
  | some b =>
    obtain ⟨k1, r1, r2, r3, r4⟩ := a7 p b h1 h2 hp
    rcases a5.1 p h1 h2 with e | ⟨k0, hk0, e⟩
    · have hB : h.2.2 b = some (paO b (-1)) := by rw [← e]; exact r4.1
      have hnn : ¬ ¬ x.2 19 p < 0 := fun z => z (by rw [e]; exact neg1_lt)
      rw [if_neg hnn, if_neg hnn]
      by_cases hw : whoF (x.2 19) (nI k) = 0
      · have hoc := (bedR_0 a5 hk).mpr hw
        rw [if_neg (show ¬ ¬ whoF (x.2 19) (nI k) = 0 from fun z => z hw), if_neg (show ¬ ¬ whoF (x.2 19) (nI k) = 0 from fun z => z hw)]
        obtain ⟨-, ⟨n1, g1, c1, m1, e1, f1⟩, ⟨n2, g2, c2, m2, e2, f2⟩, ⟨q, c3, m3, e3, f3⟩⟩ := r4
        have nh : ∀ c, c ≠ 105 → c ≠ b → (hP h oc b k (nI p)).2.2 c = h.2.2 c := fun c q1 q2 => (zwr_ne q2).trans (zwr_ne q1)
        have hBn : (hP h oc b k (nI p)).2.2 b = some (paO b (nI k)) := zwr_at _ _ _
        have c1' : isCh (hP h oc b k (nI p)) (b + 1) 12 n1 g1 := ⟨(nh _ (by omega) (by omega)).trans c1.1, (nh _ (by omega) (by omega)).trans c1.2⟩
        have c2' : isCh (hP h oc b k (nI p)) (b + 3) 12 n2 g2 := ⟨(nh _ (by omega) (by omega)).trans c2.1, (nh _ (by omega) (by omega)).trans c2.2⟩
        have c3' : isMe (hP h oc b k (nI p)) (b + 5) q := ⟨(nh _ (by omega) (by omega)).trans c3.1, (nh _ (by omega) (by omega)).trans c3.2.1, (nh _ (by omega) (by omega)).trans c3.2.2⟩
        have hz3 : zlow (hP h oc b k (nI p)) := fun c hc => (nh c (by omega) (by omega)).trans (hz c hc)
        have hM3 : isM (hP h oc b k (nI p)) a f n st cn := ⟨(nh a (by omega) (by omega)).trans hM.1, (nh (a + 3) (by omega) (by omega)).trans hM.2.1, (nh (a + 4) (by omega) (by omega)).trans hM.2.2⟩
        obtain ⟨g1', g2', ht⟩ := e_Hosp_takeNames X d hX (hP h oc b k (nI p)) hz3 a (by omega) f n st cn hM3 hn P hP0 hcn hz2 o ho b r1 (nI k) hBn (rgL n1 g1) (rgL n2 g2) g1 g2
        rw [tn_self c1' c2' m1 m2] at ht
        refine ⟨_, upd oc k (nI p), pt, e_Hosp_admit X (d + 3) h _ oc pt a1 p h1 h2 a (tI o) k hk b r1 hp hB hoc ht, ?_, ?_⟩
        · have ne : ∀ c, c < b ∨ b + 8 ≤ c → (chL (chL (hP h oc b k (nI p)) (b + 1) 12 (nmL (rgL n1 g1) (txo f n (fdo f n P o 2 1 1))) g1') (b + 3) 12 (nmL (rgL n2 g2) (txo f n (fdo f n P o 2 1 2))) g2').2.2 c = (hP h oc b k (nI p)).2.2 c := fun c hc => (chS_ne (by omega) (by omega)).trans (chS_ne (by omega) (by omega))
          have hHo := hP_ho (k := k) (x := nI p) a1 r1
          refine Hos_set H h1 h2 hp ⟨(ne 104 (by omega)).trans hHo.1, (ne 105 (by omega)).trans hHo.2.1, (ne 106 (by omega)).trans hHo.2.2⟩ ⟨(ne 107 (by omega)).trans ((nh 107 (by decide) (by omega)).trans a2.1), (ne 108 (by omega)).trans ((nh 108 (by decide) (by omega)).trans a2.2.1), (ne 109 (by omega)).trans ((nh 109 (by decide) (by omega)).trans a2.2.2)⟩ a3 rfl (fun c q1 q2 => (ne c q2).trans (nh c (by omega) (by omega))) (fun q hq => same_tr (same89 x p (nI k) q hq) (sameNm _ p _ _ q hq)) pk_us (bedR_in a5 h1 h2 hk e hoc) ?_
          refine nm_pa (ms := set89 x p (nI k)) ?_ ⟨q, c3', m3, e3, f3⟩ m1 e1 f1 m2 e2 f2 (zch_txo hz2 _) (zch_txo hz2 _)
          show (hP h oc b k (nI p)).2.2 b = some (paO b (upd (x.2 19) p (nI k) p))
          rw [pk_us]; exact hBn
        · exact ⟨fun c hc => (chS_ne (by omega) (by omega)).trans ((chS_ne (by omega) (by omega)).trans (nh c (by omega) (by omega))), Or.inl rfl, Nat.le_refl _, by show h.2.1 ≤ h.2.1 + 59; omega⟩
      · rw [if_pos hw, if_pos hw]
        exact ⟨h, oc, pt, t_Hosp_admit X (d + 3) h oc pt a1 p h1 h2 a (tI o) k hk b hp hB (fun z => hw ((bedR_0 a5 hk).mp z)), H, frm_refl h⟩
    · have hB : h.2.2 b = some (paO b (nI k0)) := by rw [← e]; exact r4.1
      rw [if_pos (show ¬ x.2 19 p < 0 by rw [e]; exact nI_nneg (by omega)), if_pos (show ¬ x.2 19 p < 0 by rw [e]; exact nI_nneg (by omega))]
      exact ⟨h, oc, pt, i_Hosp_admit X (d + 3) h oc pt a1 p h1 h2 a (tI o) k hk b k0 hk0 hp hB, H, frm_refl h⟩
