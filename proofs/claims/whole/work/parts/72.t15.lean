/-! BOTH: measuring -/
theorem Hos_same {h h' : zH} {x y : zMS} {oc : Nat → Int32} {pt : Nat → Option Nat} {qt qt' : zMe} (H : HosW h x oc pt qt) (hH : isHo h' oc pt) (hQ : isMe h' 107 qt') (hq : qt'.1 ≤ 12) (hn : h'.1 = h.1) (hf : ∀ a, 156 ≤ a → h'.2.2 a = h.2.2 a) (hs : ∀ p, 1 ≤ p → p ≤ 99 → patSame x y p) (h19 : y.2 19 = x.2 19) : HosW h' y oc pt qt' := by
  obtain ⟨a1, a2, a3, a4, a5, a6, a7, a8⟩ := H
  refine ⟨hH, hQ, hq, by omega, by rw [h19]; exact a5, fun p p1 p2 e => ?_, fun p b p1 p2 e => ?_, a8⟩
  · obtain ⟨s18, s19, s20, s20', -, s22, -⟩ := hs p p1 p2
    obtain ⟨n1, n2, n3, n4, n5⟩ := a6 p p1 p2 e
    exact ⟨s18.trans n1, s19.trans n2, s20.trans n3, s20'.trans n4, s22.trans n5⟩
  · obtain ⟨k1, r1, r2, r3, r4⟩ := a7 p b p1 p2 e
    exact ⟨(hs p p1 p2).1.trans k1, r1, by omega, r3, isPa_m (hs p p1 p2) (isPa_h (fun i hi => hf (b + i) (by omega)) r4)⟩
theorem same_q {x : zMS} {q : zQ} (h : qSame (mq x) q) : ∀ p, 1 ≤ p → p ≤ 99 → patSame x (mres x q) p := fun p p1 p2 => ⟨rfl, rfl, rfl, rfl, fun _ _ => rfl, h.1 p p2, fun j hj => ⟨(h.2 (12 * p + j) (by omega)).1, (h.2 (12 * p + j) (by omega)).2⟩⟩
theorem mq_mres (x : zMS) (q : zQ) : mq (mres x q) = q := rfl
theorem copy_tr {q : zQ} {p n : Nat} {z qt : zMe} (hp : p ≤ 99) (hq : q.1 p = nI z.1) (hz : z.1 ≤ 12) (he : ∀ i, i < z.1 → z.2.1 i = q.2.1 (12 * p + i) ∧ z.2.2 i = q.2.2 (12 * p + i)) : meQ (cpR qt z) (copyQ q p 100) ∧ qSame q (copyQ q p 100) := by
  refine ⟨⟨hz, ?_, fun i hi => ?_⟩, fun w hw => pk_un (by omega), fun j hj => ⟨pk_cpy_out (by omega), pk_cpy_out (by omega)⟩⟩
  · show upd q.1 100 (q.1 p) 100 = nI z.1
    rw [pk_us]; exact hq
  · have hi : i < z.1 := hi
    obtain ⟨e1, e2⟩ := he i hi
    refine ⟨?_, ?_⟩
    · show va_cpy z.2.1 qt.2.1 0 0 z.1 i = va_cpy q.2.1 q.2.1 (12 * p) (12 * 100) 12 (1200 + i)
      rw [pk_cpy_in (by omega) (by omega), pk_cpy_in (by omega) (by omega), show 0 + (i - 0) = i by omega, show 12 * p + (1200 + i - 12 * 100) = 12 * p + i by omega]
      exact e1
    · show va_cpy z.2.2 qt.2.2 0 0 z.1 i = va_cpy q.2.2 q.2.2 (12 * p) (12 * 100) 12 (1200 + i)
      rw [pk_cpy_in (by omega) (by omega), pk_cpy_in (by omega) (by omega), show 0 + (i - 0) = i by omega, show 12 * p + (1200 + i - 12 * 100) = 12 * p + i by omega]
      exact e2
/-- what measuring comes to -/
def msrF (V : zV) (S : zSg) (sg : Nat) (x : zMS) (p : Nat) : Int32 × zQ := if x.2 19 p < 0 then (13, mq x) else if wrongF V S sg = true then (17, mq x) else (if (tryF V S sg p (mq x)).2 = true then 0 else 18, (tryF V S sg p (mq x)).1)
def msrA (x : zMS) (p : Nat) (j : Int32 × zQ) : zMS := if j.1 = 0 then mres (mres x j.2) (copyQ (mq (mres x j.2)) 100 p) else mres x j.2
theorem measure_tie (X : zX) (d : Nat) (hX : X.2.2.category = 1) {h : zH} (hz : zlow h) {x : zMS} {oc : Nat → Int32} {pt : Nat → Option Nat} {qt : zMe} (H : HosW h x oc pt qt) {p : Nat} (h1 : 1 ≤ p) (h2 : p ≤ 99) {a : Nat} (ha : 110 ≤ a) (ha2 : a < 125) {f : Nat → Int32} {n : Nat} {st : Nat → Int32} {cn : Nat} (hM : isM h a f n st cn) (hn : n ≤ 200) {P : Nat → Nat} (hP0 : ∀ s, 1 ≤ s → s ≤ cn → st (s - 1) = nI (P s) ∧ P s ≤ n) (hcn : cn ≤ 8) {V : zV} {S : zSg} (hU : ∀ s r, 1 ≤ s → s ≤ cn → 1 ≤ r → r ≤ 300 → V (nI s) 2 (nI r) 1 = txo f n (psR f n P s r)) (hC : ∀ s, 1 ≤ s → s ≤ cn → V (nI s) 1 1 1 = txo f n (fdo f n P (some s) 1 1 1)) (hS : ∀ i, 1 ≤ i → S 79 66 88 i = sN (nnF f n P (sT 7) i (cn + 1 - i))) : ∃ h' qt', zR X (d + 6) 59 0 (zent 10 [.ref 104, .ref a, .int (nI p)]) [] h (some (.int (msrF V S cn x p).1), h') ∧ HosW h' (msrA x p (msrF V S cn x p)) oc pt qt' ∧ frm h h' := by
  obtain ⟨a1, a2, a3, a4, a5, a6, a7, a8⟩ := id H
  have ms0 : mres x (mq x) = x := mres_self x
  have r13 : x.2 19 p < 0 → msrF V S cn x p = (13, mq x) ∧ msrA x p (13, mq x) = x := fun hl => by
    refine ⟨by unfold msrF; rw [if_pos hl], ?_⟩
    unfold msrA
    rw [if_neg (show ¬ (13 : Int32) = 0 by decide)]
    exact ms0
  cases hp : pt p with
  | none =>
    have hn19 := (a6 p h1 h2 hp).2.1
    obtain ⟨e1, e2⟩ := r13 (by rw [hn19]; exact neg1_lt)
    rw [e1, e2]
    exact ⟨h, qt, n_Hosp_measure X d h oc pt a1 p h1 h2 a hp, H, frm_refl h⟩
  | some b =>
    obtain ⟨k1, r1, r2, r3, r4⟩ := a7 p b h1 h2 hp
    rcases a5.1 p h1 h2 with e | ⟨k0, hk0, e⟩
    · obtain ⟨e1, e2⟩ := r13 (by rw [e]; exact neg1_lt)
      rw [e1, e2]
      exact ⟨h, qt, o_Hosp_measure X d h oc pt a1 p h1 h2 a b hp (by rw [← e]; exact r4.1), H, frm_refl h⟩
    · have hB : h.2.2 b = some (paO b (nI k0)) := by rw [← e]; exact r4.1
      have hge : ¬ x.2 19 p < 0 := by rw [e]; exact nI_nneg (by omega)
      obtain ⟨-, hc1, hc2, ⟨qp, c3, m3, e3, f3⟩⟩ := id r4
      have hme := e_Hosp_measure X d h oc pt a1 p h1 h2 hX hz a ha (by omega) f n st cn hM hn P hP0 hcn b k0 r1 hk0 hp hB qp qt c3 a2 m3 a3
      obtain ⟨t1, t2⟩ := copy_tr (n := 0) (qt := qt) (q := mq x) (p := p) (z := qp) h2 e3 m3 f3
      have hall := mea_all (V := V) (S := S) (f := f) (P := P) (cn := cn) hn (fun s s1 s2 => (hP0 s s1 s2).2) hU hC hS 8 (cn + 1) (nnF f n P (sT 7) 1 cn) (cpR qt qp) (copyQ (mq x) p 100) true (fun s hs => by have := nnF_b s hs; omega) t1
      have hz12 := meaL_le (f := f) (n := n) (P := P) (cn := cn) 8 (nnF f n P (sT 7) 1 cn) (cpR qt qp) true (show (cpR qt qp).1 ≤ 12 from m3)
      have hs1 : S 79 66 88 1 = sN (nnF f n P (sT 7) 1 cn) := by rw [hS 1 (by decide), show cn + 1 - 1 = cn by omega]
      have fr1 : ∀ z, frm h (meS h 107 z) := fun z => ⟨fun c hc => meS_ne (by omega) (by omega) (by omega), Or.inl rfl, Nat.le_refl _, by show h.2.1 ≤ h.2.1 + 59; omega⟩
      have hos1 : ∀ (z : zMe) (q : zQ), z.1 ≤ 12 → qSame (mq x) q → HosW (meS h 107 z) (mres x q) oc pt z := fun z q hz hq => Hos_same H ⟨(meS_ne (by decide) (by decide) (by decide)).trans a1.1, (meS_ne (by decide) (by decide) (by decide)).trans a1.2.1, (meS_ne (by decide) (by decide) (by decide)).trans a1.2.2⟩ (meS_is z) hz rfl (fun c hc => meS_ne (by omega) (by omega) (by omega)) (same_q hq) rfl
      have hos17 : ∀ (z : zMe), z.1 ≤ 12 → HosW (meS h 107 z) x oc pt z := fun z hz => by
        have := hos1 z (mq x) hz (qSame_refl _)
        rw [ms0] at this
        exact this
      cases ho : (nnF f n P (sT 7) 1 cn) with
      | none =>
        rw [ho] at hme hz12
        have hw : wrongF V S cn = true := by
          unfold wrongF
          rw [hs1, ho]
          exact wrongS_t V S _ _
        have er : msrF V S cn x p = (17, mq x) := by unfold msrF; rw [if_neg hge, if_pos hw]
        have ea : msrA x p (17, mq x) = x := by unfold msrA; rw [if_neg (show ¬ (17 : Int32) = 0 by decide)]; exact ms0
        rw [er, ea]
        exact ⟨_, _, hme, hos17 _ m3, fr1 _⟩
      | some s =>
        rw [ho] at hme hall hz12
        have hsb := nnF_b s ho
        have hwf : wrongF V S cn = wrongS V S s (cn + 1) false := by
          unfold wrongF
          rw [hs1, ho]
          rw [show decide (sN (some s) = 0) = false from decide_eq_false (show ¬ s = 0 by omega)]
          rfl
        have htf : tryF V S cn p (mq x) = tryS V S s (cn + 1) (copyQ (mq x) p 100, true) := by
          unfold tryF
          rw [hs1, ho]
          rfl
        generalize hR : meaL f n P cn 8 (some s) (cpR qt qp) true = R at hme hall hz12
        obtain ⟨z, t⟩ := R
        cases t with
        | none =>
          have hw : wrongF V S cn = true := by rw [hwf]; exact hall
          have er : msrF V S cn x p = (17, mq x) := by unfold msrF; rw [if_neg hge, if_pos hw]
          have ea : msrA x p (17, mq x) = x := by unfold msrA; rw [if_neg (show ¬ (17 : Int32) = 0 by decide)]; exact ms0
          rw [er, ea]
          exact ⟨_, _, hme, hos17 z hz12, fr1 z⟩
        | some t =>
          obtain ⟨w1, w2, w3, w4⟩ := hall
          have w1 : wrongS V S s (cn + 1) false = false := w1
          have w2 : (tryS V S s (cn + 1) (copyQ (mq x) p 100, true)).2 = t := w2
          have w3 : meQ z (tryS V S s (cn + 1) (copyQ (mq x) p 100, true)).1 := w3
          have w4 : qSame (copyQ (mq x) p 100) (tryS V S s (cn + 1) (copyQ (mq x) p 100, true)).1 := w4
          rw [← htf] at w2 w3 w4
          have w5 := qSame_tr t2 w4
          have hw : ¬ wrongF V S cn = true := by rw [hwf, w1]; decide
          dsimp only at hme
          rw [if_neg (show ¬ (some s : Option Nat) = none by simp)] at hme
          cases t with
          | false =>
            have er : msrF V S cn x p = (18, (tryF V S cn p (mq x)).1) := by
              unfold msrF; rw [if_neg hge, if_neg hw, if_neg (by rw [w2]; decide)]
            have ea : msrA x p (18, (tryF V S cn p (mq x)).1) = mres x (tryF V S cn p (mq x)).1 := by unfold msrA; rw [if_neg (show ¬ (18 : Int32) = 0 by decide)]
            rw [er, ea]
            rw [if_pos rfl] at hme
            exact ⟨_, _, hme, hos1 z _ hz12 w5, fr1 z⟩
          | true =>
            have er : msrF V S cn x p = (0, (tryF V S cn p (mq x)).1) := by
              unfold msrF; rw [if_neg hge, if_neg hw, if_pos w2]
            have ea : msrA x p (0, (tryF V S cn p (mq x)).1) = mres (mres x (tryF V S cn p (mq x)).1) (copyQ (tryF V S cn p (mq x)).1 100 p) := by unfold msrA; rw [if_pos rfl]; rfl
            rw [er, ea]
            rw [if_neg (by decide)] at hme
            have H2 := hos1 z _ hz12 w5
            generalize (tryF V S cn p (mq x)).1 = Q at *
            have nh : ∀ c, c ≠ b + 5 → c ≠ b + 6 → c ≠ b + 7 → (meS (meS h 107 z) (b + 5) (cpR qp z)).2.2 c = (meS h 107 z).2.2 c := fun c q1 q2 q3 => meS_ne q1 q2 q3
            refine ⟨_, z, hme, ?_, ⟨fun c hc => (nh c (by omega) (by omega) (by omega)).trans (meS_ne (by omega) (by omega) (by omega)), Or.inl rfl, Nat.le_refl _, by show h.2.1 ≤ h.2.1 + 59; omega⟩⟩
            obtain ⟨b1, b2, b3, b4, b5, b6, b7, b8⟩ := id H2
            obtain ⟨-, -, -, -, g4⟩ := b7 p b h1 h2 hp
            refine Hos_set H2 h1 h2 hp ⟨(nh 104 (by omega) (by omega) (by omega)).trans b1.1, (nh 105 (by omega) (by omega) (by omega)).trans b1.2.1, (nh 106 (by omega) (by omega) (by omega)).trans b1.2.2⟩ ⟨(nh 107 (by omega) (by omega) (by omega)).trans b2.1, (nh 108 (by omega) (by omega) (by omega)).trans b2.2.1, (nh 109 (by omega) (by omega) (by omega)).trans b2.2.2⟩ hz12 rfl (fun c _ q2 => nh c (by omega) (by omega) (by omega)) (fun q hq => ⟨rfl, rfl, rfl, rfl, fun _ _ => rfl, pk_un hq, fun j hj => ⟨pk_cpy_out (by omega), pk_cpy_out (by omega)⟩⟩) k1 b5 ?_
            obtain ⟨j0, ⟨n1, g1, c1, d1⟩, ⟨n2, g2, c2, d2⟩, -⟩ := g4
            refine ⟨(nh b (by omega) (by omega) (by omega)).trans j0, ⟨n1, g1, ⟨(nh _ (by omega) (by omega) (by omega)).trans c1.1, (nh _ (by omega) (by omega) (by omega)).trans c1.2⟩, d1⟩, ⟨n2, g2, ⟨(nh _ (by omega) (by omega) (by omega)).trans c2.1, (nh _ (by omega) (by omega) (by omega)).trans c2.2⟩, d2⟩, ⟨cpR qp z, meS_is _, hz12, ?_, fun i hi => ?_⟩⟩
            · show upd Q.1 p (Q.1 100) p = nI z.1
              rw [pk_us]; exact w3.2.1
            · have hi : i < z.1 := hi
              obtain ⟨i1, i2⟩ := w3.2.2 i hi
              refine ⟨?_, ?_⟩
              · show va_cpy z.2.1 qp.2.1 0 0 z.1 i = va_cpy Q.2.1 Q.2.1 (12 * 100) (12 * p) 12 (12 * p + i)
                rw [pk_cpy_in (by omega) (by omega), pk_cpy_in (by omega) (by omega), show 0 + (i - 0) = i by omega, show 12 * 100 + (12 * p + i - 12 * p) = 1200 + i by omega]
                exact i1
              · show va_cpy z.2.2 qp.2.2 0 0 z.1 i = va_cpy Q.2.2 Q.2.2 (12 * 100) (12 * p) 12 (12 * p + i)
                rw [pk_cpy_in (by omega) (by omega), pk_cpy_in (by omega) (by omega), show 0 + (i - 0) = i by omega, show 12 * 100 + (12 * p + i - 12 * p) = 1200 + i by omega]
                exact i2
