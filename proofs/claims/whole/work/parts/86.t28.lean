/-! BOTH: end -/
theorem mseg_eq {x y : zMS} {nl : List Int32} {sg : Nat} (hx : mNam x nl sg) (hy : mNam y nl sg) (h1 : 1 ≤ sg) (h2 : sg < 2 ^ 31) : mseg x = mseg y := by
  have e : ∀ m, m < 3 * sg → x.2 13 m = y.2 13 m := fun m hm => by
    have hl : m < nl.length := by rw [hx.2.1]; exact hm
    rw [hx.2.2 m _ (List.getElem?_eq_getElem hl), hy.2.2 m _ (List.getElem?_eq_getElem hl)]
  funext a b c i
  unfold mseg
  rw [hx.1, hy.1, nI_clamp h2]
  congr 1
  refine zfst_congr _ _ (fun j j1 j2 => ?_)
  unfold mnm
  rw [e (3 * j - 3) (by omega), e (3 * j - 2) (by omega), e (3 * j - 1) (by omega)]
theorem act_cong {x y : zMS} (hr : ∀ k, 18 ≤ k → k ≤ 24 → y.2 k = x.2 k) (hV : mV y = mV x) (hS : mseg y = mseg x) (kd : Nat) : ∀ k, 18 ≤ k → k ≤ 24 → (actF y kd).2 k = (actF x kd).2 k := by
  intro k k1 k2
  have e18 := hr 18 (by decide) (by decide)
  have e19 := hr 19 (by decide) (by decide)
  have e20 := hr 20 (by decide) (by decide)
  have e21 := hr 21 (by decide) (by decide)
  have e22 := hr 22 (by decide) (by decide)
  have e23 := hr 23 (by decide) (by decide)
  have e24 := hr 24 (by decide) (by decide)
  have ek := hr k k1 k2
  unfold actF mnam mB mres mnq mq
  dsimp only
  rw [hV, hS, e18, e19, e20, e21, e22, e23, e24]
  have hu : ∀ (i : Nat) (v : Nat → Int32) (f f' : Nat → Nat → Int32), f k = f' k → va_up f i v k = va_up f' i v k := fun i v f f' h => by
    by_cases q : k = i
    · subst q; rw [up_at, up_at]
    · rw [va_up_ne _ _ q, va_up_ne _ _ q]; exact h
  repeat' split
  all_goals
    dsimp only
    repeat first
      | exact ek
      | apply hu
theorem jdg_cong {x y : zMS} (hr : ∀ k, 18 ≤ k → k ≤ 24 → y.2 k = x.2 k) (hV : mV y = mV x) (hS : mseg y = mseg x) (j : Int32 × zQ) (kd : Nat) : ∀ k, 18 ≤ k → k ≤ 24 → (jdgW y j kd).2 k = (jdgW x j kd).2 k := by
  have hu : ∀ (k i : Nat) (v : Nat → Int32) (f f' : Nat → Nat → Int32), f k = f' k → va_up f i v k = va_up f' i v k := fun k i v f f' h => by
    by_cases q : k = i
    · subst q; rw [up_at, up_at]
    · rw [va_up_ne _ _ q, va_up_ne _ _ q]; exact h
  have e : ∀ k, 18 ≤ k → k ≤ 24 → (mres y j.2).2 k = (mres x j.2).2 k := fun k k1 k2 => hu _ _ _ _ _ (hu _ _ _ _ _ (hu _ _ _ _ _ (hr k k1 k2)))
  unfold jdgW
  split
  · exact act_cong (x := (va_up (mres x j.2).1 3 j.1, (mres x j.2).2)) (y := (va_up (mres y j.2).1 3 j.1, (mres y j.2).2)) e hV hS kd
  · exact e
theorem par_r {ms m1 : zMS} {S' : Nat → Int32} (h : mpar (msep (eA ms) S') m1) {k : Nat} (hk : k < 2 ∨ 14 < k) : m1.2 k = ms.2 k := (h.r k (by omega)).trans (va_up_ne _ _ (by omega))
theorem par_MI {ms m1 : zMS} {S' : Nat → Int32} (h : mpar (msep (eA ms) S') m1) (hi : MI ms) : MI m1 := by
  obtain ⟨i1, i2, i3, i4, i5, i6, i7, i8⟩ := hi
  refine ⟨?_, h.cl i2, h.cm i3, ?_, ?_, ?_, ?_, ?_⟩
  · rw [par_r h (by omega)]; exact i1
  · rw [par_r h (by omega)]; exact i4
  · rw [par_r h (by omega)]; exact i5
  · rw [par_r h (by omega)]; exact i6
  · rw [par_r h (by omega)]; exact i7
  · rw [par_r h (by omega)]; exact i8
theorem par_sam {ms m1 : zMS} {S' : Nat → Int32} (h : mpar (msep (eA ms) S') m1) (n : Nat → Int32) : sam1 ms (n, m1.2) := ⟨h.a 2 (by decide) (by decide) 1 (by decide), h.a 3 (by decide) (by decide) 1 (by decide), fun k k1 k2 i hi => (h.b k k1 k2 i hi).trans (congrFun (va_up_ne _ _ (by omega)) i), fun i hi => h.l i hi, fun i hi => h.m i hi⟩
theorem sepF_at (F : Nat → Int32) (n : Nat) (f : Nat → Int32) {k : Nat} (hk : k < 5) : sepF F n f k = nowF F n (3 + k) := by
  unfold sepF zpas
  rw [if_pos (by omega)]
  rfl
theorem rej_20 (F : Nat → Int32) (n : Nat) (S : Nat → Int32) : rejF F n S < 20 := by
  unfold rejF
  repeat' split
  all_goals omega
theorem s_end_rej {X : zX} {d : Nat} (hX : X.2.2.category = 1) {h : zH} {ms : zMS} (H : Inv h ms) (hrej : ∀ sz, ms.1 0 = nI sz → sz ≤ 200 → rejF (ms.2 1) sz (sepF (ms.2 1) sz (ms.2 14)) ≠ 0) : stp X d 5 98 [] h := by
  obtain ⟨hr, hi, hC⟩ := id H
  obtain ⟨hz, h8, sp, la, b, l0, oc, pt, qt, hO, ⟨sz, F, f1, f2, f3, f4, f5⟩, ⟨n0, g, r1, r2, r3, r4⟩, p3, ⟨S3, p4⟩, ⟨⟨fm, nm, stm, km, pM⟩, Sx, pS⟩, ⟨p6, S', p7⟩, p8, p9, p10⟩ := hC
  subst f4
  have hsl := hO.2.2
  have hrj := hrej sz f3 f2
  obtain ⟨ids, rs, o, kp, Tx, d1, d2, d3⟩ := id p9
  obtain ⟨h4, c1, c2, c3, c4, c5, c6, c7, c8, -, c10⟩ := rd_end X (d + 1) hX hz hO.1 hsl f1 f2 f5 r1 pM pS (sepF (ms.2 1) sz (ms.2 14)) (fun k hk => sepF_at _ _ _ hk)
  have hR4 : RP h4 ms := fun k hk => (c1 _ (by omega)).trans (hr k hk)
  obtain ⟨m1, S1, hpar, hm1, -⟩ := e_Mod_end X (d + 5) h4 ms sz f3 f2 hi.1 hi.2.1 hi.2.2.1 (fun j _ => hi.2.2.2.1 j) kp d2 d3.1 d3.2.2.2.2.2.2 (fun p => (ms.2 22 p).toNatClampNeg) (nr_of hi.2.2.2.2.2.2.1 p10)
  have hm := hm1 hrj
  rw [RP_set hR4] at hm
  have hlt := rej_20 (ms.2 1) sz (sepF (ms.2 1) sz (ms.2 14))
  have hcl := c10 _ (b_B_end X (d + 1) h4 sp la _ 0 hlt hrj c4)
  generalize rejF (ms.2 1) sz (sepF (ms.2 1) sz (ms.2 14)) = r at *
  have hn : ∀ k, k ≠ 1 → k ≠ 0 → k ≠ 3 → (eB m1 r).1 k = (eA ms).1 k := fun k k1 k0 k3 => by
    show va_up (va_up m1.1 0 0) 3 (nI r) k = _
    rw [va_up_ne _ _ k3, va_up_ne _ _ k0]
    exact hpar.n k k1
  have hrw : ∀ k, k < 2 ∨ 14 < k → (eB m1 r).2 k = ms.2 k := fun k hk => par_r hpar hk
  have hf : ∀ c, (c ≠ 100 ∧ c ≠ 102 ∧ c ≠ 103 ∧ c ≠ 115 ∧ c ≠ 116 ∧ ¬ (sp ≤ c ∧ c < sp + 5)) → h4.2.2 c = h.2.2 c := c1
  have hmi0 := par_MI hpar hi
  have hmi : MI (eB m1 r) := hmi0
  refine ⟨2, h4, _, eB m1 r, hcl, hm, ⟨_, hR4⟩, c8, Inv_mset hmi ⟨c8, by rw [c2]; exact h8, sp, la, false, l0, oc, pt, qt, ⟨?_, ?_, hsl⟩, ⟨0, _, c5, by decide, ?_, (hrw 1 (by omega)).symm, fun i hi => absurd hi (Nat.not_lt_zero _)⟩, ⟨0, g, c6, by decide, ?_, fun i hi => absurd hi (Nat.not_lt_zero _)⟩, ?_, ⟨S3, isSp_fr p4 (hf _ (by omega)) (hf _ (by omega))⟩, c7, ⟨isMl_fr p6 (fun i hi => hf _ (by omega)), S', isSp_fr p7 (hf _ (by omega)) (hf _ (by omega))⟩, Kp_sam (par_sam hpar _) p8, ?_, ?_⟩, ?_, ?_, ?_, ?_⟩
  · rw [hn 2 (by decide) (by decide) (by decide)]
    show h4.2.2 100 = some (bmO sp la (if (1 : Int32) = 0 then -1 else nI r) (zb false))
    rw [if_neg (by decide)]
    exact c4
  · rw [hn 4 (by decide) (by decide) (by decide)]; rfl
  · rfl
  · rw [hn 5 (by decide) (by decide) (by decide)]; rfl
  · obtain ⟨n2, g2, w1, w2, w3, w4⟩ := p3
    exact ⟨n2, g2, isCh_fr w1 (hf _ (by omega)) (hf _ (by omega)), w2, (hn 7 (by decide) (by decide) (by decide)).trans w3, fun i hi => by rw [hrw 25 (by omega)]; exact w4 i hi⟩
  · obtain ⟨ids, rs, o2, kp, Tx, y1, y2, y3⟩ := cLd_fr p9 (fun a q1 q2 => hf a (by omega))
    exact ⟨ids, rs, o2, kp, Tx, y1, (hn 6 (by decide) (by decide) (by decide)).trans y2, by rw [hrw 16 (by omega), hrw 17 (by omega)]; exact y3⟩
  · exact Hos_m (fun k k1 k2 => hrw k (by omega)) (Hos_fr p10 c2 (fun a ha => hf a (by omega)))
  · show h.1 ≤ h4.1; omega
  · show h4.1 ≤ h.1 + 8; omega
  · show h.2.1 ≤ h4.2.1; omega
  · show h4.2.1 ≤ h.2.1 + 59; omega
