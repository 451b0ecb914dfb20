/-! BOTH: a message is taken -/
theorem Hos_2 {h : zH} {x y : zMS} {oc : Nat → Int32} {pt : Nat → Option Nat} {qt : zMe} (e : y.2 = x.2) (H : HosW h x oc pt qt) : HosW h y oc pt qt := by
  obtain ⟨y1, y2⟩ := y
  obtain ⟨x1, x2⟩ := x
  cases e
  exact H
/-- the state after a message was judged, and done where it is accepted -/
def jdgW (x : zMS) (j : Int32 × zQ) (kd : Nat) : zMS := if j.1 = 0 then actF (va_up (mres x j.2).1 3 j.1, (mres x j.2).2) kd else (va_up (mres x j.2).1 3 j.1, (mres x j.2).2)
theorem take_tie (X : zX) (d : Nat) (hX : X.2.2.category = 1) {h : zH} (hz : zlow h) {x : zMS} {oc : Nat → Int32} {pt : Nat → Option Nat} {qt : zMe} (H : HosW h x oc pt qt) (hm8 : h.1 % 8 = 0) {a : Nat} (ha : 110 ≤ a) (ha2 : a < 125) {l : List zSeg} (hl0 : l ≠ []) (hMl : isMl h a l) (hV : mV x = vE (entA 1 l)) (hSx : ∀ a b c i, 1 ≤ i → mseg x a b c i = sN (sgL l [a, b, c] i)) {kd : Nat} (hkd : zkd kd) (hk : kindF (mV x) = nI kd) : ∃ h' oc' pt' qt', zR X (d + 8) 46 0 (zent 6 [.ref 104, .ref a]) [] h (some (.int (judgeF (mV x) (mseg x) l.length (x.2 19) (x.2 18) (mq x) kd).1), h') ∧ HosW h' (jdgW x (judgeF (mV x) (mseg x) l.length (x.2 19) (x.2 18) (mq x) kd) kd) oc' pt' qt' ∧ frm h h' := by
  obtain ⟨f, st, hM, hag, h200, hl8, hok, hst⟩ := hMl
  have hc1 : 1 ≤ l.length := List.length_pos_iff.mpr hl0
  have hP : ∀ s, 1 ≤ s → s ≤ l.length → st (s - 1) = nI (PS l s) ∧ PS l s ≤ (encM l).length := fun s q1 q2 => ⟨hst (s - 1) (by omega), stP_le (by omega)⟩
  have hvw : ∀ (o : Option Nat) (F R C : Int32), (∀ s, o = some s → 1 ≤ s ∧ s ≤ l.length) → ¬ (nI 0 = F ∧ nI 1 = R ∧ nI 1 = C) → txo f (encM l).length (fdo f (encM l).length (PS l) o F R C) = mV x (nI (sN o)) F R C := fun o F R C ho hm => by
    rw [hV]; exact view_txt hag rfl (by omega) hok o ho hm
  have hz2 : ∀ i, i < (encM l).length → f i < 256 → zch (f i) := fun i hi hlt => by
    obtain ⟨y, hy⟩ : ∃ y, (encM l)[i]? = some y := ⟨_, List.getElem?_eq_getElem hi⟩
    have e := hag i y hy
    rw [Nat.zero_add] at e
    -- signs below 256 are characters
    have hmem : y ∈ encM l := List.mem_of_getElem? hy
    have hsg : ∀ s, s ∈ l → ∀ y, y ∈ encS s → y < 256 → chr y := fun s hs y hy hlt => by
      rw [encS_map] at hy
      obtain ⟨g, hg, rfl⟩ := List.mem_map.mp hy
      have := segOk_all (hok s hs) g hg
      cases g with
      | inl c => exact this
      | inr w =>
        exfalso
        have hw : w < 5 := by rcases this with q | q | q | q <;> omega
        exact absurd hlt (nI_nlt (a := 256 + w) (b := 256) (by omega) (by omega))
    have hall : ∀ y, y ∈ encM l → y < 256 → chr y := fun y hy hlt => by
      cases l with
      | nil => cases hy
      | cons s r =>
        rcases List.mem_append.mp hy with q | q
        · exact hsg s List.mem_cons_self y q hlt
        · obtain ⟨s', hs', hq⟩ := List.mem_flatMap.mp q
          rcases List.mem_cons.mp hq with rfl | q2
          · exact absurd hlt (by decide)
          · exact hsg s' (List.mem_cons_of_mem _ hs') y q2 hlt
    rw [e] at hlt ⊢
    exact chr_zch (hall y hmem hlt)
  generalize hnn : (encM l).length = n at *
  generalize hcc : l.length = cn at *
  generalize hPP : PS l = P at *
  have hnn4 : nnF f n P (sT 4) 1 cn = sgL l [80, 73, 68] 1 := by
    have := nn_sgL hag hnn hok 80 73 68 1 (Nat.le_refl _)
    rw [hPP, hcc, show cn + 1 - 1 = cn by omega] at this
    exact this
  have hnn5 : nnF f n P (sT 5) 1 cn = sgL l [80, 86, 49] 1 := by
    have := nn_sgL hag hnn hok 80 86 49 1 (Nat.le_refl _)
    rw [hPP, hcc, show cn + 1 - 1 = cn by omega] at this
    exact this
  have hnn7 : ∀ i, 1 ≤ i → mseg x 79 66 88 i = sN (nnF f n P (sT 7) i (cn + 1 - i)) := fun i hi => by
    have := nn_sgL hag hnn hok 79 66 88 i hi
    rw [hPP, hcc] at this
    rw [hSx 79 66 88 i hi, ← this]
    rfl
  have pid : mseg x 80 73 68 1 = sN (nnF f n P (sT 4) 1 cn) := by rw [hSx _ _ _ _ (Nat.le_refl _), hnn4]
  have pvd : mseg x 80 86 49 1 = sN (nnF f n P (sT 5) 1 cn) := by rw [hSx _ _ _ _ (Nat.le_refl _), hnn5]
  have hob4 : ∀ s, (nnF f n P (sT 4) 1 cn) = some s → 1 ≤ s ∧ s ≤ cn := fun s hs => by have := nnF_b s hs; omega
  have hob5 : ∀ s, (nnF f n P (sT 5) 1 cn) = some s → 1 ≤ s ∧ s ≤ cn := fun s hs => by have := nnF_b s hs; omega
  have hob1 : ∀ s, (some 1 : Option Nat) = some s → 1 ≤ s ∧ s ≤ cn := fun s hs => by cases hs; omega
  have hkd0 : kd0 (txo f n (fdo f n P (some 1) 3 1 1)) (txo f n (fdo f n P (some 1) 3 1 2)) = kdN kd := by
    rw [hvw (some 1) 3 1 1 hob1 (by decide), hvw (some 1) 3 1 2 hob1 (by decide)]
    exact kd_kind (mV x) hkd hk
  have hpn0 : pnF (txo f n (fdo f n P (nnF f n P (sT 4) 1 cn) 1 1 1)) = pnF (mV x (nI (mseg x 80 73 68 1)) 1 1 1) := by rw [hvw _ 1 1 1 hob4 (by decide), ← pid]
  have hba0 : baF (txo f n (fdo f n P (nnF f n P (sT 5) 1 cn) 1 1 1)) (txo f n (fdo f n P (nnF f n P (sT 5) 1 cn) 1 1 2)) = baF (mV x (nI (mseg x 80 86 49 1)) 1 1 1) (mV x (nI (mseg x 80 86 49 1)) 1 1 2) := by rw [hvw _ 1 1 1 hob5 (by decide), hvw _ 1 1 2 hob5 (by decide), ← pvd]
  have hlen : ∀ o F R C, (∀ s, o = some s → 1 ≤ s ∧ s ≤ cn) → ¬ (nI 0 = F ∧ nI 1 = R ∧ nI 1 = C) → tl (mV x (nI (sN o)) F R C) < 2 ^ 31 := fun o F R C ho hm => by
    rw [← hvw o F R C ho hm]
    have := tl_txo f n (fdo f n P o F R C)
    omega
  have vz : ∀ F R C : Int32, mV x (nI 0) F R C = none := fun F R C => by
    rw [hV]; exact vE_out (Or.inl rfl) (by decide) (by omega) F R C
  have ms0 := mres_self x
  have y0 : ∀ r : Int32, ((va_up (mres x (mq x)).1 3 r, (mres x (mq x)).2) : zMS).2 = x.2 := fun r => by rw [ms0]
  -- a message that is in error for r leaves all as it was
  have keepW : ∀ r : Int32, ¬ r = 0 → (jdgW x (r, mq x) kd).2 = x.2 := fun r hr => by
    unfold jdgW
    rw [if_neg (show ¬ (r, mq x).1 = 0 from hr)]
    exact y0 r
  by_cases hk0 : kd = 0
  · subst hk0
    have ej : judgeF (mV x) (mseg x) cn (x.2 19) (x.2 18) (mq x) 0 = (6, mq x) := by unfold judgeF; rw [if_pos rfl]
    rw [ej]
    exact ⟨h, oc, pt, qt, t6_Hosp_take X (d + 1) h hX hz a f n st cn hM h200 P hP hl8 hc1 hkd0, Hos_2 (keepW 6 (by decide)) H, frm_refl h⟩
  · obtain ⟨g, hg⟩ : ∃ g, kdN kd = some g := by
      rcases hkd with q | q | q | q | q | q <;> subst q
      · exact absurd rfl hk0
      · exact ⟨70, rfl⟩
      · exact ⟨71, rfl⟩
      · exact ⟨72, rfl⟩
      · exact ⟨73, rfl⟩
      · exact ⟨74, rfl⟩
    rcases pn_pat (mV x) (mseg x 80 73 68 1) (fun q => by rw [q]; exact vz _ _ _) (by rw [pid]; exact hlen _ _ _ _ hob4 (by decide)) with ⟨q1, q2⟩ | ⟨p, p1, p2, q1, q2⟩
    · have ej : judgeF (mV x) (mseg x) cn (x.2 19) (x.2 18) (mq x) kd = (11, mq x) := by unfold judgeF; rw [if_neg hk0, if_pos q2]
      rw [ej]
      exact ⟨h, oc, pt, qt, t11_Hosp_take X (d + 1) h hX hz a f n st cn hM h200 P hP hl8 hc1 g (hkd0.trans hg) (hpn0.trans q1), Hos_2 (keepW 11 (by decide)) H, frm_refl h⟩
    · have hpe := hpn0.trans q1
      have hcl : (patF (mV x) (mseg x 80 73 68 1)).toNatClampNeg = p := by rw [q2, nI_clamp (by omega)]
      have hp0 : ¬ (patF (mV x) (mseg x 80 73 68 1)).toNatClampNeg = 0 := by rw [hcl]; omega
      have hHo := H.1.1
      obtain ⟨b1, b2⟩ := ba_bed (mV x) (mseg x 80 86 49 1) (fun q => by rw [q]; exact vz _ _ _) (by rw [pvd]; exact hlen _ _ _ _ hob5 (by decide))
      have hbe := hba0.trans b1
      rcases hkd with q | q | q | q | q | q
      · exact absurd q hk0
      · subst q
        have ej : judgeF (mV x) (mseg x) cn (x.2 19) (x.2 18) (mq x) 1 = (if ¬ 0 ≤ bedF (mV x) (mseg x 80 86 49 1) then 12 else if ¬ x.2 19 p < 0 then 14 else if ¬ whoF (x.2 19) (bedF (mV x) (mseg x 80 86 49 1)) = 0 then 15 else 0, mq x) := by
          unfold judgeF
          rw [if_neg (by decide), if_neg hp0, if_pos rfl, hcl]
        rw [ej]
        rcases b2 with eb | ⟨k, hk32, eb⟩
        · rw [eb, if_pos (by decide)]
          have hsub := x_Hosp_admit X (d + 3) h oc pt H.1 p p1 p2 a (tI (nnF f n P (sT 4) 1 cn))
          rw [← eb, ← hbe] at hsub
          exact ⟨h, oc, pt, qt, t70_Hosp_take X (d + 1) h hX hz a f n st cn hM h200 P hP hl8 hc1 hHo p p2 hkd0 hpe _ _ hsub, Hos_2 (keepW 12 (by decide)) H, frm_refl h⟩
        · rw [eb, if_neg (fun z => z (nI_pos' (by omega)))]
          obtain ⟨h', oc', pt', t1, t2, t3⟩ := admit_tie X d hX hz H p1 p2 ha ha2 hM h200 hP hl8 hz2 (nnF f n P (sT 4) 1 cn) hob4 hm8 hk32
          rw [← eb, ← hbe] at t1
          refine ⟨h', oc', pt', qt, t70_Hosp_take X (d + 1) h hX hz a f n st cn hM h200 P hP hl8 hc1 hHo p p2 hkd0 hpe _ _ (by rw [hbe, eb] at t1 ⊢; exact t1), Hos_2 ?_ t2, t3⟩
          by_cases c1 : ¬ x.2 19 p < 0
          · rw [if_pos c1, if_pos c1]; exact keepW 14 (by decide)
          · rw [if_neg c1, if_neg c1]
            by_cases c2 : ¬ whoF (x.2 19) (nI k) = 0
            · rw [if_pos c2, if_pos c2]; exact keepW 15 (by decide)
            · rw [if_neg c2, if_neg c2, hvw _ 2 1 1 hob4 (by decide), hvw _ 2 1 2 hob4 (by decide), ← pid]
              unfold jdgW
              rw [if_pos rfl, ms0]
              show (mnam (mB _ (upd (x.2 19) (patF (mV x) (mseg x 80 73 68 1)).toNatClampNeg (bedF (mV x) (mseg x 80 86 49 1))) (upd (x.2 18) (patF (mV x) (mseg x 80 73 68 1)).toNatClampNeg 1)) (takeQ (takeQ (mnq x) (mV x (nI (mseg x 80 73 68 1)) 2 1 1) (patF (mV x) (mseg x 80 73 68 1)).toNatClampNeg 0) (mV x (nI (mseg x 80 73 68 1)) 2 1 2) (patF (mV x) (mseg x 80 73 68 1)).toNatClampNeg 1)).2 = _
              rw [hcl, eb]
              rfl
      · subst q
        have ej : judgeF (mV x) (mseg x) cn (x.2 19) (x.2 18) (mq x) 2 = (if ¬ 0 ≤ bedF (mV x) (mseg x 80 86 49 1) then 12 else if x.2 19 p < 0 then 13 else if ¬ whoF (x.2 19) (bedF (mV x) (mseg x 80 86 49 1)) = 0 then 15 else 0, mq x) := by
          unfold judgeF
          rw [if_neg (by decide), if_neg hp0, if_neg (by decide), if_pos rfl, hcl]
        rw [ej]
        rcases b2 with eb | ⟨k, hk32, eb⟩
        · rw [eb, if_pos (by decide)]
          have hsub := x_Hosp_move X (d + 6) h oc pt H.1 p p1 p2
          rw [← eb, ← hbe] at hsub
          exact ⟨h, oc, pt, qt, t71_Hosp_take X (d + 1) h hX hz a f n st cn hM h200 P hP hl8 hc1 hHo p p2 hkd0 hpe _ _ hsub, Hos_2 (keepW 12 (by decide)) H, frm_refl h⟩
        · rw [eb, if_neg (fun z => z (nI_pos' (by omega)))]
          obtain ⟨h', oc', t1, t2, t3⟩ := move_tie X (d + 6) H p1 p2 hk32
          refine ⟨h', oc', pt, qt, t71_Hosp_take X (d + 1) h hX hz a f n st cn hM h200 P hP hl8 hc1 hHo p p2 hkd0 hpe _ _ (by rw [hbe, eb]; exact t1), Hos_2 ?_ t2, t3⟩
          by_cases c1 : x.2 19 p < 0
          · rw [if_pos c1, if_pos c1]; exact keepW 13 (by decide)
          · rw [if_neg c1, if_neg c1]
            by_cases c2 : ¬ whoF (x.2 19) (nI k) = 0
            · rw [if_pos c2, if_pos c2]; exact keepW 15 (by decide)
            · rw [if_neg c2, if_neg c2]
              unfold jdgW
              rw [if_pos rfl, ms0]
              show (mB _ (upd (x.2 19) (patF (mV x) (mseg x 80 73 68 1)).toNatClampNeg (bedF (mV x) (mseg x 80 86 49 1))) (upd (x.2 18) (patF (mV x) (mseg x 80 73 68 1)).toNatClampNeg 1)).2 = _
              rw [hcl, eb]
              rfl
      · subst q
        have ej : judgeF (mV x) (mseg x) cn (x.2 19) (x.2 18) (mq x) 3 = (if x.2 19 p < 0 then 13 else 0, mq x) := by
          unfold judgeF
          rw [if_neg (by decide), if_neg hp0, if_neg (by decide), if_neg (by decide), if_pos rfl, hcl]
        rw [ej]
        obtain ⟨h', oc', t1, t2, t3⟩ := leave_tie X (d + 6) H p1 p2
        refine ⟨h', oc', pt, qt, t72_Hosp_take X (d + 1) h hX hz a f n st cn hM h200 P hP hl8 hc1 hHo p p2 hkd0 hpe _ _ t1, Hos_2 ?_ t2, t3⟩
        by_cases c1 : x.2 19 p < 0
        · rw [if_pos c1, if_pos c1]; exact keepW 13 (by decide)
        · rw [if_neg c1, if_neg c1]
          unfold jdgW
          rw [if_pos rfl, ms0]
          show va_up x.2 19 (upd (x.2 19) (patF (mV x) (mseg x 80 73 68 1)).toNatClampNeg (-1)) = _
          rw [hcl]
          rfl
      · subst q
        have ej : judgeF (mV x) (mseg x) cn (x.2 19) (x.2 18) (mq x) 8 = (if x.2 18 p = 0 then 16 else 0, mq x) := by
          unfold judgeF
          rw [if_neg (by decide), if_neg hp0, if_neg (by decide), if_neg (by decide), if_neg (by decide), if_pos rfl, hcl]
        rw [ej]
        obtain ⟨h', t1, t2, t3⟩ := rename_tie X d hX hz H p1 p2 ha ha2 hM h200 hP hl8 hz2 (nnF f n P (sT 4) 1 cn) hob4
        refine ⟨h', oc, pt, qt, t73_Hosp_take X (d + 1) h hX hz a f n st cn hM h200 P hP hl8 hc1 hHo p p2 hkd0 hpe _ _ t1, Hos_2 ?_ t2, t3⟩
        by_cases c1 : x.2 18 p = 0
        · rw [if_pos c1, if_pos c1]; exact keepW 16 (by decide)
        · rw [if_neg c1, if_neg c1, hvw _ 2 1 1 hob4 (by decide), hvw _ 2 1 2 hob4 (by decide), ← pid]
          unfold jdgW
          rw [if_pos rfl, ms0]
          show (mnam _ (takeQ (takeQ (mnq x) (mV x (nI (mseg x 80 73 68 1)) 2 1 1) (patF (mV x) (mseg x 80 73 68 1)).toNatClampNeg 0) (mV x (nI (mseg x 80 73 68 1)) 2 1 2) (patF (mV x) (mseg x 80 73 68 1)).toNatClampNeg 1)).2 = _
          rw [hcl]
          rfl
      · subst q
        have ej : judgeF (mV x) (mseg x) cn (x.2 19) (x.2 18) (mq x) 9 = msrF (mV x) (mseg x) cn x p := by
          unfold judgeF msrF
          rw [if_neg (by decide), if_neg hp0, if_neg (by decide), if_neg (by decide), if_neg (by decide), if_neg (by decide), hcl]
        rw [ej]
        have hU : ∀ s r, 1 ≤ s → s ≤ cn → 1 ≤ r → r ≤ 300 → mV x (nI s) 2 (nI r) 1 = txo f n (psR f n P s r) := fun s r s1 s2 r1 r2 => (hvw (some s) 2 (nI r) 1 (fun w hw => by cases hw; omega) (fun z => absurd z.1 (by decide))).symm
        have hC : ∀ s, 1 ≤ s → s ≤ cn → mV x (nI s) 1 1 1 = txo f n (fdo f n P (some s) 1 1 1) := fun s s1 s2 => (hvw (some s) 1 1 1 (fun w hw => by cases hw; omega) (by decide)).symm
        obtain ⟨h', qt', t1, t2, t3⟩ := measure_tie X (d + 1) hX hz H p1 p2 ha ha2 hM h200 hP hl8 hU hC hnn7
        refine ⟨h', oc, pt, qt', t74_Hosp_take X (d + 1) h hX hz a f n st cn hM h200 P hP hl8 hc1 hHo p p2 hkd0 hpe _ _ t1, Hos_2 ?_ t2, t3⟩
        unfold jdgW msrA
        by_cases c1 : (msrF (mV x) (mseg x) cn x p).1 = 0
        · rw [if_pos c1, if_pos c1]
          have ep : (patF (mV (mres x (msrF (mV x) (mseg x) cn x p).2)) (mseg (mres x (msrF (mV x) (mseg x) cn x p).2) 80 73 68 1)).toNatClampNeg = p := hcl
          show (mres _ (copyQ (mq (mres x (msrF (mV x) (mseg x) cn x p).2)) 100 (patF (mV (mres x (msrF (mV x) (mseg x) cn x p).2)) (mseg (mres x (msrF (mV x) (mseg x) cn x p).2) 80 73 68 1)).toNatClampNeg)).2 = _
          rw [ep]
          rfl
        · rw [if_neg c1, if_neg c1]
