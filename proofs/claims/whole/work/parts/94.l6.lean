/-! THE START: the constants -/
def zAd (b base : Nat) (fS : Nat → Nat × Nat) (fE : Nat → Nat) (tK tM tF a : Nat) : Nat := if a = 0 then b else if a < 40 then (fS (a - 1)).1 else if a < 70 then (fS (a - 40)).2 else if a < 75 then fE (a - 70) else if a = 75 then tK else if a = 76 then tM else if a < 100 then tF else base + (a - 100)
section ZAD
variable {b base : Nat} {fS : Nat → Nat × Nat} {fE : Nat → Nat} {tK tM tF : Nat}
theorem zAd_S {i : Nat} (hi : i < 21) : zAd b base fS fE tK tM tF (i + 1) = (fS i).1 := by
  unfold zAd
  rw [if_neg (by omega), if_pos (by omega), Nat.add_sub_cancel]
theorem zAd_V {i : Nat} (hi : i < 21) : zAd b base fS fE tK tM tF (40 + i) = (fS i).2 := by
  unfold zAd
  rw [if_neg (by omega), if_neg (by omega), if_pos (by omega), Nat.add_sub_cancel_left]
theorem zAd_E {i : Nat} (hi : i < 5) : zAd b base fS fE tK tM tF (70 + i) = fE i := by
  unfold zAd
  rw [if_neg (by omega), if_neg (by omega), if_neg (by omega), if_pos (by omega), Nat.add_sub_cancel_left]
theorem zAd_K : zAd b base fS fE tK tM tF 75 = tK := rfl
theorem zAd_M : zAd b base fS fE tK tM tF 76 = tM := rfl
theorem zAd_F : zAd b base fS fE tK tM tF 77 = tF := rfl
theorem zAd_n {i : Nat} : zAd b base fS fE tK tM tF (zK + i) = base + i := by
  show zAd b base fS fE tK tM tF (100 + i) = base + i
  unfold zAd
  rw [if_neg (by omega), if_neg (by omega), if_neg (by omega), if_neg (by omega), if_neg (by omega), if_neg (by omega), if_neg (by omega), Nat.add_sub_cancel_left]
end ZAD
theorem zT_cong {ty : FieldType} {t N : Nat} {f g : Nat → Value} {A : Nat → Prop} {U : State} {H : Heap} (h : va_T ty t N f A U H) (e : ∀ j, j < N → f j = g j) : va_T ty t N g A U H := by
  obtain ⟨cell, h1, h2, h3, h4, h5, h6, h7⟩ := h
  exact ⟨cell, h1, h2, h3, h4, h5, fun j hj => by rw [← e j hj]; exact h6 j hj, h7⟩
theorem zenv_of {s : State} {b L : Nat} {xs : Nat → Int32} (hnar : ∀ c ∈ flatC (Jvm.Cond.and given_1 narrow_1), c.before #[Value.ref b] s = true) (hts : ∀ w ∈ lw_tbl, w.before #[Value.ref b] s = true) (hX : va_X b L xs s s.heap) (hbl : b < s.heap.size) : ∃ (D : va_G) (cA : Nat → ClassId) (ad : Nat → Nat) (v : Value), v.category = 1 ∧ ad 0 = b ∧ zENV s D cA ad s.heap.size (L, xs, v) := by
  have hA : ∀ a : Nat, a < s.heap.size → ¬ zA s.heap.size a := fun a h => Nat.not_le.mpr h
  obtain ⟨D, cA, hK⟩ := zK_of (fun w hw => hts w (List.mem_filter.mp hw).1) (hts _ ztw_byte) (hts _ ztw_over)
  have h0 : ∀ i : Nat, ∃ q : Nat × Nat, i < 21 → zSat #[Value.ref b] s (zStm i) (zbyt (40 + i)) (zA s.heap.size) q := by
    intro i
    by_cases hi : i < 21
    · obtain ⟨q, hq⟩ := zstr_of ((show ∀ i : Fin 21, (zbyt (40 + i.val)).length < 2 ^ 31 by decide +kernel) ⟨i, hi⟩) (fun w hw => hnar w (zsn i hi w hw)) hA
      exact ⟨q, fun _ => hq⟩
    · exact ⟨(0, 0), fun h => absurd h hi⟩
  obtain ⟨fS, hS⟩ := Classical.axiomOfChoice h0
  have h1 : ∀ i : Nat, ∃ a : Nat, i < 5 → (zEt i).eval #[Value.ref b] s none [] s = some (.ref a) ∧ va_O "BedMessages$Kind" a (zA s.heap.size) s s.heap := by
    intro i
    by_cases hi : i < 5
    · obtain ⟨a, c, cC, kC, q1, q2, q3, q4, q5, q6, -⟩ := Cond.exactly_spec (args := #[Value.ref b]) (first := s) (o := none) (s := s) (idx := []) (t := zEt i) (cls := "BedMessages$Kind") (hnar _ (zne_ex i hi))
      exact ⟨a, fun _ => ⟨q1, cC, q3, q5, by rw [q6]; exact q2, hA a (Array.getElem?_eq_some_iff.mp q3).1⟩⟩
    · exact ⟨0, fun h => absurd h hi⟩
  obtain ⟨fE, hEn⟩ := Classical.axiomOfChoice h1
  obtain ⟨tK, hK1, hK2⟩ := va_Tof (tm := zKt) (ty := .object "BedMessages$Kind") (N := 5) (f := fun j => .ref (fE j)) (A := zA s.heap.size) (by decide) (hnar _ zno_ka) (va_eqt (hnar _ zno_kl)) (fun j hj => va_eqv (hnar _ (zne_ke j hj)) (hEn j hj).1) hA
  obtain ⟨tM, hM1, hM2⟩ := va_Tof (tm := zMt) (ty := .int) (N := 5) (f := fun j => .int (zSw.getD j 0)) (A := zA s.heap.size) (by decide) (hnar _ zno_ma) (va_eqt (hnar _ zno_ml)) (fun j hj => va_eqt (hnar _ (zne_me j hj))) hA
  have hF : ∃ (tF : Nat) (v : Value), v.category = 1 ∧ ∀ ad : Nat → Nat, ad 77 = tF → va_Z "jdk/internal/util/Preconditions" "SIOOBE_FORMATTER" "Ljava/util/function/BiFunction;" (zv ad v) (zA s.heap.size) s s.heap := by
    rcases va_Zqof (A := zA s.heap.size) (hts _ ztl_fm) (hts _ zti_fm) (hnar _ zno_fm) hA with h | ⟨t, h⟩
    · exact ⟨0, .null, rfl, fun ad _ => h⟩
    · refine ⟨t, .ref 77, rfl, fun ad e => ?_⟩
      show va_Z _ _ _ (.ref (ad 77)) _ _ _
      rw [e]
      exact h
  obtain ⟨tF, v, hv, hF⟩ := hF
  have had : ∃ ad : Nat → Nat, ad 0 = b ∧ (∀ i, i < 21 → ad (i + 1) = (fS i).1) ∧ (∀ i, i < 21 → ad (40 + i) = (fS i).2) ∧ (∀ i, i < 5 → ad (70 + i) = fE i) ∧ ad 75 = tK ∧ ad 76 = tM ∧ ad 77 = tF ∧ ∀ i, ad (zK + i) = s.heap.size + i := ⟨zAd b s.heap.size fS fE tK tM tF, rfl, fun i hi => zAd_S hi, fun i hi => zAd_V hi, fun i hi => zAd_E hi, zAd_K, zAd_M, zAd_F, fun i => zAd_n⟩
  obtain ⟨ad, ad0, adS, adV, adE, adK, adM, adF, adn⟩ := had
  have eS : ∀ i, i < 21 → (zStm i).eval #[Value.ref b] s none [] s = some (.ref (ad (i + 1))) := fun i hi => by rw [adS i hi]; exact (hS i hi).1
  have oS : ∀ i, i < 21 → va_O "java/lang/String" (ad (i + 1)) (zA s.heap.size) s s.heap := fun i hi => by rw [adS i hi]; exact (hS i hi).2.1
  have cS : ∀ i, i < 21 → va_OF "java/lang/String" "coder" "B" (.int 0) (ad (i + 1)) (zA s.heap.size) s s.heap := fun i hi => by rw [adS i hi]; exact (hS i hi).2.2.1
  have vS : ∀ i, i < 21 → va_OF "java/lang/String" "value" "[B" (.ref (ad (40 + i))) (ad (i + 1)) (zA s.heap.size) s s.heap := fun i hi => by rw [adS i hi, adV i hi]; exact (hS i hi).2.2.2.1
  have tS : ∀ i, i < 21 → va_T .byte (ad (40 + i)) (zbyt (40 + i)).length (fun j => .int ((zbyt (40 + i)).getD j 0)) (zA s.heap.size) s s.heap := fun i hi => by rw [adV i hi]; exact (hS i hi).2.2.2.2
  have oE : ∀ i, i < 5 → va_O "BedMessages$Kind" (ad (70 + i)) (zA s.heap.size) s s.heap := fun i hi => by rw [adE i hi]; exact (hEn i hi).2
  have gE : ∀ i, i < 5 → va_OF "BedMessages$Kind" "group" "Ljava/lang/String;" (.ref (ad (zEg i + 1))) (ad (70 + i)) (zA s.heap.size) s s.heap := fun i hi => by
    rw [adE i hi]
    exact vk_OFof (hEn i hi).1 (va_eqv (hnar _ (zne_gr i hi)) (eS _ ((show ∀ i : Fin 5, zEg i.val < 21 by decide) ⟨i, hi⟩))) hA
  have fE2 : ∀ i, i < 5 → va_OF "BedMessages$Kind" "event" "Ljava/lang/String;" (.ref (ad (zEv i + 1))) (ad (70 + i)) (zA s.heap.size) s s.heap := fun i hi => by
    rw [adE i hi]
    exact vk_OFof (hEn i hi).1 (va_eqv (hnar _ (zne_ev i hi)) (eS _ ((show ∀ i : Fin 5, zEv i.val < 21 by decide) ⟨i, hi⟩))) hA
  have rE : ∀ i, i < 5 → va_OF "java/lang/Enum" "ordinal" "I" (.int (Int32.ofNat i)) (ad (70 + i)) (zA s.heap.size) s s.heap := fun i hi => by
    rw [adE i hi]
    exact vk_OFof (hEn i hi).1 (va_eqt (hnar _ (zne_or i hi))) hA
  refine ⟨D, cA, ad, v, hv, ad0, fun q hq => va_Nw.of rfl (hts _ (znF_in q hq)), fun q hq => va_Nw.of rfl (hts _ (znM_in q hq)), hK, adn, Nat.le_refl _, ?_, ?_, ?_, ?_, ?_, va_AO.of (hts _ ztw_over)⟩
  · refine List.forall_mem_cons.mpr ⟨va_Zof (hts _ ztl_cs) (hts _ zti_cs) (va_eqi (hnar _ zno_cs)) hA, List.forall_mem_cons.mpr ⟨?_, List.forall_mem_cons.mpr ⟨?_, List.forall_mem_cons.mpr ⟨hF ad adF, fun _ h => absurd h List.not_mem_nil⟩⟩⟩⟩
    · show va_Z _ _ _ (.ref (ad 75)) _ _ _
      rw [adK]
      exact va_Zof (hts _ ztl_ki) (hts _ zti_ki) hK1 hA
    · show va_Z _ _ _ (.ref (ad 76)) _ _ _
      rw [adM]
      exact va_Zof (hts _ ztl_sw) (hts _ zti_sw) hM1 hA
  · exact List.forall_mem_cons.mpr ⟨vS 0 (by decide), List.forall_mem_cons.mpr ⟨cS 0 (by decide), List.forall_mem_cons.mpr ⟨vS 1 (by decide), List.forall_mem_cons.mpr ⟨cS 1 (by decide), List.forall_mem_cons.mpr ⟨vS 2 (by decide), List.forall_mem_cons.mpr ⟨cS 2 (by decide), List.forall_mem_cons.mpr ⟨vS 3 (by decide), List.forall_mem_cons.mpr ⟨cS 3 (by decide), List.forall_mem_cons.mpr ⟨vS 4 (by decide), List.forall_mem_cons.mpr ⟨cS 4 (by decide), List.forall_mem_cons.mpr ⟨vS 5 (by decide), List.forall_mem_cons.mpr ⟨cS 5 (by decide), List.forall_mem_cons.mpr ⟨vS 6 (by decide), List.forall_mem_cons.mpr ⟨cS 6 (by decide), List.forall_mem_cons.mpr ⟨vS 7 (by decide), List.forall_mem_cons.mpr ⟨cS 7 (by decide), List.forall_mem_cons.mpr ⟨vS 8 (by decide), List.forall_mem_cons.mpr ⟨cS 8 (by decide), List.forall_mem_cons.mpr ⟨vS 9 (by decide), List.forall_mem_cons.mpr ⟨cS 9 (by decide), List.forall_mem_cons.mpr ⟨vS 10 (by decide), List.forall_mem_cons.mpr ⟨cS 10 (by decide), List.forall_mem_cons.mpr ⟨vS 11 (by decide), List.forall_mem_cons.mpr ⟨cS 11 (by decide), List.forall_mem_cons.mpr ⟨vS 12 (by decide), List.forall_mem_cons.mpr ⟨cS 12 (by decide), List.forall_mem_cons.mpr ⟨vS 13 (by decide), List.forall_mem_cons.mpr ⟨cS 13 (by decide), List.forall_mem_cons.mpr ⟨vS 14 (by decide), List.forall_mem_cons.mpr ⟨cS 14 (by decide), List.forall_mem_cons.mpr ⟨vS 15 (by decide), List.forall_mem_cons.mpr ⟨cS 15 (by decide), List.forall_mem_cons.mpr ⟨vS 16 (by decide), List.forall_mem_cons.mpr ⟨cS 16 (by decide), List.forall_mem_cons.mpr ⟨vS 17 (by decide), List.forall_mem_cons.mpr ⟨cS 17 (by decide), List.forall_mem_cons.mpr ⟨vS 18 (by decide), List.forall_mem_cons.mpr ⟨cS 18 (by decide), List.forall_mem_cons.mpr ⟨vS 19 (by decide), List.forall_mem_cons.mpr ⟨cS 19 (by decide), List.forall_mem_cons.mpr ⟨vS 20 (by decide), List.forall_mem_cons.mpr ⟨cS 20 (by decide), List.forall_mem_cons.mpr ⟨gE 0 (by decide), List.forall_mem_cons.mpr ⟨fE2 0 (by decide), List.forall_mem_cons.mpr ⟨rE 0 (by decide), List.forall_mem_cons.mpr ⟨gE 1 (by decide), List.forall_mem_cons.mpr ⟨fE2 1 (by decide), List.forall_mem_cons.mpr ⟨rE 1 (by decide), List.forall_mem_cons.mpr ⟨gE 2 (by decide), List.forall_mem_cons.mpr ⟨fE2 2 (by decide), List.forall_mem_cons.mpr ⟨rE 2 (by decide), List.forall_mem_cons.mpr ⟨gE 3 (by decide), List.forall_mem_cons.mpr ⟨fE2 3 (by decide), List.forall_mem_cons.mpr ⟨rE 3 (by decide), List.forall_mem_cons.mpr ⟨gE 4 (by decide), List.forall_mem_cons.mpr ⟨fE2 4 (by decide), List.forall_mem_cons.mpr ⟨rE 4 (by decide), fun _ h => absurd h List.not_mem_nil⟩⟩⟩⟩⟩⟩⟩⟩⟩⟩⟩⟩⟩⟩⟩⟩⟩⟩⟩⟩⟩⟩⟩⟩⟩⟩⟩⟩⟩⟩⟩⟩⟩⟩⟩⟩⟩⟩⟩⟩⟩⟩⟩⟩⟩⟩⟩⟩⟩⟩⟩⟩⟩⟩⟩⟩⟩
  · exact List.forall_mem_cons.mpr ⟨oS 0 (by decide), List.forall_mem_cons.mpr ⟨oS 1 (by decide), List.forall_mem_cons.mpr ⟨oS 2 (by decide), List.forall_mem_cons.mpr ⟨oS 3 (by decide), List.forall_mem_cons.mpr ⟨oS 4 (by decide), List.forall_mem_cons.mpr ⟨oS 5 (by decide), List.forall_mem_cons.mpr ⟨oS 6 (by decide), List.forall_mem_cons.mpr ⟨oS 7 (by decide), List.forall_mem_cons.mpr ⟨oS 8 (by decide), List.forall_mem_cons.mpr ⟨oS 9 (by decide), List.forall_mem_cons.mpr ⟨oS 10 (by decide), List.forall_mem_cons.mpr ⟨oS 11 (by decide), List.forall_mem_cons.mpr ⟨oS 12 (by decide), List.forall_mem_cons.mpr ⟨oS 13 (by decide), List.forall_mem_cons.mpr ⟨oS 14 (by decide), List.forall_mem_cons.mpr ⟨oS 15 (by decide), List.forall_mem_cons.mpr ⟨oS 16 (by decide), List.forall_mem_cons.mpr ⟨oS 17 (by decide), List.forall_mem_cons.mpr ⟨oS 18 (by decide), List.forall_mem_cons.mpr ⟨oS 19 (by decide), List.forall_mem_cons.mpr ⟨oS 20 (by decide), List.forall_mem_cons.mpr ⟨oE 0 (by decide), List.forall_mem_cons.mpr ⟨oE 1 (by decide), List.forall_mem_cons.mpr ⟨oE 2 (by decide), List.forall_mem_cons.mpr ⟨oE 3 (by decide), List.forall_mem_cons.mpr ⟨oE 4 (by decide), fun _ h => absurd h List.not_mem_nil⟩⟩⟩⟩⟩⟩⟩⟩⟩⟩⟩⟩⟩⟩⟩⟩⟩⟩⟩⟩⟩⟩⟩⟩⟩⟩
  · intro a t n f h
    unfold zka at h
    split at h
    · rename_i ha
      subst ha
      cases h
      have := zX_T (A := zA s.heap.size) hX (hA b hbl)
      rw [← ad0] at this
      exact this
    · split at h
      · rename_i ha
        subst ha
        cases h
        rw [adK]
        exact zT_cong hK2 (fun j hj => by show Value.ref (fE j) = .ref (ad (70 + j)); rw [adE j hj])
      · split at h
        · rename_i ha
          subst ha
          cases h
          rw [adM]
          exact hM2
        · split at h
          · rename_i ha
            obtain ⟨i, rfl⟩ : ∃ i, a = 40 + i := ⟨a - 40, by omega⟩
            cases h
            exact tS i (by omega)
          · cases h
  · exact List.forall_mem_cons.mpr ⟨vk_R.of (hts _ zts_2_25) (eS 0 (by decide)), List.forall_mem_cons.mpr ⟨vk_R.of (hts _ zts_2_95) (eS 1 (by decide)), List.forall_mem_cons.mpr ⟨vk_R.of (hts _ zts_2_102) (eS 2 (by decide)), List.forall_mem_cons.mpr ⟨vk_R.of (hts _ zts_3_34) (eS 3 (by decide)), List.forall_mem_cons.mpr ⟨vk_R.of (hts _ zts_3_135) (eS 4 (by decide)), List.forall_mem_cons.mpr ⟨vk_R.of (hts _ zts_3_156) (eS 5 (by decide)), List.forall_mem_cons.mpr ⟨vk_R.of (hts _ zts_3_109) (eS 6 (by decide)), List.forall_mem_cons.mpr ⟨vk_R.of (hts _ zts_0_194) (va_eqR (hnar _ zno_s0_194) (eS 0 (by decide))), List.forall_mem_cons.mpr ⟨vk_R.of (hts _ zts_0_207) (eS 7 (by decide)), List.forall_mem_cons.mpr ⟨vk_R.of (hts _ zts_0_215) (eS 8 (by decide)), List.forall_mem_cons.mpr ⟨vk_R.of (hts _ zts_0_217) (eS 9 (by decide)), List.forall_mem_cons.mpr ⟨vk_R.of (hts _ zts_0_219) (eS 10 (by decide)), List.forall_mem_cons.mpr ⟨vk_R.of (hts _ zts_0_221) (eS 11 (by decide)), List.forall_mem_cons.mpr ⟨vk_R.of (hts _ zts_0_223) (eS 12 (by decide)), List.forall_mem_cons.mpr ⟨vk_R.of (hts _ zts_0_225) (eS 13 (by decide)), List.forall_mem_cons.mpr ⟨vk_R.of (hts _ zts_6_93) (va_eqR (hnar _ zno_s6_93) (eS 0 (by decide))), List.forall_mem_cons.mpr ⟨vk_R.of (hts _ zts_5_33) (va_eqR (hnar _ zno_s5_33) (eS 1 (by decide))), List.forall_mem_cons.mpr ⟨vk_R.of (hts _ zts_14_46) (eS 14 (by decide)), List.forall_mem_cons.mpr ⟨vk_R.of (hts _ zts_14_48) (eS 15 (by decide)), List.forall_mem_cons.mpr ⟨vk_R.of (hts _ zts_14_54) (eS 16 (by decide)), List.forall_mem_cons.mpr ⟨vk_R.of (hts _ zts_14_57) (eS 17 (by decide)), List.forall_mem_cons.mpr ⟨vk_R.of (hts _ zts_14_60) (eS 18 (by decide)), List.forall_mem_cons.mpr ⟨vk_R.of (hts _ zts_14_63) (eS 19 (by decide)), List.forall_mem_cons.mpr ⟨vk_R.of (hts _ zts_14_65) (eS 20 (by decide)), fun _ h => absurd h List.not_mem_nil⟩⟩⟩⟩⟩⟩⟩⟩⟩⟩⟩⟩⟩⟩⟩⟩⟩⟩⟩⟩⟩⟩⟩⟩
