/-! THE REFERENCE: rejecting a frame -/
theorem now_pos {F : Nat → Int32} {n k : Nat} (h : ¬ nowF F n k = 0) : k < n := by
  rcases Nat.lt_or_ge k n with q | q
  · exact q
  · exact absurd (if_neg (by omega)) h
theorem esc_len {F S : Nat → Int32} {n a : Nat} {z : Int32 × Nat} (h3 : ¬ S 3 = 0) (h : escF F n S a = some z) : a + z.2 ≤ n ∧ 0 < z.2 := by
  unfold escF at h
  split at h
  · split at h
    · rename_i q; cases h; exact ⟨q.1, by simp⟩
    · cases h
  · split at h
    · rename_i q
      cases h
      have q := of_decide_eq_true q
      have := now_pos (F := F) (n := n) (k := a + 4) (by rw [q.2.2.2.1]; exact h3)
      exact ⟨by show a + 5 ≤ n; omega, by simp⟩
    · cases h
theorem body_end {F S : Nat → Int32} {n : Nat} (h3 : ¬ S 3 = 0) : ∀ (q a : Nat) (p : List zG × Nat), a ≤ n → n ≤ a + q → bodyF F n S q a = some p → p.2 ≤ n ∧ (p.2 = n ∨ F p.2 = 13) := by
  intro q
  induction q with
  | zero => intro a p ha hq h; cases h; exact ⟨ha, Or.inl (by simp only; omega)⟩
  | succ q ih =>
    intro a p ha hq h
    rw [bodyF] at h
    split at h
    · rename_i hA
      split at h
      · split at h
        · cases h
        · rename_i z hz
          have hw := esc_len h3 hz
          cases hb : bodyF F n S q (a + z.2) with
          | none => rw [hb] at h; cases h
          | some y =>
            rw [hb] at h
            cases h
            exact ih (a + z.2) y hw.1 (by omega) hb
      · split at h
        · cases hb : bodyF F n S q (a + 1) with
          | none => rw [hb] at h; cases h
          | some y =>
            rw [hb] at h
            cases h
            exact ih (a + 1) y (by omega) (by omega) hb
        · cases hb : bodyF F n S q (a + 1) with
          | none => rw [hb] at h; cases h
          | some y =>
            rw [hb] at h
            cases h
            exact ih (a + 1) y (by omega) (by omega) hb
    · rename_i hA
      cases h
      refine ⟨ha, ?_⟩
      rcases Nat.lt_or_ge a n with q | q
      · exact Or.inr (Decidable.byContradiction fun z => hA ⟨q, z⟩)
      · exact Or.inl (by simp only; omega)
theorem rest_end {F S : Nat → Int32} {n a : Nat} {p : List zG × Nat} (h3 : ¬ S 3 = 0) (ha : a ≤ n) (h : restF F n S a = some p) : p.2 ≤ n ∧ (p.2 = n ∨ F p.2 = 13) := by
  unfold restF at h
  split at h
  · rename_i q
    cases h
    refine ⟨ha, ?_⟩
    rcases q with q | q
    · exact Or.inl (by simp only; omega)
    · exact Or.inr q
  · split at h
    · exact body_end h3 n a p ha (by omega) h
    · cases h
theorem nameOk_len {F : Nat → Int32} {n a : Nat} (h : nameOk F n a = true) : a + 3 ≤ n := by
  have : ¬ nowF F n (a + 2) = 0 := by
    intro q
    unfold nameOk at h
    rw [q, show zcap 0 = false from rfl, show zdig 0 = false from rfl] at h
    simp at h
  have := now_pos this
  omega
theorem segs_len {F S : Nat → Int32} {n : Nat} (h3 : ¬ S 3 = 0) : ∀ (q e sg : Nat) (l : List zSeg), e ≤ n → segsF F n S q e = some l → (entA sg l).length + (flat (entA sg l)).length + 4 * l.length + e ≤ n := by
  intro q
  induction q with
  | zero => intro e sg l he h; cases h; simpa [entA, flat] using he
  | succ q ih =>
    intro e sg l he h
    rw [segsF] at h
    split at h
    · split at h
      · rename_i hO
        have hnl := nameOk_len hO
        split at h
        · cases h
        · rename_i p hp
          have h1 := rest_len hp
          have h2 := rest_end h3 (by omega) hp
          cases hs : segsF F n S q p.2 with
          | none => rw [hs] at h; cases h
          | some y =>
            rw [hs] at h
            cases h
            have h4 := ih p.2 (sg + 1) y h2.1 hs
            have h5 := ent_len sg p.1 (0, 1, 1, 1)
            rw [entA, flat_app, List.length_append, List.length_append, List.length_cons]
            dsimp only
            omega
      · cases h
    · cases h; simpa [entA, flat] using he
theorem msg_len {F S : Nat → Int32} {n : Nat} {l : List zSeg} (h3 : ¬ S 3 = 0) (h8 : 8 ≤ n) (h : msgF F n S = some l) : (entA 1 l).length + (flat (entA 1 l)).length + 4 * l.length + 4 ≤ n ∧ 1 ≤ l.length := by
  unfold msgF at h
  split at h
  · cases h
  · rename_i p hp
    have h1 := rest_len hp
    have h2 := rest_end h3 h8 hp
    cases hs : segsF F n S n p.2 with
    | none => rw [hs] at h; cases h
    | some y =>
      rw [hs] at h
      cases h
      have h4 := segs_len h3 n p.2 (1 + 1) y h2.1 hs
      have h5 := ent_len 1 p.1 (0, 1, 1, 1)
      rw [entA, flat_app, List.length_append, List.length_append, List.length_cons]
      dsimp only
      omega
theorem mpar_beg (ms : zMS) : mpar ms (mbeg ms) := by
  have hr : ∀ k, k ≠ 2 → k ≠ 3 → k ≠ 4 → k ≠ 13 → (mbeg ms).2 k = ms.2 k := by
    intro k h1 h2 h3 h4
    show va_up (va_up (va_up (va_up ms.2 2 _) 3 _) 4 _) 13 _ k = _
    rw [va_up_ne _ _ h4, va_up_ne _ _ h3, va_up_ne _ _ h2, va_up_ne _ _ h1]
  refine ⟨fun k hk => va_up_ne _ _ hk, fun k hk => hr k (by omega) (by omega) (by omega) (by omega), ?_, ?_, ?_, ?_, ?_, ?_⟩
  · intro k h1 h2 i hi
    rcases (show k = 2 ∨ k = 3 ∨ k = 4 by omega) with rfl | rfl | rfl <;> exact pk_un hi
  · intro k h1 h2 i hi
    rw [hr k (by omega) (by omega) (by omega) (by omega)]
  · intro i hi
    rw [hr 12 (by omega) (by omega) (by omega) (by omega)]
  · intro i hi
    show upd (upd (upd (ms.2 13) 0 72) 1 68) 2 82 i = _
    rw [pk_un (by omega), pk_un (by omega), pk_un (by omega)]
  · intro h i
    rw [hr 12 (by omega) (by omega) (by omega) (by omega)]; exact h i
  · intro h i
    show zch (upd (upd (upd (ms.2 13) 0 72) 1 68) 2 82 i)
    by_cases h1 : i = 2
    · subst h1; rw [pk_us]; exact zch_n (q := 82) (by decide)
    · rw [pk_un h1]
      by_cases h2 : i = 1
      · subst h2; rw [pk_us]; exact zch_n (q := 68) (by decide)
      · rw [pk_un h2]
        by_cases h3 : i = 0
        · subst h3; rw [pk_us]; exact zch_n (q := 72) (by decide)
        · rw [pk_un h3]; exact h i
theorem mpar_sep {ms ms' : zMS} (h : mpar ms ms') (S : Nat → Int32) (v : Int32) : mpar (msep ms S) (va_up ms'.1 1 v, va_up ms'.2 14 S) := by
  have e1 : ∀ k, k ≠ 14 → (msep ms S).2 k = ms.2 k := fun k hk => va_up_ne _ _ hk
  have e2 : ∀ k, k ≠ 14 → va_up ms'.2 14 S k = ms'.2 k := fun k hk => va_up_ne _ _ hk
  refine ⟨fun k hk => (va_up_ne _ _ hk).trans (h.n k hk), fun k hk => ?_, fun k p q i hi => ?_, fun k p q i hi => ?_, fun i hi => ?_, fun i hi => ?_, fun z i => ?_, fun z i => ?_⟩
  · by_cases h14 : k = 14
    · subst h14; rfl
    · rw [e1 k h14]; exact (e2 k h14).trans (h.r k hk)
  · rw [e1 k (by omega)]; exact (congrFun (e2 k (by omega)) i).trans (h.a k p q i hi)
  · rw [e1 k (by omega)]; exact (congrFun (e2 k (by omega)) i).trans (h.b k p q i hi)
  · rw [e1 12 (by omega)]; exact h.l i hi
  · rw [e1 13 (by omega)]; exact h.m i hi
  · rw [e1 12 (by omega)] at z; exact h.cl z i
  · rw [e1 13 (by omega)] at z; exact h.cm z i
theorem okL_true {f : Nat → Int32} {k : Nat} : ∀ (m i : Nat) (ok : Bool), okL f k i m ok = true → ok = true ∧ ∀ j, i ≤ j → j < i + m → ¬ f j = f k := by
  intro m
  induction m with
  | zero => intro i ok h; exact ⟨h, fun j h1 h2 => absurd h2 (by omega)⟩
  | succ m ih =>
    intro i ok h
    rw [okL] at h
    obtain ⟨h1, h2⟩ := ih _ _ h
    simp only [Bool.and_eq_true, Bool.not_eq_true', decide_eq_false_iff_not] at h1
    refine ⟨h1.1, fun j p q => ?_⟩
    by_cases e : j = i
    · rw [e]; exact h1.2
    · exact h2 j (by omega) (by omega)
theorem fitL_true {f : Nat → Int32} : ∀ (m k : Nat) (ok : Bool), fitL f k m ok = true → ok = true ∧ ∀ j, k ≤ j → j < k + m → prop1 (f j) = true ∧ ∀ i, i < j → ¬ f i = f j := by
  intro m
  induction m with
  | zero => intro i ok h; exact ⟨h, fun j h1 h2 => absurd h2 (by omega)⟩
  | succ m ih =>
    intro k ok h
    rw [fitL] at h
    obtain ⟨h1, h2⟩ := ih _ _ h
    obtain ⟨h3, h4⟩ := okL_true _ _ _ h1
    simp only [Bool.and_eq_true] at h3
    refine ⟨h3.1, fun j p q => ?_⟩
    by_cases e : j = k
    · subst e
      exact ⟨h3.2, fun i hi => h4 i (by omega) (by omega)⟩
    · exact h2 j (by omega) (by omega)
/-- what proper separators are -/
theorem fitF_true {f : Nat → Int32} (h : fitF f = true) (j : Nat) (hj : j < 5) : prop1 (f j) = true ∧ ∀ i, i < j → ¬ f i = f j := (fitL_true 5 0 true h).2 j (by omega) (by omega)
theorem prop1_ne {c : Int32} (h : prop1 c = true) : ¬ c = 0 ∧ ¬ c = 13 ∧ zch c ∧ ∃ x, 33 ≤ x ∧ x ≤ 126 ∧ c = nI x := by
  unfold prop1 at h
  simp only [Bool.and_eq_true, Bool.not_eq_true', decide_eq_false_iff_not] at h
  obtain ⟨x, h1, h2, e⟩ := i32_rng (c := c) (a := 33) (b := 126) (m := 33) (n := 126) rfl rfl (by decide) (by decide) h.1 h.2.1
  refine ⟨?_, ?_, by rw [e]; exact zch_n (by omega), x, h1, h2, e⟩
  · rw [e, show (0 : Int32) = nI 0 from rfl, nI_eq (by omega) (by decide)]; omega
  · rw [e, show (13 : Int32) = nI 13 from rfl, nI_eq (by omega) (by decide)]; omega
theorem e_Mod_apart (X : zX) (d : Nat) (g : zH) (ms : zMS) (F S : Nat → Int32) (n : Nat) (hn : n ≤ 200) (h8 : 8 ≤ n) (hc : ∀ i, zch (F i)) (hS : ∀ k, k < 5 → zch (S k)) (hp13 : ¬ S 0 = 13) (hp3 : ¬ S 0 = S 3) (h33 : ¬ S 3 = 0) (hF : ms.2 1 = F) (hSe : ms.2 14 = S) (h0 : ms.1 0 = nI n) (h1 : ms.1 1 = nI 8) (hT : mTab ms []) (hN : mNam ms [72, 68, 82] 1) : ∃ b ms', zR X (d + 5) 107 0 (zent 2 [.ref 129]) [] (mset g ms) (some (.int (zb b)), mset g ms') ∧ mpar ms ms' ∧ (match msgF F n S with
    | none => b = false
    | some l => b = true ∧ mTab ms' (entA 1 l) ∧ mNam ms' (nmA l) l.length) := by
  obtain ⟨b1, ms1, hR, hp1, hq1, hm1⟩ := e_Mod_rest X d g ms F S n 1 hn hc hS hp13 hp3 8 [] hF hSe h0 h1 hN.1 (by omega) hT (by simp) (by simp [flat])
  unfold msgF
  cases hr : restF F n S 8 with
  | none =>
    rw [hr] at hm1
    have hb : b1 = false := hm1
    subst hb
    refine ⟨false, ms1, ?_, hp1, rfl⟩
    refine zr_aload_n i_Mod_apart_0 rfl ?_
    refine zr_cv0 i_Mod_apart_1 rfl (by decide) rfl (Nat.le_of_ble_eq_true rfl) (Nat.le_of_ble_eq_true rfl) (hR) ?_
    refine zB_if_ne 9 i_Mod_apart_4 (by decide) (fun q => absurd q (by decide)) (fun _ => ?_)
    refine zr_iconst i_Mod_apart_7 (v := 0) (by decide) ?_
    exact zR.retE i_Mod_apart_8 rfl rfl
  | some p =>
    rw [hr] at hm1
    obtain ⟨hb, hat, htb⟩ := hm1
    subst hb
    have hpl := rest_len hr
    have hpe := rest_end h33 h8 hr
    have hel := ent_len 1 p.1 (0, 1, 1, 1)
    have e1 : ms1.2 1 = F := (hp1.r 1 (by omega)).trans hF
    have e2 : ms1.2 14 = S := (hp1.r 14 (by omega)).trans hSe
    have e3 : ms1.1 0 = nI n := (hp1.n 0 (by omega)).trans h0
    obtain ⟨b, ms2, hR2, hp, hm⟩ := l_Mod_apart X d g F S n hn hc hS hp13 hp3 n ms1 p.2 1 ([] ++ (entF 1 (0, 1, 1, 1) p.1).2) [72, 68, 82] none (by omega) e1 e2 e3 hat htb (mNam_par hN hq1.1 hq1.2) (by rw [List.nil_append]; omega) (by rw [List.nil_append]; omega) (by omega) (by omega)
    refine ⟨b, ms2, ?_, hp1.trans hp, ?_⟩
    · skip
      refine zr_aload_n i_Mod_apart_0 rfl ?_
      refine zr_cv0 i_Mod_apart_1 rfl (by decide) rfl (Nat.le_of_ble_eq_true rfl) (Nat.le_of_ble_eq_true rfl) (hR) ?_
      refine zB_if_ne 9 i_Mod_apart_4 (by decide) (fun _ => ?_) (fun q => absurd q (by decide))
      exact hR2
    · dsimp only
      cases hsg : segsF F n S n p.2 with
      | none => rw [hsg] at hm; exact hm
      | some l =>
        rw [hsg] at hm
        obtain ⟨m1, m2, m3⟩ := hm
        refine ⟨m1, ?_, ?_⟩
        · rw [List.nil_append] at m2
          exact m2
        · have e4 : nmA (([72, 68, 82], p.1) :: l) = [72, 68, 82] ++ nmA l := rfl
          rw [e4, List.length_cons, Nat.add_comm l.length 1]
          exact m3
theorem i_Mod_reject_0 : zins 99 0 = some (.aload_n 0) := by decide +kernel
theorem i_Mod_reject_1 : zins 99 1 = some (.invokevirtual 190) := by decide +kernel
theorem i_Mod_reject_4 : zins 99 4 = some (.ifCond .ne 5) := by decide +kernel
theorem i_Mod_reject_7 : zins 99 7 = some (.iconst 1) := by decide +kernel
theorem i_Mod_reject_8 : zins 99 8 = some (.ireturn) := by decide +kernel
theorem i_Mod_reject_9 : zins 99 9 = some (.aload_n 0) := by decide +kernel
theorem i_Mod_reject_10 : zins 99 10 = some (.invokevirtual 193) := by decide +kernel
theorem i_Mod_reject_13 : zins 99 13 = some (.ifCond .ne 5) := by decide +kernel
theorem i_Mod_reject_16 : zins 99 16 = some (.iconst 2) := by decide +kernel
theorem i_Mod_reject_17 : zins 99 17 = some (.ireturn) := by decide +kernel
theorem i_Mod_reject_18 : zins 99 18 = some (.aload_n 0) := by decide +kernel
theorem i_Mod_reject_19 : zins 99 19 = some (.invokevirtual 196) := by decide +kernel
theorem i_Mod_reject_22 : zins 99 22 = some (.ifCond .ne 5) := by decide +kernel
theorem i_Mod_reject_25 : zins 99 25 = some (.iconst 3) := by decide +kernel
theorem i_Mod_reject_26 : zins 99 26 = some (.ireturn) := by decide +kernel
theorem i_Mod_reject_27 : zins 99 27 = some (.aload_n 0) := by decide +kernel
theorem i_Mod_reject_28 : zins 99 28 = some (.getfield 13) := by decide +kernel
theorem i_Mod_reject_31 : zins 99 31 = some (.iconst 0) := by decide +kernel
theorem i_Mod_reject_32 : zins 99 32 = some (.iaload) := by decide +kernel
theorem i_Mod_reject_33 : zins 99 33 = some (.bipush 8) := by decide +kernel
theorem i_Mod_reject_35 : zins 99 35 = some (.if_icmp .le 7) := by decide +kernel
theorem i_Mod_reject_38 : zins 99 38 = some (.iconst 4) := by decide +kernel
theorem i_Mod_reject_39 : zins 99 39 = some (.goto 15) := by decide +kernel
theorem i_Mod_reject_42 : zins 99 42 = some (.aload_n 0) := by decide +kernel
theorem i_Mod_reject_43 : zins 99 43 = some (.invokevirtual 199) := by decide +kernel
theorem i_Mod_reject_46 : zins 99 46 = some (.ifCond .eq 7) := by decide +kernel
theorem i_Mod_reject_49 : zins 99 49 = some (.iconst 0) := by decide +kernel
theorem i_Mod_reject_50 : zins 99 50 = some (.goto 4) := by decide +kernel
theorem i_Mod_reject_53 : zins 99 53 = some (.iconst 5) := by decide +kernel
theorem i_Mod_reject_54 : zins 99 54 = some (.ireturn) := by decide +kernel
/-- why a frame is rejected, 0 where it isn't -/
def rejF (F : Nat → Int32) (n : Nat) (S : Nat → Int32) : Nat := if headF F n = false then 1 else if fitF S = false then 2 else match msgF F n S with
  | none => 3
  | some l => if 8 < l.length then 4 else if idF (vE (entA 1 l)) = true then 0 else 5
theorem e_Mod_reject (X : zX) (d : Nat) (g : zH) (ms : zMS) (n : Nat) (h0 : ms.1 0 = nI n) (hn : n ≤ 200) (hc : ∀ i, zch (ms.2 1 i)) (hC12 : ∀ i, zch (ms.2 12 i)) : ∃ ms', zR X (d + 6) 99 0 (zent 1 [.ref 129]) [] (mset g ms) (some (.int (nI (rejF (ms.2 1) n (sepF (ms.2 1) n (ms.2 14))))), mset g ms') ∧ (∃ S', mpar (msep ms S') ms') ∧ (rejF (ms.2 1) n (sepF (ms.2 1) n (ms.2 14)) = 0 → ms'.2 14 = (sepF (ms.2 1) n (ms.2 14)) ∧ fitF (sepF (ms.2 1) n (ms.2 14)) = true ∧ 8 ≤ n ∧ ∃ l, msgF (ms.2 1) n (sepF (ms.2 1) n (ms.2 14)) = some l ∧ l.length ≤ 8 ∧ idF (vE (entA 1 l)) = true ∧ mTab ms' (entA 1 l) ∧ mNam ms' (nmA l) l.length) := by
  by_cases hH : headF (ms.2 1) n = true
  · by_cases hf : fitF (sepF (ms.2 1) n (ms.2 14)) = true
    · have hprop : ∀ k, k < 5 → prop1 ((sepF (ms.2 1) n (ms.2 14)) k) = true := fun k hk => (fitF_true hf k hk).1
      have hSz : ∀ k, k < 5 → zch ((sepF (ms.2 1) n (ms.2 14)) k) := fun k hk => (prop1_ne (hprop k hk)).2.2.1
      have h33 := (prop1_ne (hprop 3 (by decide))).1
      have hp13 := (prop1_ne (hprop 0 (by decide))).2.1
      have hp3 : ¬ (sepF (ms.2 1) n (ms.2 14)) 0 = (sepF (ms.2 1) n (ms.2 14)) 3 := (fitF_true hf 3 (by decide)).2 0 (by decide)
      have h8 : 8 ≤ n := by
        have := now_pos (F := ms.2 1) (n := n) (k := 3 + 4) (prop1_ne (hprop 4 (by decide))).1
        omega
      have hN : mNam (va_up (mbeg ms).1 1 8, va_up (mbeg ms).2 14 (sepF (ms.2 1) n (ms.2 14))) [72, 68, 82] 1 := by
        refine ⟨rfl, rfl, fun i x hx => ?_⟩
        rcases (show i = 0 ∨ i = 1 ∨ i = 2 ∨ 3 ≤ i by omega) with rfl | rfl | rfl | hi
        · cases hx; rfl
        · cases hx; rfl
        · cases hx; rfl
        · rw [List.getElem?_eq_none (by simpa using hi)] at hx; cases hx
      have hT : mTab (va_up (mbeg ms).1 1 8, va_up (mbeg ms).2 14 (sepF (ms.2 1) n (ms.2 14))) [] := ⟨rfl, rfl, fun t e he => (by simp at he), fun i x hx => (by simp [flat] at hx)⟩
      obtain ⟨b, ms3, hR, hp, hm⟩ := e_Mod_apart X d g (va_up (mbeg ms).1 1 8, va_up (mbeg ms).2 14 (sepF (ms.2 1) n (ms.2 14))) (ms.2 1) (sepF (ms.2 1) n (ms.2 14)) n hn h8 hc hSz hp13 hp3 h33 rfl rfl h0 rfl hT hN
      have hpp : mpar (msep ms (sepF (ms.2 1) n (ms.2 14))) ms3 := (mpar_sep (mpar_beg ms) (sepF (ms.2 1) n (ms.2 14)) 8).trans hp
      cases hmsg : msgF (ms.2 1) n (sepF (ms.2 1) n (ms.2 14)) with
      | none =>
        rw [hmsg] at hm
        have hb : b = false := hm
        subst hb
        have hrej : rejF (ms.2 1) n (sepF (ms.2 1) n (ms.2 14)) = 3 := by unfold rejF; rw [hH, hf, hmsg]; rfl
        refine ⟨ms3, ?_, ⟨_, hpp⟩, fun q => by rw [hrej] at q; cases q⟩
        refine zr_aload_n i_Mod_reject_0 rfl ?_
        refine zr_cv0 i_Mod_reject_1 rfl (by decide) rfl (Nat.le_of_ble_eq_true rfl) (Nat.le_of_ble_eq_true rfl) (e_Mod_begin X _ g ms n h0 hn) ?_
        refine zB_if_ne 9 i_Mod_reject_4 (by decide) (fun _ => ?_) (fun q => absurd ((hH).symm.trans q) (by decide))
        refine zr_aload_n i_Mod_reject_9 rfl ?_
        refine zr_cv0 i_Mod_reject_10 rfl (by decide) rfl (Nat.le_of_ble_eq_true rfl) (Nat.le_of_ble_eq_true rfl) (e_Mod_readSeparators X _ g (mbeg ms) n h0 hn rfl hc) ?_
        refine zB_if_ne 18 i_Mod_reject_13 (by decide) (fun _ => ?_) (fun q => absurd ((hf).symm.trans q) (by decide))
        refine zr_aload_n i_Mod_reject_18 rfl ?_
        refine zr_cv0 i_Mod_reject_19 rfl (by decide) rfl (Nat.le_of_ble_eq_true rfl) (Nat.le_of_ble_eq_true rfl) (hR) ?_
        refine zB_if_ne 27 i_Mod_reject_22 (by decide) (fun q => absurd q (by decide)) (fun _ => ?_)
        refine zr_iconst i_Mod_reject_25 (v := 3) (by decide) ?_
        exact zR.retE i_Mod_reject_26 rfl (by rw [hrej]; rfl)
      | some l =>
        rw [hmsg] at hm
        obtain ⟨hb, m2, m3⟩ := hm
        subst hb
        have hlen := msg_len h33 h8 hmsg
        have hC : ∀ i, zch (ms3.2 12 i) := hpp.cl hC12
        have hTV := mTab_TV m2 hC (by omega) (by omega)
        have hV := mV_tab m2 hC (by omega) (by omega)
        have e14 : ms3.2 14 = (sepF (ms.2 1) n (ms.2 14)) := hp.r 14 (by omega)
        by_cases h9 : 8 < l.length
        · have hrej : rejF (ms.2 1) n (sepF (ms.2 1) n (ms.2 14)) = 4 := by unfold rejF; rw [hH, hf, hmsg]; exact if_pos h9
          refine ⟨ms3, ?_, ⟨_, hpp⟩, fun q => by rw [hrej] at q; cases q⟩
          refine zr_aload_n i_Mod_reject_0 rfl ?_
          refine zr_cv0 i_Mod_reject_1 rfl (by decide) rfl (Nat.le_of_ble_eq_true rfl) (Nat.le_of_ble_eq_true rfl) (e_Mod_begin X _ g ms n h0 hn) ?_
          refine zB_if_ne 9 i_Mod_reject_4 (by decide) (fun _ => ?_) (fun q => absurd ((hH).symm.trans q) (by decide))
          refine zr_aload_n i_Mod_reject_9 rfl ?_
          refine zr_cv0 i_Mod_reject_10 rfl (by decide) rfl (Nat.le_of_ble_eq_true rfl) (Nat.le_of_ble_eq_true rfl) (e_Mod_readSeparators X _ g (mbeg ms) n h0 hn rfl hc) ?_
          refine zB_if_ne 18 i_Mod_reject_13 (by decide) (fun _ => ?_) (fun q => absurd ((hf).symm.trans q) (by decide))
          refine zr_aload_n i_Mod_reject_18 rfl ?_
          refine zr_cv0 i_Mod_reject_19 rfl (by decide) rfl (Nat.le_of_ble_eq_true rfl) (Nat.le_of_ble_eq_true rfl) (hR) ?_
          refine zB_if_ne 27 i_Mod_reject_22 (by decide) (fun _ => ?_) (fun q => absurd q (by decide))
          refine zr_aload_n i_Mod_reject_27 rfl ?_
          refine zr_getf i_Mod_reject_28 rfl rfl rfl ?_
          refine zn_iconst 0 i_Mod_reject_31 (by decide) ?_
          refine zn_iaload i_Mod_reject_32 rfl (by omega) (by decide) ?_
          refine zr_top (y := nI l.length) m3.1 ?_
          refine zn_bipush 8 i_Mod_reject_33 (by decide) ?_
          refine zn_icmp_le 42 i_Mod_reject_35 (by decide) (by omega) (by omega) (fun q => absurd q (by omega)) (fun c_35 => ?_)
          refine zr_iconst i_Mod_reject_38 (v := 4) (by decide) ?_
          refine zr_goto 54 i_Mod_reject_39 (by decide) ?_
          exact zR.retE i_Mod_reject_54 rfl (by rw [hrej]; rfl)
        · cases hid : idF (vE (entA 1 l)) with
          | true =>
            have hrej : rejF (ms.2 1) n (sepF (ms.2 1) n (ms.2 14)) = 0 := by unfold rejF; rw [hH, hf, hmsg]; exact (if_neg h9).trans (if_pos hid)
            refine ⟨ms3, ?_, ⟨_, hpp⟩, fun _ => ⟨e14, hf, h8, l, rfl, by omega, hid, m2, m3⟩⟩
            refine zr_aload_n i_Mod_reject_0 rfl ?_
            refine zr_cv0 i_Mod_reject_1 rfl (by decide) rfl (Nat.le_of_ble_eq_true rfl) (Nat.le_of_ble_eq_true rfl) (e_Mod_begin X _ g ms n h0 hn) ?_
            refine zB_if_ne 9 i_Mod_reject_4 (by decide) (fun _ => ?_) (fun q => absurd ((hH).symm.trans q) (by decide))
            refine zr_aload_n i_Mod_reject_9 rfl ?_
            refine zr_cv0 i_Mod_reject_10 rfl (by decide) rfl (Nat.le_of_ble_eq_true rfl) (Nat.le_of_ble_eq_true rfl) (e_Mod_readSeparators X _ g (mbeg ms) n h0 hn rfl hc) ?_
            refine zB_if_ne 18 i_Mod_reject_13 (by decide) (fun _ => ?_) (fun q => absurd ((hf).symm.trans q) (by decide))
            refine zr_aload_n i_Mod_reject_18 rfl ?_
            refine zr_cv0 i_Mod_reject_19 rfl (by decide) rfl (Nat.le_of_ble_eq_true rfl) (Nat.le_of_ble_eq_true rfl) (hR) ?_
            refine zB_if_ne 27 i_Mod_reject_22 (by decide) (fun _ => ?_) (fun q => absurd q (by decide))
            refine zr_aload_n i_Mod_reject_27 rfl ?_
            refine zr_getf i_Mod_reject_28 rfl rfl rfl ?_
            refine zn_iconst 0 i_Mod_reject_31 (by decide) ?_
            refine zn_iaload i_Mod_reject_32 rfl (by omega) (by decide) ?_
            refine zr_top (y := nI l.length) m3.1 ?_
            refine zn_bipush 8 i_Mod_reject_33 (by decide) ?_
            refine zn_icmp_le 42 i_Mod_reject_35 (by decide) (by omega) (by omega) (fun c_35 => ?_) (fun q => absurd q (by omega))
            refine zr_aload_n i_Mod_reject_42 rfl ?_
            refine zr_cv0 i_Mod_reject_43 rfl (by decide) rfl (Nat.le_of_ble_eq_true rfl) (Nat.le_of_ble_eq_true rfl) (e_Mod_hasIdentity X _ g ms3 _ hTV) ?_
            refine zB_if_eq 53 i_Mod_reject_46 (by decide) (fun q => absurd q (by rw [hV, hid]; decide)) (fun _ => ?_)
            refine zr_iconst i_Mod_reject_49 (v := 0) (by decide) ?_
            refine zr_goto 54 i_Mod_reject_50 (by decide) ?_
            exact zR.retE i_Mod_reject_54 rfl (by rw [hrej]; rfl)
          | false =>
            have hrej : rejF (ms.2 1) n (sepF (ms.2 1) n (ms.2 14)) = 5 := by unfold rejF; rw [hH, hf, hmsg]; exact (if_neg h9).trans (if_neg (by rw [hid]; decide))
            refine ⟨ms3, ?_, ⟨_, hpp⟩, fun q => by rw [hrej] at q; cases q⟩
            refine zr_aload_n i_Mod_reject_0 rfl ?_
            refine zr_cv0 i_Mod_reject_1 rfl (by decide) rfl (Nat.le_of_ble_eq_true rfl) (Nat.le_of_ble_eq_true rfl) (e_Mod_begin X _ g ms n h0 hn) ?_
            refine zB_if_ne 9 i_Mod_reject_4 (by decide) (fun _ => ?_) (fun q => absurd ((hH).symm.trans q) (by decide))
            refine zr_aload_n i_Mod_reject_9 rfl ?_
            refine zr_cv0 i_Mod_reject_10 rfl (by decide) rfl (Nat.le_of_ble_eq_true rfl) (Nat.le_of_ble_eq_true rfl) (e_Mod_readSeparators X _ g (mbeg ms) n h0 hn rfl hc) ?_
            refine zB_if_ne 18 i_Mod_reject_13 (by decide) (fun _ => ?_) (fun q => absurd ((hf).symm.trans q) (by decide))
            refine zr_aload_n i_Mod_reject_18 rfl ?_
            refine zr_cv0 i_Mod_reject_19 rfl (by decide) rfl (Nat.le_of_ble_eq_true rfl) (Nat.le_of_ble_eq_true rfl) (hR) ?_
            refine zB_if_ne 27 i_Mod_reject_22 (by decide) (fun _ => ?_) (fun q => absurd q (by decide))
            refine zr_aload_n i_Mod_reject_27 rfl ?_
            refine zr_getf i_Mod_reject_28 rfl rfl rfl ?_
            refine zn_iconst 0 i_Mod_reject_31 (by decide) ?_
            refine zn_iaload i_Mod_reject_32 rfl (by omega) (by decide) ?_
            refine zr_top (y := nI l.length) m3.1 ?_
            refine zn_bipush 8 i_Mod_reject_33 (by decide) ?_
            refine zn_icmp_le 42 i_Mod_reject_35 (by decide) (by omega) (by omega) (fun c_35 => ?_) (fun q => absurd q (by omega))
            refine zr_aload_n i_Mod_reject_42 rfl ?_
            refine zr_cv0 i_Mod_reject_43 rfl (by decide) rfl (Nat.le_of_ble_eq_true rfl) (Nat.le_of_ble_eq_true rfl) (e_Mod_hasIdentity X _ g ms3 _ hTV) ?_
            refine zB_if_eq 53 i_Mod_reject_46 (by decide) (fun _ => ?_) (fun q => absurd q (by rw [hV, hid]; decide))
            refine zr_iconst i_Mod_reject_53 (v := 5) (by decide) ?_
            exact zR.retE i_Mod_reject_54 rfl (by rw [hrej]; rfl)
    · have hf' : fitF (sepF (ms.2 1) n (ms.2 14)) = false := Bool.eq_false_iff.mpr hf
      have hrej : rejF (ms.2 1) n (sepF (ms.2 1) n (ms.2 14)) = 2 := by unfold rejF; rw [hH, hf']; rfl
      refine ⟨(va_up (mbeg ms).1 1 8, va_up (mbeg ms).2 14 (sepF (ms.2 1) n (ms.2 14))), ?_, ⟨_, mpar_sep (mpar_beg ms) (sepF (ms.2 1) n (ms.2 14)) 8⟩, fun q => by rw [hrej] at q; cases q⟩
      refine zr_aload_n i_Mod_reject_0 rfl ?_
      refine zr_cv0 i_Mod_reject_1 rfl (by decide) rfl (Nat.le_of_ble_eq_true rfl) (Nat.le_of_ble_eq_true rfl) (e_Mod_begin X _ g ms n h0 hn) ?_
      refine zB_if_ne 9 i_Mod_reject_4 (by decide) (fun _ => ?_) (fun q => absurd ((hH).symm.trans q) (by decide))
      refine zr_aload_n i_Mod_reject_9 rfl ?_
      refine zr_cv0 i_Mod_reject_10 rfl (by decide) rfl (Nat.le_of_ble_eq_true rfl) (Nat.le_of_ble_eq_true rfl) (e_Mod_readSeparators X _ g (mbeg ms) n h0 hn rfl hc) ?_
      refine zB_if_ne 18 i_Mod_reject_13 (by decide) (fun q => absurd ((hf').symm.trans q) (by decide)) (fun _ => ?_)
      refine zr_iconst i_Mod_reject_16 (v := 2) (by decide) ?_
      exact zR.retE i_Mod_reject_17 rfl (by rw [hrej]; rfl)
  · have hH' : headF (ms.2 1) n = false := Bool.eq_false_iff.mpr hH
    have hrej : rejF (ms.2 1) n (sepF (ms.2 1) n (ms.2 14)) = 1 := by unfold rejF; rw [hH']; rfl
    refine ⟨mbeg ms, ?_, ⟨ms.2 14, by rw [msep_self]; exact mpar_beg ms⟩, fun q => by rw [hrej] at q; cases q⟩
    refine zr_aload_n i_Mod_reject_0 rfl ?_
    refine zr_cv0 i_Mod_reject_1 rfl (by decide) rfl (Nat.le_of_ble_eq_true rfl) (Nat.le_of_ble_eq_true rfl) (e_Mod_begin X _ g ms n h0 hn) ?_
    refine zB_if_ne 9 i_Mod_reject_4 (by decide) (fun q => absurd ((hH').symm.trans q) (by decide)) (fun _ => ?_)
    refine zr_iconst i_Mod_reject_7 (v := 1) (by decide) ?_
    exact zR.retE i_Mod_reject_8 rfl (by rw [hrej]; rfl)
