/-! BOTH: the last identities -/
theorem updL_at (f : Nat → Int64) (i : Nat) (x : Int64) : vp_updL f i x i = x := by
  unfold vp_updL
  exact if_pos rfl
theorem updL_ne {f : Nat → Int64} {i j : Nat} {x : Int64} (h : j ≠ i) : vp_updL f i x j = f j := by
  unfold vp_updL
  exact if_neg h
/-- where the k-th of kp kept identities stands in the ring -/
def slotF (kp o k : Nat) : Nat := if kp < 16 then k else (o + k) % 16
/-- the ring of the class and the rows of the reference hold the same identities -/
def ledR (ids : Nat → Int64) (rs : Nat → Int32) (o : Nat) (nm rr : Nat → Int32) (kp : Nat) (Tx : Nat → zT) : Prop :=
  kp ≤ 16 ∧ o < 16 ∧ (kp < 16 → o = kp) ∧ (∀ k, k < kp → idOk (Tx k) ∧ (∀ j, j < 6 → nm (6 * k + j) = tc (Tx k) j) ∧ ids (slotF kp o k) = idP (Tx k) ∧ rs (slotF kp o k) = rr k) ∧ (kp < 16 → ∀ i, kp ≤ i → i < 16 → ids i = 0) ∧ (∀ j k, j < kp → k < kp → idP (Tx j) = idP (Tx k) → j = k) ∧ (∀ k, k < kp → ∃ r, r < 20 ∧ rr k = nI r)
theorem slot_lt {kp o k : Nat} (hk : k < kp) (hkp : kp ≤ 16) : slotF kp o k < 16 := by
  unfold slotF
  split
  · omega
  · exact Nat.mod_lt _ (by decide)
theorem slot_sur {kp o i : Nat} (ho : o < 16) (hkp : kp = 16) (hi : i < 16) : ∃ k, k < kp ∧ slotF kp o k = i := by
  subst hkp
  unfold slotF
  refine ⟨(i + 16 - o) % 16, Nat.mod_lt _ (by decide), ?_⟩
  rw [if_neg (by decide)]
  omega
theorem same_id {ids : Nat → Int64} {rs : Nat → Int32} {o : Nat} {nm rr : Nat → Int32} {kp : Nat} {Tx : Nat → zT} (h : ledR ids rs o nm rr kp Tx) {t : zT} (ht : idOk t) {k : Nat} (hk : k < kp) : same6 nm t k = true ↔ idP (Tx k) = idP t := by
  obtain ⟨h1, h2, -, -⟩ := h.2.2.2.1 k hk
  rw [same6_iff, ← id_same h1 ht]
  exact ⟨fun q i hi => by rw [← h2 i hi]; exact q i hi, fun q i hi => by rw [h2 i hi]; exact q i hi⟩
/-- an identity is looked up -/
theorem led_look {ids : Nat → Int64} {rs : Nat → Int32} {o : Nat} {nm rr : Nat → Int32} {kp : Nat} {Tx : Nat → zT} (h : ledR ids rs o nm rr kp Tx) {t : zT} (ht : idOk t) : lkR ids rs (zfst (fun i => decide (ids i = idP t)) 0 16) = match zfst (same6 nm t) 0 kp with
    | none => -1
    | some k => rr k := by
  have h1 := h.1
  cases hm : zfst (same6 nm t) 0 kp with
  | some k =>
    obtain ⟨-, hk, hs⟩ := zfst_some hm
    have hk : k < kp := by omega
    have hid := (same_id h ht hk).mp hs
    obtain ⟨-, -, e1, e2⟩ := h.2.2.2.1 k hk
    have hsl := slot_lt (o := o) hk h1
    have hz : zfst (fun i => decide (ids i = idP t)) 0 16 = some (slotF kp o k) := by
      refine zfst_is (by omega) (by omega) (decide_eq_true (e1.trans hid)) (fun j _ hj => decide_eq_false (fun q => ?_))
      -- no other place holds it
      by_cases hk16 : kp < 16
      · by_cases hjk : j < kp
        · obtain ⟨-, -, f1, -⟩ := h.2.2.2.1 j hjk
          have es : slotF kp o j = j := by unfold slotF; rw [if_pos hk16]
          rw [es, q] at f1
          have := h.2.2.2.2.2.1 k j hk hjk (hid.trans f1)
          have es2 : slotF kp o k = k := by unfold slotF; rw [if_pos hk16]
          omega
        · have := h.2.2.2.2.1 hk16 j (by omega) (by omega)
          rw [q] at this
          exact idP_ne ht this
      · obtain ⟨j', hj', es⟩ := slot_sur (kp := kp) (o := o) (i := j) h.2.1 (by omega) (by omega)
        obtain ⟨-, -, f1, -⟩ := h.2.2.2.1 j' hj'
        rw [es, q] at f1
        have := h.2.2.2.2.2.1 k j' hk hj' (hid.trans f1)
        subst this
        omega
    rw [hz]
    exact e2
  | none =>
    have hno : ∀ k, k < kp → ¬ idP (Tx k) = idP t := by
      intro k hk q
      have hs := (same_id h ht hk).mpr q
      have : ∀ (m i : Nat), i ≤ k → k < i + m → zfst (same6 nm t) i m ≠ none := by
        intro m
        induction m with
        | zero => intro i h1 h2; omega
        | succ m ih =>
          intro i h1 h2
          rw [zfst]
          split
          · simp
          · rename_i hp
            refine ih (i + 1) ?_ (by omega)
            rcases Nat.lt_or_ge i k with w | w
            · exact w
            · have : i = k := by omega
              rw [this] at hp
              exact absurd hs hp
      exact this kp 0 (by omega) (by omega) hm
    have hz : zfst (fun i => decide (ids i = idP t)) 0 16 = none := by
      cases hc : zfst (fun i => decide (ids i = idP t)) 0 16 with
      | none => rfl
      | some i =>
        exfalso
        obtain ⟨-, hi, hs⟩ := zfst_some hc
        have hs := of_decide_eq_true hs
        by_cases hk16 : kp < 16
        · by_cases hik : i < kp
          · obtain ⟨-, -, f1, -⟩ := h.2.2.2.1 i hik
            have es : slotF kp o i = i := by unfold slotF; rw [if_pos hk16]
            rw [es, hs] at f1
            exact hno i hik f1.symm
          · have := h.2.2.2.2.1 hk16 i (by omega) (by omega)
            rw [hs] at this
            exact idP_ne ht this
        · obtain ⟨k, hk, es⟩ := slot_sur (kp := kp) (o := o) (i := i) h.2.1 (by omega) (by omega)
          obtain ⟨-, -, f1, -⟩ := h.2.2.2.1 k hk
          rw [es, hs] at f1
          exact hno k hk f1.symm
    rw [hz]
    rfl
/-- one identity more -/
theorem led_add {ids : Nat → Int64} {rs : Nat → Int32} {o : Nat} {ms : zMS} {kp : Nat} {Tx : Nat → zT} (h : ledR ids rs o (ms.2 16) (ms.2 17) kp Tx) {t : zT} (ht : idOk t) (hno : ∀ k, k < kp → ¬ idP (Tx k) = idP t) {r : Nat} (hr : r < 20) : ∃ kp' Tx', (remF ms t kp (nI r)).1 6 = nI kp' ∧ ledR (vp_updL ids o (idP t)) (upd rs o (nI r)) (if o + 1 < 16 then o + 1 else 0) ((remF ms t kp (nI r)).2 16) ((remF ms t kp (nI r)).2 17) kp' Tx' := by
  obtain ⟨h1, h2, h3, h4, h5, h6, h7⟩ := h
  by_cases h16 : kp = 16
  · -- the oldest falls out
    subst h16
    obtain ⟨Tn, t15, tk⟩ : ∃ Tn : Nat → zT, Tn 15 = t ∧ ∀ k, k ≠ 15 → Tn k = Tx (k + 1) := ⟨fun k => if k = 15 then t else Tx (k + 1), if_pos rfl, fun k hk => if_neg hk⟩
    refine ⟨16, Tn, ?_, ?_⟩
    · unfold remF; rw [if_pos rfl]; unfold mkn; dsimp only; exact up_at
    have e16 : (remF ms t 16 (nI r)).2 16 = zpas (va_cpy (ms.2 16) (ms.2 16) 6 0 90) 90 (tc t) 6 := by
      unfold remF; rw [if_pos rfl]; unfold mkn; dsimp only; rw [va_up_ne _ _ (by decide)]; exact up_at
    have e17 : (remF ms t 16 (nI r)).2 17 = upd (va_cpy (ms.2 17) (ms.2 17) 1 0 15) 15 (nI r) := by
      unfold remF; rw [if_pos rfl]; unfold mkn; dsimp only; exact up_at
    rw [e16, e17]
    have hsl : ∀ k, k < 15 → slotF 16 (if o + 1 < 16 then o + 1 else 0) k = slotF 16 o (k + 1) := by
      intro k hk
      unfold slotF
      rw [if_neg (show ¬ (16 : Nat) < 16 by decide), if_neg (show ¬ (16 : Nat) < 16 by decide)]
      split <;> omega
    have hsl15 : slotF 16 (if o + 1 < 16 then o + 1 else 0) 15 = o := by
      unfold slotF
      rw [if_neg (show ¬ (16 : Nat) < 16 by decide)]
      split <;> omega
    have hso : ∀ k, k < 15 → slotF 16 o (k + 1) ≠ o := by
      intro k hk
      unfold slotF
      rw [if_neg (show ¬ (16 : Nat) < 16 by decide)]
      omega
    refine ⟨Nat.le_refl _, by split <;> omega, fun q => absurd q (by decide), fun k hk => ?_, fun q => absurd q (by decide), fun j k hj hk q => ?_, fun k hk => ?_⟩
    · by_cases hk15 : k = 15
      · subst hk15
        rw [t15, hsl15]
        refine ⟨ht, fun j hj => ?_, updL_at _ _ _, pk_us.trans pk_us.symm⟩
        unfold zpas
        rw [if_pos (by omega), show 6 * 15 + j - 90 = j by omega]
      · rw [tk k hk15, hsl k (by omega)]
        obtain ⟨a1, a2, a3, a4⟩ := h4 (k + 1) (by omega)
        refine ⟨a1, fun j hj => ?_, ?_, ?_⟩
        · unfold zpas
          rw [if_neg (by omega), pk_cpy_in (by omega) (by omega), show 6 + (6 * k + j - 0) = 6 * (k + 1) + j by omega]
          exact a2 j hj
        · rw [updL_ne (hso k (by omega))]; exact a3
        · rw [pk_un (hso k (by omega)), pk_un hk15, pk_cpy_in (by omega) (by omega), show 1 + (k - 0) = k + 1 by omega]
          exact a4
    · by_cases hj15 : j = 15
      · by_cases hk15 : k = 15
        · omega
        · rw [hj15, t15, tk k hk15] at q
          exact absurd q.symm (hno (k + 1) (by omega))
      · by_cases hk15 : k = 15
        · rw [tk j hj15, hk15, t15] at q
          exact absurd q (hno (j + 1) (by omega))
        · rw [tk j hj15, tk k hk15] at q
          have := h6 (j + 1) (k + 1) (by omega) (by omega) q
          omega
    · by_cases hk15 : k = 15
      · subst hk15; exact ⟨r, hr, pk_us⟩
      · obtain ⟨w, hw, e⟩ := h7 (k + 1) (by omega)
        refine ⟨w, hw, ?_⟩
        rw [pk_un hk15, pk_cpy_in (by omega) (by omega), show 1 + (k - 0) = k + 1 by omega]
        exact e
  · have hlt : kp < 16 := by omega
    have ho := h3 hlt
    subst ho
    obtain ⟨Tn, to, tk⟩ : ∃ Tn : Nat → zT, Tn o = t ∧ ∀ k, k ≠ o → Tn k = Tx k := ⟨fun k => if k = o then t else Tx k, if_pos rfl, fun k hk => if_neg hk⟩
    refine ⟨o + 1, Tn, ?_, ?_⟩
    · unfold remF; rw [if_neg h16]; unfold mkn; dsimp only; exact up_at
    have e16 : (remF ms t o (nI r)).2 16 = zpas (ms.2 16) (6 * o) (tc t) 6 := by
      unfold remF; rw [if_neg h16]; unfold mkn; dsimp only; rw [va_up_ne _ _ (by decide)]; exact up_at
    have e17 : (remF ms t o (nI r)).2 17 = upd (ms.2 17) o (nI r) := by
      unfold remF; rw [if_neg h16]; unfold mkn; dsimp only; exact up_at
    rw [e16, e17]
    have es0 : ∀ k, slotF o o k = k := fun k => by unfold slotF; rw [if_pos hlt]
    have es1 : ∀ k, k < o + 1 → slotF (o + 1) (if o + 1 < 16 then o + 1 else 0) k = k := by
      intro k hk
      unfold slotF
      by_cases q : o + 1 < 16
      · rw [if_pos q]
      · rw [if_neg q, if_neg q]; omega
    refine ⟨by omega, by split <;> omega, fun q => by rw [if_pos q], fun k hk => ?_, fun q i hi hi2 => ?_, fun j k hj hk q => ?_, fun k hk => ?_⟩
    · rw [es1 k hk]
      by_cases hko : k = o
      · subst hko
        rw [to]
        refine ⟨ht, fun j hj => ?_, updL_at _ _ _, pk_us.trans pk_us.symm⟩
        unfold zpas
        rw [if_pos (by omega), Nat.add_sub_cancel_left]
      · rw [tk k hko]
        obtain ⟨a1, a2, a3, a4⟩ := h4 k (by omega)
        rw [es0] at a3 a4
        refine ⟨a1, fun j hj => ?_, ?_, ?_⟩
        · unfold zpas
          rw [if_neg (by omega)]
          exact a2 j hj
        · rw [updL_ne hko]; exact a3
        · rw [pk_un hko, pk_un hko]; exact a4
    · rw [updL_ne (by omega)]
      exact h5 hlt i (by omega) hi2
    · by_cases hj15 : j = o
      · by_cases hk15 : k = o
        · omega
        · rw [hj15, to, tk k hk15] at q
          exact absurd q.symm (hno k (by omega))
      · by_cases hk15 : k = o
        · rw [tk j hj15, hk15, to] at q
          exact absurd q (hno j (by omega))
        · rw [tk j hj15, tk k hk15] at q
          exact h6 j k (by omega) (by omega) q
    · by_cases hko : k = o
      · subst hko; exact ⟨r, hr, pk_us⟩
      · obtain ⟨w, hw, e⟩ := h7 k (by omega)
        exact ⟨w, hw, by rw [pk_un hko]; exact e⟩
