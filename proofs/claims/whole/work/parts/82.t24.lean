/-! BOTH: results asked; no code kept is -1 -/
theorem nr_of {h : zH} {ms : zMS} {oc : Nat → Int32} {pt : Nat → Option Nat} {qt : zMe} (hi : ms.2 22 0 = 0) (hh : HosW h ms oc pt qt) : ∀ p, p ≤ 99 → ms.2 22 p = nI ((ms.2 22 p).toNatClampNeg) ∧ (ms.2 22 p).toNatClampNeg ≤ 12 := by
  have key : ∀ p, p ≤ 99 → ∃ n, ms.2 22 p = nI n ∧ n ≤ 12 := by
    intro p hp
    rcases Nat.eq_zero_or_pos p with q | q
    · subst q; exact ⟨0, hi, by decide⟩
    · cases hx : pt p with
      | none => exact ⟨0, (hh.2.2.2.2.2.1 p q hp hx).2.2.2.2, by decide⟩
      | some c =>
        obtain ⟨-, -, -, -, hB, -, -, ⟨z, c3, m3, e3, f3⟩⟩ := hh.2.2.2.2.2.2.1 p c q hp hx
        exact ⟨z.1, e3, m3⟩
  intro p hp
  obtain ⟨n, h1, h2⟩ := key p hp
  rw [h1, nI_clamp (by omega)]
  exact ⟨rfl, h2⟩
theorem res_none {c : Nat → Int32} {code : Int32} {i k : Nat} (h : ∀ j, i ≤ j → j < i + k → ¬ c j = code) : resI c code i k = none := by
  cases hz : resI c code i k with
  | none => rfl
  | some t =>
    obtain ⟨h1, h2, h3⟩ := zfst_some hz
    exact absurd (of_decide_eq_true h3) (h t h1 h2)
theorem a_result {X : zX} {d : Nat} {h : zH} {ms : zMS} (H : Inv h ms) (p a b : Int32) : ask X d 25 154 [.int p, .int a, .int b] h := by
  obtain ⟨hr, hi, hz, h8, sp, la, b', l, oc, pt, qt, hO, -, -, -, -, -, -, -, -, hh⟩ := H
  have hm := e_Mod_result X (d + 10) h ms (fun p => (ms.2 22 p).toNatClampNeg) (nr_of hi.2.2.2.2.2.2.1 hh) p a b
  unfold resQ at hm
  rcases fnd_cases (pt := pt) p with ⟨e1, e2⟩ | ⟨k, k1, k2, e, e1, e2⟩
  · rw [if_neg (fun z => by rw [e1] at z; exact absurd z.1 (by decide))] at hm
    exact ask_of hr (n_B_result X (d + 10) h sp la _ _ hO.1 oc pt hh.1 p e2 a b) hm
  · rw [e] at e1 e2 hm ⊢
    rw [nI_clamp (by omega)] at hm
    cases hp : pt k with
    | none =>
      have h0 := (hh.2.2.2.2.2.1 k k1 k2 hp).2.2.2.2
      have hc := n_B_result X (d + 10) h sp la _ _ hO.1 oc pt hh.1 (nI k) (e2.trans hp) a b
      dsimp only at hm
      rw [h0, show (0 : Int32).toNatClampNeg = 0 from rfl] at hm
      have hq : ∀ cd, resI (ms.2 23) cd (12 * k) 0 = none := fun cd => rfl
      rw [hq] at hm
      dsimp only at hm
      rw [ite_self] at hm
      exact ask_of hr hc hm
    | some c =>
      obtain ⟨-, -, -, -, hB, -, -, ⟨q, c3, m3, e3, f3⟩⟩ := hh.2.2.2.2.2.2.1 k c k1 k2 hp
      have hc := e_B_result X (d + 9) h sp la _ _ hO.1 oc pt hh.1 (nI k) c (e2.trans hp) _ hB q c3 m3 a b
      dsimp only at hm
      rw [e3, nI_clamp (by omega)] at hm
      by_cases hs : zsml a = true ∧ zsml b = true
      · rw [if_pos ⟨e1, hs⟩] at hm
        have ec : codeQ a b = 26 * (a - 97) + b - 97 := if_pos hs
        unfold valR at hc
        rw [ec] at hc
        have es : resI (ms.2 23) (26 * (a - 97) + b - 97) (12 * k + 0) q.1 = (resI q.2.1 (26 * (a - 97) + b - 97) 0 q.1).map (fun t => 12 * k + t) := by
          unfold resI
          exact zfst_shift q.1 0 (fun j _ hj => by rw [(f3 j (by omega)).1])
        rw [Nat.add_zero] at es
        rw [es] at hm
        cases hz' : resI q.2.1 (26 * (a - 97) + b - 97) 0 q.1 with
        | none =>
          rw [hz'] at hm hc
          exact ask_of hr hc hm
        | some t =>
          rw [hz'] at hm hc
          have ht := zfst_some hz'
          have e4 := (f3 t (by omega)).2
          dsimp only [Option.map_some] at hm hc
          rw [← e4] at hm
          exact ask_of hr hc hm
      · rw [if_neg (fun z => hs z.2)] at hm
        have ec : codeQ a b = -1 := if_neg hs
        unfold valR at hc
        rw [ec, res_none (fun j _ hj => by rw [(f3 j (by omega)).1]; exact hi.2.2.2.2.2.2.2 _)] at hc
        exact ask_of hr hc hm
/-- no code is -1 -/
def qNC (q : zQ) : Prop := ∀ i, ¬ q.2.1 i = -1
theorem nc_upd {f : Nat → Int32} (h : ∀ i, ¬ f i = -1) {a : Nat} {v : Int32} (hv : ¬ v = -1) : ∀ i, ¬ upd f a v i = -1 := by
  intro i
  by_cases e : i = a
  · subst e; rw [pk_us]; exact hv
  · rw [pk_un e]; exact h i
theorem nc_copy {q : zQ} (h : qNC q) (a b : Nat) : qNC (copyQ q a b) := by
  intro i
  show ¬ va_cpy q.2.1 q.2.1 (12 * a) (12 * b) 12 i = -1
  unfold va_cpy
  split
  · exact h _
  · exact h _
theorem nc_try {q : zQ} (h : qNC q) {code : Int32} (hc : ¬ code = -1) (v : Int32) : qNC (tryQ q code v).1 := by
  unfold tryQ
  split
  · split
    · split
      · exact h
      · exact nc_upd h hc
    · exact nc_upd h hc
  · split
    · exact h
    · exact nc_upd h (h _)
theorem nc_tryR {V : zV} {s : Nat} (hc : ¬ codeF V s = -1) : ∀ (k r : Nat) (q : zQ × Bool), qNC q.1 → qNC (tryR V s r k q).1 := by
  intro k
  induction k with
  | zero => intro r q h; exact h
  | succ k ih =>
    intro r q h
    rw [tryR]
    refine ih _ _ ?_
    split
    · exact nc_try h hc _
    · exact h
theorem wrR_true (V : zV) (s : Nat) : ∀ (k r : Nat), wrongR V s r k true = true := by
  intro k
  induction k with
  | zero => intro r; rfl
  | succ k ih => intro r; rw [wrongR, Bool.true_or]; exact ih _
theorem wrS_true (V : zV) (S : zSg) (obx : Nat) : ∀ k, wrongS V S obx k true = true := by
  intro k
  cases k with
  | zero => rfl
  | succ k => rw [wrongS, if_pos rfl, ite_self]
theorem nc_tryS {V : zV} {S : zSg} : ∀ (k obx : Nat) (q : zQ × Bool), wrongS V S obx k false = false → qNC q.1 → qNC (tryS V S obx k q).1 := by
  intro k
  induction k with
  | zero => intro obx q _ h; exact h
  | succ k ih =>
    intro obx q hw h
    rw [tryS]
    rw [wrongS] at hw
    by_cases ho : obx = 0
    · rw [if_pos ho]; exact h
    · rw [if_neg ho]
      rw [if_neg ho, if_neg (by decide)] at hw
      cases hq : wrongR V obx 1 (repF V obx) (!decide (0 ≤ codeF V obx)) with
      | true => rw [hq, wrS_true] at hw; cases hw
      | false =>
        rw [hq] at hw
        refine ih _ _ hw (nc_tryR (fun e => ?_) _ _ _ h)
        rw [e, show (!decide ((0 : Int32) ≤ -1)) = true by decide, wrR_true] at hq
        cases hq
theorem nc_tryF {V : zV} {S : zSg} {sg p : Nat} {q : zQ} (hw : wrongF V S sg = false) (h : qNC q) : qNC (tryF V S sg p q).1 := by
  unfold wrongF at hw
  unfold tryF
  by_cases h0 : S 79 66 88 1 = 0
  · rw [h0, tryS, if_pos rfl]
    exact nc_copy h _ _
  · rw [decide_eq_false h0] at hw
    exact nc_tryS _ _ _ hw (nc_copy h _ _)
theorem nc_judge {V : zV} {S : zSg} {sg : Nat} {bed kn : Nat → Int32} {q : zQ} (kd : Nat) (h : qNC q) : qNC (judgeF V S sg bed kn q kd).2 := by
  unfold judgeF
  split
  · exact h
  · split
    · exact h
    · split
      · exact h
      · split
        · exact h
        · split
          · exact h
          · split
            · exact h
            · split
              · exact h
              · split
                · exact h
                · rename_i hw
                  exact nc_tryF (Bool.eq_false_iff.mpr hw) h
theorem nc_act {y : zMS} (kd : Nat) (h : ∀ i, ¬ y.2 23 i = -1) : ∀ i, ¬ (actF y kd).2 23 i = -1 := by
  unfold actF
  dsimp only
  split
  · exact h
  · split
    · exact h
    · split
      · exact h
      · split
        · exact h
        · exact nc_copy (q := mq y) h 100 _
