/-! THE LAW: its start -/
theorem low_BM : zlow hBM := fun a ha => Option.isNone_iff_eq_none.mp ((show ∀ a : Fin 100, (hBM.2.2 a.val).isNone = true by decide +kernel) ⟨a, ha⟩)
/-- the heap behind both constructors -/
def hS0 (S : Nat) : zH := mset (56, S, hBM.2.2) (msI 100)
theorem hS0_at {S a : Nat} {c : Option zC} (ha : a < 129) (e : hBM.2.2 a = c) : (hS0 S).2.2 a = c := (mset_out (Or.inl ha)).trans e
theorem msI_0 {k : Nat} (hk : k ≠ 19) : (msI 100).2 k = fun _ => 0 := by
  show va_up (fun (_ _ : Nat) => (0 : Int32)) 19 (zpas (fun _ => 0) 0 (fun _ => -1) 100) k = fun _ => 0
  exact va_up_ne _ _ hk
theorem msI_19 {p : Nat} (hp : p < 100) : (msI 100).2 19 p = -1 := by
  have e : (msI 100).2 19 = zpas (fun _ => 0) 0 (fun _ => -1) 100 := by
    show va_up (fun (_ _ : Nat) => (0 : Int32)) 19 (zpas (fun _ => 0) 0 (fun _ => -1) 100) 19 = _
    exact up_at
  rw [e]
  unfold zpas
  rw [if_pos (by omega)]
theorem msI_n (k : Nat) : (msI 100).1 k = 0 := rfl
theorem MI_0 : MI (msI 100) := by
  refine ⟨fun i => ?_, fun i => ?_, fun i => ?_, fun i => ?_, ?_, ?_, ?_, fun i => ?_⟩
  · rw [msI_0 (by decide)]; exact zch_0
  · rw [msI_0 (by decide)]; exact zch_0
  · rw [msI_0 (by decide)]; exact zch_0
  · rw [msI_0 (by decide)]; exact zch_0
  · rw [msI_0 (by decide)]
  · rw [msI_0 (by decide)]
  · rw [msI_0 (by decide)]
  · rw [msI_0 (by decide)]
    show ¬ (0 : Int32) = -1
    decide
theorem mKp_0 : mKp (msI 100) [] := by
  refine ⟨?_, ⟨?_, by decide, fun t h1 h2 => ?_⟩, ?_, fun i x h => ?_, ⟨?_, by decide, fun t e h => ?_⟩, fun s h => ?_, fun s h => ?_⟩
  · rw [msI_0 (by decide)]; rfl
  · rw [msI_0 (by decide)]; rfl
  · exact absurd h2 (by show ¬ t < 220 * 1 + 0; omega)
  · funext s f r c
    show mtx (msI 100) (mfind (msI 100) 1 s f r c) = none
    rw [mtx_none]
    unfold mfind
    rw [msI_0 (by decide)]
    rfl
  · cases h
  · rw [msI_0 (by decide)]; rfl
  · cases h
  · cases h
  · cases h
theorem bed_0 : bedR (fun _ => 0) ((msI 100).2 19) := by
  refine ⟨fun p _ p2 => Or.inl (msI_19 (by omega)), fun k hk => Or.inl ⟨rfl, fun p p1 p2 => ?_⟩, ?_⟩
  · rw [msI_19 (by omega)]
    exact (show ∀ k : Fin 32, ¬ (-1 : Int32) = nI k.val by decide +kernel) ⟨k, hk⟩
  · have e : ∀ (m i : Nat), i + m ≤ 100 → cntP (fun p => !decide ((msI 100).2 19 p < 0)) i m = 0 := by
      intro m
      induction m with
      | zero => intro i _; rfl
      | succ m ih =>
        intro i hi
        rw [cntP, ih (i + 1) (by omega), msI_19 (by omega)]
        rfl
    rw [e 99 1 (by omega)]
    rfl
theorem Inv_0 (S : Nat) : Inv (hS0 S) (msI 100) := by
  refine ⟨RP_mset _ _, MI_0, fun a ha => hS0_at (by omega) (low_BM a ha), (show 56 % 8 = 0 from rfl), 119, 124, false, [], fun _ => 0, fun _ => none, (0, fun _ => 0, fun _ => 0), ⟨hS0_at (by decide) ?_, rfl, Or.inl ⟨rfl, rfl⟩⟩, ⟨0, (msI 100).2 1, ⟨hS0_at (by decide) rfl, hS0_at (by decide) rfl, hS0_at (by decide) ?_⟩, by decide, rfl, rfl, fun i hi => absurd hi (by omega)⟩, ⟨0, fun _ => 0, ⟨hS0_at (by decide) rfl, hS0_at (by decide) rfl⟩, by decide, rfl, fun i hi => absurd hi (by omega)⟩, ⟨0, fun _ => 0, ⟨hS0_at (by decide) rfl, hS0_at (by decide) rfl⟩, by decide, rfl, fun i hi => absurd hi (by omega)⟩, ⟨fun _ => 0, hS0_at (by decide) rfl, hS0_at (by decide) rfl⟩, ⟨⟨fun _ => 0, 0, fun _ => 0, 0, hS0_at (by decide) rfl, hS0_at (by decide) rfl, hS0_at (by decide) rfl⟩, fun _ => 0, hS0_at (by decide) rfl, hS0_at (by decide) rfl⟩, ⟨⟨fun _ => 0, fun _ => 0, ⟨hS0_at (by decide) rfl, hS0_at (by decide) rfl, hS0_at (by decide) rfl⟩, fun i x h => (by cases h), by decide, by decide, fun s h => (by cases h), fun i h => absurd h (by simp)⟩, fun _ => 0, hS0_at (by decide) rfl, hS0_at (by decide) rfl⟩, mKp_0, ?_, ?_⟩
  · rw [if_pos (msI_n 2)]
    rfl
  · rw [msI_0 (by decide)]
    rfl
  · refine ⟨fun _ => 0, fun _ => 0, 0, 0, fun _ => none, ⟨hS0_at (by decide) rfl, hS0_at (by decide) rfl, hS0_at (by decide) rfl⟩, rfl, by decide, by decide, fun _ => rfl, fun k hk => absurd hk (by omega), fun _ i _ _ => rfl, fun j k hj => absurd hj (by omega), fun k hk => absurd hk (by omega)⟩
  · refine ⟨⟨hS0_at (by decide) rfl, hS0_at (by decide) rfl, hS0_at (by decide) rfl⟩, ⟨hS0_at (by decide) rfl, hS0_at (by decide) rfl, hS0_at (by decide) rfl⟩, by decide, Nat.le_refl _, bed_0, fun p p1 p2 _ => ⟨?_, msI_19 (by omega), ?_, ?_, ?_⟩, fun p b _ _ h => (by cases h), fun p p' b _ _ _ _ h => (by cases h)⟩
    · rw [msI_0 (by decide)]
    · rw [msI_0 (by decide)]
    · rw [msI_0 (by decide)]
    · rw [msI_0 (by decide)]
theorem law_start (X : zX) (d : Nat) (u : Option Value × zH) (K : zR X (d + 13) 176 18 [some (.ref 0), some (.ref 100), some (.ref 129), some (.int (nI 0))] [] (hS0 (hBM.2.1 + 34 + 11197)) u) : zR X (d + 13) 176 0 (zent 4 [.ref 0]) [] (0, 0, fun _ => none) u := by
  refine zr_new i_law_0 rfl rfl rfl ?_
  show zR X _ 176 3 _ (.ref 100 :: _) hb1 _
  refine zr_dup i_law_3 rfl ?_
  refine zr_ci00 i_law_4 rfl (by decide) (Nat.le_of_ble_eq_true rfl) (Nat.le_of_ble_eq_true rfl) (e_B_init X _) ?_
  refine zr_astore_n i_law_7 rfl ?_
  refine zr_new i_law_8 rfl rfl rfl ?_
  refine zr_dup i_law_11 rfl ?_
  show zR X _ 176 12 _ (.ref 129 :: .ref 129 :: _) (hI 30 (hBM.2.1 + 34) hBM.2.2 (zdef 9)) _
  refine zr_ci00 i_law_12 rfl (by decide) (Nat.le_of_ble_eq_true rfl) (Nat.le_of_ble_eq_true rfl) (e_Mod_init X _ _ _) ?_
  refine zr_astore_n i_law_15 rfl ?_
  refine zn_iconst 0 i_law_16 (by decide) ?_
  refine zr_istore_n i_law_17 rfl ?_
  exact K
theorem law_short (X : zX) (d : Nat) (h : zH) (hz : zlow h) (hn : X.1 < 6) : zR X d 176 18 [some (.ref 0), some (.ref 100), some (.ref 129), some (.int (nI 0))] [] h (some (.int 1), h) := by
  refine zr_iload_n i_law_18 rfl ?_
  refine zr_aload_n i_law_19 rfl ?_
  refine zr_lenK (v := nI X.1) (t := 0) (n := X.1) (f := fun j => .int (X.2.1 j)) i_law_20 (hz 0 (by decide)) rfl rfl ?_
  refine zr_bipush i_law_21 (v := 6) (by decide) ?_
  refine zr_isub i_law_23 ?_
  have hl : nI X.1 - 6 < nI 0 := (show ∀ k : Fin 6, nI k.val - 6 < nI 0 by decide +kernel) ⟨X.1, hn⟩
  refine zr_icmp_gt 627 i_law_24 (by decide) (fun _ => ?_) (fun q => absurd hl q)
  refine zr_iconst i_law_627 (v := 1) (by decide) ?_
  exact zR.retE i_law_628 rfl rfl
theorem law_all (X : zX) (d : Nat) (hX : X.2.2.category = 1) (hn : X.1 ≤ 3072) : ∃ h', zR X (d + 13) 176 0 (zent 4 [.ref 0]) [] (0, 0, fun _ => none) (some (.int 1), h') ∧ h'.1 ≤ 600000 ∧ h'.2.1 ≤ 7302250 := by
  have hB : hBM.2.1 ≤ 100000 := by decide +kernel
  have k0 : ∀ B, B ≤ 100000 → B + 34 + 11197 ≤ 7302250 := fun B h => by omega
  have k9 : ∀ B x : Nat, B ≤ 100000 → x ≤ B + 34 + 11197 + 59 * 512 → x ≤ 7302250 := fun B x h h2 => by omega
  rcases Nat.lt_or_ge X.1 6 with h6 | h6
  · refine ⟨_, law_start X d _ (law_short X (d + 13) _ (Inv_0 _).2.2.1 h6), ?_, ?_⟩
    · show 56 ≤ 600000
      decide
    · exact k0 _ hB
  · obtain ⟨h', k1, k2, k3⟩ := law_loop X d hX (by omega) h6 512 0 _ _ (Inv_0 (hBM.2.1 + 34 + 11197)) (by omega) (by omega)
    refine ⟨h', law_start X d _ k1, ?_, ?_⟩
    · exact Nat.le_trans (show h'.1 ≤ 56 + 8 * 512 from k2) (by decide)
    · exact k9 _ _ hB k3
