/-! THE REFERENCE: segments -/
theorem body_len {F S : Nat → Int32} {n : Nat} : ∀ (q a : Nat) (p : List zG × Nat), bodyF F n S q a = some p → p.1.length + a ≤ p.2 ∧ p.2 ≤ max a (n + 4) := by
  intro q
  induction q with
  | zero => intro a p h; cases h; exact ⟨by simp, by simp only; omega⟩
  | succ q ih =>
    intro a p h
    rw [bodyF] at h
    split at h
    · rename_i hA
      split at h
      · split at h
        · cases h
        · rename_i z hz
          have hw5 : z.2 = 3 ∨ z.2 = 5 := by
            unfold escF at hz
            split at hz
            · split at hz
              · cases hz; exact Or.inl rfl
              · cases hz
            · split at hz
              · cases hz; exact Or.inr rfl
              · cases hz
          cases hb : bodyF F n S q (a + z.2) with
          | none => rw [hb] at h; cases h
          | some y =>
            rw [hb] at h
            cases h
            have := ih _ _ hb
            simp only [List.length_cons]
            omega
      · split at h
        · cases hb : bodyF F n S q (a + 1) with
          | none => rw [hb] at h; cases h
          | some y =>
            rw [hb] at h
            cases h
            have := ih _ _ hb
            simp only [List.length_cons]
            omega
        · cases hb : bodyF F n S q (a + 1) with
          | none => rw [hb] at h; cases h
          | some y =>
            rw [hb] at h
            cases h
            have := ih _ _ hb
            simp only [List.length_cons]
            omega
    · cases h; simp; omega
theorem ent_len (sg : Nat) : ∀ (l : List zG) (k : zK4), (entF sg k l).1.length + (entF sg k l).2.length + (flat (entF sg k l).2).length = l.length := by
  intro l
  induction l with
  | nil => intro k; rfl
  | cons x l ih =>
    intro k
    cases x with
    | inl c => have := ih k; simp only [entF, List.length_cons]; omega
    | inr w =>
      have := ih (bump k w)
      simp only [entF, List.length_cons, List.length_nil, flat, List.flatMap_cons, List.length_append] at this ⊢
      omega
/-- what stands behind a segment's name -/
def restF (F : Nat → Int32) (n : Nat) (S : Nat → Int32) (a : Nat) : Option (List zG × Nat) := if n ≤ a ∨ F a = 13 then some ([], a) else if F a = S 0 then bodyF F n S n a else none
theorem rest_len {F S : Nat → Int32} {n a : Nat} {p : List zG × Nat} (h : restF F n S a = some p) : p.1.length + a ≤ p.2 ∧ p.2 ≤ max a (n + 4) := by
  unfold restF at h
  split at h
  · cases h; simp; omega
  · split at h
    · exact body_len n a p h
    · cases h
theorem i_Mod_rest_0 : zins 108 0 = some (.aload_n 0) := by decide +kernel
theorem i_Mod_rest_1 : zins 108 1 = some (.getfield 112) := by decide +kernel
theorem i_Mod_rest_4 : zins 108 4 = some (.aload_n 0) := by decide +kernel
theorem i_Mod_rest_5 : zins 108 5 = some (.getfield 98) := by decide +kernel
theorem i_Mod_rest_8 : zins 108 8 = some (.if_icmp .ge 17) := by decide +kernel
theorem i_Mod_rest_11 : zins 108 11 = some (.aload_n 0) := by decide +kernel
theorem i_Mod_rest_12 : zins 108 12 = some (.getfield 7) := by decide +kernel
theorem i_Mod_rest_15 : zins 108 15 = some (.aload_n 0) := by decide +kernel
theorem i_Mod_rest_16 : zins 108 16 = some (.getfield 112) := by decide +kernel
theorem i_Mod_rest_19 : zins 108 19 = some (.caload) := by decide +kernel
theorem i_Mod_rest_20 : zins 108 20 = some (.bipush 13) := by decide +kernel
theorem i_Mod_rest_22 : zins 108 22 = some (.if_icmp .ne 5) := by decide +kernel
theorem i_Mod_rest_25 : zins 108 25 = some (.iconst 1) := by decide +kernel
theorem i_Mod_rest_26 : zins 108 26 = some (.ireturn) := by decide +kernel
theorem i_Mod_rest_27 : zins 108 27 = some (.aload_n 0) := by decide +kernel
theorem i_Mod_rest_28 : zins 108 28 = some (.getfield 7) := by decide +kernel
theorem i_Mod_rest_31 : zins 108 31 = some (.aload_n 0) := by decide +kernel
theorem i_Mod_rest_32 : zins 108 32 = some (.getfield 112) := by decide +kernel
theorem i_Mod_rest_35 : zins 108 35 = some (.caload) := by decide +kernel
theorem i_Mod_rest_36 : zins 108 36 = some (.aload_n 0) := by decide +kernel
theorem i_Mod_rest_37 : zins 108 37 = some (.getfield 50) := by decide +kernel
theorem i_Mod_rest_40 : zins 108 40 = some (.iconst 0) := by decide +kernel
theorem i_Mod_rest_41 : zins 108 41 = some (.caload) := by decide +kernel
theorem i_Mod_rest_42 : zins 108 42 = some (.if_icmp .ne 14) := by decide +kernel
theorem i_Mod_rest_45 : zins 108 45 = some (.aload_n 0) := by decide +kernel
theorem i_Mod_rest_46 : zins 108 46 = some (.invokevirtual 139) := by decide +kernel
theorem i_Mod_rest_49 : zins 108 49 = some (.ifCond .eq 7) := by decide +kernel
theorem i_Mod_rest_52 : zins 108 52 = some (.iconst 1) := by decide +kernel
theorem i_Mod_rest_53 : zins 108 53 = some (.goto 4) := by decide +kernel
theorem i_Mod_rest_56 : zins 108 56 = some (.iconst 0) := by decide +kernel
theorem i_Mod_rest_57 : zins 108 57 = some (.ireturn) := by decide +kernel
theorem e_Mod_rest (X : zX) (d : Nat) (g : zH) (ms : zMS) (F S : Nat → Int32) (n sg : Nat) (hn : n ≤ 200) (hc : ∀ i, zch (F i)) (hS : ∀ k, k < 5 → zch (S k)) (hp13 : ¬ S 0 = 13) (hp3 : ¬ S 0 = S 3) (a : Nat) (E : List zEn) (hF : ms.2 1 = F) (hSe : ms.2 14 = S) (h0 : ms.1 0 = nI n) (h1 : ms.1 1 = nI a) (hs : ms.2 2 0 = nI sg) (ha : a ≤ n + 5) (hT : mTab ms E) (hl1 : E.length ≤ a) (hl2 : (flat E).length ≤ a) : ∃ b ms', zR X (d + 4) 108 0 (zent 1 [.ref 129]) [] (mset g ms) (some (.int (zb b)), mset g ms') ∧ mpar ms ms' ∧ (ms'.2 2 = ms.2 2 ∧ ms'.2 13 = ms.2 13) ∧ (match restF F n S a with
    | none => b = false
    | some p => b = true ∧ ms'.1 1 = nI p.2 ∧ mTab ms' (E ++ (entF sg (0, 1, 1, 1) p.1).2)) := by
  unfold restF
  by_cases hA : n ≤ a
  · rw [if_pos (Or.inl hA)]
    refine ⟨true, ms, ?_, mpar.refl ms, ⟨rfl, rfl⟩, rfl, h1, by simpa [entF] using hT⟩
    refine zr_aload_n i_Mod_rest_0 rfl ?_
    refine zr_getf i_Mod_rest_1 rfl rfl rfl ?_
    refine zr_top (y := nI a) h1 ?_
    refine zr_aload_n i_Mod_rest_4 rfl ?_
    refine zr_getf i_Mod_rest_5 rfl rfl rfl ?_
    refine zr_top (y := nI n) h0 ?_
    refine zn_icmp_ge 25 i_Mod_rest_8 (by decide) (by omega) (by omega) (fun c_8 => ?_) (fun q => absurd q (by omega))
    refine zr_iconst i_Mod_rest_25 (v := 1) (by decide) ?_
    exact zR.retE i_Mod_rest_26 rfl rfl
  · by_cases h13 : F a = 13
    · rw [if_pos (Or.inr h13)]
      refine ⟨true, ms, ?_, mpar.refl ms, ⟨rfl, rfl⟩, rfl, h1, by simpa [entF] using hT⟩
      refine zr_aload_n i_Mod_rest_0 rfl ?_
      refine zr_getf i_Mod_rest_1 rfl rfl rfl ?_
      refine zr_top (y := nI a) h1 ?_
      refine zr_aload_n i_Mod_rest_4 rfl ?_
      refine zr_getf i_Mod_rest_5 rfl rfl rfl ?_
      refine zr_top (y := nI n) h0 ?_
      refine zn_icmp_ge 25 i_Mod_rest_8 (by decide) (by omega) (by omega) (fun q => absurd q (by omega)) (fun c_8 => ?_)
      refine zr_aload_n i_Mod_rest_11 rfl ?_
      refine zr_getf i_Mod_rest_12 rfl rfl rfl ?_
      refine zr_aload_n i_Mod_rest_15 rfl ?_
      refine zr_getf i_Mod_rest_16 rfl rfl rfl ?_
      refine zr_top (y := nI a) h1 ?_
      refine zn_caload i_Mod_rest_19 rfl (by omega) (by decide) ?_
      refine zr_top (y := F a) (congrFun hF a) ?_
      refine zr_bipush i_Mod_rest_20 (v := 13) (by decide) ?_
      refine zr_icmp_ne 27 i_Mod_rest_22 (by decide) (fun q => absurd h13 q) (fun c_22 => ?_)
      refine zr_iconst i_Mod_rest_25 (v := 1) (by decide) ?_
      exact zR.retE i_Mod_rest_26 rfl rfl
    · rw [if_neg (fun z => z.elim hA h13)]
      by_cases hw : F a = S 0
      · rw [if_pos hw]
        obtain ⟨m, hm⟩ : ∃ m, n = m + 1 := ⟨n - 1, by omega⟩
        obtain ⟨b, ms', hR, hp, h2, hm2⟩ := e_Mod_fields X d g ms F S n sg hn hc hS m a E (by omega) hF hSe h0 h1 hs ha hT (by omega) h13 (by rw [hw]; exact hp3) hw hl1 hl2
        rw [← hm] at hm2
        refine ⟨b, ms', ?_, hp, h2, hm2⟩
        cases b with
        | true =>
          refine zr_aload_n i_Mod_rest_0 rfl ?_
          refine zr_getf i_Mod_rest_1 rfl rfl rfl ?_
          refine zr_top (y := nI a) h1 ?_
          refine zr_aload_n i_Mod_rest_4 rfl ?_
          refine zr_getf i_Mod_rest_5 rfl rfl rfl ?_
          refine zr_top (y := nI n) h0 ?_
          refine zn_icmp_ge 25 i_Mod_rest_8 (by decide) (by omega) (by omega) (fun q => absurd q (by omega)) (fun c_8 => ?_)
          refine zr_aload_n i_Mod_rest_11 rfl ?_
          refine zr_getf i_Mod_rest_12 rfl rfl rfl ?_
          refine zr_aload_n i_Mod_rest_15 rfl ?_
          refine zr_getf i_Mod_rest_16 rfl rfl rfl ?_
          refine zr_top (y := nI a) h1 ?_
          refine zn_caload i_Mod_rest_19 rfl (by omega) (by decide) ?_
          refine zr_top (y := F a) (congrFun hF a) ?_
          refine zr_bipush i_Mod_rest_20 (v := 13) (by decide) ?_
          refine zr_icmp_ne 27 i_Mod_rest_22 (by decide) (fun c_22 => ?_) (fun q => absurd q h13)
          refine zr_aload_n i_Mod_rest_27 rfl ?_
          refine zr_getf i_Mod_rest_28 rfl rfl rfl ?_
          refine zr_aload_n i_Mod_rest_31 rfl ?_
          refine zr_getf i_Mod_rest_32 rfl rfl rfl ?_
          refine zr_top (y := nI a) h1 ?_
          refine zn_caload i_Mod_rest_35 rfl (by omega) (by decide) ?_
          refine zr_top (y := F a) (congrFun hF a) ?_
          refine zr_aload_n i_Mod_rest_36 rfl ?_
          refine zr_getf i_Mod_rest_37 rfl rfl rfl ?_
          refine zn_iconst 0 i_Mod_rest_40 (by decide) ?_
          refine zn_caload i_Mod_rest_41 rfl (by omega) (by decide) ?_
          refine zr_top (y := S 0) (congrFun hSe 0) ?_
          refine zr_icmp_ne 56 i_Mod_rest_42 (by decide) (fun q => absurd hw q) (fun c_42 => ?_)
          refine zr_aload_n i_Mod_rest_45 rfl ?_
          refine zr_cv0 i_Mod_rest_46 rfl (by decide) rfl (Nat.le_of_ble_eq_true rfl) (Nat.le_of_ble_eq_true rfl) (hR) ?_
          refine zB_if_eq 56 i_Mod_rest_49 (by decide) (fun q => absurd q (by decide)) (fun _ => ?_)
          refine zr_iconst i_Mod_rest_52 (v := 1) (by decide) ?_
          refine zr_goto 57 i_Mod_rest_53 (by decide) ?_
          exact zR.retE i_Mod_rest_57 rfl rfl
        | false =>
          refine zr_aload_n i_Mod_rest_0 rfl ?_
          refine zr_getf i_Mod_rest_1 rfl rfl rfl ?_
          refine zr_top (y := nI a) h1 ?_
          refine zr_aload_n i_Mod_rest_4 rfl ?_
          refine zr_getf i_Mod_rest_5 rfl rfl rfl ?_
          refine zr_top (y := nI n) h0 ?_
          refine zn_icmp_ge 25 i_Mod_rest_8 (by decide) (by omega) (by omega) (fun q => absurd q (by omega)) (fun c_8 => ?_)
          refine zr_aload_n i_Mod_rest_11 rfl ?_
          refine zr_getf i_Mod_rest_12 rfl rfl rfl ?_
          refine zr_aload_n i_Mod_rest_15 rfl ?_
          refine zr_getf i_Mod_rest_16 rfl rfl rfl ?_
          refine zr_top (y := nI a) h1 ?_
          refine zn_caload i_Mod_rest_19 rfl (by omega) (by decide) ?_
          refine zr_top (y := F a) (congrFun hF a) ?_
          refine zr_bipush i_Mod_rest_20 (v := 13) (by decide) ?_
          refine zr_icmp_ne 27 i_Mod_rest_22 (by decide) (fun c_22 => ?_) (fun q => absurd q h13)
          refine zr_aload_n i_Mod_rest_27 rfl ?_
          refine zr_getf i_Mod_rest_28 rfl rfl rfl ?_
          refine zr_aload_n i_Mod_rest_31 rfl ?_
          refine zr_getf i_Mod_rest_32 rfl rfl rfl ?_
          refine zr_top (y := nI a) h1 ?_
          refine zn_caload i_Mod_rest_35 rfl (by omega) (by decide) ?_
          refine zr_top (y := F a) (congrFun hF a) ?_
          refine zr_aload_n i_Mod_rest_36 rfl ?_
          refine zr_getf i_Mod_rest_37 rfl rfl rfl ?_
          refine zn_iconst 0 i_Mod_rest_40 (by decide) ?_
          refine zn_caload i_Mod_rest_41 rfl (by omega) (by decide) ?_
          refine zr_top (y := S 0) (congrFun hSe 0) ?_
          refine zr_icmp_ne 56 i_Mod_rest_42 (by decide) (fun q => absurd hw q) (fun c_42 => ?_)
          refine zr_aload_n i_Mod_rest_45 rfl ?_
          refine zr_cv0 i_Mod_rest_46 rfl (by decide) rfl (Nat.le_of_ble_eq_true rfl) (Nat.le_of_ble_eq_true rfl) (hR) ?_
          refine zB_if_eq 56 i_Mod_rest_49 (by decide) (fun _ => ?_) (fun q => absurd q (by decide))
          refine zr_iconst i_Mod_rest_56 (v := 0) (by decide) ?_
          exact zR.retE i_Mod_rest_57 rfl rfl
      · rw [if_neg hw]
        refine ⟨false, ms, ?_, mpar.refl ms, ⟨rfl, rfl⟩, rfl⟩
        refine zr_aload_n i_Mod_rest_0 rfl ?_
        refine zr_getf i_Mod_rest_1 rfl rfl rfl ?_
        refine zr_top (y := nI a) h1 ?_
        refine zr_aload_n i_Mod_rest_4 rfl ?_
        refine zr_getf i_Mod_rest_5 rfl rfl rfl ?_
        refine zr_top (y := nI n) h0 ?_
        refine zn_icmp_ge 25 i_Mod_rest_8 (by decide) (by omega) (by omega) (fun q => absurd q (by omega)) (fun c_8 => ?_)
        refine zr_aload_n i_Mod_rest_11 rfl ?_
        refine zr_getf i_Mod_rest_12 rfl rfl rfl ?_
        refine zr_aload_n i_Mod_rest_15 rfl ?_
        refine zr_getf i_Mod_rest_16 rfl rfl rfl ?_
        refine zr_top (y := nI a) h1 ?_
        refine zn_caload i_Mod_rest_19 rfl (by omega) (by decide) ?_
        refine zr_top (y := F a) (congrFun hF a) ?_
        refine zr_bipush i_Mod_rest_20 (v := 13) (by decide) ?_
        refine zr_icmp_ne 27 i_Mod_rest_22 (by decide) (fun c_22 => ?_) (fun q => absurd q h13)
        refine zr_aload_n i_Mod_rest_27 rfl ?_
        refine zr_getf i_Mod_rest_28 rfl rfl rfl ?_
        refine zr_aload_n i_Mod_rest_31 rfl ?_
        refine zr_getf i_Mod_rest_32 rfl rfl rfl ?_
        refine zr_top (y := nI a) h1 ?_
        refine zn_caload i_Mod_rest_35 rfl (by omega) (by decide) ?_
        refine zr_top (y := F a) (congrFun hF a) ?_
        refine zr_aload_n i_Mod_rest_36 rfl ?_
        refine zr_getf i_Mod_rest_37 rfl rfl rfl ?_
        refine zn_iconst 0 i_Mod_rest_40 (by decide) ?_
        refine zn_caload i_Mod_rest_41 rfl (by omega) (by decide) ?_
        refine zr_top (y := S 0) (congrFun hSe 0) ?_
        refine zr_icmp_ne 56 i_Mod_rest_42 (by decide) (fun c_42 => ?_) (fun q => absurd q hw)
        refine zr_iconst i_Mod_rest_56 (v := 0) (by decide) ?_
        exact zR.retE i_Mod_rest_57 rfl rfl
abbrev zSeg : Type := List Int32 × List zG
def nameOk (F : Nat → Int32) (n a : Nat) : Bool := zcap (nowF F n a) && ((zcap (nowF F n (a + 1)) || zdig (nowF F n (a + 1))) && (zcap (nowF F n (a + 2)) || zdig (nowF F n (a + 2))))
/-- the segments behind one that ends at e -/
def segsF (F : Nat → Int32) (n : Nat) (S : Nat → Int32) (q e : Nat) : Option (List zSeg) := match q with
  | 0 => some []
  | q + 1 => if e + 1 < n then (if nameOk F n (e + 1) = true then (match restF F n S (e + 4) with
      | none => none
      | some p => (segsF F n S q p.2).map (fun l => ([nowF F n (e + 1), nowF F n (e + 2), nowF F n (e + 3)], p.1) :: l)) else none) else some []
def msgF (F : Nat → Int32) (n : Nat) (S : Nat → Int32) : Option (List zSeg) := match restF F n S 8 with
  | none => none
  | some p => (segsF F n S n p.2).map (fun l => ([72, 68, 82], p.1) :: l)
def entA (sg : Nat) (l : List zSeg) : List zEn := match l with
  | [] => []
  | s :: l => (entF sg (0, 1, 1, 1) s.2).2 ++ entA (sg + 1) l
def nmA (l : List zSeg) : List Int32 := l.flatMap (fun s => s.1)
def mNam (ms : zMS) (nl : List Int32) (sg : Nat) : Prop := ms.2 2 0 = nI sg ∧ nl.length = 3 * sg ∧ ∀ i x, nl[i]? = some x → ms.2 13 i = x
/-- a further segment's name -/
def mname (ms : zMS) (sg e : Nat) (x y z : Int32) : zMS := (va_up ms.1 1 (nI (e + 4)), va_up (va_up ms.2 13 (upd (upd (upd (ms.2 13) (3 * sg) x) (3 * sg + 1) y) (3 * sg + 2) z)) 2 (upd (ms.2 2) 0 (nI (sg + 1))))
theorem mname_nam {ms : zMS} {nl : List Int32} {sg : Nat} (h : mNam ms nl sg) (e : Nat) (x y z : Int32) : mNam (mname ms sg e x y z) (nl ++ [x, y, z]) (sg + 1) := by
  obtain ⟨h1, h2, h3⟩ := h
  refine ⟨(pk_us : upd (ms.2 2) 0 (nI (sg + 1)) 0 = _), by simp [h2]; omega, ?_⟩
  intro i w hw
  show upd (upd (upd (ms.2 13) (3 * sg) x) (3 * sg + 1) y) (3 * sg + 2) z i = w
  rw [List.getElem?_append] at hw
  by_cases hi : i < nl.length
  · rw [if_pos hi] at hw
    rw [pk_un (by omega), pk_un (by omega), pk_un (by omega)]
    exact h3 i w hw
  · rw [if_neg hi, h2] at hw
    obtain ⟨j, rfl⟩ : ∃ j, i = 3 * sg + j := ⟨i - 3 * sg, by omega⟩
    rw [Nat.add_sub_cancel_left] at hw
    rcases (show j = 0 ∨ j = 1 ∨ j = 2 ∨ 3 ≤ j by omega) with rfl | rfl | rfl | hj
    · cases hw
      rw [pk_un (by omega), pk_un (by omega)]; exact pk_us
    · cases hw
      rw [pk_un (by omega)]; exact pk_us
    · cases hw
      exact pk_us
    · rw [List.getElem?_eq_none (by simpa using hj)] at hw; cases hw
theorem mname_tab {ms : zMS} {E : List zEn} (h : mTab ms E) (sg e : Nat) (x y z : Int32) : mTab (mname ms sg e x y z) E := h
theorem mname_par (ms : zMS) (sg e : Nat) (x y z : Int32) (hs : 3 * sg + 2 < 600) (hx : zch x) (hy : zch y) (hz : zch z) : mpar ms (mname ms sg e x y z) := by
  have hr : ∀ k, k ≠ 2 → k ≠ 13 → (mname ms sg e x y z).2 k = ms.2 k := by
    intro k h1 h2
    show va_up (va_up ms.2 13 _) 2 _ k = _
    rw [va_up_ne _ _ h1, va_up_ne _ _ h2]
  refine ⟨fun k hk => va_up_ne _ _ hk, fun k hk => hr k (by omega) (by omega), ?_, ?_, ?_, ?_, ?_, ?_⟩
  · intro k h1 h2 i hi
    by_cases h4 : k = 2
    · subst h4; exact pk_un hi
    · rw [hr k h4 (by omega)]
  · intro k h1 h2 i hi
    rw [hr k (by omega) (by omega)]
  · intro i hi
    rw [hr 12 (by omega) (by omega)]
  · intro i hi
    show upd (upd (upd (ms.2 13) (3 * sg) x) (3 * sg + 1) y) (3 * sg + 2) z i = _
    rw [pk_un (by omega), pk_un (by omega), pk_un (by omega)]
  · intro h i
    rw [hr 12 (by omega) (by omega)]; exact h i
  · intro h i
    show zch (upd (upd (upd (ms.2 13) (3 * sg) x) (3 * sg + 1) y) (3 * sg + 2) z i)
    by_cases h1 : i = 3 * sg + 2
    · subst h1; rw [pk_us]; exact hz
    · rw [pk_un h1]
      by_cases h2 : i = 3 * sg + 1
      · subst h2; rw [pk_us]; exact hy
      · rw [pk_un h2]
        by_cases h3 : i = 3 * sg
        · subst h3; rw [pk_us]; exact hx
        · rw [pk_un h3]; exact h i
theorem mNam_par {ms ms' : zMS} {nl : List Int32} {sg : Nat} (h : mNam ms nl sg) (h2 : ms'.2 2 = ms.2 2) (h13 : ms'.2 13 = ms.2 13) : mNam ms' nl sg := by
  unfold mNam
  rw [h2, h13]
  exact h
theorem i_Mod_apart_0 : zins 107 0 = some (.aload_n 0) := by decide +kernel
theorem i_Mod_apart_1 : zins 107 1 = some (.invokevirtual 142) := by decide +kernel
theorem i_Mod_apart_4 : zins 107 4 = some (.ifCond .ne 5) := by decide +kernel
theorem i_Mod_apart_7 : zins 107 7 = some (.iconst 0) := by decide +kernel
theorem i_Mod_apart_8 : zins 107 8 = some (.ireturn) := by decide +kernel
theorem i_Mod_apart_9 : zins 107 9 = some (.aload_n 0) := by decide +kernel
theorem i_Mod_apart_10 : zins 107 10 = some (.getfield 112) := by decide +kernel
theorem i_Mod_apart_13 : zins 107 13 = some (.iconst 1) := by decide +kernel
theorem i_Mod_apart_14 : zins 107 14 = some (.iadd) := by decide +kernel
theorem i_Mod_apart_15 : zins 107 15 = some (.aload_n 0) := by decide +kernel
theorem i_Mod_apart_16 : zins 107 16 = some (.getfield 98) := by decide +kernel
theorem i_Mod_apart_19 : zins 107 19 = some (.if_icmp .ge 132) := by decide +kernel
theorem i_Mod_apart_22 : zins 107 22 = some (.aload_n 0) := by decide +kernel
theorem i_Mod_apart_23 : zins 107 23 = some (.dup) := by decide +kernel
theorem i_Mod_apart_24 : zins 107 24 = some (.getfield 112) := by decide +kernel
theorem i_Mod_apart_27 : zins 107 27 = some (.iconst 1) := by decide +kernel
theorem i_Mod_apart_28 : zins 107 28 = some (.iadd) := by decide +kernel
theorem i_Mod_apart_29 : zins 107 29 = some (.putfield 112) := by decide +kernel
theorem i_Mod_apart_32 : zins 107 32 = some (.aload_n 0) := by decide +kernel
theorem i_Mod_apart_33 : zins 107 33 = some (.iconst 0) := by decide +kernel
theorem i_Mod_apart_34 : zins 107 34 = some (.invokevirtual 115) := by decide +kernel
theorem i_Mod_apart_37 : zins 107 37 = some (.invokestatic 102) := by decide +kernel
theorem i_Mod_apart_40 : zins 107 40 = some (.ifCond .eq 47) := by decide +kernel
theorem i_Mod_apart_43 : zins 107 43 = some (.aload_n 0) := by decide +kernel
theorem i_Mod_apart_44 : zins 107 44 = some (.iconst 1) := by decide +kernel
theorem i_Mod_apart_45 : zins 107 45 = some (.invokevirtual 115) := by decide +kernel
theorem i_Mod_apart_48 : zins 107 48 = some (.invokestatic 102) := by decide +kernel
theorem i_Mod_apart_51 : zins 107 51 = some (.ifCond .ne 14) := by decide +kernel
theorem i_Mod_apart_54 : zins 107 54 = some (.aload_n 0) := by decide +kernel
theorem i_Mod_apart_55 : zins 107 55 = some (.iconst 1) := by decide +kernel
theorem i_Mod_apart_56 : zins 107 56 = some (.invokevirtual 115) := by decide +kernel
theorem i_Mod_apart_59 : zins 107 59 = some (.invokestatic 109) := by decide +kernel
theorem i_Mod_apart_62 : zins 107 62 = some (.ifCond .eq 25) := by decide +kernel
theorem i_Mod_apart_65 : zins 107 65 = some (.aload_n 0) := by decide +kernel
theorem i_Mod_apart_66 : zins 107 66 = some (.iconst 2) := by decide +kernel
theorem i_Mod_apart_67 : zins 107 67 = some (.invokevirtual 115) := by decide +kernel
theorem i_Mod_apart_70 : zins 107 70 = some (.invokestatic 102) := by decide +kernel
theorem i_Mod_apart_73 : zins 107 73 = some (.ifCond .ne 16) := by decide +kernel
theorem i_Mod_apart_76 : zins 107 76 = some (.aload_n 0) := by decide +kernel
theorem i_Mod_apart_77 : zins 107 77 = some (.iconst 2) := by decide +kernel
theorem i_Mod_apart_78 : zins 107 78 = some (.invokevirtual 115) := by decide +kernel
theorem i_Mod_apart_81 : zins 107 81 = some (.invokestatic 109) := by decide +kernel
theorem i_Mod_apart_84 : zins 107 84 = some (.ifCond .ne 5) := by decide +kernel
theorem i_Mod_apart_87 : zins 107 87 = some (.iconst 0) := by decide +kernel
theorem i_Mod_apart_88 : zins 107 88 = some (.ireturn) := by decide +kernel
theorem i_Mod_apart_89 : zins 107 89 = some (.iconst 0) := by decide +kernel
theorem i_Mod_apart_90 : zins 107 90 = some (.istore_n 1) := by decide +kernel
theorem i_Mod_apart_91 : zins 107 91 = some (.iload_n 1) := by decide +kernel
theorem i_Mod_apart_92 : zins 107 92 = some (.iconst 3) := by decide +kernel
theorem i_Mod_apart_93 : zins 107 93 = some (.if_icmp .ge 29) := by decide +kernel
theorem i_Mod_apart_96 : zins 107 96 = some (.aload_n 0) := by decide +kernel
theorem i_Mod_apart_97 : zins 107 97 = some (.getfield 47) := by decide +kernel
theorem i_Mod_apart_100 : zins 107 100 = some (.iconst 3) := by decide +kernel
theorem i_Mod_apart_101 : zins 107 101 = some (.aload_n 0) := by decide +kernel
theorem i_Mod_apart_102 : zins 107 102 = some (.getfield 13) := by decide +kernel
theorem i_Mod_apart_105 : zins 107 105 = some (.iconst 0) := by decide +kernel
theorem i_Mod_apart_106 : zins 107 106 = some (.iaload) := by decide +kernel
theorem i_Mod_apart_107 : zins 107 107 = some (.imul) := by decide +kernel
theorem i_Mod_apart_108 : zins 107 108 = some (.iload_n 1) := by decide +kernel
theorem i_Mod_apart_109 : zins 107 109 = some (.iadd) := by decide +kernel
theorem i_Mod_apart_110 : zins 107 110 = some (.aload_n 0) := by decide +kernel
theorem i_Mod_apart_111 : zins 107 111 = some (.iload_n 1) := by decide +kernel
theorem i_Mod_apart_112 : zins 107 112 = some (.invokevirtual 115) := by decide +kernel
theorem i_Mod_apart_115 : zins 107 115 = some (.castore) := by decide +kernel
theorem i_Mod_apart_116 : zins 107 116 = some (.iinc 1 1) := by decide +kernel
theorem i_Mod_apart_119 : zins 107 119 = some (.goto (-28)) := by decide +kernel
theorem i_Mod_apart_122 : zins 107 122 = some (.aload_n 0) := by decide +kernel
theorem i_Mod_apart_123 : zins 107 123 = some (.getfield 13) := by decide +kernel
theorem i_Mod_apart_126 : zins 107 126 = some (.iconst 0) := by decide +kernel
theorem i_Mod_apart_127 : zins 107 127 = some (.dup2) := by decide +kernel
theorem i_Mod_apart_128 : zins 107 128 = some (.iaload) := by decide +kernel
theorem i_Mod_apart_129 : zins 107 129 = some (.iconst 1) := by decide +kernel
theorem i_Mod_apart_130 : zins 107 130 = some (.iadd) := by decide +kernel
theorem i_Mod_apart_131 : zins 107 131 = some (.iastore) := by decide +kernel
theorem i_Mod_apart_132 : zins 107 132 = some (.aload_n 0) := by decide +kernel
theorem i_Mod_apart_133 : zins 107 133 = some (.dup) := by decide +kernel
theorem i_Mod_apart_134 : zins 107 134 = some (.getfield 112) := by decide +kernel
theorem i_Mod_apart_137 : zins 107 137 = some (.iconst 3) := by decide +kernel
theorem i_Mod_apart_138 : zins 107 138 = some (.iadd) := by decide +kernel
theorem i_Mod_apart_139 : zins 107 139 = some (.putfield 112) := by decide +kernel
theorem i_Mod_apart_142 : zins 107 142 = some (.aload_n 0) := by decide +kernel
theorem i_Mod_apart_143 : zins 107 143 = some (.invokevirtual 142) := by decide +kernel
theorem i_Mod_apart_146 : zins 107 146 = some (.ifCond .ne (-137)) := by decide +kernel
theorem i_Mod_apart_149 : zins 107 149 = some (.iconst 0) := by decide +kernel
theorem i_Mod_apart_150 : zins 107 150 = some (.ireturn) := by decide +kernel
theorem i_Mod_apart_151 : zins 107 151 = some (.iconst 1) := by decide +kernel
theorem i_Mod_apart_152 : zins 107 152 = some (.ireturn) := by decide +kernel
theorem l_Mod_apart (X : zX) (d : Nat) (g : zH) (F S : Nat → Int32) (n : Nat) (hn : n ≤ 200) (hc : ∀ i, zch (F i)) (hS : ∀ k, k < 5 → zch (S k)) (hp13 : ¬ S 0 = 13) (hp3 : ¬ S 0 = S 3) : ∀ (q : Nat) (ms : zMS) (e sg : Nat) (E : List zEn) (nl : List Int32) (x : Option Value), n ≤ e + q → ms.2 1 = F → ms.2 14 = S → ms.1 0 = nI n → ms.1 1 = nI e → mTab ms E → mNam ms nl sg → E.length ≤ e → (flat E).length ≤ e → 4 * sg ≤ e → e ≤ n + 4 → ∃ b ms', zR X (d + 5) 107 9 [some (.ref 129), x] [] (mset g ms) (some (.int (zb b)), mset g ms') ∧ mpar ms ms' ∧ (match segsF F n S q e with
    | none => b = false
    | some l => b = true ∧ mTab ms' (E ++ entA (sg + 1) l) ∧ mNam ms' (nl ++ nmA l) (sg + l.length)) := by
  intro q
  induction q with
  | zero =>
    intro ms e sg E nl x hq hF hSe h0 h1 hT hN hl1 hl2 hl3 hl4
    refine ⟨true, ms, ?_, mpar.refl ms, rfl, by simpa [entA] using hT, by simpa [nmA] using hN⟩
    refine zr_aload_n i_Mod_apart_9 rfl ?_
    refine zr_getf i_Mod_apart_10 rfl rfl rfl ?_
    refine zr_top (y := nI e) h1 ?_
    refine zn_iconst 1 i_Mod_apart_13 (by decide) ?_
    refine zn_iadd i_Mod_apart_14 ?_
    refine zr_aload_n i_Mod_apart_15 rfl ?_
    refine zr_getf i_Mod_apart_16 rfl rfl rfl ?_
    refine zr_top (y := nI n) h0 ?_
    refine zn_icmp_ge 151 i_Mod_apart_19 (by decide) (by omega) (by omega) (fun c_19 => ?_) (fun q => absurd q (by omega))
    refine zr_iconst i_Mod_apart_151 (v := 1) (by decide) ?_
    exact zR.retE i_Mod_apart_152 rfl rfl
  | succ q ih =>
    intro ms e sg E nl x hq hF hSe h0 h1 hT hN hl1 hl2 hl3 hl4
    rw [segsF]
    by_cases hA : e + 1 < n
    · rw [if_pos hA]
      by_cases hO : nameOk F n (e + 1) = true
      · rw [if_pos hO]
        have hx : zch (nowF F n (e + 1)) := zch_now hc _ _
        have hy : zch (nowF F n (e + 2)) := zch_now hc _ _
        have hz : zch (nowF F n (e + 3)) := zch_now hc _ _
        have hpn := mname_par ms sg e (nowF F n (e + 1)) (nowF F n (e + 2)) (nowF F n (e + 3)) (by omega) hx hy hz
        have hTn : mTab (mname ms sg e (nowF F n (e + 1)) (nowF F n (e + 2)) (nowF F n (e + 3))) E := mname_tab hT sg e _ _ _
        have hNn := mname_nam hN e (nowF F n (e + 1)) (nowF F n (e + 2)) (nowF F n (e + 3))
        have eqm : mname ms sg e (nowF F n (e + 1)) (nowF F n (e + 2)) (nowF F n (e + 3)) = (va_up (va_up ms.1 1 (nI (e + 1))) 1 (nI (e + 1 + 3)), va_up (va_up (va_up (va_up ms.2 13 (upd (ms.2 13) (3 * sg) (vp_nar .char (nowF F n (e + 1))))) 13 (upd (upd (ms.2 13) (3 * sg) (vp_nar .char (nowF F n (e + 1)))) (3 * sg + 1) (vp_nar .char (nowF F n (e + 2))))) 13 (upd (upd (upd (ms.2 13) (3 * sg) (vp_nar .char (nowF F n (e + 1)))) (3 * sg + 1) (vp_nar .char (nowF F n (e + 2)))) (3 * sg + 2) (vp_nar .char (nowF F n (e + 3))))) 2 (upd (ms.2 2) 0 (nI (sg + 1)))) := by
          unfold mname
          rw [up_same, up_same, up_same, hx, hy, hz]
        obtain ⟨b1, ms1, hR, hp1, hq1, hm1⟩ := e_Mod_rest X d g (mname ms sg e (nowF F n (e + 1)) (nowF F n (e + 2)) (nowF F n (e + 3))) F S n (sg + 1) hn hc hS hp13 hp3 (e + 4) E hF hSe h0 rfl hNn.1 (by omega) hTn (by omega) (by omega)
        cases hr : restF F n S (e + 4) with
        | none =>
          rw [hr] at hm1
          have hb : b1 = false := hm1
          subst hb
          refine ⟨false, ms1, ?_, hpn.trans hp1, rfl⟩
          have hX : ∀ y, zR X (d + 5) 107 142 [some (.ref 129), some (.int y)] [] (mset g (mname ms sg e (nowF F n (e + 1)) (nowF F n (e + 2)) (nowF F n (e + 3)))) (some (.int (zb false)), mset g ms1) := by
            intro y
            refine zr_aload_n i_Mod_apart_142 rfl ?_
            refine zr_cv0 i_Mod_apart_143 rfl (by decide) rfl (Nat.le_of_ble_eq_true rfl) (Nat.le_of_ble_eq_true rfl) (hR) ?_
            refine zB_if_ne 9 i_Mod_apart_146 (by decide) (fun q => absurd q (by decide)) (fun _ => ?_)
            refine zr_iconst i_Mod_apart_149 (v := 0) (by decide) ?_
            exact zR.retE i_Mod_apart_150 rfl rfl
          rw [eqm] at hX
          replace hX := hX (nI (0 + 1 + 1 + 1))
          refine zr_aload_n i_Mod_apart_9 rfl ?_
          refine zr_getf i_Mod_apart_10 rfl rfl rfl ?_
          refine zr_top (y := nI e) h1 ?_
          refine zn_iconst 1 i_Mod_apart_13 (by decide) ?_
          refine zn_iadd i_Mod_apart_14 ?_
          refine zr_aload_n i_Mod_apart_15 rfl ?_
          refine zr_getf i_Mod_apart_16 rfl rfl rfl ?_
          refine zr_top (y := nI n) h0 ?_
          refine zn_icmp_ge 151 i_Mod_apart_19 (by decide) (by omega) (by omega) (fun q => absurd q (by omega)) (fun c_19 => ?_)
          refine zr_aload_n i_Mod_apart_22 rfl ?_
          refine zr_dup i_Mod_apart_23 rfl ?_
          refine zr_getf i_Mod_apart_24 rfl rfl rfl ?_
          refine zr_top (y := nI e) h1 ?_
          refine zn_iconst 1 i_Mod_apart_27 (by decide) ?_
          refine zn_iadd i_Mod_apart_28 ?_
          refine mr_putf (kk := 1) i_Mod_apart_29 rfl rfl (Nat.le_of_ble_eq_true rfl) rfl rfl rfl ?_
          refine zr_aload_n i_Mod_apart_32 rfl ?_
          refine zr_iconst i_Mod_apart_33 (v := 0) (by decide) ?_
          refine zr_cv1 i_Mod_apart_34 rfl (by decide) rfl (Nat.le_of_ble_eq_true rfl) (Nat.le_of_ble_eq_true rfl) (e_Mod_now X _ g (va_up ms.1 1 (nI (e + 1)), ms.2) n (e + 1) 0 h0 rfl hn (by omega) (fun i _ => zch_nar (by rw [show ((va_up ms.1 1 (nI (e + 1)), ms.2) : zMS).2 1 = F from hF]; exact hc i))) ?_
          refine zr_top (y := (nowF F n (e + 1 + 0))) (by rw [← hF]; rfl) ?_
          refine zr_cs1 i_Mod_apart_37 rfl (by decide) (Nat.le_of_ble_eq_true rfl) (Nat.le_of_ble_eq_true rfl) (e_Mod_capital X _ _ _) ?_
          refine zB_if_eq 87 i_Mod_apart_40 (by decide) (fun c_40 => ?_) (fun c_40 => ?_)
          · skip
            exact absurd hO (by simp [nameOk, *])
          · skip
            refine zr_aload_n i_Mod_apart_43 rfl ?_
            refine zr_iconst i_Mod_apart_44 (v := 1) (by decide) ?_
            refine zr_cv1 i_Mod_apart_45 rfl (by decide) rfl (Nat.le_of_ble_eq_true rfl) (Nat.le_of_ble_eq_true rfl) (e_Mod_now X _ g (va_up ms.1 1 (nI (e + 1)), ms.2) n (e + 1) 1 h0 rfl hn (by omega) (fun i _ => zch_nar (by rw [show ((va_up ms.1 1 (nI (e + 1)), ms.2) : zMS).2 1 = F from hF]; exact hc i))) ?_
            refine zr_top (y := (nowF F n (e + 1 + 1))) (by rw [← hF]; rfl) ?_
            refine zr_cs1 i_Mod_apart_48 rfl (by decide) (Nat.le_of_ble_eq_true rfl) (Nat.le_of_ble_eq_true rfl) (e_Mod_capital X _ _ _) ?_
            refine zB_if_ne 65 i_Mod_apart_51 (by decide) (fun c_51 => ?_) (fun c_51 => ?_)
            · skip
              refine zr_aload_n i_Mod_apart_65 rfl ?_
              refine zr_iconst i_Mod_apart_66 (v := 2) (by decide) ?_
              refine zr_cv1 i_Mod_apart_67 rfl (by decide) rfl (Nat.le_of_ble_eq_true rfl) (Nat.le_of_ble_eq_true rfl) (e_Mod_now X _ g (va_up ms.1 1 (nI (e + 1)), ms.2) n (e + 1) 2 h0 rfl hn (by omega) (fun i _ => zch_nar (by rw [show ((va_up ms.1 1 (nI (e + 1)), ms.2) : zMS).2 1 = F from hF]; exact hc i))) ?_
              refine zr_top (y := (nowF F n (e + 1 + 2))) (by rw [← hF]; rfl) ?_
              refine zr_cs1 i_Mod_apart_70 rfl (by decide) (Nat.le_of_ble_eq_true rfl) (Nat.le_of_ble_eq_true rfl) (e_Mod_capital X _ _ _) ?_
              refine zB_if_ne 89 i_Mod_apart_73 (by decide) (fun c_73 => ?_) (fun c_73 => ?_)
              · skip
                refine zn_iconst 0 i_Mod_apart_89 (by decide) ?_
                refine zr_istore_n i_Mod_apart_90 rfl ?_
                refine zr_iload_n i_Mod_apart_91 rfl ?_
                refine zn_iconst 3 i_Mod_apart_92 (by decide) ?_
                refine zr_icmp_ge 122 i_Mod_apart_93 (by decide) (fun q => absurd q (by decide)) (fun _ => ?_)
                refine zr_aload_n i_Mod_apart_96 rfl ?_
                refine zr_getf i_Mod_apart_97 rfl rfl rfl ?_
                refine zn_iconst 3 i_Mod_apart_100 (by decide) ?_
                refine zr_aload_n i_Mod_apart_101 rfl ?_
                refine zr_getf i_Mod_apart_102 rfl rfl rfl ?_
                refine zn_iconst 0 i_Mod_apart_105 (by decide) ?_
                refine zn_iaload i_Mod_apart_106 rfl (by omega) (by decide) ?_
                refine zr_top (y := nI sg) hN.1 ?_
                refine zn_imul i_Mod_apart_107 ?_
                refine zr_iload_n i_Mod_apart_108 rfl ?_
                refine zn_iadd i_Mod_apart_109 ?_
                refine zr_aload_n i_Mod_apart_110 rfl ?_
                refine zr_iload_n i_Mod_apart_111 rfl ?_
                refine zr_cv1 i_Mod_apart_112 rfl (by decide) rfl (Nat.le_of_ble_eq_true rfl) (Nat.le_of_ble_eq_true rfl) (e_Mod_now X _ g (va_up ms.1 1 (nI (e + 1)), ms.2) n (e + 1) 0 h0 rfl hn (by omega) (fun i _ => zch_nar (by rw [show ((va_up ms.1 1 (nI (e + 1)), ms.2) : zMS).2 1 = F from hF]; exact hc i))) ?_
                refine zr_top (y := (nowF F n (e + 1))) (by rw [← hF]; rfl) ?_
                refine mn_castore 13 1200 i_Mod_apart_115 (fun _ => rfl) (by decide) (by omega) (by decide) ?_
                refine zn_iinc i_Mod_apart_116 rfl rfl ?_
                refine zr_goto 91 i_Mod_apart_119 (by decide) ?_
                refine zr_iload_n i_Mod_apart_91 rfl ?_
                refine zn_iconst 3 i_Mod_apart_92 (by decide) ?_
                refine zr_icmp_ge 122 i_Mod_apart_93 (by decide) (fun q => absurd q (by decide)) (fun _ => ?_)
                refine zr_aload_n i_Mod_apart_96 rfl ?_
                refine zr_getf i_Mod_apart_97 rfl rfl rfl ?_
                refine zn_iconst 3 i_Mod_apart_100 (by decide) ?_
                refine zr_aload_n i_Mod_apart_101 rfl ?_
                refine zr_getf i_Mod_apart_102 rfl rfl rfl ?_
                refine zn_iconst 0 i_Mod_apart_105 (by decide) ?_
                refine zn_iaload i_Mod_apart_106 rfl (by omega) (by decide) ?_
                refine zr_top (y := nI sg) hN.1 ?_
                refine zn_imul i_Mod_apart_107 ?_
                refine zr_iload_n i_Mod_apart_108 rfl ?_
                refine zn_iadd i_Mod_apart_109 ?_
                refine zr_aload_n i_Mod_apart_110 rfl ?_
                refine zr_iload_n i_Mod_apart_111 rfl ?_
                refine zr_cv1 i_Mod_apart_112 rfl (by decide) rfl (Nat.le_of_ble_eq_true rfl) (Nat.le_of_ble_eq_true rfl) (e_Mod_now X _ g (va_up ms.1 1 (nI (e + 1)), va_up ms.2 13 (upd (ms.2 13) (3 * sg) (vp_nar .char (nowF F n (e + 1))))) n (e + 1) 1 h0 rfl hn (by omega) (fun i _ => zch_nar (by rw [show ((va_up ms.1 1 (nI (e + 1)), va_up ms.2 13 (upd (ms.2 13) (3 * sg) (vp_nar .char (nowF F n (e + 1))))) : zMS).2 1 = F from hF]; exact hc i))) ?_
                refine zr_top (y := (nowF F n (e + 2))) (by rw [← hF]; rfl) ?_
                refine mn_castore 13 1200 i_Mod_apart_115 (fun _ => rfl) (by decide) (by omega) (by decide) ?_
                refine zn_iinc i_Mod_apart_116 rfl rfl ?_
                refine zr_goto 91 i_Mod_apart_119 (by decide) ?_
                refine zr_iload_n i_Mod_apart_91 rfl ?_
                refine zn_iconst 3 i_Mod_apart_92 (by decide) ?_
                refine zr_icmp_ge 122 i_Mod_apart_93 (by decide) (fun q => absurd q (by decide)) (fun _ => ?_)
                refine zr_aload_n i_Mod_apart_96 rfl ?_
                refine zr_getf i_Mod_apart_97 rfl rfl rfl ?_
                refine zn_iconst 3 i_Mod_apart_100 (by decide) ?_
                refine zr_aload_n i_Mod_apart_101 rfl ?_
                refine zr_getf i_Mod_apart_102 rfl rfl rfl ?_
                refine zn_iconst 0 i_Mod_apart_105 (by decide) ?_
                refine zn_iaload i_Mod_apart_106 rfl (by omega) (by decide) ?_
                refine zr_top (y := nI sg) hN.1 ?_
                refine zn_imul i_Mod_apart_107 ?_
                refine zr_iload_n i_Mod_apart_108 rfl ?_
                refine zn_iadd i_Mod_apart_109 ?_
                refine zr_aload_n i_Mod_apart_110 rfl ?_
                refine zr_iload_n i_Mod_apart_111 rfl ?_
                refine zr_cv1 i_Mod_apart_112 rfl (by decide) rfl (Nat.le_of_ble_eq_true rfl) (Nat.le_of_ble_eq_true rfl) (e_Mod_now X _ g (va_up ms.1 1 (nI (e + 1)), va_up (va_up ms.2 13 (upd (ms.2 13) (3 * sg) (vp_nar .char (nowF F n (e + 1))))) 13 (upd (upd (ms.2 13) (3 * sg) (vp_nar .char (nowF F n (e + 1)))) (3 * sg + 1) (vp_nar .char (nowF F n (e + 2))))) n (e + 1) 2 h0 rfl hn (by omega) (fun i _ => zch_nar (by rw [show ((va_up ms.1 1 (nI (e + 1)), va_up (va_up ms.2 13 (upd (ms.2 13) (3 * sg) (vp_nar .char (nowF F n (e + 1))))) 13 (upd (upd (ms.2 13) (3 * sg) (vp_nar .char (nowF F n (e + 1)))) (3 * sg + 1) (vp_nar .char (nowF F n (e + 2))))) : zMS).2 1 = F from hF]; exact hc i))) ?_
                refine zr_top (y := (nowF F n (e + 3))) (by rw [← hF]; rfl) ?_
                refine mn_castore 13 1200 i_Mod_apart_115 (fun _ => rfl) (by decide) (by omega) (by decide) ?_
                refine zn_iinc i_Mod_apart_116 rfl rfl ?_
                refine zr_goto 91 i_Mod_apart_119 (by decide) ?_
                refine zr_iload_n i_Mod_apart_91 rfl ?_
                refine zn_iconst 3 i_Mod_apart_92 (by decide) ?_
                refine zr_icmp_ge 122 i_Mod_apart_93 (by decide) (fun _ => ?_) (fun q => absurd q (by decide))
                refine zr_aload_n i_Mod_apart_122 rfl ?_
                refine zr_getf i_Mod_apart_123 rfl rfl rfl ?_
                refine zn_iconst 0 i_Mod_apart_126 (by decide) ?_
                refine zr_dup2 i_Mod_apart_127 rfl rfl ?_
                refine zn_iaload i_Mod_apart_128 rfl (by omega) (by decide) ?_
                refine zr_top (y := nI sg) hN.1 ?_
                refine zn_iconst 1 i_Mod_apart_129 (by decide) ?_
                refine zn_iadd i_Mod_apart_130 ?_
                refine mn_iastore 2 2 i_Mod_apart_131 (fun _ => rfl) (by decide) (by omega) (by decide) ?_
                refine zr_aload_n i_Mod_apart_132 rfl ?_
                refine zr_dup i_Mod_apart_133 rfl ?_
                refine zr_getf i_Mod_apart_134 rfl rfl rfl ?_
                refine zr_top (y := nI (e + 1)) rfl ?_
                refine zn_iconst 3 i_Mod_apart_137 (by decide) ?_
                refine zn_iadd i_Mod_apart_138 ?_
                refine mr_putf (kk := 1) i_Mod_apart_139 rfl rfl (Nat.le_of_ble_eq_true rfl) rfl rfl rfl ?_
                exact hX
              · skip
                refine zr_aload_n i_Mod_apart_76 rfl ?_
                refine zr_iconst i_Mod_apart_77 (v := 2) (by decide) ?_
                refine zr_cv1 i_Mod_apart_78 rfl (by decide) rfl (Nat.le_of_ble_eq_true rfl) (Nat.le_of_ble_eq_true rfl) (e_Mod_now X _ g (va_up ms.1 1 (nI (e + 1)), ms.2) n (e + 1) 2 h0 rfl hn (by omega) (fun i _ => zch_nar (by rw [show ((va_up ms.1 1 (nI (e + 1)), ms.2) : zMS).2 1 = F from hF]; exact hc i))) ?_
                refine zr_top (y := (nowF F n (e + 1 + 2))) (by rw [← hF]; rfl) ?_
                refine zr_cs1 i_Mod_apart_81 rfl (by decide) (Nat.le_of_ble_eq_true rfl) (Nat.le_of_ble_eq_true rfl) (e_Mod_digit X _ _ _) ?_
                refine zB_if_ne 89 i_Mod_apart_84 (by decide) (fun c_84 => ?_) (fun c_84 => ?_)
                · skip
                  refine zn_iconst 0 i_Mod_apart_89 (by decide) ?_
                  refine zr_istore_n i_Mod_apart_90 rfl ?_
                  refine zr_iload_n i_Mod_apart_91 rfl ?_
                  refine zn_iconst 3 i_Mod_apart_92 (by decide) ?_
                  refine zr_icmp_ge 122 i_Mod_apart_93 (by decide) (fun q => absurd q (by decide)) (fun _ => ?_)
                  refine zr_aload_n i_Mod_apart_96 rfl ?_
                  refine zr_getf i_Mod_apart_97 rfl rfl rfl ?_
                  refine zn_iconst 3 i_Mod_apart_100 (by decide) ?_
                  refine zr_aload_n i_Mod_apart_101 rfl ?_
                  refine zr_getf i_Mod_apart_102 rfl rfl rfl ?_
                  refine zn_iconst 0 i_Mod_apart_105 (by decide) ?_
                  refine zn_iaload i_Mod_apart_106 rfl (by omega) (by decide) ?_
                  refine zr_top (y := nI sg) hN.1 ?_
                  refine zn_imul i_Mod_apart_107 ?_
                  refine zr_iload_n i_Mod_apart_108 rfl ?_
                  refine zn_iadd i_Mod_apart_109 ?_
                  refine zr_aload_n i_Mod_apart_110 rfl ?_
                  refine zr_iload_n i_Mod_apart_111 rfl ?_
                  refine zr_cv1 i_Mod_apart_112 rfl (by decide) rfl (Nat.le_of_ble_eq_true rfl) (Nat.le_of_ble_eq_true rfl) (e_Mod_now X _ g (va_up ms.1 1 (nI (e + 1)), ms.2) n (e + 1) 0 h0 rfl hn (by omega) (fun i _ => zch_nar (by rw [show ((va_up ms.1 1 (nI (e + 1)), ms.2) : zMS).2 1 = F from hF]; exact hc i))) ?_
                  refine zr_top (y := (nowF F n (e + 1))) (by rw [← hF]; rfl) ?_
                  refine mn_castore 13 1200 i_Mod_apart_115 (fun _ => rfl) (by decide) (by omega) (by decide) ?_
                  refine zn_iinc i_Mod_apart_116 rfl rfl ?_
                  refine zr_goto 91 i_Mod_apart_119 (by decide) ?_
                  refine zr_iload_n i_Mod_apart_91 rfl ?_
                  refine zn_iconst 3 i_Mod_apart_92 (by decide) ?_
                  refine zr_icmp_ge 122 i_Mod_apart_93 (by decide) (fun q => absurd q (by decide)) (fun _ => ?_)
                  refine zr_aload_n i_Mod_apart_96 rfl ?_
                  refine zr_getf i_Mod_apart_97 rfl rfl rfl ?_
                  refine zn_iconst 3 i_Mod_apart_100 (by decide) ?_
                  refine zr_aload_n i_Mod_apart_101 rfl ?_
                  refine zr_getf i_Mod_apart_102 rfl rfl rfl ?_
                  refine zn_iconst 0 i_Mod_apart_105 (by decide) ?_
                  refine zn_iaload i_Mod_apart_106 rfl (by omega) (by decide) ?_
                  refine zr_top (y := nI sg) hN.1 ?_
                  refine zn_imul i_Mod_apart_107 ?_
                  refine zr_iload_n i_Mod_apart_108 rfl ?_
                  refine zn_iadd i_Mod_apart_109 ?_
                  refine zr_aload_n i_Mod_apart_110 rfl ?_
                  refine zr_iload_n i_Mod_apart_111 rfl ?_
                  refine zr_cv1 i_Mod_apart_112 rfl (by decide) rfl (Nat.le_of_ble_eq_true rfl) (Nat.le_of_ble_eq_true rfl) (e_Mod_now X _ g (va_up ms.1 1 (nI (e + 1)), va_up ms.2 13 (upd (ms.2 13) (3 * sg) (vp_nar .char (nowF F n (e + 1))))) n (e + 1) 1 h0 rfl hn (by omega) (fun i _ => zch_nar (by rw [show ((va_up ms.1 1 (nI (e + 1)), va_up ms.2 13 (upd (ms.2 13) (3 * sg) (vp_nar .char (nowF F n (e + 1))))) : zMS).2 1 = F from hF]; exact hc i))) ?_
                  refine zr_top (y := (nowF F n (e + 2))) (by rw [← hF]; rfl) ?_
                  refine mn_castore 13 1200 i_Mod_apart_115 (fun _ => rfl) (by decide) (by omega) (by decide) ?_
                  refine zn_iinc i_Mod_apart_116 rfl rfl ?_
                  refine zr_goto 91 i_Mod_apart_119 (by decide) ?_
                  refine zr_iload_n i_Mod_apart_91 rfl ?_
                  refine zn_iconst 3 i_Mod_apart_92 (by decide) ?_
                  refine zr_icmp_ge 122 i_Mod_apart_93 (by decide) (fun q => absurd q (by decide)) (fun _ => ?_)
                  refine zr_aload_n i_Mod_apart_96 rfl ?_
                  refine zr_getf i_Mod_apart_97 rfl rfl rfl ?_
                  refine zn_iconst 3 i_Mod_apart_100 (by decide) ?_
                  refine zr_aload_n i_Mod_apart_101 rfl ?_
                  refine zr_getf i_Mod_apart_102 rfl rfl rfl ?_
                  refine zn_iconst 0 i_Mod_apart_105 (by decide) ?_
                  refine zn_iaload i_Mod_apart_106 rfl (by omega) (by decide) ?_
                  refine zr_top (y := nI sg) hN.1 ?_
                  refine zn_imul i_Mod_apart_107 ?_
                  refine zr_iload_n i_Mod_apart_108 rfl ?_
                  refine zn_iadd i_Mod_apart_109 ?_
                  refine zr_aload_n i_Mod_apart_110 rfl ?_
                  refine zr_iload_n i_Mod_apart_111 rfl ?_
                  refine zr_cv1 i_Mod_apart_112 rfl (by decide) rfl (Nat.le_of_ble_eq_true rfl) (Nat.le_of_ble_eq_true rfl) (e_Mod_now X _ g (va_up ms.1 1 (nI (e + 1)), va_up (va_up ms.2 13 (upd (ms.2 13) (3 * sg) (vp_nar .char (nowF F n (e + 1))))) 13 (upd (upd (ms.2 13) (3 * sg) (vp_nar .char (nowF F n (e + 1)))) (3 * sg + 1) (vp_nar .char (nowF F n (e + 2))))) n (e + 1) 2 h0 rfl hn (by omega) (fun i _ => zch_nar (by rw [show ((va_up ms.1 1 (nI (e + 1)), va_up (va_up ms.2 13 (upd (ms.2 13) (3 * sg) (vp_nar .char (nowF F n (e + 1))))) 13 (upd (upd (ms.2 13) (3 * sg) (vp_nar .char (nowF F n (e + 1)))) (3 * sg + 1) (vp_nar .char (nowF F n (e + 2))))) : zMS).2 1 = F from hF]; exact hc i))) ?_
                  refine zr_top (y := (nowF F n (e + 3))) (by rw [← hF]; rfl) ?_
                  refine mn_castore 13 1200 i_Mod_apart_115 (fun _ => rfl) (by decide) (by omega) (by decide) ?_
                  refine zn_iinc i_Mod_apart_116 rfl rfl ?_
                  refine zr_goto 91 i_Mod_apart_119 (by decide) ?_
                  refine zr_iload_n i_Mod_apart_91 rfl ?_
                  refine zn_iconst 3 i_Mod_apart_92 (by decide) ?_
                  refine zr_icmp_ge 122 i_Mod_apart_93 (by decide) (fun _ => ?_) (fun q => absurd q (by decide))
                  refine zr_aload_n i_Mod_apart_122 rfl ?_
                  refine zr_getf i_Mod_apart_123 rfl rfl rfl ?_
                  refine zn_iconst 0 i_Mod_apart_126 (by decide) ?_
                  refine zr_dup2 i_Mod_apart_127 rfl rfl ?_
                  refine zn_iaload i_Mod_apart_128 rfl (by omega) (by decide) ?_
                  refine zr_top (y := nI sg) hN.1 ?_
                  refine zn_iconst 1 i_Mod_apart_129 (by decide) ?_
                  refine zn_iadd i_Mod_apart_130 ?_
                  refine mn_iastore 2 2 i_Mod_apart_131 (fun _ => rfl) (by decide) (by omega) (by decide) ?_
                  refine zr_aload_n i_Mod_apart_132 rfl ?_
                  refine zr_dup i_Mod_apart_133 rfl ?_
                  refine zr_getf i_Mod_apart_134 rfl rfl rfl ?_
                  refine zr_top (y := nI (e + 1)) rfl ?_
                  refine zn_iconst 3 i_Mod_apart_137 (by decide) ?_
                  refine zn_iadd i_Mod_apart_138 ?_
                  refine mr_putf (kk := 1) i_Mod_apart_139 rfl rfl (Nat.le_of_ble_eq_true rfl) rfl rfl rfl ?_
                  exact hX
                · skip
                  exact absurd hO (by simp [nameOk, *])
            · skip
              refine zr_aload_n i_Mod_apart_54 rfl ?_
              refine zr_iconst i_Mod_apart_55 (v := 1) (by decide) ?_
              refine zr_cv1 i_Mod_apart_56 rfl (by decide) rfl (Nat.le_of_ble_eq_true rfl) (Nat.le_of_ble_eq_true rfl) (e_Mod_now X _ g (va_up ms.1 1 (nI (e + 1)), ms.2) n (e + 1) 1 h0 rfl hn (by omega) (fun i _ => zch_nar (by rw [show ((va_up ms.1 1 (nI (e + 1)), ms.2) : zMS).2 1 = F from hF]; exact hc i))) ?_
              refine zr_top (y := (nowF F n (e + 1 + 1))) (by rw [← hF]; rfl) ?_
              refine zr_cs1 i_Mod_apart_59 rfl (by decide) (Nat.le_of_ble_eq_true rfl) (Nat.le_of_ble_eq_true rfl) (e_Mod_digit X _ _ _) ?_
              refine zB_if_eq 87 i_Mod_apart_62 (by decide) (fun c_62 => ?_) (fun c_62 => ?_)
              · skip
                exact absurd hO (by simp [nameOk, *])
              · skip
                refine zr_aload_n i_Mod_apart_65 rfl ?_
                refine zr_iconst i_Mod_apart_66 (v := 2) (by decide) ?_
                refine zr_cv1 i_Mod_apart_67 rfl (by decide) rfl (Nat.le_of_ble_eq_true rfl) (Nat.le_of_ble_eq_true rfl) (e_Mod_now X _ g (va_up ms.1 1 (nI (e + 1)), ms.2) n (e + 1) 2 h0 rfl hn (by omega) (fun i _ => zch_nar (by rw [show ((va_up ms.1 1 (nI (e + 1)), ms.2) : zMS).2 1 = F from hF]; exact hc i))) ?_
                refine zr_top (y := (nowF F n (e + 1 + 2))) (by rw [← hF]; rfl) ?_
                refine zr_cs1 i_Mod_apart_70 rfl (by decide) (Nat.le_of_ble_eq_true rfl) (Nat.le_of_ble_eq_true rfl) (e_Mod_capital X _ _ _) ?_
                refine zB_if_ne 89 i_Mod_apart_73 (by decide) (fun c_73 => ?_) (fun c_73 => ?_)
                · skip
                  refine zn_iconst 0 i_Mod_apart_89 (by decide) ?_
                  refine zr_istore_n i_Mod_apart_90 rfl ?_
                  refine zr_iload_n i_Mod_apart_91 rfl ?_
                  refine zn_iconst 3 i_Mod_apart_92 (by decide) ?_
                  refine zr_icmp_ge 122 i_Mod_apart_93 (by decide) (fun q => absurd q (by decide)) (fun _ => ?_)
                  refine zr_aload_n i_Mod_apart_96 rfl ?_
                  refine zr_getf i_Mod_apart_97 rfl rfl rfl ?_
                  refine zn_iconst 3 i_Mod_apart_100 (by decide) ?_
                  refine zr_aload_n i_Mod_apart_101 rfl ?_
                  refine zr_getf i_Mod_apart_102 rfl rfl rfl ?_
                  refine zn_iconst 0 i_Mod_apart_105 (by decide) ?_
                  refine zn_iaload i_Mod_apart_106 rfl (by omega) (by decide) ?_
                  refine zr_top (y := nI sg) hN.1 ?_
                  refine zn_imul i_Mod_apart_107 ?_
                  refine zr_iload_n i_Mod_apart_108 rfl ?_
                  refine zn_iadd i_Mod_apart_109 ?_
                  refine zr_aload_n i_Mod_apart_110 rfl ?_
                  refine zr_iload_n i_Mod_apart_111 rfl ?_
                  refine zr_cv1 i_Mod_apart_112 rfl (by decide) rfl (Nat.le_of_ble_eq_true rfl) (Nat.le_of_ble_eq_true rfl) (e_Mod_now X _ g (va_up ms.1 1 (nI (e + 1)), ms.2) n (e + 1) 0 h0 rfl hn (by omega) (fun i _ => zch_nar (by rw [show ((va_up ms.1 1 (nI (e + 1)), ms.2) : zMS).2 1 = F from hF]; exact hc i))) ?_
                  refine zr_top (y := (nowF F n (e + 1))) (by rw [← hF]; rfl) ?_
                  refine mn_castore 13 1200 i_Mod_apart_115 (fun _ => rfl) (by decide) (by omega) (by decide) ?_
                  refine zn_iinc i_Mod_apart_116 rfl rfl ?_
                  refine zr_goto 91 i_Mod_apart_119 (by decide) ?_
                  refine zr_iload_n i_Mod_apart_91 rfl ?_
                  refine zn_iconst 3 i_Mod_apart_92 (by decide) ?_
                  refine zr_icmp_ge 122 i_Mod_apart_93 (by decide) (fun q => absurd q (by decide)) (fun _ => ?_)
                  refine zr_aload_n i_Mod_apart_96 rfl ?_
                  refine zr_getf i_Mod_apart_97 rfl rfl rfl ?_
                  refine zn_iconst 3 i_Mod_apart_100 (by decide) ?_
                  refine zr_aload_n i_Mod_apart_101 rfl ?_
                  refine zr_getf i_Mod_apart_102 rfl rfl rfl ?_
                  refine zn_iconst 0 i_Mod_apart_105 (by decide) ?_
                  refine zn_iaload i_Mod_apart_106 rfl (by omega) (by decide) ?_
                  refine zr_top (y := nI sg) hN.1 ?_
                  refine zn_imul i_Mod_apart_107 ?_
                  refine zr_iload_n i_Mod_apart_108 rfl ?_
                  refine zn_iadd i_Mod_apart_109 ?_
                  refine zr_aload_n i_Mod_apart_110 rfl ?_
                  refine zr_iload_n i_Mod_apart_111 rfl ?_
                  refine zr_cv1 i_Mod_apart_112 rfl (by decide) rfl (Nat.le_of_ble_eq_true rfl) (Nat.le_of_ble_eq_true rfl) (e_Mod_now X _ g (va_up ms.1 1 (nI (e + 1)), va_up ms.2 13 (upd (ms.2 13) (3 * sg) (vp_nar .char (nowF F n (e + 1))))) n (e + 1) 1 h0 rfl hn (by omega) (fun i _ => zch_nar (by rw [show ((va_up ms.1 1 (nI (e + 1)), va_up ms.2 13 (upd (ms.2 13) (3 * sg) (vp_nar .char (nowF F n (e + 1))))) : zMS).2 1 = F from hF]; exact hc i))) ?_
                  refine zr_top (y := (nowF F n (e + 2))) (by rw [← hF]; rfl) ?_
                  refine mn_castore 13 1200 i_Mod_apart_115 (fun _ => rfl) (by decide) (by omega) (by decide) ?_
                  refine zn_iinc i_Mod_apart_116 rfl rfl ?_
                  refine zr_goto 91 i_Mod_apart_119 (by decide) ?_
                  refine zr_iload_n i_Mod_apart_91 rfl ?_
                  refine zn_iconst 3 i_Mod_apart_92 (by decide) ?_
                  refine zr_icmp_ge 122 i_Mod_apart_93 (by decide) (fun q => absurd q (by decide)) (fun _ => ?_)
                  refine zr_aload_n i_Mod_apart_96 rfl ?_
                  refine zr_getf i_Mod_apart_97 rfl rfl rfl ?_
                  refine zn_iconst 3 i_Mod_apart_100 (by decide) ?_
                  refine zr_aload_n i_Mod_apart_101 rfl ?_
                  refine zr_getf i_Mod_apart_102 rfl rfl rfl ?_
                  refine zn_iconst 0 i_Mod_apart_105 (by decide) ?_
                  refine zn_iaload i_Mod_apart_106 rfl (by omega) (by decide) ?_
                  refine zr_top (y := nI sg) hN.1 ?_
                  refine zn_imul i_Mod_apart_107 ?_
                  refine zr_iload_n i_Mod_apart_108 rfl ?_
                  refine zn_iadd i_Mod_apart_109 ?_
                  refine zr_aload_n i_Mod_apart_110 rfl ?_
                  refine zr_iload_n i_Mod_apart_111 rfl ?_
                  refine zr_cv1 i_Mod_apart_112 rfl (by decide) rfl (Nat.le_of_ble_eq_true rfl) (Nat.le_of_ble_eq_true rfl) (e_Mod_now X _ g (va_up ms.1 1 (nI (e + 1)), va_up (va_up ms.2 13 (upd (ms.2 13) (3 * sg) (vp_nar .char (nowF F n (e + 1))))) 13 (upd (upd (ms.2 13) (3 * sg) (vp_nar .char (nowF F n (e + 1)))) (3 * sg + 1) (vp_nar .char (nowF F n (e + 2))))) n (e + 1) 2 h0 rfl hn (by omega) (fun i _ => zch_nar (by rw [show ((va_up ms.1 1 (nI (e + 1)), va_up (va_up ms.2 13 (upd (ms.2 13) (3 * sg) (vp_nar .char (nowF F n (e + 1))))) 13 (upd (upd (ms.2 13) (3 * sg) (vp_nar .char (nowF F n (e + 1)))) (3 * sg + 1) (vp_nar .char (nowF F n (e + 2))))) : zMS).2 1 = F from hF]; exact hc i))) ?_
                  refine zr_top (y := (nowF F n (e + 3))) (by rw [← hF]; rfl) ?_
                  refine mn_castore 13 1200 i_Mod_apart_115 (fun _ => rfl) (by decide) (by omega) (by decide) ?_
                  refine zn_iinc i_Mod_apart_116 rfl rfl ?_
                  refine zr_goto 91 i_Mod_apart_119 (by decide) ?_
                  refine zr_iload_n i_Mod_apart_91 rfl ?_
                  refine zn_iconst 3 i_Mod_apart_92 (by decide) ?_
                  refine zr_icmp_ge 122 i_Mod_apart_93 (by decide) (fun _ => ?_) (fun q => absurd q (by decide))
                  refine zr_aload_n i_Mod_apart_122 rfl ?_
                  refine zr_getf i_Mod_apart_123 rfl rfl rfl ?_
                  refine zn_iconst 0 i_Mod_apart_126 (by decide) ?_
                  refine zr_dup2 i_Mod_apart_127 rfl rfl ?_
                  refine zn_iaload i_Mod_apart_128 rfl (by omega) (by decide) ?_
                  refine zr_top (y := nI sg) hN.1 ?_
                  refine zn_iconst 1 i_Mod_apart_129 (by decide) ?_
                  refine zn_iadd i_Mod_apart_130 ?_
                  refine mn_iastore 2 2 i_Mod_apart_131 (fun _ => rfl) (by decide) (by omega) (by decide) ?_
                  refine zr_aload_n i_Mod_apart_132 rfl ?_
                  refine zr_dup i_Mod_apart_133 rfl ?_
                  refine zr_getf i_Mod_apart_134 rfl rfl rfl ?_
                  refine zr_top (y := nI (e + 1)) rfl ?_
                  refine zn_iconst 3 i_Mod_apart_137 (by decide) ?_
                  refine zn_iadd i_Mod_apart_138 ?_
                  refine mr_putf (kk := 1) i_Mod_apart_139 rfl rfl (Nat.le_of_ble_eq_true rfl) rfl rfl rfl ?_
                  exact hX
                · skip
                  refine zr_aload_n i_Mod_apart_76 rfl ?_
                  refine zr_iconst i_Mod_apart_77 (v := 2) (by decide) ?_
                  refine zr_cv1 i_Mod_apart_78 rfl (by decide) rfl (Nat.le_of_ble_eq_true rfl) (Nat.le_of_ble_eq_true rfl) (e_Mod_now X _ g (va_up ms.1 1 (nI (e + 1)), ms.2) n (e + 1) 2 h0 rfl hn (by omega) (fun i _ => zch_nar (by rw [show ((va_up ms.1 1 (nI (e + 1)), ms.2) : zMS).2 1 = F from hF]; exact hc i))) ?_
                  refine zr_top (y := (nowF F n (e + 1 + 2))) (by rw [← hF]; rfl) ?_
                  refine zr_cs1 i_Mod_apart_81 rfl (by decide) (Nat.le_of_ble_eq_true rfl) (Nat.le_of_ble_eq_true rfl) (e_Mod_digit X _ _ _) ?_
                  refine zB_if_ne 89 i_Mod_apart_84 (by decide) (fun c_84 => ?_) (fun c_84 => ?_)
                  · skip
                    refine zn_iconst 0 i_Mod_apart_89 (by decide) ?_
                    refine zr_istore_n i_Mod_apart_90 rfl ?_
                    refine zr_iload_n i_Mod_apart_91 rfl ?_
                    refine zn_iconst 3 i_Mod_apart_92 (by decide) ?_
                    refine zr_icmp_ge 122 i_Mod_apart_93 (by decide) (fun q => absurd q (by decide)) (fun _ => ?_)
                    refine zr_aload_n i_Mod_apart_96 rfl ?_
                    refine zr_getf i_Mod_apart_97 rfl rfl rfl ?_
                    refine zn_iconst 3 i_Mod_apart_100 (by decide) ?_
                    refine zr_aload_n i_Mod_apart_101 rfl ?_
                    refine zr_getf i_Mod_apart_102 rfl rfl rfl ?_
                    refine zn_iconst 0 i_Mod_apart_105 (by decide) ?_
                    refine zn_iaload i_Mod_apart_106 rfl (by omega) (by decide) ?_
                    refine zr_top (y := nI sg) hN.1 ?_
                    refine zn_imul i_Mod_apart_107 ?_
                    refine zr_iload_n i_Mod_apart_108 rfl ?_
                    refine zn_iadd i_Mod_apart_109 ?_
                    refine zr_aload_n i_Mod_apart_110 rfl ?_
                    refine zr_iload_n i_Mod_apart_111 rfl ?_
                    refine zr_cv1 i_Mod_apart_112 rfl (by decide) rfl (Nat.le_of_ble_eq_true rfl) (Nat.le_of_ble_eq_true rfl) (e_Mod_now X _ g (va_up ms.1 1 (nI (e + 1)), ms.2) n (e + 1) 0 h0 rfl hn (by omega) (fun i _ => zch_nar (by rw [show ((va_up ms.1 1 (nI (e + 1)), ms.2) : zMS).2 1 = F from hF]; exact hc i))) ?_
                    refine zr_top (y := (nowF F n (e + 1))) (by rw [← hF]; rfl) ?_
                    refine mn_castore 13 1200 i_Mod_apart_115 (fun _ => rfl) (by decide) (by omega) (by decide) ?_
                    refine zn_iinc i_Mod_apart_116 rfl rfl ?_
                    refine zr_goto 91 i_Mod_apart_119 (by decide) ?_
                    refine zr_iload_n i_Mod_apart_91 rfl ?_
                    refine zn_iconst 3 i_Mod_apart_92 (by decide) ?_
                    refine zr_icmp_ge 122 i_Mod_apart_93 (by decide) (fun q => absurd q (by decide)) (fun _ => ?_)
                    refine zr_aload_n i_Mod_apart_96 rfl ?_
                    refine zr_getf i_Mod_apart_97 rfl rfl rfl ?_
                    refine zn_iconst 3 i_Mod_apart_100 (by decide) ?_
                    refine zr_aload_n i_Mod_apart_101 rfl ?_
                    refine zr_getf i_Mod_apart_102 rfl rfl rfl ?_
                    refine zn_iconst 0 i_Mod_apart_105 (by decide) ?_
                    refine zn_iaload i_Mod_apart_106 rfl (by omega) (by decide) ?_
                    refine zr_top (y := nI sg) hN.1 ?_
                    refine zn_imul i_Mod_apart_107 ?_
                    refine zr_iload_n i_Mod_apart_108 rfl ?_
                    refine zn_iadd i_Mod_apart_109 ?_
                    refine zr_aload_n i_Mod_apart_110 rfl ?_
                    refine zr_iload_n i_Mod_apart_111 rfl ?_
                    refine zr_cv1 i_Mod_apart_112 rfl (by decide) rfl (Nat.le_of_ble_eq_true rfl) (Nat.le_of_ble_eq_true rfl) (e_Mod_now X _ g (va_up ms.1 1 (nI (e + 1)), va_up ms.2 13 (upd (ms.2 13) (3 * sg) (vp_nar .char (nowF F n (e + 1))))) n (e + 1) 1 h0 rfl hn (by omega) (fun i _ => zch_nar (by rw [show ((va_up ms.1 1 (nI (e + 1)), va_up ms.2 13 (upd (ms.2 13) (3 * sg) (vp_nar .char (nowF F n (e + 1))))) : zMS).2 1 = F from hF]; exact hc i))) ?_
                    refine zr_top (y := (nowF F n (e + 2))) (by rw [← hF]; rfl) ?_
                    refine mn_castore 13 1200 i_Mod_apart_115 (fun _ => rfl) (by decide) (by omega) (by decide) ?_
                    refine zn_iinc i_Mod_apart_116 rfl rfl ?_
                    refine zr_goto 91 i_Mod_apart_119 (by decide) ?_
                    refine zr_iload_n i_Mod_apart_91 rfl ?_
                    refine zn_iconst 3 i_Mod_apart_92 (by decide) ?_
                    refine zr_icmp_ge 122 i_Mod_apart_93 (by decide) (fun q => absurd q (by decide)) (fun _ => ?_)
                    refine zr_aload_n i_Mod_apart_96 rfl ?_
                    refine zr_getf i_Mod_apart_97 rfl rfl rfl ?_
                    refine zn_iconst 3 i_Mod_apart_100 (by decide) ?_
                    refine zr_aload_n i_Mod_apart_101 rfl ?_
                    refine zr_getf i_Mod_apart_102 rfl rfl rfl ?_
                    refine zn_iconst 0 i_Mod_apart_105 (by decide) ?_
                    refine zn_iaload i_Mod_apart_106 rfl (by omega) (by decide) ?_
                    refine zr_top (y := nI sg) hN.1 ?_
                    refine zn_imul i_Mod_apart_107 ?_
                    refine zr_iload_n i_Mod_apart_108 rfl ?_
                    refine zn_iadd i_Mod_apart_109 ?_
                    refine zr_aload_n i_Mod_apart_110 rfl ?_
                    refine zr_iload_n i_Mod_apart_111 rfl ?_
                    refine zr_cv1 i_Mod_apart_112 rfl (by decide) rfl (Nat.le_of_ble_eq_true rfl) (Nat.le_of_ble_eq_true rfl) (e_Mod_now X _ g (va_up ms.1 1 (nI (e + 1)), va_up (va_up ms.2 13 (upd (ms.2 13) (3 * sg) (vp_nar .char (nowF F n (e + 1))))) 13 (upd (upd (ms.2 13) (3 * sg) (vp_nar .char (nowF F n (e + 1)))) (3 * sg + 1) (vp_nar .char (nowF F n (e + 2))))) n (e + 1) 2 h0 rfl hn (by omega) (fun i _ => zch_nar (by rw [show ((va_up ms.1 1 (nI (e + 1)), va_up (va_up ms.2 13 (upd (ms.2 13) (3 * sg) (vp_nar .char (nowF F n (e + 1))))) 13 (upd (upd (ms.2 13) (3 * sg) (vp_nar .char (nowF F n (e + 1)))) (3 * sg + 1) (vp_nar .char (nowF F n (e + 2))))) : zMS).2 1 = F from hF]; exact hc i))) ?_
                    refine zr_top (y := (nowF F n (e + 3))) (by rw [← hF]; rfl) ?_
                    refine mn_castore 13 1200 i_Mod_apart_115 (fun _ => rfl) (by decide) (by omega) (by decide) ?_
                    refine zn_iinc i_Mod_apart_116 rfl rfl ?_
                    refine zr_goto 91 i_Mod_apart_119 (by decide) ?_
                    refine zr_iload_n i_Mod_apart_91 rfl ?_
                    refine zn_iconst 3 i_Mod_apart_92 (by decide) ?_
                    refine zr_icmp_ge 122 i_Mod_apart_93 (by decide) (fun _ => ?_) (fun q => absurd q (by decide))
                    refine zr_aload_n i_Mod_apart_122 rfl ?_
                    refine zr_getf i_Mod_apart_123 rfl rfl rfl ?_
                    refine zn_iconst 0 i_Mod_apart_126 (by decide) ?_
                    refine zr_dup2 i_Mod_apart_127 rfl rfl ?_
                    refine zn_iaload i_Mod_apart_128 rfl (by omega) (by decide) ?_
                    refine zr_top (y := nI sg) hN.1 ?_
                    refine zn_iconst 1 i_Mod_apart_129 (by decide) ?_
                    refine zn_iadd i_Mod_apart_130 ?_
                    refine mn_iastore 2 2 i_Mod_apart_131 (fun _ => rfl) (by decide) (by omega) (by decide) ?_
                    refine zr_aload_n i_Mod_apart_132 rfl ?_
                    refine zr_dup i_Mod_apart_133 rfl ?_
                    refine zr_getf i_Mod_apart_134 rfl rfl rfl ?_
                    refine zr_top (y := nI (e + 1)) rfl ?_
                    refine zn_iconst 3 i_Mod_apart_137 (by decide) ?_
                    refine zn_iadd i_Mod_apart_138 ?_
                    refine mr_putf (kk := 1) i_Mod_apart_139 rfl rfl (Nat.le_of_ble_eq_true rfl) rfl rfl rfl ?_
                    exact hX
                  · skip
                    exact absurd hO (by simp [nameOk, *])
        | some p =>
          rw [hr] at hm1
          obtain ⟨hb, hat, htb⟩ := hm1
          subst hb
          have hpl := rest_len hr
          have hel := ent_len (sg + 1) p.1 (0, 1, 1, 1)
          have e1 : ms1.2 1 = F := (hp1.r 1 (by omega)).trans hF
          have e2 : ms1.2 14 = S := (hp1.r 14 (by omega)).trans hSe
          have e3 : ms1.1 0 = nI n := (hp1.n 0 (by omega)).trans h0
          obtain ⟨b, ms2, hR2, hp, hm⟩ := ih ms1 p.2 (sg + 1) (E ++ (entF (sg + 1) (0, 1, 1, 1) p.1).2) (nl ++ [(nowF F n (e + 1)), (nowF F n (e + 2)), (nowF F n (e + 3))]) (some (.int (nI (0 + 1 + 1 + 1)))) (by omega) e1 e2 e3 hat htb (mNam_par hNn hq1.1 hq1.2) (by rw [List.length_append]; omega) (by rw [flat_app, List.length_append]; omega) (by omega) (by omega)
          refine ⟨b, ms2, ?_, (hpn.trans hp1).trans hp, ?_⟩
          · have hX : zR X (d + 5) 107 142 [some (.ref 129), some (.int (nI (0 + 1 + 1 + 1)))] [] (mset g (mname ms sg e (nowF F n (e + 1)) (nowF F n (e + 2)) (nowF F n (e + 3)))) (some (.int (zb b)), mset g ms2) := by
              refine zr_aload_n i_Mod_apart_142 rfl ?_
              refine zr_cv0 i_Mod_apart_143 rfl (by decide) rfl (Nat.le_of_ble_eq_true rfl) (Nat.le_of_ble_eq_true rfl) (hR) ?_
              refine zB_if_ne 9 i_Mod_apart_146 (by decide) (fun _ => ?_) (fun q => absurd q (by decide))
              exact hR2
            rw [eqm] at hX
            refine zr_aload_n i_Mod_apart_9 rfl ?_
            refine zr_getf i_Mod_apart_10 rfl rfl rfl ?_
            refine zr_top (y := nI e) h1 ?_
            refine zn_iconst 1 i_Mod_apart_13 (by decide) ?_
            refine zn_iadd i_Mod_apart_14 ?_
            refine zr_aload_n i_Mod_apart_15 rfl ?_
            refine zr_getf i_Mod_apart_16 rfl rfl rfl ?_
            refine zr_top (y := nI n) h0 ?_
            refine zn_icmp_ge 151 i_Mod_apart_19 (by decide) (by omega) (by omega) (fun q => absurd q (by omega)) (fun c_19 => ?_)
            refine zr_aload_n i_Mod_apart_22 rfl ?_
            refine zr_dup i_Mod_apart_23 rfl ?_
            refine zr_getf i_Mod_apart_24 rfl rfl rfl ?_
            refine zr_top (y := nI e) h1 ?_
            refine zn_iconst 1 i_Mod_apart_27 (by decide) ?_
            refine zn_iadd i_Mod_apart_28 ?_
            refine mr_putf (kk := 1) i_Mod_apart_29 rfl rfl (Nat.le_of_ble_eq_true rfl) rfl rfl rfl ?_
            refine zr_aload_n i_Mod_apart_32 rfl ?_
            refine zr_iconst i_Mod_apart_33 (v := 0) (by decide) ?_
            refine zr_cv1 i_Mod_apart_34 rfl (by decide) rfl (Nat.le_of_ble_eq_true rfl) (Nat.le_of_ble_eq_true rfl) (e_Mod_now X _ g (va_up ms.1 1 (nI (e + 1)), ms.2) n (e + 1) 0 h0 rfl hn (by omega) (fun i _ => zch_nar (by rw [show ((va_up ms.1 1 (nI (e + 1)), ms.2) : zMS).2 1 = F from hF]; exact hc i))) ?_
            refine zr_top (y := (nowF F n (e + 1 + 0))) (by rw [← hF]; rfl) ?_
            refine zr_cs1 i_Mod_apart_37 rfl (by decide) (Nat.le_of_ble_eq_true rfl) (Nat.le_of_ble_eq_true rfl) (e_Mod_capital X _ _ _) ?_
            refine zB_if_eq 87 i_Mod_apart_40 (by decide) (fun c_40 => ?_) (fun c_40 => ?_)
            · skip
              exact absurd hO (by simp [nameOk, *])
            · skip
              refine zr_aload_n i_Mod_apart_43 rfl ?_
              refine zr_iconst i_Mod_apart_44 (v := 1) (by decide) ?_
              refine zr_cv1 i_Mod_apart_45 rfl (by decide) rfl (Nat.le_of_ble_eq_true rfl) (Nat.le_of_ble_eq_true rfl) (e_Mod_now X _ g (va_up ms.1 1 (nI (e + 1)), ms.2) n (e + 1) 1 h0 rfl hn (by omega) (fun i _ => zch_nar (by rw [show ((va_up ms.1 1 (nI (e + 1)), ms.2) : zMS).2 1 = F from hF]; exact hc i))) ?_
              refine zr_top (y := (nowF F n (e + 1 + 1))) (by rw [← hF]; rfl) ?_
              refine zr_cs1 i_Mod_apart_48 rfl (by decide) (Nat.le_of_ble_eq_true rfl) (Nat.le_of_ble_eq_true rfl) (e_Mod_capital X _ _ _) ?_
              refine zB_if_ne 65 i_Mod_apart_51 (by decide) (fun c_51 => ?_) (fun c_51 => ?_)
              · skip
                refine zr_aload_n i_Mod_apart_65 rfl ?_
                refine zr_iconst i_Mod_apart_66 (v := 2) (by decide) ?_
                refine zr_cv1 i_Mod_apart_67 rfl (by decide) rfl (Nat.le_of_ble_eq_true rfl) (Nat.le_of_ble_eq_true rfl) (e_Mod_now X _ g (va_up ms.1 1 (nI (e + 1)), ms.2) n (e + 1) 2 h0 rfl hn (by omega) (fun i _ => zch_nar (by rw [show ((va_up ms.1 1 (nI (e + 1)), ms.2) : zMS).2 1 = F from hF]; exact hc i))) ?_
                refine zr_top (y := (nowF F n (e + 1 + 2))) (by rw [← hF]; rfl) ?_
                refine zr_cs1 i_Mod_apart_70 rfl (by decide) (Nat.le_of_ble_eq_true rfl) (Nat.le_of_ble_eq_true rfl) (e_Mod_capital X _ _ _) ?_
                refine zB_if_ne 89 i_Mod_apart_73 (by decide) (fun c_73 => ?_) (fun c_73 => ?_)
                · skip
                  refine zn_iconst 0 i_Mod_apart_89 (by decide) ?_
                  refine zr_istore_n i_Mod_apart_90 rfl ?_
                  refine zr_iload_n i_Mod_apart_91 rfl ?_
                  refine zn_iconst 3 i_Mod_apart_92 (by decide) ?_
                  refine zr_icmp_ge 122 i_Mod_apart_93 (by decide) (fun q => absurd q (by decide)) (fun _ => ?_)
                  refine zr_aload_n i_Mod_apart_96 rfl ?_
                  refine zr_getf i_Mod_apart_97 rfl rfl rfl ?_
                  refine zn_iconst 3 i_Mod_apart_100 (by decide) ?_
                  refine zr_aload_n i_Mod_apart_101 rfl ?_
                  refine zr_getf i_Mod_apart_102 rfl rfl rfl ?_
                  refine zn_iconst 0 i_Mod_apart_105 (by decide) ?_
                  refine zn_iaload i_Mod_apart_106 rfl (by omega) (by decide) ?_
                  refine zr_top (y := nI sg) hN.1 ?_
                  refine zn_imul i_Mod_apart_107 ?_
                  refine zr_iload_n i_Mod_apart_108 rfl ?_
                  refine zn_iadd i_Mod_apart_109 ?_
                  refine zr_aload_n i_Mod_apart_110 rfl ?_
                  refine zr_iload_n i_Mod_apart_111 rfl ?_
                  refine zr_cv1 i_Mod_apart_112 rfl (by decide) rfl (Nat.le_of_ble_eq_true rfl) (Nat.le_of_ble_eq_true rfl) (e_Mod_now X _ g (va_up ms.1 1 (nI (e + 1)), ms.2) n (e + 1) 0 h0 rfl hn (by omega) (fun i _ => zch_nar (by rw [show ((va_up ms.1 1 (nI (e + 1)), ms.2) : zMS).2 1 = F from hF]; exact hc i))) ?_
                  refine zr_top (y := (nowF F n (e + 1))) (by rw [← hF]; rfl) ?_
                  refine mn_castore 13 1200 i_Mod_apart_115 (fun _ => rfl) (by decide) (by omega) (by decide) ?_
                  refine zn_iinc i_Mod_apart_116 rfl rfl ?_
                  refine zr_goto 91 i_Mod_apart_119 (by decide) ?_
                  refine zr_iload_n i_Mod_apart_91 rfl ?_
                  refine zn_iconst 3 i_Mod_apart_92 (by decide) ?_
                  refine zr_icmp_ge 122 i_Mod_apart_93 (by decide) (fun q => absurd q (by decide)) (fun _ => ?_)
                  refine zr_aload_n i_Mod_apart_96 rfl ?_
                  refine zr_getf i_Mod_apart_97 rfl rfl rfl ?_
                  refine zn_iconst 3 i_Mod_apart_100 (by decide) ?_
                  refine zr_aload_n i_Mod_apart_101 rfl ?_
                  refine zr_getf i_Mod_apart_102 rfl rfl rfl ?_
                  refine zn_iconst 0 i_Mod_apart_105 (by decide) ?_
                  refine zn_iaload i_Mod_apart_106 rfl (by omega) (by decide) ?_
                  refine zr_top (y := nI sg) hN.1 ?_
                  refine zn_imul i_Mod_apart_107 ?_
                  refine zr_iload_n i_Mod_apart_108 rfl ?_
                  refine zn_iadd i_Mod_apart_109 ?_
                  refine zr_aload_n i_Mod_apart_110 rfl ?_
                  refine zr_iload_n i_Mod_apart_111 rfl ?_
                  refine zr_cv1 i_Mod_apart_112 rfl (by decide) rfl (Nat.le_of_ble_eq_true rfl) (Nat.le_of_ble_eq_true rfl) (e_Mod_now X _ g (va_up ms.1 1 (nI (e + 1)), va_up ms.2 13 (upd (ms.2 13) (3 * sg) (vp_nar .char (nowF F n (e + 1))))) n (e + 1) 1 h0 rfl hn (by omega) (fun i _ => zch_nar (by rw [show ((va_up ms.1 1 (nI (e + 1)), va_up ms.2 13 (upd (ms.2 13) (3 * sg) (vp_nar .char (nowF F n (e + 1))))) : zMS).2 1 = F from hF]; exact hc i))) ?_
                  refine zr_top (y := (nowF F n (e + 2))) (by rw [← hF]; rfl) ?_
                  refine mn_castore 13 1200 i_Mod_apart_115 (fun _ => rfl) (by decide) (by omega) (by decide) ?_
                  refine zn_iinc i_Mod_apart_116 rfl rfl ?_
                  refine zr_goto 91 i_Mod_apart_119 (by decide) ?_
                  refine zr_iload_n i_Mod_apart_91 rfl ?_
                  refine zn_iconst 3 i_Mod_apart_92 (by decide) ?_
                  refine zr_icmp_ge 122 i_Mod_apart_93 (by decide) (fun q => absurd q (by decide)) (fun _ => ?_)
                  refine zr_aload_n i_Mod_apart_96 rfl ?_
                  refine zr_getf i_Mod_apart_97 rfl rfl rfl ?_
                  refine zn_iconst 3 i_Mod_apart_100 (by decide) ?_
                  refine zr_aload_n i_Mod_apart_101 rfl ?_
                  refine zr_getf i_Mod_apart_102 rfl rfl rfl ?_
                  refine zn_iconst 0 i_Mod_apart_105 (by decide) ?_
                  refine zn_iaload i_Mod_apart_106 rfl (by omega) (by decide) ?_
                  refine zr_top (y := nI sg) hN.1 ?_
                  refine zn_imul i_Mod_apart_107 ?_
                  refine zr_iload_n i_Mod_apart_108 rfl ?_
                  refine zn_iadd i_Mod_apart_109 ?_
                  refine zr_aload_n i_Mod_apart_110 rfl ?_
                  refine zr_iload_n i_Mod_apart_111 rfl ?_
                  refine zr_cv1 i_Mod_apart_112 rfl (by decide) rfl (Nat.le_of_ble_eq_true rfl) (Nat.le_of_ble_eq_true rfl) (e_Mod_now X _ g (va_up ms.1 1 (nI (e + 1)), va_up (va_up ms.2 13 (upd (ms.2 13) (3 * sg) (vp_nar .char (nowF F n (e + 1))))) 13 (upd (upd (ms.2 13) (3 * sg) (vp_nar .char (nowF F n (e + 1)))) (3 * sg + 1) (vp_nar .char (nowF F n (e + 2))))) n (e + 1) 2 h0 rfl hn (by omega) (fun i _ => zch_nar (by rw [show ((va_up ms.1 1 (nI (e + 1)), va_up (va_up ms.2 13 (upd (ms.2 13) (3 * sg) (vp_nar .char (nowF F n (e + 1))))) 13 (upd (upd (ms.2 13) (3 * sg) (vp_nar .char (nowF F n (e + 1)))) (3 * sg + 1) (vp_nar .char (nowF F n (e + 2))))) : zMS).2 1 = F from hF]; exact hc i))) ?_
                  refine zr_top (y := (nowF F n (e + 3))) (by rw [← hF]; rfl) ?_
                  refine mn_castore 13 1200 i_Mod_apart_115 (fun _ => rfl) (by decide) (by omega) (by decide) ?_
                  refine zn_iinc i_Mod_apart_116 rfl rfl ?_
                  refine zr_goto 91 i_Mod_apart_119 (by decide) ?_
                  refine zr_iload_n i_Mod_apart_91 rfl ?_
                  refine zn_iconst 3 i_Mod_apart_92 (by decide) ?_
                  refine zr_icmp_ge 122 i_Mod_apart_93 (by decide) (fun _ => ?_) (fun q => absurd q (by decide))
                  refine zr_aload_n i_Mod_apart_122 rfl ?_
                  refine zr_getf i_Mod_apart_123 rfl rfl rfl ?_
                  refine zn_iconst 0 i_Mod_apart_126 (by decide) ?_
                  refine zr_dup2 i_Mod_apart_127 rfl rfl ?_
                  refine zn_iaload i_Mod_apart_128 rfl (by omega) (by decide) ?_
                  refine zr_top (y := nI sg) hN.1 ?_
                  refine zn_iconst 1 i_Mod_apart_129 (by decide) ?_
                  refine zn_iadd i_Mod_apart_130 ?_
                  refine mn_iastore 2 2 i_Mod_apart_131 (fun _ => rfl) (by decide) (by omega) (by decide) ?_
                  refine zr_aload_n i_Mod_apart_132 rfl ?_
                  refine zr_dup i_Mod_apart_133 rfl ?_
                  refine zr_getf i_Mod_apart_134 rfl rfl rfl ?_
                  refine zr_top (y := nI (e + 1)) rfl ?_
                  refine zn_iconst 3 i_Mod_apart_137 (by decide) ?_
                  refine zn_iadd i_Mod_apart_138 ?_
                  refine mr_putf (kk := 1) i_Mod_apart_139 rfl rfl (Nat.le_of_ble_eq_true rfl) rfl rfl rfl ?_
                  exact hX
                · skip
                  refine zr_aload_n i_Mod_apart_76 rfl ?_
                  refine zr_iconst i_Mod_apart_77 (v := 2) (by decide) ?_
                  refine zr_cv1 i_Mod_apart_78 rfl (by decide) rfl (Nat.le_of_ble_eq_true rfl) (Nat.le_of_ble_eq_true rfl) (e_Mod_now X _ g (va_up ms.1 1 (nI (e + 1)), ms.2) n (e + 1) 2 h0 rfl hn (by omega) (fun i _ => zch_nar (by rw [show ((va_up ms.1 1 (nI (e + 1)), ms.2) : zMS).2 1 = F from hF]; exact hc i))) ?_
                  refine zr_top (y := (nowF F n (e + 1 + 2))) (by rw [← hF]; rfl) ?_
                  refine zr_cs1 i_Mod_apart_81 rfl (by decide) (Nat.le_of_ble_eq_true rfl) (Nat.le_of_ble_eq_true rfl) (e_Mod_digit X _ _ _) ?_
                  refine zB_if_ne 89 i_Mod_apart_84 (by decide) (fun c_84 => ?_) (fun c_84 => ?_)
                  · skip
                    refine zn_iconst 0 i_Mod_apart_89 (by decide) ?_
                    refine zr_istore_n i_Mod_apart_90 rfl ?_
                    refine zr_iload_n i_Mod_apart_91 rfl ?_
                    refine zn_iconst 3 i_Mod_apart_92 (by decide) ?_
                    refine zr_icmp_ge 122 i_Mod_apart_93 (by decide) (fun q => absurd q (by decide)) (fun _ => ?_)
                    refine zr_aload_n i_Mod_apart_96 rfl ?_
                    refine zr_getf i_Mod_apart_97 rfl rfl rfl ?_
                    refine zn_iconst 3 i_Mod_apart_100 (by decide) ?_
                    refine zr_aload_n i_Mod_apart_101 rfl ?_
                    refine zr_getf i_Mod_apart_102 rfl rfl rfl ?_
                    refine zn_iconst 0 i_Mod_apart_105 (by decide) ?_
                    refine zn_iaload i_Mod_apart_106 rfl (by omega) (by decide) ?_
                    refine zr_top (y := nI sg) hN.1 ?_
                    refine zn_imul i_Mod_apart_107 ?_
                    refine zr_iload_n i_Mod_apart_108 rfl ?_
                    refine zn_iadd i_Mod_apart_109 ?_
                    refine zr_aload_n i_Mod_apart_110 rfl ?_
                    refine zr_iload_n i_Mod_apart_111 rfl ?_
                    refine zr_cv1 i_Mod_apart_112 rfl (by decide) rfl (Nat.le_of_ble_eq_true rfl) (Nat.le_of_ble_eq_true rfl) (e_Mod_now X _ g (va_up ms.1 1 (nI (e + 1)), ms.2) n (e + 1) 0 h0 rfl hn (by omega) (fun i _ => zch_nar (by rw [show ((va_up ms.1 1 (nI (e + 1)), ms.2) : zMS).2 1 = F from hF]; exact hc i))) ?_
                    refine zr_top (y := (nowF F n (e + 1))) (by rw [← hF]; rfl) ?_
                    refine mn_castore 13 1200 i_Mod_apart_115 (fun _ => rfl) (by decide) (by omega) (by decide) ?_
                    refine zn_iinc i_Mod_apart_116 rfl rfl ?_
                    refine zr_goto 91 i_Mod_apart_119 (by decide) ?_
                    refine zr_iload_n i_Mod_apart_91 rfl ?_
                    refine zn_iconst 3 i_Mod_apart_92 (by decide) ?_
                    refine zr_icmp_ge 122 i_Mod_apart_93 (by decide) (fun q => absurd q (by decide)) (fun _ => ?_)
                    refine zr_aload_n i_Mod_apart_96 rfl ?_
                    refine zr_getf i_Mod_apart_97 rfl rfl rfl ?_
                    refine zn_iconst 3 i_Mod_apart_100 (by decide) ?_
                    refine zr_aload_n i_Mod_apart_101 rfl ?_
                    refine zr_getf i_Mod_apart_102 rfl rfl rfl ?_
                    refine zn_iconst 0 i_Mod_apart_105 (by decide) ?_
                    refine zn_iaload i_Mod_apart_106 rfl (by omega) (by decide) ?_
                    refine zr_top (y := nI sg) hN.1 ?_
                    refine zn_imul i_Mod_apart_107 ?_
                    refine zr_iload_n i_Mod_apart_108 rfl ?_
                    refine zn_iadd i_Mod_apart_109 ?_
                    refine zr_aload_n i_Mod_apart_110 rfl ?_
                    refine zr_iload_n i_Mod_apart_111 rfl ?_
                    refine zr_cv1 i_Mod_apart_112 rfl (by decide) rfl (Nat.le_of_ble_eq_true rfl) (Nat.le_of_ble_eq_true rfl) (e_Mod_now X _ g (va_up ms.1 1 (nI (e + 1)), va_up ms.2 13 (upd (ms.2 13) (3 * sg) (vp_nar .char (nowF F n (e + 1))))) n (e + 1) 1 h0 rfl hn (by omega) (fun i _ => zch_nar (by rw [show ((va_up ms.1 1 (nI (e + 1)), va_up ms.2 13 (upd (ms.2 13) (3 * sg) (vp_nar .char (nowF F n (e + 1))))) : zMS).2 1 = F from hF]; exact hc i))) ?_
                    refine zr_top (y := (nowF F n (e + 2))) (by rw [← hF]; rfl) ?_
                    refine mn_castore 13 1200 i_Mod_apart_115 (fun _ => rfl) (by decide) (by omega) (by decide) ?_
                    refine zn_iinc i_Mod_apart_116 rfl rfl ?_
                    refine zr_goto 91 i_Mod_apart_119 (by decide) ?_
                    refine zr_iload_n i_Mod_apart_91 rfl ?_
                    refine zn_iconst 3 i_Mod_apart_92 (by decide) ?_
                    refine zr_icmp_ge 122 i_Mod_apart_93 (by decide) (fun q => absurd q (by decide)) (fun _ => ?_)
                    refine zr_aload_n i_Mod_apart_96 rfl ?_
                    refine zr_getf i_Mod_apart_97 rfl rfl rfl ?_
                    refine zn_iconst 3 i_Mod_apart_100 (by decide) ?_
                    refine zr_aload_n i_Mod_apart_101 rfl ?_
                    refine zr_getf i_Mod_apart_102 rfl rfl rfl ?_
                    refine zn_iconst 0 i_Mod_apart_105 (by decide) ?_
                    refine zn_iaload i_Mod_apart_106 rfl (by omega) (by decide) ?_
                    refine zr_top (y := nI sg) hN.1 ?_
                    refine zn_imul i_Mod_apart_107 ?_
                    refine zr_iload_n i_Mod_apart_108 rfl ?_
                    refine zn_iadd i_Mod_apart_109 ?_
                    refine zr_aload_n i_Mod_apart_110 rfl ?_
                    refine zr_iload_n i_Mod_apart_111 rfl ?_
                    refine zr_cv1 i_Mod_apart_112 rfl (by decide) rfl (Nat.le_of_ble_eq_true rfl) (Nat.le_of_ble_eq_true rfl) (e_Mod_now X _ g (va_up ms.1 1 (nI (e + 1)), va_up (va_up ms.2 13 (upd (ms.2 13) (3 * sg) (vp_nar .char (nowF F n (e + 1))))) 13 (upd (upd (ms.2 13) (3 * sg) (vp_nar .char (nowF F n (e + 1)))) (3 * sg + 1) (vp_nar .char (nowF F n (e + 2))))) n (e + 1) 2 h0 rfl hn (by omega) (fun i _ => zch_nar (by rw [show ((va_up ms.1 1 (nI (e + 1)), va_up (va_up ms.2 13 (upd (ms.2 13) (3 * sg) (vp_nar .char (nowF F n (e + 1))))) 13 (upd (upd (ms.2 13) (3 * sg) (vp_nar .char (nowF F n (e + 1)))) (3 * sg + 1) (vp_nar .char (nowF F n (e + 2))))) : zMS).2 1 = F from hF]; exact hc i))) ?_
                    refine zr_top (y := (nowF F n (e + 3))) (by rw [← hF]; rfl) ?_
                    refine mn_castore 13 1200 i_Mod_apart_115 (fun _ => rfl) (by decide) (by omega) (by decide) ?_
                    refine zn_iinc i_Mod_apart_116 rfl rfl ?_
                    refine zr_goto 91 i_Mod_apart_119 (by decide) ?_
                    refine zr_iload_n i_Mod_apart_91 rfl ?_
                    refine zn_iconst 3 i_Mod_apart_92 (by decide) ?_
                    refine zr_icmp_ge 122 i_Mod_apart_93 (by decide) (fun _ => ?_) (fun q => absurd q (by decide))
                    refine zr_aload_n i_Mod_apart_122 rfl ?_
                    refine zr_getf i_Mod_apart_123 rfl rfl rfl ?_
                    refine zn_iconst 0 i_Mod_apart_126 (by decide) ?_
                    refine zr_dup2 i_Mod_apart_127 rfl rfl ?_
                    refine zn_iaload i_Mod_apart_128 rfl (by omega) (by decide) ?_
                    refine zr_top (y := nI sg) hN.1 ?_
                    refine zn_iconst 1 i_Mod_apart_129 (by decide) ?_
                    refine zn_iadd i_Mod_apart_130 ?_
                    refine mn_iastore 2 2 i_Mod_apart_131 (fun _ => rfl) (by decide) (by omega) (by decide) ?_
                    refine zr_aload_n i_Mod_apart_132 rfl ?_
                    refine zr_dup i_Mod_apart_133 rfl ?_
                    refine zr_getf i_Mod_apart_134 rfl rfl rfl ?_
                    refine zr_top (y := nI (e + 1)) rfl ?_
                    refine zn_iconst 3 i_Mod_apart_137 (by decide) ?_
                    refine zn_iadd i_Mod_apart_138 ?_
                    refine mr_putf (kk := 1) i_Mod_apart_139 rfl rfl (Nat.le_of_ble_eq_true rfl) rfl rfl rfl ?_
                    exact hX
                  · skip
                    exact absurd hO (by simp [nameOk, *])
              · skip
                refine zr_aload_n i_Mod_apart_54 rfl ?_
                refine zr_iconst i_Mod_apart_55 (v := 1) (by decide) ?_
                refine zr_cv1 i_Mod_apart_56 rfl (by decide) rfl (Nat.le_of_ble_eq_true rfl) (Nat.le_of_ble_eq_true rfl) (e_Mod_now X _ g (va_up ms.1 1 (nI (e + 1)), ms.2) n (e + 1) 1 h0 rfl hn (by omega) (fun i _ => zch_nar (by rw [show ((va_up ms.1 1 (nI (e + 1)), ms.2) : zMS).2 1 = F from hF]; exact hc i))) ?_
                refine zr_top (y := (nowF F n (e + 1 + 1))) (by rw [← hF]; rfl) ?_
                refine zr_cs1 i_Mod_apart_59 rfl (by decide) (Nat.le_of_ble_eq_true rfl) (Nat.le_of_ble_eq_true rfl) (e_Mod_digit X _ _ _) ?_
                refine zB_if_eq 87 i_Mod_apart_62 (by decide) (fun c_62 => ?_) (fun c_62 => ?_)
                · skip
                  exact absurd hO (by simp [nameOk, *])
                · skip
                  refine zr_aload_n i_Mod_apart_65 rfl ?_
                  refine zr_iconst i_Mod_apart_66 (v := 2) (by decide) ?_
                  refine zr_cv1 i_Mod_apart_67 rfl (by decide) rfl (Nat.le_of_ble_eq_true rfl) (Nat.le_of_ble_eq_true rfl) (e_Mod_now X _ g (va_up ms.1 1 (nI (e + 1)), ms.2) n (e + 1) 2 h0 rfl hn (by omega) (fun i _ => zch_nar (by rw [show ((va_up ms.1 1 (nI (e + 1)), ms.2) : zMS).2 1 = F from hF]; exact hc i))) ?_
                  refine zr_top (y := (nowF F n (e + 1 + 2))) (by rw [← hF]; rfl) ?_
                  refine zr_cs1 i_Mod_apart_70 rfl (by decide) (Nat.le_of_ble_eq_true rfl) (Nat.le_of_ble_eq_true rfl) (e_Mod_capital X _ _ _) ?_
                  refine zB_if_ne 89 i_Mod_apart_73 (by decide) (fun c_73 => ?_) (fun c_73 => ?_)
                  · skip
                    refine zn_iconst 0 i_Mod_apart_89 (by decide) ?_
                    refine zr_istore_n i_Mod_apart_90 rfl ?_
                    refine zr_iload_n i_Mod_apart_91 rfl ?_
                    refine zn_iconst 3 i_Mod_apart_92 (by decide) ?_
                    refine zr_icmp_ge 122 i_Mod_apart_93 (by decide) (fun q => absurd q (by decide)) (fun _ => ?_)
                    refine zr_aload_n i_Mod_apart_96 rfl ?_
                    refine zr_getf i_Mod_apart_97 rfl rfl rfl ?_
                    refine zn_iconst 3 i_Mod_apart_100 (by decide) ?_
                    refine zr_aload_n i_Mod_apart_101 rfl ?_
                    refine zr_getf i_Mod_apart_102 rfl rfl rfl ?_
                    refine zn_iconst 0 i_Mod_apart_105 (by decide) ?_
                    refine zn_iaload i_Mod_apart_106 rfl (by omega) (by decide) ?_
                    refine zr_top (y := nI sg) hN.1 ?_
                    refine zn_imul i_Mod_apart_107 ?_
                    refine zr_iload_n i_Mod_apart_108 rfl ?_
                    refine zn_iadd i_Mod_apart_109 ?_
                    refine zr_aload_n i_Mod_apart_110 rfl ?_
                    refine zr_iload_n i_Mod_apart_111 rfl ?_
                    refine zr_cv1 i_Mod_apart_112 rfl (by decide) rfl (Nat.le_of_ble_eq_true rfl) (Nat.le_of_ble_eq_true rfl) (e_Mod_now X _ g (va_up ms.1 1 (nI (e + 1)), ms.2) n (e + 1) 0 h0 rfl hn (by omega) (fun i _ => zch_nar (by rw [show ((va_up ms.1 1 (nI (e + 1)), ms.2) : zMS).2 1 = F from hF]; exact hc i))) ?_
                    refine zr_top (y := (nowF F n (e + 1))) (by rw [← hF]; rfl) ?_
                    refine mn_castore 13 1200 i_Mod_apart_115 (fun _ => rfl) (by decide) (by omega) (by decide) ?_
                    refine zn_iinc i_Mod_apart_116 rfl rfl ?_
                    refine zr_goto 91 i_Mod_apart_119 (by decide) ?_
                    refine zr_iload_n i_Mod_apart_91 rfl ?_
                    refine zn_iconst 3 i_Mod_apart_92 (by decide) ?_
                    refine zr_icmp_ge 122 i_Mod_apart_93 (by decide) (fun q => absurd q (by decide)) (fun _ => ?_)
                    refine zr_aload_n i_Mod_apart_96 rfl ?_
                    refine zr_getf i_Mod_apart_97 rfl rfl rfl ?_
                    refine zn_iconst 3 i_Mod_apart_100 (by decide) ?_
                    refine zr_aload_n i_Mod_apart_101 rfl ?_
                    refine zr_getf i_Mod_apart_102 rfl rfl rfl ?_
                    refine zn_iconst 0 i_Mod_apart_105 (by decide) ?_
                    refine zn_iaload i_Mod_apart_106 rfl (by omega) (by decide) ?_
                    refine zr_top (y := nI sg) hN.1 ?_
                    refine zn_imul i_Mod_apart_107 ?_
                    refine zr_iload_n i_Mod_apart_108 rfl ?_
                    refine zn_iadd i_Mod_apart_109 ?_
                    refine zr_aload_n i_Mod_apart_110 rfl ?_
                    refine zr_iload_n i_Mod_apart_111 rfl ?_
                    refine zr_cv1 i_Mod_apart_112 rfl (by decide) rfl (Nat.le_of_ble_eq_true rfl) (Nat.le_of_ble_eq_true rfl) (e_Mod_now X _ g (va_up ms.1 1 (nI (e + 1)), va_up ms.2 13 (upd (ms.2 13) (3 * sg) (vp_nar .char (nowF F n (e + 1))))) n (e + 1) 1 h0 rfl hn (by omega) (fun i _ => zch_nar (by rw [show ((va_up ms.1 1 (nI (e + 1)), va_up ms.2 13 (upd (ms.2 13) (3 * sg) (vp_nar .char (nowF F n (e + 1))))) : zMS).2 1 = F from hF]; exact hc i))) ?_
                    refine zr_top (y := (nowF F n (e + 2))) (by rw [← hF]; rfl) ?_
                    refine mn_castore 13 1200 i_Mod_apart_115 (fun _ => rfl) (by decide) (by omega) (by decide) ?_
                    refine zn_iinc i_Mod_apart_116 rfl rfl ?_
                    refine zr_goto 91 i_Mod_apart_119 (by decide) ?_
                    refine zr_iload_n i_Mod_apart_91 rfl ?_
                    refine zn_iconst 3 i_Mod_apart_92 (by decide) ?_
                    refine zr_icmp_ge 122 i_Mod_apart_93 (by decide) (fun q => absurd q (by decide)) (fun _ => ?_)
                    refine zr_aload_n i_Mod_apart_96 rfl ?_
                    refine zr_getf i_Mod_apart_97 rfl rfl rfl ?_
                    refine zn_iconst 3 i_Mod_apart_100 (by decide) ?_
                    refine zr_aload_n i_Mod_apart_101 rfl ?_
                    refine zr_getf i_Mod_apart_102 rfl rfl rfl ?_
                    refine zn_iconst 0 i_Mod_apart_105 (by decide) ?_
                    refine zn_iaload i_Mod_apart_106 rfl (by omega) (by decide) ?_
                    refine zr_top (y := nI sg) hN.1 ?_
                    refine zn_imul i_Mod_apart_107 ?_
                    refine zr_iload_n i_Mod_apart_108 rfl ?_
                    refine zn_iadd i_Mod_apart_109 ?_
                    refine zr_aload_n i_Mod_apart_110 rfl ?_
                    refine zr_iload_n i_Mod_apart_111 rfl ?_
                    refine zr_cv1 i_Mod_apart_112 rfl (by decide) rfl (Nat.le_of_ble_eq_true rfl) (Nat.le_of_ble_eq_true rfl) (e_Mod_now X _ g (va_up ms.1 1 (nI (e + 1)), va_up (va_up ms.2 13 (upd (ms.2 13) (3 * sg) (vp_nar .char (nowF F n (e + 1))))) 13 (upd (upd (ms.2 13) (3 * sg) (vp_nar .char (nowF F n (e + 1)))) (3 * sg + 1) (vp_nar .char (nowF F n (e + 2))))) n (e + 1) 2 h0 rfl hn (by omega) (fun i _ => zch_nar (by rw [show ((va_up ms.1 1 (nI (e + 1)), va_up (va_up ms.2 13 (upd (ms.2 13) (3 * sg) (vp_nar .char (nowF F n (e + 1))))) 13 (upd (upd (ms.2 13) (3 * sg) (vp_nar .char (nowF F n (e + 1)))) (3 * sg + 1) (vp_nar .char (nowF F n (e + 2))))) : zMS).2 1 = F from hF]; exact hc i))) ?_
                    refine zr_top (y := (nowF F n (e + 3))) (by rw [← hF]; rfl) ?_
                    refine mn_castore 13 1200 i_Mod_apart_115 (fun _ => rfl) (by decide) (by omega) (by decide) ?_
                    refine zn_iinc i_Mod_apart_116 rfl rfl ?_
                    refine zr_goto 91 i_Mod_apart_119 (by decide) ?_
                    refine zr_iload_n i_Mod_apart_91 rfl ?_
                    refine zn_iconst 3 i_Mod_apart_92 (by decide) ?_
                    refine zr_icmp_ge 122 i_Mod_apart_93 (by decide) (fun _ => ?_) (fun q => absurd q (by decide))
                    refine zr_aload_n i_Mod_apart_122 rfl ?_
                    refine zr_getf i_Mod_apart_123 rfl rfl rfl ?_
                    refine zn_iconst 0 i_Mod_apart_126 (by decide) ?_
                    refine zr_dup2 i_Mod_apart_127 rfl rfl ?_
                    refine zn_iaload i_Mod_apart_128 rfl (by omega) (by decide) ?_
                    refine zr_top (y := nI sg) hN.1 ?_
                    refine zn_iconst 1 i_Mod_apart_129 (by decide) ?_
                    refine zn_iadd i_Mod_apart_130 ?_
                    refine mn_iastore 2 2 i_Mod_apart_131 (fun _ => rfl) (by decide) (by omega) (by decide) ?_
                    refine zr_aload_n i_Mod_apart_132 rfl ?_
                    refine zr_dup i_Mod_apart_133 rfl ?_
                    refine zr_getf i_Mod_apart_134 rfl rfl rfl ?_
                    refine zr_top (y := nI (e + 1)) rfl ?_
                    refine zn_iconst 3 i_Mod_apart_137 (by decide) ?_
                    refine zn_iadd i_Mod_apart_138 ?_
                    refine mr_putf (kk := 1) i_Mod_apart_139 rfl rfl (Nat.le_of_ble_eq_true rfl) rfl rfl rfl ?_
                    exact hX
                  · skip
                    refine zr_aload_n i_Mod_apart_76 rfl ?_
                    refine zr_iconst i_Mod_apart_77 (v := 2) (by decide) ?_
                    refine zr_cv1 i_Mod_apart_78 rfl (by decide) rfl (Nat.le_of_ble_eq_true rfl) (Nat.le_of_ble_eq_true rfl) (e_Mod_now X _ g (va_up ms.1 1 (nI (e + 1)), ms.2) n (e + 1) 2 h0 rfl hn (by omega) (fun i _ => zch_nar (by rw [show ((va_up ms.1 1 (nI (e + 1)), ms.2) : zMS).2 1 = F from hF]; exact hc i))) ?_
                    refine zr_top (y := (nowF F n (e + 1 + 2))) (by rw [← hF]; rfl) ?_
                    refine zr_cs1 i_Mod_apart_81 rfl (by decide) (Nat.le_of_ble_eq_true rfl) (Nat.le_of_ble_eq_true rfl) (e_Mod_digit X _ _ _) ?_
                    refine zB_if_ne 89 i_Mod_apart_84 (by decide) (fun c_84 => ?_) (fun c_84 => ?_)
                    · skip
                      refine zn_iconst 0 i_Mod_apart_89 (by decide) ?_
                      refine zr_istore_n i_Mod_apart_90 rfl ?_
                      refine zr_iload_n i_Mod_apart_91 rfl ?_
                      refine zn_iconst 3 i_Mod_apart_92 (by decide) ?_
                      refine zr_icmp_ge 122 i_Mod_apart_93 (by decide) (fun q => absurd q (by decide)) (fun _ => ?_)
                      refine zr_aload_n i_Mod_apart_96 rfl ?_
                      refine zr_getf i_Mod_apart_97 rfl rfl rfl ?_
                      refine zn_iconst 3 i_Mod_apart_100 (by decide) ?_
                      refine zr_aload_n i_Mod_apart_101 rfl ?_
                      refine zr_getf i_Mod_apart_102 rfl rfl rfl ?_
                      refine zn_iconst 0 i_Mod_apart_105 (by decide) ?_
                      refine zn_iaload i_Mod_apart_106 rfl (by omega) (by decide) ?_
                      refine zr_top (y := nI sg) hN.1 ?_
                      refine zn_imul i_Mod_apart_107 ?_
                      refine zr_iload_n i_Mod_apart_108 rfl ?_
                      refine zn_iadd i_Mod_apart_109 ?_
                      refine zr_aload_n i_Mod_apart_110 rfl ?_
                      refine zr_iload_n i_Mod_apart_111 rfl ?_
                      refine zr_cv1 i_Mod_apart_112 rfl (by decide) rfl (Nat.le_of_ble_eq_true rfl) (Nat.le_of_ble_eq_true rfl) (e_Mod_now X _ g (va_up ms.1 1 (nI (e + 1)), ms.2) n (e + 1) 0 h0 rfl hn (by omega) (fun i _ => zch_nar (by rw [show ((va_up ms.1 1 (nI (e + 1)), ms.2) : zMS).2 1 = F from hF]; exact hc i))) ?_
                      refine zr_top (y := (nowF F n (e + 1))) (by rw [← hF]; rfl) ?_
                      refine mn_castore 13 1200 i_Mod_apart_115 (fun _ => rfl) (by decide) (by omega) (by decide) ?_
                      refine zn_iinc i_Mod_apart_116 rfl rfl ?_
                      refine zr_goto 91 i_Mod_apart_119 (by decide) ?_
                      refine zr_iload_n i_Mod_apart_91 rfl ?_
                      refine zn_iconst 3 i_Mod_apart_92 (by decide) ?_
                      refine zr_icmp_ge 122 i_Mod_apart_93 (by decide) (fun q => absurd q (by decide)) (fun _ => ?_)
                      refine zr_aload_n i_Mod_apart_96 rfl ?_
                      refine zr_getf i_Mod_apart_97 rfl rfl rfl ?_
                      refine zn_iconst 3 i_Mod_apart_100 (by decide) ?_
                      refine zr_aload_n i_Mod_apart_101 rfl ?_
                      refine zr_getf i_Mod_apart_102 rfl rfl rfl ?_
                      refine zn_iconst 0 i_Mod_apart_105 (by decide) ?_
                      refine zn_iaload i_Mod_apart_106 rfl (by omega) (by decide) ?_
                      refine zr_top (y := nI sg) hN.1 ?_
                      refine zn_imul i_Mod_apart_107 ?_
                      refine zr_iload_n i_Mod_apart_108 rfl ?_
                      refine zn_iadd i_Mod_apart_109 ?_
                      refine zr_aload_n i_Mod_apart_110 rfl ?_
                      refine zr_iload_n i_Mod_apart_111 rfl ?_
                      refine zr_cv1 i_Mod_apart_112 rfl (by decide) rfl (Nat.le_of_ble_eq_true rfl) (Nat.le_of_ble_eq_true rfl) (e_Mod_now X _ g (va_up ms.1 1 (nI (e + 1)), va_up ms.2 13 (upd (ms.2 13) (3 * sg) (vp_nar .char (nowF F n (e + 1))))) n (e + 1) 1 h0 rfl hn (by omega) (fun i _ => zch_nar (by rw [show ((va_up ms.1 1 (nI (e + 1)), va_up ms.2 13 (upd (ms.2 13) (3 * sg) (vp_nar .char (nowF F n (e + 1))))) : zMS).2 1 = F from hF]; exact hc i))) ?_
                      refine zr_top (y := (nowF F n (e + 2))) (by rw [← hF]; rfl) ?_
                      refine mn_castore 13 1200 i_Mod_apart_115 (fun _ => rfl) (by decide) (by omega) (by decide) ?_
                      refine zn_iinc i_Mod_apart_116 rfl rfl ?_
                      refine zr_goto 91 i_Mod_apart_119 (by decide) ?_
                      refine zr_iload_n i_Mod_apart_91 rfl ?_
                      refine zn_iconst 3 i_Mod_apart_92 (by decide) ?_
                      refine zr_icmp_ge 122 i_Mod_apart_93 (by decide) (fun q => absurd q (by decide)) (fun _ => ?_)
                      refine zr_aload_n i_Mod_apart_96 rfl ?_
                      refine zr_getf i_Mod_apart_97 rfl rfl rfl ?_
                      refine zn_iconst 3 i_Mod_apart_100 (by decide) ?_
                      refine zr_aload_n i_Mod_apart_101 rfl ?_
                      refine zr_getf i_Mod_apart_102 rfl rfl rfl ?_
                      refine zn_iconst 0 i_Mod_apart_105 (by decide) ?_
                      refine zn_iaload i_Mod_apart_106 rfl (by omega) (by decide) ?_
                      refine zr_top (y := nI sg) hN.1 ?_
                      refine zn_imul i_Mod_apart_107 ?_
                      refine zr_iload_n i_Mod_apart_108 rfl ?_
                      refine zn_iadd i_Mod_apart_109 ?_
                      refine zr_aload_n i_Mod_apart_110 rfl ?_
                      refine zr_iload_n i_Mod_apart_111 rfl ?_
                      refine zr_cv1 i_Mod_apart_112 rfl (by decide) rfl (Nat.le_of_ble_eq_true rfl) (Nat.le_of_ble_eq_true rfl) (e_Mod_now X _ g (va_up ms.1 1 (nI (e + 1)), va_up (va_up ms.2 13 (upd (ms.2 13) (3 * sg) (vp_nar .char (nowF F n (e + 1))))) 13 (upd (upd (ms.2 13) (3 * sg) (vp_nar .char (nowF F n (e + 1)))) (3 * sg + 1) (vp_nar .char (nowF F n (e + 2))))) n (e + 1) 2 h0 rfl hn (by omega) (fun i _ => zch_nar (by rw [show ((va_up ms.1 1 (nI (e + 1)), va_up (va_up ms.2 13 (upd (ms.2 13) (3 * sg) (vp_nar .char (nowF F n (e + 1))))) 13 (upd (upd (ms.2 13) (3 * sg) (vp_nar .char (nowF F n (e + 1)))) (3 * sg + 1) (vp_nar .char (nowF F n (e + 2))))) : zMS).2 1 = F from hF]; exact hc i))) ?_
                      refine zr_top (y := (nowF F n (e + 3))) (by rw [← hF]; rfl) ?_
                      refine mn_castore 13 1200 i_Mod_apart_115 (fun _ => rfl) (by decide) (by omega) (by decide) ?_
                      refine zn_iinc i_Mod_apart_116 rfl rfl ?_
                      refine zr_goto 91 i_Mod_apart_119 (by decide) ?_
                      refine zr_iload_n i_Mod_apart_91 rfl ?_
                      refine zn_iconst 3 i_Mod_apart_92 (by decide) ?_
                      refine zr_icmp_ge 122 i_Mod_apart_93 (by decide) (fun _ => ?_) (fun q => absurd q (by decide))
                      refine zr_aload_n i_Mod_apart_122 rfl ?_
                      refine zr_getf i_Mod_apart_123 rfl rfl rfl ?_
                      refine zn_iconst 0 i_Mod_apart_126 (by decide) ?_
                      refine zr_dup2 i_Mod_apart_127 rfl rfl ?_
                      refine zn_iaload i_Mod_apart_128 rfl (by omega) (by decide) ?_
                      refine zr_top (y := nI sg) hN.1 ?_
                      refine zn_iconst 1 i_Mod_apart_129 (by decide) ?_
                      refine zn_iadd i_Mod_apart_130 ?_
                      refine mn_iastore 2 2 i_Mod_apart_131 (fun _ => rfl) (by decide) (by omega) (by decide) ?_
                      refine zr_aload_n i_Mod_apart_132 rfl ?_
                      refine zr_dup i_Mod_apart_133 rfl ?_
                      refine zr_getf i_Mod_apart_134 rfl rfl rfl ?_
                      refine zr_top (y := nI (e + 1)) rfl ?_
                      refine zn_iconst 3 i_Mod_apart_137 (by decide) ?_
                      refine zn_iadd i_Mod_apart_138 ?_
                      refine mr_putf (kk := 1) i_Mod_apart_139 rfl rfl (Nat.le_of_ble_eq_true rfl) rfl rfl rfl ?_
                      exact hX
                    · skip
                      exact absurd hO (by simp [nameOk, *])
          · dsimp only
            cases hsg : segsF F n S q p.2 with
            | none => rw [hsg] at hm; exact hm
            | some l =>
              rw [hsg] at hm
              obtain ⟨m1, m2, m3⟩ := hm
              refine ⟨m1, ?_, ?_⟩
              · rw [entA, ← List.append_assoc]; exact m2
              · have e4 : nmA (([(nowF F n (e + 1)), (nowF F n (e + 2)), (nowF F n (e + 3))], p.1) :: l) = [(nowF F n (e + 1)), (nowF F n (e + 2)), (nowF F n (e + 3))] ++ nmA l := rfl
                rw [e4, ← List.append_assoc, List.length_cons, show sg + (l.length + 1) = sg + 1 + l.length by omega]
                exact m3
      · rw [if_neg hO]
        refine ⟨false, (va_up ms.1 1 (nI (e + 1)), ms.2), ?_, mpar_at _ _, rfl⟩
        refine zr_aload_n i_Mod_apart_9 rfl ?_
        refine zr_getf i_Mod_apart_10 rfl rfl rfl ?_
        refine zr_top (y := nI e) h1 ?_
        refine zn_iconst 1 i_Mod_apart_13 (by decide) ?_
        refine zn_iadd i_Mod_apart_14 ?_
        refine zr_aload_n i_Mod_apart_15 rfl ?_
        refine zr_getf i_Mod_apart_16 rfl rfl rfl ?_
        refine zr_top (y := nI n) h0 ?_
        refine zn_icmp_ge 151 i_Mod_apart_19 (by decide) (by omega) (by omega) (fun q => absurd q (by omega)) (fun c_19 => ?_)
        refine zr_aload_n i_Mod_apart_22 rfl ?_
        refine zr_dup i_Mod_apart_23 rfl ?_
        refine zr_getf i_Mod_apart_24 rfl rfl rfl ?_
        refine zr_top (y := nI e) h1 ?_
        refine zn_iconst 1 i_Mod_apart_27 (by decide) ?_
        refine zn_iadd i_Mod_apart_28 ?_
        refine mr_putf (kk := 1) i_Mod_apart_29 rfl rfl (Nat.le_of_ble_eq_true rfl) rfl rfl rfl ?_
        refine zr_aload_n i_Mod_apart_32 rfl ?_
        refine zr_iconst i_Mod_apart_33 (v := 0) (by decide) ?_
        refine zr_cv1 i_Mod_apart_34 rfl (by decide) rfl (Nat.le_of_ble_eq_true rfl) (Nat.le_of_ble_eq_true rfl) (e_Mod_now X _ g (va_up ms.1 1 (nI (e + 1)), ms.2) n (e + 1) 0 h0 rfl hn (by omega) (fun i _ => zch_nar (by rw [show ((va_up ms.1 1 (nI (e + 1)), ms.2) : zMS).2 1 = F from hF]; exact hc i))) ?_
        refine zr_top (y := (nowF F n (e + 1 + 0))) (by rw [← hF]; rfl) ?_
        refine zr_cs1 i_Mod_apart_37 rfl (by decide) (Nat.le_of_ble_eq_true rfl) (Nat.le_of_ble_eq_true rfl) (e_Mod_capital X _ _ _) ?_
        refine zB_if_eq 87 i_Mod_apart_40 (by decide) (fun c_40 => ?_) (fun c_40 => ?_)
        · skip
          refine zr_iconst i_Mod_apart_87 (v := 0) (by decide) ?_
          exact zR.retE i_Mod_apart_88 rfl rfl
        · skip
          refine zr_aload_n i_Mod_apart_43 rfl ?_
          refine zr_iconst i_Mod_apart_44 (v := 1) (by decide) ?_
          refine zr_cv1 i_Mod_apart_45 rfl (by decide) rfl (Nat.le_of_ble_eq_true rfl) (Nat.le_of_ble_eq_true rfl) (e_Mod_now X _ g (va_up ms.1 1 (nI (e + 1)), ms.2) n (e + 1) 1 h0 rfl hn (by omega) (fun i _ => zch_nar (by rw [show ((va_up ms.1 1 (nI (e + 1)), ms.2) : zMS).2 1 = F from hF]; exact hc i))) ?_
          refine zr_top (y := (nowF F n (e + 1 + 1))) (by rw [← hF]; rfl) ?_
          refine zr_cs1 i_Mod_apart_48 rfl (by decide) (Nat.le_of_ble_eq_true rfl) (Nat.le_of_ble_eq_true rfl) (e_Mod_capital X _ _ _) ?_
          refine zB_if_ne 65 i_Mod_apart_51 (by decide) (fun c_51 => ?_) (fun c_51 => ?_)
          · skip
            refine zr_aload_n i_Mod_apart_65 rfl ?_
            refine zr_iconst i_Mod_apart_66 (v := 2) (by decide) ?_
            refine zr_cv1 i_Mod_apart_67 rfl (by decide) rfl (Nat.le_of_ble_eq_true rfl) (Nat.le_of_ble_eq_true rfl) (e_Mod_now X _ g (va_up ms.1 1 (nI (e + 1)), ms.2) n (e + 1) 2 h0 rfl hn (by omega) (fun i _ => zch_nar (by rw [show ((va_up ms.1 1 (nI (e + 1)), ms.2) : zMS).2 1 = F from hF]; exact hc i))) ?_
            refine zr_top (y := (nowF F n (e + 1 + 2))) (by rw [← hF]; rfl) ?_
            refine zr_cs1 i_Mod_apart_70 rfl (by decide) (Nat.le_of_ble_eq_true rfl) (Nat.le_of_ble_eq_true rfl) (e_Mod_capital X _ _ _) ?_
            refine zB_if_ne 89 i_Mod_apart_73 (by decide) (fun c_73 => ?_) (fun c_73 => ?_)
            · skip
              exact absurd (show nameOk F n (e + 1) = true by simp [nameOk, *]) hO
            · skip
              refine zr_aload_n i_Mod_apart_76 rfl ?_
              refine zr_iconst i_Mod_apart_77 (v := 2) (by decide) ?_
              refine zr_cv1 i_Mod_apart_78 rfl (by decide) rfl (Nat.le_of_ble_eq_true rfl) (Nat.le_of_ble_eq_true rfl) (e_Mod_now X _ g (va_up ms.1 1 (nI (e + 1)), ms.2) n (e + 1) 2 h0 rfl hn (by omega) (fun i _ => zch_nar (by rw [show ((va_up ms.1 1 (nI (e + 1)), ms.2) : zMS).2 1 = F from hF]; exact hc i))) ?_
              refine zr_top (y := (nowF F n (e + 1 + 2))) (by rw [← hF]; rfl) ?_
              refine zr_cs1 i_Mod_apart_81 rfl (by decide) (Nat.le_of_ble_eq_true rfl) (Nat.le_of_ble_eq_true rfl) (e_Mod_digit X _ _ _) ?_
              refine zB_if_ne 89 i_Mod_apart_84 (by decide) (fun c_84 => ?_) (fun c_84 => ?_)
              · skip
                exact absurd (show nameOk F n (e + 1) = true by simp [nameOk, *]) hO
              · skip
                refine zr_iconst i_Mod_apart_87 (v := 0) (by decide) ?_
                exact zR.retE i_Mod_apart_88 rfl rfl
          · skip
            refine zr_aload_n i_Mod_apart_54 rfl ?_
            refine zr_iconst i_Mod_apart_55 (v := 1) (by decide) ?_
            refine zr_cv1 i_Mod_apart_56 rfl (by decide) rfl (Nat.le_of_ble_eq_true rfl) (Nat.le_of_ble_eq_true rfl) (e_Mod_now X _ g (va_up ms.1 1 (nI (e + 1)), ms.2) n (e + 1) 1 h0 rfl hn (by omega) (fun i _ => zch_nar (by rw [show ((va_up ms.1 1 (nI (e + 1)), ms.2) : zMS).2 1 = F from hF]; exact hc i))) ?_
            refine zr_top (y := (nowF F n (e + 1 + 1))) (by rw [← hF]; rfl) ?_
            refine zr_cs1 i_Mod_apart_59 rfl (by decide) (Nat.le_of_ble_eq_true rfl) (Nat.le_of_ble_eq_true rfl) (e_Mod_digit X _ _ _) ?_
            refine zB_if_eq 87 i_Mod_apart_62 (by decide) (fun c_62 => ?_) (fun c_62 => ?_)
            · skip
              refine zr_iconst i_Mod_apart_87 (v := 0) (by decide) ?_
              exact zR.retE i_Mod_apart_88 rfl rfl
            · skip
              refine zr_aload_n i_Mod_apart_65 rfl ?_
              refine zr_iconst i_Mod_apart_66 (v := 2) (by decide) ?_
              refine zr_cv1 i_Mod_apart_67 rfl (by decide) rfl (Nat.le_of_ble_eq_true rfl) (Nat.le_of_ble_eq_true rfl) (e_Mod_now X _ g (va_up ms.1 1 (nI (e + 1)), ms.2) n (e + 1) 2 h0 rfl hn (by omega) (fun i _ => zch_nar (by rw [show ((va_up ms.1 1 (nI (e + 1)), ms.2) : zMS).2 1 = F from hF]; exact hc i))) ?_
              refine zr_top (y := (nowF F n (e + 1 + 2))) (by rw [← hF]; rfl) ?_
              refine zr_cs1 i_Mod_apart_70 rfl (by decide) (Nat.le_of_ble_eq_true rfl) (Nat.le_of_ble_eq_true rfl) (e_Mod_capital X _ _ _) ?_
              refine zB_if_ne 89 i_Mod_apart_73 (by decide) (fun c_73 => ?_) (fun c_73 => ?_)
              · skip
                exact absurd (show nameOk F n (e + 1) = true by simp [nameOk, *]) hO
              · skip
                refine zr_aload_n i_Mod_apart_76 rfl ?_
                refine zr_iconst i_Mod_apart_77 (v := 2) (by decide) ?_
                refine zr_cv1 i_Mod_apart_78 rfl (by decide) rfl (Nat.le_of_ble_eq_true rfl) (Nat.le_of_ble_eq_true rfl) (e_Mod_now X _ g (va_up ms.1 1 (nI (e + 1)), ms.2) n (e + 1) 2 h0 rfl hn (by omega) (fun i _ => zch_nar (by rw [show ((va_up ms.1 1 (nI (e + 1)), ms.2) : zMS).2 1 = F from hF]; exact hc i))) ?_
                refine zr_top (y := (nowF F n (e + 1 + 2))) (by rw [← hF]; rfl) ?_
                refine zr_cs1 i_Mod_apart_81 rfl (by decide) (Nat.le_of_ble_eq_true rfl) (Nat.le_of_ble_eq_true rfl) (e_Mod_digit X _ _ _) ?_
                refine zB_if_ne 89 i_Mod_apart_84 (by decide) (fun c_84 => ?_) (fun c_84 => ?_)
                · skip
                  exact absurd (show nameOk F n (e + 1) = true by simp [nameOk, *]) hO
                · skip
                  refine zr_iconst i_Mod_apart_87 (v := 0) (by decide) ?_
                  exact zR.retE i_Mod_apart_88 rfl rfl
    · rw [if_neg hA]
      refine ⟨true, ms, ?_, mpar.refl ms, rfl, by simpa [entA] using hT, by simpa [nmA] using hN⟩
      refine zr_aload_n i_Mod_apart_9 rfl ?_
      refine zr_getf i_Mod_apart_10 rfl rfl rfl ?_
      refine zr_top (y := nI e) h1 ?_
      refine zn_iconst 1 i_Mod_apart_13 (by decide) ?_
      refine zn_iadd i_Mod_apart_14 ?_
      refine zr_aload_n i_Mod_apart_15 rfl ?_
      refine zr_getf i_Mod_apart_16 rfl rfl rfl ?_
      refine zr_top (y := nI n) h0 ?_
      refine zn_icmp_ge 151 i_Mod_apart_19 (by decide) (by omega) (by omega) (fun c_19 => ?_) (fun q => absurd q (by omega))
      refine zr_iconst i_Mod_apart_151 (v := 1) (by decide) ?_
      exact zR.retE i_Mod_apart_152 rfl rfl
