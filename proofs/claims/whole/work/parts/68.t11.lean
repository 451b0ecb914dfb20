/-! BOTH: what is done with a patient -/
/-- what else stands is as it was -/
def frm (h h' : zH) : Prop := (∀ c, c < 104 ∨ (110 ≤ c ∧ c < 156) → h'.2.2 c = h.2.2 c) ∧ (h'.1 = h.1 ∨ h'.1 = h.1 + 8) ∧ h.2.1 ≤ h'.2.1 ∧ h'.2.1 ≤ h.2.1 + 59
theorem frm_refl (h : zH) : frm h h := ⟨fun _ _ => rfl, Or.inl rfl, Nat.le_refl _, by omega⟩
theorem frm_low {h h' : zH} (hf : frm h h') (hz : zlow h) : zlow h' := fun c hc => (hf.1 c (by omega)).trans (hz c hc)
def set19 (x : zMS) (p : Nat) (v : Int32) : zMS := (x.1, va_up x.2 19 (upd (x.2 19) p v))
def set89 (x : zMS) (p : Nat) (v : Int32) : zMS := mB x (upd (x.2 19) p v) (upd (x.2 18) p 1)
theorem same19 (x : zMS) (p0 : Nat) (v : Int32) : ∀ p, p ≠ p0 → patSame x (set19 x p0 v) p := fun p hp => ⟨rfl, pk_un hp, rfl, rfl, fun _ _ => rfl, rfl, fun _ _ => ⟨rfl, rfl⟩⟩
theorem same89 (x : zMS) (p0 : Nat) (v : Int32) : ∀ p, p ≠ p0 → patSame x (set89 x p0 v) p := fun p hp => ⟨pk_un hp, pk_un hp, rfl, rfl, fun _ _ => rfl, rfl, fun _ _ => ⟨rfl, rfl⟩⟩
/-- a patient's bed changes -/
theorem pa_bed {h h' : zH} {b p : Nat} {x y : zMS} (hp : isPa h b p x) (hb : h'.2.2 b = some (paO b (y.2 19 p))) (hs : ∀ i, 1 ≤ i → i < 8 → h'.2.2 (b + i) = h.2.2 (b + i)) (h20 : y.2 20 = x.2 20) (h21 : y.2 21 = x.2 21) (h22 : y.2 22 = x.2 22) (h23 : y.2 23 = x.2 23) (h24 : y.2 24 = x.2 24) : isPa h' b p y := by
  obtain ⟨h0, ⟨n1, g1, c1, d1⟩, ⟨n2, g2, c2, d2⟩, ⟨q, c3, d3⟩⟩ := hp
  unfold isPa
  rw [h20, h21, h22, h23, h24]
  exact ⟨hb, ⟨n1, g1, ⟨(hs 1 (by decide) (by decide)).trans c1.1, (hs 2 (by decide) (by decide)).trans c1.2⟩, d1⟩, ⟨n2, g2, ⟨(hs 3 (by decide) (by decide)).trans c2.1, (hs 4 (by decide) (by decide)).trans c2.2⟩, d2⟩, ⟨q, ⟨(hs 5 (by decide) (by decide)).trans c3.1, (hs 6 (by decide) (by decide)).trans c3.2.1, (hs 7 (by decide) (by decide)).trans c3.2.2⟩, d3⟩⟩
theorem isMe_wr {h : zH} {a c : Nat} {q : zMe} {v : zC} (hq : isMe h a q) (hd : c ≠ a ∧ c ≠ a + 1 ∧ c ≠ a + 2) : isMe (zwr h c v) a q := ⟨(zwr_ne (fun z => hd.1 z.symm)).trans hq.1, (zwr_ne (fun z => hd.2.1 z.symm)).trans hq.2.1, (zwr_ne (fun z => hd.2.2 z.symm)).trans hq.2.2⟩
theorem neg1_lt : ((-1 : Int32) < 0) := by decide
theorem leave_tie (X : zX) (d : Nat) {h : zH} {x : zMS} {oc : Nat → Int32} {pt : Nat → Option Nat} {qt : zMe} (H : HosW h x oc pt qt) {p : Nat} (h1 : 1 ≤ p) (h2 : p ≤ 99) : ∃ h' oc', zR X (d + 1) 57 0 (zent 3 [.ref 104, .int (nI p)]) [] h (some (.int (if x.2 19 p < 0 then nI 13 else nI 0)), h') ∧ HosW h' (if x.2 19 p < 0 then x else set19 x p (-1)) oc' pt qt ∧ frm h h' := by
  obtain ⟨a1, a2, a3, a4, a5, a6, a7, a8⟩ := id H
  cases hp : pt p with
  | none =>
    have hn := (a6 p h1 h2 hp).2.1
    rw [hn, if_pos neg1_lt, if_pos neg1_lt]
    exact ⟨h, oc, n_Hosp_leave X d h oc pt a1 p h1 h2 hp, H, frm_refl h⟩
  | some b =>
    obtain ⟨k1, r1, r2, r3, r4⟩ := a7 p b h1 h2 hp
    rcases a5.1 p h1 h2 with e | ⟨k, hk, e⟩
    · rw [e, if_pos neg1_lt, if_pos neg1_lt]
      refine ⟨h, oc, o_Hosp_leave X d h oc pt a1 p h1 h2 b hp ?_, H, frm_refl h⟩
      rw [← e]; exact r4.1
    · rw [e, if_neg (nI_nneg (by omega)), if_neg (nI_nneg (by omega))]
      refine ⟨hE h oc b k, upd oc k 0, e_Hosp_leave X d h oc pt a1 p h1 h2 b k r1 hk hp (by rw [← e]; exact r4.1), ?_, ?_⟩
      · refine Hos_set H h1 h2 hp (hE_ho a1 r1) (isMe_wr (isMe_wr a2 (by decide)) (by omega)) a3 rfl (fun c c1 c2 => (zwr_ne (by omega)).trans (zwr_ne (by omega))) (same19 x p (-1)) k1 (bedR_out a5 h1 h2 hk e) ?_
        refine pa_bed r4 ?_ (fun i i1 i2 => (zwr_ne (by omega)).trans (zwr_ne (by omega))) rfl rfl rfl rfl rfl
        show (hE h oc b k).2.2 b = some (paO b (upd (x.2 19) p (-1) p))
        rw [pk_us]
        exact zwr_at _ _ _
      · exact ⟨fun c hc => (zwr_ne (by omega)).trans (zwr_ne (by omega)), Or.inl rfl, Nat.le_refl _, by show h.2.1 ≤ h.2.1 + 59; omega⟩
theorem move_tie (X : zX) (d : Nat) {h : zH} {x : zMS} {oc : Nat → Int32} {pt : Nat → Option Nat} {qt : zMe} (H : HosW h x oc pt qt) {p : Nat} (h1 : 1 ≤ p) (h2 : p ≤ 99) {k : Nat} (hk : k < 32) : ∃ h' oc', zR X (d + 1) 55 0 (zent 4 [.ref 104, .int (nI p), .int (nI k)]) [] h (some (.int (if x.2 19 p < 0 then nI 13 else if ¬ whoF (x.2 19) (nI k) = 0 then nI 15 else nI 0)), h') ∧ HosW h' (if x.2 19 p < 0 then x else if ¬ whoF (x.2 19) (nI k) = 0 then x else set89 x p (nI k)) oc' pt qt ∧ frm h h' := by
  obtain ⟨a1, a2, a3, a4, a5, a6, a7, a8⟩ := id H
  cases hp : pt p with
  | none =>
    have hn := (a6 p h1 h2 hp).2.1
    rw [hn, if_pos neg1_lt, if_pos neg1_lt]
    exact ⟨h, oc, n_Hosp_move X d h oc pt a1 p h1 h2 k hk hp, H, frm_refl h⟩
  | some b =>
    obtain ⟨k1, r1, r2, r3, r4⟩ := a7 p b h1 h2 hp
    rcases a5.1 p h1 h2 with e | ⟨k0, hk0, e⟩
    · rw [e, if_pos neg1_lt, if_pos neg1_lt]
      refine ⟨h, oc, o_Hosp_move X d h oc pt a1 p h1 h2 k hk b hp ?_, H, frm_refl h⟩
      rw [← e]; exact r4.1
    · have hB : h.2.2 b = some (paO b (nI k0)) := by rw [← e]; exact r4.1
      rw [if_neg (show ¬ x.2 19 p < 0 by rw [e]; exact nI_nneg (by omega)), if_neg (show ¬ x.2 19 p < 0 by rw [e]; exact nI_nneg (by omega))]
      by_cases hw : whoF (x.2 19) (nI k) = 0
      · have ho := (bedR_0 a5 hk).mpr hw
        rw [if_neg (fun z => z hw), if_neg (fun z => z hw)]
        have b1 := bedR_out a5 h1 h2 hk0 e
        have hne : k ≠ k0 := by
          intro z
          rcases a5.2.1 k0 hk0 with ⟨e0, hn⟩ | ⟨q, q1, q2, e0, eb, hu⟩
          · exact hn p h1 h2 e
          · rw [← z, ho] at e0
            have := (nI_eq (a := q) (b := 0) (by omega) (by decide)).mp e0.symm
            omega
        have b2 := bedR_in b1 h1 h2 hk pk_us (by rw [pk_un hne]; exact ho)
        have bb : upd (upd (x.2 19) p (-1)) p (nI k) = upd (x.2 19) p (nI k) := by
          funext j
          by_cases hj : j = p
          · rw [hj, pk_us, pk_us]
          · rw [pk_un hj, pk_un hj, pk_un hj]
        rw [bb] at b2
        refine ⟨_, upd (upd oc k0 0) k (nI p), e_Hosp_move X d h oc pt a1 p h1 h2 k hk b k0 r1 hk0 hp hB ho, ?_, ?_⟩
        · refine Hos_set H h1 h2 hp (hP_ho (hE_ho a1 r1) r1) (isMe_wr (isMe_wr (isMe_wr (isMe_wr a2 (by decide)) (by omega)) (by decide)) (by omega)) a3 rfl (fun c c1 c2 => (zwr_ne (by omega)).trans ((zwr_ne (by omega)).trans ((zwr_ne (by omega)).trans (zwr_ne (by omega))))) (same89 x p (nI k)) pk_us b2 ?_
          refine pa_bed r4 ?_ (fun i i1 i2 => (zwr_ne (by omega)).trans ((zwr_ne (by omega)).trans ((zwr_ne (by omega)).trans (zwr_ne (by omega))))) rfl rfl rfl rfl rfl
          show _ = some (paO b (upd (x.2 19) p (nI k) p))
          rw [pk_us]
          exact zwr_at _ _ _
        · exact ⟨fun c hc => (zwr_ne (by omega)).trans ((zwr_ne (by omega)).trans ((zwr_ne (by omega)).trans (zwr_ne (by omega)))), Or.inl rfl, Nat.le_refl _, by show h.2.1 ≤ h.2.1 + 59; omega⟩
      · rw [if_pos hw, if_pos hw]
        refine ⟨h, oc, t_Hosp_move X d h oc pt a1 p h1 h2 k hk b k0 hk0 hp hB (fun z => hw ((bedR_0 a5 hk).mp z)), H, frm_refl h⟩
/-- both names are taken -/
def setNm (x : zMS) (p : Nat) (t1 t2 : zT) : zMS := mnam x (takeQ (takeQ (mnq x) t1 p 0) t2 p 1)
theorem sameNm (x : zMS) (p0 : Nat) (t1 t2 : zT) : ∀ p, p ≠ p0 → patSame x (setNm x p0 t1 t2) p := by
  intro p hp
  refine ⟨rfl, rfl, ?_, ?_, fun j hj => ?_, rfl, fun _ _ => ⟨rfl, rfl⟩⟩
  · show (takeQ (takeQ (mnq x) t1 p0 0) t2 p0 1).1 (2 * p) = _
    rw [tq_1 (by omega), tq_1 (by omega)]; rfl
  · show (takeQ (takeQ (mnq x) t1 p0 0) t2 p0 1).1 (2 * p + 1) = _
    rw [tq_1 (by omega), tq_1 (by omega)]; rfl
  · show (takeQ (takeQ (mnq x) t1 p0 0) t2 p0 1).2 (24 * p + j) = _
    rw [tq_2 (by omega), tq_2 (by omega)]; rfl
