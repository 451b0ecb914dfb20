/-! THE REFERENCE: end -/
theorem ent_num : ∀ (l : List zG) (sg : Nat) (k : zK4) (b : Nat), 1 ≤ b → k.1 ≤ b → k.2.1 ≤ b → k.2.2.1 ≤ b → k.2.2.2 ≤ b → ∀ e, e ∈ (entF sg k l).2 → e.1.1 = sg ∧ e.1.2.1 ≤ b + (entF sg k l).2.length ∧ e.1.2.2.1 ≤ b + (entF sg k l).2.length ∧ e.1.2.2.2.1 ≤ b + (entF sg k l).2.length ∧ e.1.2.2.2.2 ≤ b + (entF sg k l).2.length := by
  intro l
  induction l with
  | nil => intro sg k b _ _ _ _ _ e he; cases he
  | cons x l ih =>
    intro sg k b hb h1 h2 h3 h4 e he
    cases x with
    | inl c => exact ih sg k b hb h1 h2 h3 h4 e he
    | inr w =>
      have hbump : (bump k w).1 ≤ b + 1 ∧ (bump k w).2.1 ≤ b + 1 ∧ (bump k w).2.2.1 ≤ b + 1 ∧ (bump k w).2.2.2 ≤ b + 1 := by
        unfold bump
        split
        · exact ⟨by show k.1 + 1 ≤ _; omega, by show 1 ≤ _; omega, by show 1 ≤ _; omega, by show 1 ≤ _; omega⟩
        · split
          · exact ⟨by show k.1 ≤ _; omega, by show k.2.1 ≤ _; omega, by show k.2.2.1 + 1 ≤ _; omega, by show 1 ≤ _; omega⟩
          · split
            · exact ⟨by show k.1 ≤ _; omega, by show k.2.1 + 1 ≤ _; omega, by show 1 ≤ _; omega, by show 1 ≤ _; omega⟩
            · exact ⟨by show k.1 ≤ _; omega, by show k.2.1 ≤ _; omega, by show k.2.2.1 ≤ _; omega, by show k.2.2.2 + 1 ≤ _; omega⟩
      have hlen : (entF sg k (.inr w :: l)).2.length = (entF sg (bump k w) l).2.length + 1 := rfl
      rw [hlen]
      have he' : e = ((sg, bump k w), (entF sg (bump k w) l).1) ∨ e ∈ (entF sg (bump k w) l).2 := List.mem_cons.mp he
      rcases he' with rfl | he'
      · refine ⟨rfl, ?_, ?_, ?_, ?_⟩
        · show (bump k w).1 ≤ _; omega
        · show (bump k w).2.1 ≤ _; omega
        · show (bump k w).2.2.1 ≤ _; omega
        · show (bump k w).2.2.2 ≤ _; omega
      · have := ih sg (bump k w) (b + 1) (by omega) hbump.1 hbump.2.1 hbump.2.2.1 hbump.2.2.2 e he'
        refine ⟨this.1, ?_, ?_, ?_, ?_⟩ <;> omega
/-- the numbers of the texts are small -/
theorem entA_num : ∀ (l : List zSeg) (sg : Nat), ∀ e, e ∈ entA sg l → sg ≤ e.1.1 ∧ e.1.1 < sg + l.length ∧ e.1.2.1 ≤ 1 + (entA sg l).length ∧ e.1.2.2.1 ≤ 1 + (entA sg l).length ∧ e.1.2.2.2.1 ≤ 1 + (entA sg l).length ∧ e.1.2.2.2.2 ≤ 1 + (entA sg l).length := by
  intro l
  induction l with
  | nil => intro sg e he; cases he
  | cons s l ih =>
    intro sg e he
    rw [entA] at he ⊢
    rw [List.length_append, List.length_cons]
    rcases List.mem_append.mp he with q | q
    · have := ent_num s.2 sg (0, 1, 1, 1) 1 (by decide) (by decide) (by decide) (by decide) (by decide) e q
      omega
    · have := ih (sg + 1) e q
      omega
theorem vE_none {E : List zEn} {s f r c : Int32} (h : ∀ e, e ∈ E → entM s f r c e = false) : vE E s f r c = none := by
  unfold vE
  rw [List.find?_eq_none.mpr (fun e he => by rw [h e he]; decide)]
  rfl
theorem vE_222 {l : List zSeg} (hl : (entA 1 l).length ≤ 200) (s : Int32) : vE (entA 1 l) s 2 (nI 222) 1 = none := by
  refine vE_none (fun e he => ?_)
  have := entA_num l 1 e he
  unfold entM
  rw [show decide (nI e.1.2.2.1 = nI 222) = false from decide_eq_false (fun q => by have := (nI_eq (a := e.1.2.2.1) (b := 222) (by omega) (by decide)).mp q; omega)]
  simp
theorem mfind_222 {ms : zMS} {l : List zSeg} (hV : mV ms = vE (entA 1 l)) (hl : (entA 1 l).length ≤ 200) (s : Nat) : mfind ms 0 (nI s) 2 (nI 222) 1 = none := by
  apply mtx_none.mp
  show mV ms (nI s) 2 (nI 222) 1 = none
  rw [hV]
  exact vE_222 hl _
theorem mV_congr {x w : zMS} (h : ∀ k, k < 16 → w.2 k = x.2 k) : mV w = mV x := by
  have h3 := h 3 (by decide)
  have h5 := h 5 (by decide)
  have h6 := h 6 (by decide)
  have h7 := h 7 (by decide)
  have h8 := h 8 (by decide)
  have h9 := h 9 (by decide)
  have h10 := h 10 (by decide)
  have h11 := h 11 (by decide)
  have h12 := h 12 (by decide)
  have e1 : mat w = mat x := by
    funext s f r c t
    unfold mat
    rw [h5, h6, h7, h8, h9]
  have e2 : msz w = msz x := by
    funext o
    cases o with
    | none => rfl
    | some k => show (w.2 11 k).toNatClampNeg = (x.2 11 k).toNatClampNeg; rw [h11]
  have e3 : mch w = mch x := by
    funext o m
    cases o with
    | none => rfl
    | some k => unfold mch; dsimp only; rw [h10, h11, h12]
  funext s f r c
  unfold mV mtx mfind
  rw [e1, e2, e3, h3]
theorem mseg_congr {x w : zMS} (h : ∀ k, k < 16 → w.2 k = x.2 k) : mseg w = mseg x := by
  have h2 := h 2 (by decide)
  have h13 := h 13 (by decide)
  have e1 : mnm w = mnm x := by
    funext a b c s
    unfold mnm
    rw [h13]
  funext a b c i
  unfold mseg
  rw [e1, h2]
theorem mTV_congr {x w : zMS} (h : ∀ k, k < 16 → w.2 k = x.2 k) {q cnt : Nat} (hT : mTV x q cnt) : mTV w q cnt := by
  have h3 := h 3 (by decide)
  have h10 := h 10 (by decide)
  have h11 := h 11 (by decide)
  have h12 := h 12 (by decide)
  unfold mTV mtxt at *
  rw [h3, h10, h11, h12]
  exact hT
theorem zch_0 : zch 0 := by unfold zch; decide
theorem zch_tc {ms : zMS} (hC : ∀ i, zch (ms.2 12 i)) (s f r c : Int32) (i : Nat) : zch (tc (mV ms s f r c) i) := by
  unfold mV
  rw [tc_mtx]
  cases mfind ms 0 s f r c with
  | none => exact zch_0
  | some k =>
    unfold mch
    dsimp only
    split
    · exact hC _
    · exact zch_0
theorem vidL_true {t : zT} : ∀ (k i : Nat) (ok : Bool), vidL t i k ok = true → ok = true ∧ ∀ j, i ≤ j → j < i + k → vlod (tc t j) = true := by
  intro k
  induction k with
  | zero => intro i ok h; exact ⟨h, fun j _ _ => by omega⟩
  | succ k ih =>
    intro i ok h
    rw [vidL] at h
    obtain ⟨h1, h2⟩ := ih _ _ h
    obtain ⟨h3, h4⟩ := Bool.and_eq_true_iff.mp h1
    refine ⟨h3, fun j hj1 hj2 => ?_⟩
    by_cases hji : j = i
    · rw [hji]; exact h4
    · exact h2 j (by omega) (by omega)
theorem idF_true {V : zV} (h : idF V = true) : 1 ≤ tl (V 1 2 1 1) ∧ tl (V 1 2 1 1) ≤ 6 ∧ ∀ j, j < tl (V 1 2 1 1) → vlod (tc (V 1 2 1 1) j) = true := by
  obtain ⟨h1, h2⟩ := vidL_true _ _ _ h
  obtain ⟨h3, h4⟩ := Bool.and_eq_true_iff.mp h1
  simp at h3 h4
  exact ⟨by omega, by omega, fun j hj => h2 j (by omega) (by omega)⟩
def zkd (k : Nat) : Prop := k = 0 ∨ k = 1 ∨ k = 2 ∨ k = 3 ∨ k = 8 ∨ k = 9
theorem kindF_b (V : zV) : ∃ k, zkd k ∧ kindF V = nI k := by
  unfold kindF
  split
  · split
    · exact ⟨9, by simp [zkd], rfl⟩
    · exact ⟨0, by simp [zkd], rfl⟩
  · split
    · rename_i h
      rcases h.2 with q | q | q | q
      · exact ⟨1, by simp [zkd], by rw [q]; rfl⟩
      · exact ⟨2, by simp [zkd], by rw [q]; rfl⟩
      · exact ⟨3, by simp [zkd], by rw [q]; rfl⟩
      · exact ⟨8, by simp [zkd], by rw [q]; rfl⟩
    · exact ⟨0, by simp [zkd], rfl⟩
theorem judgeF_b (V : zV) (S : zSg) (sg : Nat) (bed kn : Nat → Int32) (q : zQ) (kind : Nat) : ∃ r, r < 20 ∧ (judgeF V S sg bed kn q kind).1 = nI r := by
  unfold judgeF
  repeat' split
  all_goals first | exact ⟨6, by decide, rfl⟩ | exact ⟨11, by decide, rfl⟩ | exact ⟨12, by decide, rfl⟩ | exact ⟨13, by decide, rfl⟩ | exact ⟨14, by decide, rfl⟩ | exact ⟨15, by decide, rfl⟩ | exact ⟨16, by decide, rfl⟩ | exact ⟨17, by decide, rfl⟩ | exact ⟨18, by decide, rfl⟩ | exact ⟨0, by decide, rfl⟩
theorem judgeF_0 {V : zV} {S : zSg} {sg : Nat} {bed kn : Nat → Int32} {q : zQ} {kind : Nat} (h : (judgeF V S sg bed kn q kind).1 = 0) : kind ≠ 0 ∧ ∃ p, 1 ≤ p ∧ p ≤ 99 ∧ patF V (S 80 73 68 1) = nI p := by
  refine ⟨fun e => ?_, ?_⟩
  · unfold judgeF at h
    rw [if_pos e] at h
    exact absurd (show (6 : Int32) = 0 from h) (by decide)
  · rcases patF_b V (S 80 73 68 1) with e | ⟨p, hp, e⟩
    · exfalso
      unfold judgeF at h
      split at h
      · exact absurd (show (6 : Int32) = 0 from h) (by decide)
      · rw [if_pos (by rw [e]; decide)] at h
        exact absurd (show (11 : Int32) = 0 from h) (by decide)
    · refine ⟨p, ?_, by omega, e⟩
      rcases Nat.eq_zero_or_pos p with z | z
      · exfalso
        unfold judgeF at h
        split at h
        · exact absurd (show (6 : Int32) = 0 from h) (by decide)
        · rw [if_pos (by rw [e, z]; decide)] at h
          exact absurd (show (11 : Int32) = 0 from h) (by decide)
      · exact z
theorem e_Mod_judge (X : zX) (d : Nat) (g : zH) (ms : zMS) (cnt : Nat) (hT : mTV ms 0 cnt) (hR : ∀ s : Nat, mfind ms 0 (nI s) 2 (nI 222) 1 = none) (sg : Nat) (hs : ms.2 2 0 = nI sg) (hsl : sg ≤ 200) (nr : Nat → Nat) (hN : ∀ p, p ≤ 99 → ms.2 22 p = nI (nr p) ∧ nr p ≤ 12) (kd : Nat) (hk : zkd kd) : zR X (d + 4) 121 0 (zent 6 [.ref 129, .int (nI kd)]) [] (mset g ms) (some (.int (judgeF (mV ms) (mseg ms) sg (ms.2 19) (ms.2 18) (mq ms) kd).1), mset g (mres ms (judgeF (mV ms) (mseg ms) sg (ms.2 19) (ms.2 18) (mq ms) kd).2)) := by
  rcases hk with rfl | rfl | rfl | rfl | rfl | rfl
  · exact e0_Mod_judge X d g ms cnt hT hR sg hs hsl nr hN
  · exact e1_Mod_judge X d g ms cnt hT hR sg hs hsl nr hN
  · exact e2_Mod_judge X d g ms cnt hT hR sg hs hsl nr hN
  · exact e3_Mod_judge X d g ms cnt hT hR sg hs hsl nr hN
  · exact e8_Mod_judge X d g ms cnt hT hR sg hs hsl nr hN
  · exact e9_Mod_judge X d g ms cnt hT hR sg hs hsl nr hN
theorem e_Mod_act (X : zX) (d : Nat) (g : zH) (ms : zMS) (cnt : Nat) (hT : mTV ms 0 cnt) (sg : Nat) (hs : ms.2 2 0 = nI sg) (hsl : sg ≤ 200) (p : Nat) (hp : p ≤ 99) (e : patF (mV ms) (mseg ms 80 73 68 1) = nI p) (kd : Nat) (hk : zkd kd) (hk0 : kd ≠ 0) : zR X (d + 4) 135 0 (zent 4 [.ref 129, .int (nI kd)]) [] (mset g ms) (none, mset g (actF ms kd)) := by
  rcases hk with rfl | rfl | rfl | rfl | rfl | rfl
  · exact absurd rfl hk0
  · exact e1_Mod_act X d g ms cnt hT sg hs hsl p hp e
  · exact e2_Mod_act X d g ms cnt hT sg hs hsl p hp e
  · exact e3_Mod_act X d g ms cnt hT sg hs hsl p hp e
  · exact e8_Mod_act X d g ms cnt hT sg hs hsl p hp e
  · exact e9_Mod_act X d g ms cnt hT sg hs hsl p hp e
theorem up_lo {f : Nat → Nat → Int32} {i k : Nat} {v : Nat → Int32} (h : k ≠ i) : va_up f i v k = f k := va_up_ne _ _ h
theorem act_lo (ms : zMS) (kd k : Nat) (hk : k < 18) : (actF ms kd).2 k = ms.2 k := by
  have h18 : ∀ f : Nat → Nat → Int32, ∀ v, va_up f 18 v k = f k := fun f v => up_lo (by omega)
  have h19 : ∀ f : Nat → Nat → Int32, ∀ v, va_up f 19 v k = f k := fun f v => up_lo (by omega)
  have h20 : ∀ f : Nat → Nat → Int32, ∀ v, va_up f 20 v k = f k := fun f v => up_lo (by omega)
  have h21 : ∀ f : Nat → Nat → Int32, ∀ v, va_up f 21 v k = f k := fun f v => up_lo (by omega)
  have h22 : ∀ f : Nat → Nat → Int32, ∀ v, va_up f 22 v k = f k := fun f v => up_lo (by omega)
  have h23 : ∀ f : Nat → Nat → Int32, ∀ v, va_up f 23 v k = f k := fun f v => up_lo (by omega)
  have h24 : ∀ f : Nat → Nat → Int32, ∀ v, va_up f 24 v k = f k := fun f v => up_lo (by omega)
  unfold actF
  dsimp only
  split
  · unfold mnam mB; dsimp only; rw [h21, h20, h18, h19]
  · split
    · unfold mB; dsimp only; rw [h18, h19]
    · split
      · show va_up ms.2 19 _ k = _; rw [h19]
      · split
        · unfold mnam; dsimp only; rw [h21, h20]
        · unfold mres; dsimp only; rw [h24, h23, h22]
theorem act_n (ms : zMS) (kd : Nat) : (actF ms kd).1 = ms.1 := by
  unfold actF
  dsimp only
  repeat' split
  all_goals rfl
theorem mres_lo (ms : zMS) (q : zQ) (k : Nat) (hk : k < 22) : (mres ms q).2 k = ms.2 k := by
  unfold mres
  dsimp only
  rw [up_lo (by omega), up_lo (by omega), up_lo (by omega)]
theorem rem_lo (ms : zMS) (t : zT) (kp : Nat) (r : Int32) (k : Nat) (hk : k ≠ 16 ∧ k ≠ 17) : (remF ms t kp r).2 k = ms.2 k := by
  unfold remF
  split <;> (unfold mkn; dsimp only; rw [up_lo hk.2, up_lo hk.1])
theorem rem_n (ms : zMS) (t : zT) (kp : Nat) (r : Int32) (k : Nat) (hk : k ≠ 6) : (remF ms t kp r).1 k = ms.1 k := by
  unfold remF
  split <;> (unfold mkn; dsimp only; exact va_up_ne _ _ hk)
/-- the state as end begins -/
def eA (ms : zMS) : zMS := (va_up (va_up (va_up ms.1 2 1) 4 0) 5 0, ms.2)
/-- the state after a frame was rejected for r -/
def eB (ms1 : zMS) (r : Nat) : zMS := (va_up (va_up ms1.1 0 0) 3 (nI r), ms1.2)
/-- the state after a frame was read -/
def eX (ms1 : zMS) : zMS := (va_up (va_up ms1.1 0 (ms1.1 0)) 3 (nI 0), ms1.2)
/-- the state after a message was judged and, where it is accepted, done -/
def stepN (x : zMS) (sg kp kd : Nat) : zMS :=
  let j := judgeF (mV x) (mseg x) sg (x.2 19) (x.2 18) (mq x) kd
  let y : zMS := (va_up (mres x j.2).1 3 j.1, (mres x j.2).2)
  let z := if j.1 = 0 then actF y kd else y
  if j.1 = 6 then z else remF z (mV x 1 2 1 1) kp j.1
def stepS (x : zMS) (sg kp kd : Nat) : zMS := match zfst (same6 (x.2 16) (mV x 1 2 1 1)) 0 kp with
  | some k => (va_up (va_up x.1 4 1) 3 (x.2 17 k), x.2)
  | none => stepN x sg kp kd
/-- the state after the receipt is written and the message kept -/
def endT (w : zMS) (id : List Int32) (cnt cs sg rr : Nat) : zMS := (va_up (mkeep (mrc w (recF (w.2 14) id rr)) cnt cs sg).1 0 0, (mkeep (mrc w (recF (w.2 14) id rr)) cnt cs sg).2)
theorem i_Mod_end_0 : zins 98 0 = some (.aload_n 0) := by decide +kernel
theorem i_Mod_end_1 : zins 98 1 = some (.iconst 1) := by decide +kernel
theorem i_Mod_end_2 : zins 98 2 = some (.putfield 237) := by decide +kernel
theorem i_Mod_end_5 : zins 98 5 = some (.aload_n 0) := by decide +kernel
theorem i_Mod_end_6 : zins 98 6 = some (.iconst 0) := by decide +kernel
theorem i_Mod_end_7 : zins 98 7 = some (.putfield 241) := by decide +kernel
theorem i_Mod_end_10 : zins 98 10 = some (.aload_n 0) := by decide +kernel
theorem i_Mod_end_11 : zins 98 11 = some (.iconst 0) := by decide +kernel
theorem i_Mod_end_12 : zins 98 12 = some (.putfield 224) := by decide +kernel
theorem i_Mod_end_15 : zins 98 15 = some (.aload_n 0) := by decide +kernel
theorem i_Mod_end_16 : zins 98 16 = some (.invokevirtual 244) := by decide +kernel
theorem i_Mod_end_19 : zins 98 19 = some (.istore_n 1) := by decide +kernel
theorem i_Mod_end_20 : zins 98 20 = some (.aload_n 0) := by decide +kernel
theorem i_Mod_end_21 : zins 98 21 = some (.iload_n 1) := by decide +kernel
theorem i_Mod_end_22 : zins 98 22 = some (.ifCond .le 7) := by decide +kernel
theorem i_Mod_end_25 : zins 98 25 = some (.iconst 0) := by decide +kernel
theorem i_Mod_end_26 : zins 98 26 = some (.goto 7) := by decide +kernel
theorem i_Mod_end_29 : zins 98 29 = some (.aload_n 0) := by decide +kernel
theorem i_Mod_end_30 : zins 98 30 = some (.getfield 98) := by decide +kernel
theorem i_Mod_end_33 : zins 98 33 = some (.putfield 98) := by decide +kernel
theorem i_Mod_end_36 : zins 98 36 = some (.aload_n 0) := by decide +kernel
theorem i_Mod_end_37 : zins 98 37 = some (.iload_n 1) := by decide +kernel
theorem i_Mod_end_38 : zins 98 38 = some (.putfield 248) := by decide +kernel
theorem i_Mod_end_41 : zins 98 41 = some (.iload_n 1) := by decide +kernel
theorem i_Mod_end_42 : zins 98 42 = some (.ifCond .le 5) := by decide +kernel
theorem i_Mod_end_45 : zins 98 45 = some (.iconst 2) := by decide +kernel
theorem i_Mod_end_46 : zins 98 46 = some (.ireturn) := by decide +kernel
theorem i_Mod_end_47 : zins 98 47 = some (.aload_n 0) := by decide +kernel
theorem i_Mod_end_48 : zins 98 48 = some (.invokevirtual 251) := by decide +kernel
theorem i_Mod_end_51 : zins 98 51 = some (.istore_n 2) := by decide +kernel
theorem i_Mod_end_52 : zins 98 52 = some (.iload_n 2) := by decide +kernel
theorem i_Mod_end_53 : zins 98 53 = some (.ifCond .lt 21) := by decide +kernel
theorem i_Mod_end_56 : zins 98 56 = some (.aload_n 0) := by decide +kernel
theorem i_Mod_end_57 : zins 98 57 = some (.iconst 1) := by decide +kernel
theorem i_Mod_end_58 : zins 98 58 = some (.putfield 241) := by decide +kernel
theorem i_Mod_end_61 : zins 98 61 = some (.aload_n 0) := by decide +kernel
theorem i_Mod_end_62 : zins 98 62 = some (.aload_n 0) := by decide +kernel
theorem i_Mod_end_63 : zins 98 63 = some (.getfield 59) := by decide +kernel
theorem i_Mod_end_66 : zins 98 66 = some (.iload_n 2) := by decide +kernel
theorem i_Mod_end_67 : zins 98 67 = some (.iaload) := by decide +kernel
theorem i_Mod_end_68 : zins 98 68 = some (.putfield 248) := by decide +kernel
theorem i_Mod_end_71 : zins 98 71 = some (.goto 46) := by decide +kernel
theorem i_Mod_end_74 : zins 98 74 = some (.aload_n 0) := by decide +kernel
theorem i_Mod_end_75 : zins 98 75 = some (.invokevirtual 254) := by decide +kernel
theorem i_Mod_end_78 : zins 98 78 = some (.istore_n 3) := by decide +kernel
theorem i_Mod_end_79 : zins 98 79 = some (.aload_n 0) := by decide +kernel
theorem i_Mod_end_80 : zins 98 80 = some (.aload_n 0) := by decide +kernel
theorem i_Mod_end_81 : zins 98 81 = some (.iload_n 3) := by decide +kernel
theorem i_Mod_end_82 : zins 98 82 = some (.invokevirtual 257) := by decide +kernel
theorem i_Mod_end_85 : zins 98 85 = some (.putfield 248) := by decide +kernel
theorem i_Mod_end_88 : zins 98 88 = some (.aload_n 0) := by decide +kernel
theorem i_Mod_end_89 : zins 98 89 = some (.getfield 248) := by decide +kernel
theorem i_Mod_end_92 : zins 98 92 = some (.ifCond .ne 8) := by decide +kernel
theorem i_Mod_end_95 : zins 98 95 = some (.aload_n 0) := by decide +kernel
theorem i_Mod_end_96 : zins 98 96 = some (.iload_n 3) := by decide +kernel
theorem i_Mod_end_97 : zins 98 97 = some (.invokevirtual 260) := by decide +kernel
theorem i_Mod_end_100 : zins 98 100 = some (.aload_n 0) := by decide +kernel
theorem i_Mod_end_101 : zins 98 101 = some (.getfield 248) := by decide +kernel
theorem i_Mod_end_104 : zins 98 104 = some (.bipush 6) := by decide +kernel
theorem i_Mod_end_106 : zins 98 106 = some (.if_icmp .eq 11) := by decide +kernel
theorem i_Mod_end_109 : zins 98 109 = some (.aload_n 0) := by decide +kernel
theorem i_Mod_end_110 : zins 98 110 = some (.aload_n 0) := by decide +kernel
theorem i_Mod_end_111 : zins 98 111 = some (.getfield 248) := by decide +kernel
theorem i_Mod_end_114 : zins 98 114 = some (.invokevirtual 264) := by decide +kernel
theorem i_Mod_end_117 : zins 98 117 = some (.aload_n 0) := by decide +kernel
theorem i_Mod_end_118 : zins 98 118 = some (.aload_n 0) := by decide +kernel
theorem i_Mod_end_119 : zins 98 119 = some (.getfield 248) := by decide +kernel
theorem i_Mod_end_122 : zins 98 122 = some (.invokevirtual 267) := by decide +kernel
theorem i_Mod_end_125 : zins 98 125 = some (.aload_n 0) := by decide +kernel
theorem i_Mod_end_126 : zins 98 126 = some (.invokevirtual 270) := by decide +kernel
theorem i_Mod_end_129 : zins 98 129 = some (.aload_n 0) := by decide +kernel
theorem i_Mod_end_130 : zins 98 130 = some (.iconst 0) := by decide +kernel
theorem i_Mod_end_131 : zins 98 131 = some (.putfield 98) := by decide +kernel
theorem i_Mod_end_134 : zins 98 134 = some (.aload_n 0) := by decide +kernel
theorem i_Mod_end_135 : zins 98 135 = some (.getfield 248) := by decide +kernel
theorem i_Mod_end_138 : zins 98 138 = some (.invokestatic 273) := by decide +kernel
theorem i_Mod_end_141 : zins 98 141 = some (.ireturn) := by decide +kernel
theorem l_Mod_end (X : zX) (d : Nat) (g : zH) (ms : zMS) (cnt cs sg : Nat) (hT : mTV ms 0 cnt) (h3c : ms.2 3 0 = nI cnt) (hcl : cnt ≤ 220) (h4 : ms.2 4 0 = nI cs) (hcs : cs ≤ 200) (h2 : ms.2 2 0 = nI sg) (hsl : sg ≤ 200) (hid : ((mV ms 1 2 1 1).getD []).length ≤ 6) (hS : ∀ k, k < 5 → zch (ms.2 14 k)) (hC12 : ∀ i, zch (ms.2 12 i)) (hC13 : ∀ i, zch (ms.2 13 i)) (w : zMS) (hlo : ∀ k, k < 16 → w.2 k = ms.2 k) (rr : Nat) (hrr : rr < 20) (h3 : w.1 3 = nI rr) (h5 : w.1 5 = nI 0) (a b c : Option Value) : zR X (d + 7) 98 117 [some (.ref 129), a, b, c] [] (mset g w) (some (.int (nI (ansF rr))), mset g (endT w ((mV ms 1 2 1 1).getD []) cnt cs sg rr)) := by
  have hV := mV_congr hlo
  have hwT := mTV_congr hlo hT
  have hwS : ∀ k, k < 5 → zch (w.2 14 k) := by rw [hlo 14 (by decide)]; exact hS
  have hwC12 : ∀ i, zch (w.2 12 i) := by rw [hlo 12 (by decide)]; exact hC12
  have hwC13 : ∀ i, zch (w.2 13 i) := by rw [hlo 13 (by decide)]; exact hC13
  have hw3 : w.2 3 0 = nI cnt := by rw [hlo 3 (by decide)]; exact h3c
  have hw4 : w.2 4 0 = nI cs := by rw [hlo 4 (by decide)]; exact h4
  have hw2 : w.2 2 0 = nI sg := by rw [hlo 2 (by decide)]; exact h2
  rw [← hV] at hid ⊢
  have hrc : mrc w [] = w := by
    unfold mrc
    rw [lrow_nil, up_self, List.length_nil, ← h5, up_self]
  have hw := e_Mod_write0 X (d + 3) g w cnt hwT rr hrr hid hwS (fun i _ => zch_tc hwC12 1 2 1 1 i)
  rw [hrc] at hw
  refine zr_aload_n i_Mod_end_117 rfl ?_
  refine zr_aload_n i_Mod_end_118 rfl ?_
  refine zr_getf i_Mod_end_119 rfl rfl rfl ?_
  refine zr_top (y := nI rr) h3 ?_
  refine zr_cv10 i_Mod_end_122 rfl (by decide) rfl (Nat.le_of_ble_eq_true rfl) (Nat.le_of_ble_eq_true rfl) (hw) ?_
  refine zr_aload_n i_Mod_end_125 rfl ?_
  refine zr_cv00 i_Mod_end_126 rfl (by decide) rfl (Nat.le_of_ble_eq_true rfl) (Nat.le_of_ble_eq_true rfl) (e_Mod_keep X _ g (mrc w (recF (w.2 14) ((mV w 1 2 1 1).getD []) rr)) cnt cs sg hw3 hcl hw4 hcs hw2 hsl (fun i _ => hwC12 i) (fun i _ => hwC13 i)) ?_
  refine zr_aload_n i_Mod_end_129 rfl ?_
  refine zr_iconst i_Mod_end_130 (v := 0) (by decide) ?_
  refine mr_putf (kk := 0) i_Mod_end_131 rfl rfl (Nat.le_of_ble_eq_true rfl) rfl rfl rfl ?_
  refine zr_aload_n i_Mod_end_134 rfl ?_
  refine zr_getf i_Mod_end_135 rfl rfl rfl ?_
  refine zr_top (y := nI rr) h3 ?_
  refine zr_cs1 i_Mod_end_138 rfl (by decide) (Nat.le_of_ble_eq_true rfl) (Nat.le_of_ble_eq_true rfl) (e_Mod_answerOf X _ _ rr hrr) ?_
  exact zR.retE i_Mod_end_141 rfl rfl
/-- end: its answer, the state after it -/
theorem e_Mod_end (X : zX) (d : Nat) (g : zH) (ms : zMS) (n : Nat) (h0 : ms.1 0 = nI n) (hn : n ≤ 200) (hc : ∀ i, zch (ms.2 1 i)) (hC12 : ∀ i, zch (ms.2 12 i)) (hC13 : ∀ i, zch (ms.2 13 i)) (hK : ∀ j, j < 96 → zch (ms.2 16 j)) (kp : Nat) (hk : ms.1 6 = nI kp) (hkl : kp ≤ 16) (hkr : ∀ k, k < kp → ∃ r, r < 20 ∧ ms.2 17 k = nI r) (nr : Nat → Nat) (hN : ∀ p, p ≤ 99 → ms.2 22 p = nI (nr p) ∧ nr p ≤ 12) : ∃ ms1 S', mpar (msep (eA ms) S') ms1 ∧ ((rejF (ms.2 1) n (sepF (ms.2 1) n (ms.2 14))) ≠ 0 → zR X (d + 7) 98 0 (zent 4 [.ref 129]) [] (mset g ms) (some (.int 2), mset g (eB ms1 (rejF (ms.2 1) n (sepF (ms.2 1) n (ms.2 14)))))) ∧ ((rejF (ms.2 1) n (sepF (ms.2 1) n (ms.2 14))) = 0 → ∃ l kd rr, zkd kd ∧ rr < 20 ∧ kindF (vE (entA 1 l)) = nI kd ∧ ms1.2 14 = (sepF (ms.2 1) n (ms.2 14)) ∧ fitF (sepF (ms.2 1) n (ms.2 14)) = true ∧ 8 ≤ n ∧ msgF (ms.2 1) n (sepF (ms.2 1) n (ms.2 14)) = some l ∧ l.length ≤ 8 ∧ idF (vE (entA 1 l)) = true ∧ mTab ms1 (entA 1 l) ∧ mNam ms1 (nmA l) l.length ∧ mV (eX ms1) = vE (entA 1 l) ∧ (stepS (eX ms1) l.length kp kd).1 3 = nI rr ∧ (∀ k, k < 16 → (stepS (eX ms1) l.length kp kd).2 k = ms1.2 k) ∧ zR X (d + 7) 98 0 (zent 4 [.ref 129]) [] (mset g ms) (some (.int (nI (ansF rr))), mset g (endT (stepS (eX ms1) l.length kp kd) ((vE (entA 1 l) 1 2 1 1).getD []) (entA 1 l).length (flat (entA 1 l)).length l.length rr))) := by
  obtain ⟨ms1, hrj, ⟨S', hpar⟩, hok⟩ := e_Mod_reject X d g (eA ms) n h0 hn hc hC12
  have hrb : (rejF (ms.2 1) n (sepF (ms.2 1) n (ms.2 14))) < 6 := by
    unfold rejF
    repeat' split
    all_goals omega
  refine ⟨ms1, S', hpar, fun hr0 => ?_, fun hr0 => ?_⟩
  · change zR X (d + 6) 99 0 _ [] _ (some (.int (nI (rejF (ms.2 1) n (sepF (ms.2 1) n (ms.2 14))))), _) at hrj
    generalize (rejF (ms.2 1) n (sepF (ms.2 1) n (ms.2 14))) = r at hrj hr0 hrb ⊢
    refine zr_aload_n i_Mod_end_0 rfl ?_
    refine zr_iconst i_Mod_end_1 (v := 1) (by decide) ?_
    refine mr_putf (kk := 2) i_Mod_end_2 rfl rfl (Nat.le_of_ble_eq_true rfl) rfl rfl rfl ?_
    refine zr_aload_n i_Mod_end_5 rfl ?_
    refine zr_iconst i_Mod_end_6 (v := 0) (by decide) ?_
    refine mr_putf (kk := 4) i_Mod_end_7 rfl rfl (Nat.le_of_ble_eq_true rfl) rfl rfl rfl ?_
    refine zr_aload_n i_Mod_end_10 rfl ?_
    refine zr_iconst i_Mod_end_11 (v := 0) (by decide) ?_
    refine mr_putf (kk := 5) i_Mod_end_12 rfl rfl (Nat.le_of_ble_eq_true rfl) rfl rfl rfl ?_
    refine zr_aload_n i_Mod_end_15 rfl ?_
    refine zr_cv0 i_Mod_end_16 rfl (by decide) rfl (Nat.le_of_ble_eq_true rfl) (Nat.le_of_ble_eq_true rfl) (hrj) ?_
    refine zr_istore_n i_Mod_end_19 rfl ?_
    refine zr_aload_n i_Mod_end_20 rfl ?_
    refine zr_iload_n i_Mod_end_21 rfl ?_
    refine zN_if_le 29 i_Mod_end_22 (by decide) (by omega) (fun q => absurd q hr0) (fun _ => ?_)
    refine zr_iconst i_Mod_end_25 (v := 0) (by decide) ?_
    refine zr_goto 33 i_Mod_end_26 (by decide) ?_
    refine mr_putf (kk := 0) i_Mod_end_33 rfl rfl (Nat.le_of_ble_eq_true rfl) rfl rfl rfl ?_
    refine zr_aload_n i_Mod_end_36 rfl ?_
    refine zr_iload_n i_Mod_end_37 rfl ?_
    refine mr_putf (kk := 3) i_Mod_end_38 rfl rfl (Nat.le_of_ble_eq_true rfl) rfl rfl rfl ?_
    refine zr_iload_n i_Mod_end_41 rfl ?_
    refine zN_if_le 47 i_Mod_end_42 (by decide) (by omega) (fun q => absurd q hr0) (fun _ => ?_)
    refine zr_iconst i_Mod_end_45 (v := 2) (by decide) ?_
    exact zR.retE i_Mod_end_46 rfl rfl
  · obtain ⟨hS14, hfit, h8, l, hmsg, hl8, hidF, hTab, hNam⟩ := hok hr0
    change zR X (d + 6) 99 0 _ [] _ (some (.int (nI (rejF (ms.2 1) n (sepF (ms.2 1) n (ms.2 14))))), _) at hrj
    have h33 : ¬ (sepF (ms.2 1) n (ms.2 14)) 3 = 0 := (prop1_ne (fitF_true hfit 3 (by decide)).1).1
    have hlen := msg_len h33 h8 hmsg
    have hx12 : ∀ i, zch (ms1.2 12 i) := hpar.cl hC12
    have hx13 : ∀ i, zch (ms1.2 13 i) := hpar.cm hC13
    have hT : mTV (eX ms1) 0 (entA 1 l).length := mTab_TV hTab hx12 (by omega) (by omega)
    have hV : mV (eX ms1) = vE (entA 1 l) := mV_tab hTab hx12 (by omega) (by omega)
    have hR := mfind_222 (ms := eX ms1) hV (by omega)
    obtain ⟨kd, hkz, hkd0⟩ := kindF_b (vE (entA 1 l))
    have hkd : kindF (mV (eX ms1)) = nI kd := by rw [hV]; exact hkd0
    have hx2 : (eX ms1).2 2 0 = nI l.length := hNam.1
    have hx3 : (eX ms1).2 3 0 = nI (entA 1 l).length := hTab.1
    have hx4 : (eX ms1).2 4 0 = nI (flat (entA 1 l)).length := hTab.2.1
    have hx5 : ms1.1 5 = nI 0 := (hpar.n 5 (by decide)).trans rfl
    have hx6 : (eX ms1).1 6 = nI kp := ((hpar.n 6 (by decide)).trans hk : ms1.1 6 = nI kp)
    have hr16 : ms1.2 16 = ms.2 16 := (hpar.r 16 (by omega)).trans rfl
    have hr17 : ms1.2 17 = ms.2 17 := (hpar.r 17 (by omega)).trans rfl
    have hr22 : ms1.2 22 = ms.2 22 := (hpar.r 22 (by omega)).trans rfl
    have hid1 := idF_true hidF
    have hid : ((mV (eX ms1) 1 2 1 1).getD []).length ≤ 6 := by rw [hV]; exact hid1.2.1
    have hS : ∀ k, k < 5 → zch ((eX ms1).2 14 k) := fun k hk => by
      show zch (ms1.2 14 k)
      rw [hS14]
      exact (prop1_ne (fitF_true hfit k hk).1).2.2.1
    generalize hcnt : (entA 1 l).length = cnt at *
    generalize hcs0 : (flat (entA 1 l)).length = cs at *
    generalize hsg0 : l.length = sg at *
    have hcl : cnt ≤ 220 := by omega
    have hcs : cs ≤ 200 := by omega
    have hsl : sg ≤ 200 := by omega
    have hse := e_Mod_seen X (d + 4) g (eX ms1) cnt hT kp hx6 hkl
    have main : ∃ rr, rr < 20 ∧ (stepS (eX ms1) sg kp kd).1 3 = nI rr ∧ (∀ k, k < 16 → (stepS (eX ms1) sg kp kd).2 k = ms1.2 k) ∧ zR X (d + 7) 98 47 [some (.ref 129), some (.int (nI 0)), none, none] [] (mset g (eX ms1)) (some (.int (nI (ansF rr))), mset g (endT (stepS (eX ms1) sg kp kd) ((mV (eX ms1) 1 2 1 1).getD []) cnt cs sg rr)) := by
      cases hz : zfst (same6 ((eX ms1).2 16) (mV (eX ms1) 1 2 1 1)) 0 kp with
      | some k =>
        rw [hz] at hse
        obtain ⟨-, hk2, -⟩ := zfst_some hz
        obtain ⟨rr, hrr, hrk0⟩ := hkr k (by omega)
        have hrk : ms1.2 17 k = nI rr := by rw [hr17]; exact hrk0
        have est : stepS (eX ms1) sg kp kd = (va_up (va_up (eX ms1).1 4 1) 3 (ms1.2 17 k), ms1.2) := by
          unfold stepS
          rw [hz]
          rfl
        refine ⟨rr, hrr, by rw [est]; exact hrk, fun k hk => by rw [est], ?_⟩
        rw [est]
        refine zr_aload_n i_Mod_end_47 rfl ?_
        refine zr_cv0 i_Mod_end_48 rfl (by decide) rfl (Nat.le_of_ble_eq_true rfl) (Nat.le_of_ble_eq_true rfl) (hse) ?_
        refine zr_istore_n i_Mod_end_51 rfl ?_
        refine zr_iload_n i_Mod_end_52 rfl ?_
        refine zT_if_lt 74 i_Mod_end_53 (by decide) (fun k q => by cases q; omega) (fun q => absurd q (by simp)) (fun _ => ?_)
        refine zr_aload_n i_Mod_end_56 rfl ?_
        refine zr_iconst i_Mod_end_57 (v := 1) (by decide) ?_
        refine mr_putf (kk := 4) i_Mod_end_58 rfl rfl (Nat.le_of_ble_eq_true rfl) rfl rfl rfl ?_
        refine zr_aload_n i_Mod_end_61 rfl ?_
        refine zr_aload_n i_Mod_end_62 rfl ?_
        refine zr_getf i_Mod_end_63 rfl rfl rfl ?_
        refine zr_iload_n i_Mod_end_66 rfl ?_
        refine zr_top (y := nI k) rfl ?_
        refine zn_iaload i_Mod_end_67 rfl (by omega) (by decide) ?_
        refine mr_putf (kk := 3) i_Mod_end_68 rfl rfl (Nat.le_of_ble_eq_true rfl) rfl rfl rfl ?_
        refine zr_goto 117 i_Mod_end_71 (by decide) ?_
        exact l_Mod_end X d g (eX ms1) cnt cs sg hT hx3 hcl hx4 hcs hx2 hsl hid hS hx12 hx13 (va_up (va_up (eX ms1).1 4 1) 3 (ms1.2 17 k), ms1.2) (fun _ _ => rfl) rr hrr hrk hx5 _ _ _
      | none =>
        rw [hz] at hse
        have hju := e_Mod_judge X (d + 2) g (eX ms1) cnt hT hR sg hx2 hsl nr (by show ∀ p, p ≤ 99 → ms1.2 22 p = nI (nr p) ∧ nr p ≤ 12; rw [hr22]; exact hN) kd hkz
        obtain ⟨rr, hrr, hjr⟩ := judgeF_b (mV (eX ms1)) (mseg (eX ms1)) sg ((eX ms1).2 19) ((eX ms1).2 18) (mq (eX ms1)) kd
        have hj00 := @judgeF_0 (mV (eX ms1)) (mseg (eX ms1)) sg ((eX ms1).2 19) ((eX ms1).2 18) (mq (eX ms1)) kd
        have est : stepS (eX ms1) sg kp kd = stepN (eX ms1) sg kp kd := by
          unfold stepS
          rw [hz]
        rw [est]
        unfold stepN
        dsimp only
        generalize judgeF (mV (eX ms1)) (mseg (eX ms1)) sg ((eX ms1).2 19) ((eX ms1).2 18) (mq (eX ms1)) kd = JJ at *
        have ylo : ∀ k, k < 16 → ((va_up (mres (eX ms1) JJ.2).1 3 JJ.1, (mres (eX ms1) JJ.2).2) : zMS).2 k = ms1.2 k := fun k hk => mres_lo (eX ms1) JJ.2 k (by omega)
        have yV : mV (va_up (mres (eX ms1) JJ.2).1 3 JJ.1, (mres (eX ms1) JJ.2).2) = mV (eX ms1) := mV_congr (x := eX ms1) ylo
        have yS : mseg (va_up (mres (eX ms1) JJ.2).1 3 JJ.1, (mres (eX ms1) JJ.2).2) = mseg (eX ms1) := mseg_congr (x := eX ms1) ylo
        have yT : mTV (va_up (mres (eX ms1) JJ.2).1 3 JJ.1, (mres (eX ms1) JJ.2).2) 0 cnt := mTV_congr (x := eX ms1) ylo hT
        have y12 : ∀ i, zch (((va_up (mres (eX ms1) JJ.2).1 3 JJ.1, (mres (eX ms1) JJ.2).2) : zMS).2 12 i) := by rw [ylo 12 (by decide)]; exact hx12
        have yK : ∀ j, j < 96 → zch (((va_up (mres (eX ms1) JJ.2).1 3 JJ.1, (mres (eX ms1) JJ.2).2) : zMS).2 16 j) := by
          rw [show ((va_up (mres (eX ms1) JJ.2).1 3 JJ.1, (mres (eX ms1) JJ.2).2) : zMS).2 16 = ms1.2 16 from mres_lo (eX ms1) JJ.2 16 (by decide), hr16]; exact hK
        by_cases hj0 : JJ.1 = 0
        · obtain ⟨hkn0, p, hp1, hp2, hpe⟩ := hj00 hj0
          have hac := e_Mod_act X (d + 2) g (va_up (mres (eX ms1) JJ.2).1 3 JJ.1, (mres (eX ms1) JJ.2).2) cnt yT sg ((congrFun (ylo 2 (by decide)) 0).trans hx2) hsl p hp2 (by rw [yV, yS]; exact hpe) kd hkz hkn0
          have zlo : ∀ k, k < 16 → (actF (va_up (mres (eX ms1) JJ.2).1 3 JJ.1, (mres (eX ms1) JJ.2).2) kd).2 k = ms1.2 k := fun k hk => (act_lo _ kd k (by omega)).trans (ylo k hk)
          have zV : mV (actF (va_up (mres (eX ms1) JJ.2).1 3 JJ.1, (mres (eX ms1) JJ.2).2) kd) = mV (eX ms1) := mV_congr (x := eX ms1) zlo
          have hre := e_Mod_remember X (d + 4) g (actF (va_up (mres (eX ms1) JJ.2).1 3 JJ.1, (mres (eX ms1) JJ.2).2) kd) cnt (mTV_congr (x := eX ms1) zlo hT) (fun i => zch_tc (by rw [zlo 12 (by decide)]; exact hx12) 1 2 1 1 i) kp (by rw [act_n]; exact hx6) hkl JJ.1 (by rw [act_lo _ kd 16 (by decide)]; exact yK)
          rw [zV] at hre
          have h3a : (actF (va_up (mres (eX ms1) JJ.2).1 3 JJ.1, (mres (eX ms1) JJ.2).2) kd).1 3 = JJ.1 := by rw [act_n]; rfl
          rw [if_pos hj0, if_neg (by rw [hj0]; decide)]
          have h3w : (remF (actF (va_up (mres (eX ms1) JJ.2).1 3 JJ.1, (mres (eX ms1) JJ.2).2) kd) (mV (eX ms1) 1 2 1 1) kp JJ.1).1 3 = nI rr := by
            rw [rem_n _ _ _ _ 3 (by decide), act_n]; exact hjr
          have hlo : ∀ k, k < 16 → (remF (actF (va_up (mres (eX ms1) JJ.2).1 3 JJ.1, (mres (eX ms1) JJ.2).2) kd) (mV (eX ms1) 1 2 1 1) kp JJ.1).2 k = ms1.2 k := fun k hk => (rem_lo _ _ _ _ k ⟨by omega, by omega⟩).trans (zlo k hk)
          refine ⟨rr, hrr, h3w, hlo, ?_⟩
          have fin := fun (a b c : Option Value) => l_Mod_end X d g (eX ms1) cnt cs sg hT hx3 hcl hx4 hcs hx2 hsl hid hS hx12 hx13 (remF (actF (va_up (mres (eX ms1) JJ.2).1 3 JJ.1, (mres (eX ms1) JJ.2).2) kd) (mV (eX ms1) 1 2 1 1) kp JJ.1) hlo rr hrr h3w (by rw [rem_n _ _ _ _ 5 (by decide), act_n]; exact hx5) a b c
          refine zr_aload_n i_Mod_end_47 rfl ?_
          refine zr_cv0 i_Mod_end_48 rfl (by decide) rfl (Nat.le_of_ble_eq_true rfl) (Nat.le_of_ble_eq_true rfl) (hse) ?_
          refine zr_istore_n i_Mod_end_51 rfl ?_
          refine zr_iload_n i_Mod_end_52 rfl ?_
          refine zT_if_lt 74 i_Mod_end_53 (by decide) (fun k q => by cases q) (fun _ => ?_) (fun q => absurd q (by simp))
          refine zr_aload_n i_Mod_end_74 rfl ?_
          refine zr_cv0 i_Mod_end_75 rfl (by decide) rfl (Nat.le_of_ble_eq_true rfl) (Nat.le_of_ble_eq_true rfl) (e_Mod_kind X _ g (eX ms1) cnt hT) ?_
          refine zr_top (y := nI kd) hkd ?_
          refine zr_istore_n i_Mod_end_78 rfl ?_
          refine zr_aload_n i_Mod_end_79 rfl ?_
          refine zr_aload_n i_Mod_end_80 rfl ?_
          refine zr_iload_n i_Mod_end_81 rfl ?_
          refine zr_cv1 i_Mod_end_82 rfl (by decide) rfl (Nat.le_of_ble_eq_true rfl) (Nat.le_of_ble_eq_true rfl) (hju) ?_
          refine mr_putf (kk := 3) i_Mod_end_85 rfl rfl (Nat.le_of_ble_eq_true rfl) rfl rfl rfl ?_
          refine zr_aload_n i_Mod_end_88 rfl ?_
          refine zr_getf i_Mod_end_89 rfl rfl rfl ?_
          refine zr_if_ne 100 i_Mod_end_92 (by decide) (fun q => absurd q (fun z => z hj0)) (fun _ => ?_)
          refine zr_aload_n i_Mod_end_95 rfl ?_
          refine zr_iload_n i_Mod_end_96 rfl ?_
          refine zr_cv10 i_Mod_end_97 rfl (by decide) rfl (Nat.le_of_ble_eq_true rfl) (Nat.le_of_ble_eq_true rfl) (hac) ?_
          refine zr_aload_n i_Mod_end_100 rfl ?_
          refine zr_getf i_Mod_end_101 rfl rfl rfl ?_
          refine zr_top (y := JJ.1) h3a ?_
          refine zr_bipush i_Mod_end_104 (v := 6) (by decide) ?_
          refine zr_icmp_eq 117 i_Mod_end_106 (by decide) (fun q => absurd q (by rw [hj0]; decide)) (fun c_106 => ?_)
          refine zr_aload_n i_Mod_end_109 rfl ?_
          refine zr_aload_n i_Mod_end_110 rfl ?_
          refine zr_getf i_Mod_end_111 rfl rfl rfl ?_
          refine zr_top (y := JJ.1) h3a ?_
          refine zr_cv10 i_Mod_end_114 rfl (by decide) rfl (Nat.le_of_ble_eq_true rfl) (Nat.le_of_ble_eq_true rfl) (hre) ?_
          exact fin _ _ _
        · rw [if_neg hj0]
          by_cases hj6 : JJ.1 = 6
          · rw [if_pos hj6]
            refine ⟨rr, hrr, hjr, ylo, ?_⟩
            have fin := fun (a b c : Option Value) => l_Mod_end X d g (eX ms1) cnt cs sg hT hx3 hcl hx4 hcs hx2 hsl hid hS hx12 hx13 (va_up (mres (eX ms1) JJ.2).1 3 JJ.1, (mres (eX ms1) JJ.2).2) ylo rr hrr hjr hx5 a b c
            refine zr_aload_n i_Mod_end_47 rfl ?_
            refine zr_cv0 i_Mod_end_48 rfl (by decide) rfl (Nat.le_of_ble_eq_true rfl) (Nat.le_of_ble_eq_true rfl) (hse) ?_
            refine zr_istore_n i_Mod_end_51 rfl ?_
            refine zr_iload_n i_Mod_end_52 rfl ?_
            refine zT_if_lt 74 i_Mod_end_53 (by decide) (fun k q => by cases q) (fun _ => ?_) (fun q => absurd q (by simp))
            refine zr_aload_n i_Mod_end_74 rfl ?_
            refine zr_cv0 i_Mod_end_75 rfl (by decide) rfl (Nat.le_of_ble_eq_true rfl) (Nat.le_of_ble_eq_true rfl) (e_Mod_kind X _ g (eX ms1) cnt hT) ?_
            refine zr_top (y := nI kd) hkd ?_
            refine zr_istore_n i_Mod_end_78 rfl ?_
            refine zr_aload_n i_Mod_end_79 rfl ?_
            refine zr_aload_n i_Mod_end_80 rfl ?_
            refine zr_iload_n i_Mod_end_81 rfl ?_
            refine zr_cv1 i_Mod_end_82 rfl (by decide) rfl (Nat.le_of_ble_eq_true rfl) (Nat.le_of_ble_eq_true rfl) (hju) ?_
            refine mr_putf (kk := 3) i_Mod_end_85 rfl rfl (Nat.le_of_ble_eq_true rfl) rfl rfl rfl ?_
            refine zr_aload_n i_Mod_end_88 rfl ?_
            refine zr_getf i_Mod_end_89 rfl rfl rfl ?_
            refine zr_if_ne 100 i_Mod_end_92 (by decide) (fun _ => ?_) (fun q => absurd q hj0)
            refine zr_aload_n i_Mod_end_100 rfl ?_
            refine zr_getf i_Mod_end_101 rfl rfl rfl ?_
            refine zr_bipush i_Mod_end_104 (v := 6) (by decide) ?_
            refine zr_icmp_eq 117 i_Mod_end_106 (by decide) (fun c_106 => ?_) (fun q => absurd hj6 q)
            exact fin _ _ _
          · rw [if_neg hj6]
            have hre := e_Mod_remember X (d + 4) g (va_up (mres (eX ms1) JJ.2).1 3 JJ.1, (mres (eX ms1) JJ.2).2) cnt yT (fun i => zch_tc y12 1 2 1 1 i) kp hx6 hkl JJ.1 yK
            rw [yV] at hre
            have h3w : (remF (va_up (mres (eX ms1) JJ.2).1 3 JJ.1, (mres (eX ms1) JJ.2).2) (mV (eX ms1) 1 2 1 1) kp JJ.1).1 3 = nI rr := by
              rw [rem_n _ _ _ _ 3 (by decide)]; exact hjr
            have hlo : ∀ k, k < 16 → (remF (va_up (mres (eX ms1) JJ.2).1 3 JJ.1, (mres (eX ms1) JJ.2).2) (mV (eX ms1) 1 2 1 1) kp JJ.1).2 k = ms1.2 k := fun k hk => (rem_lo _ _ _ _ k ⟨by omega, by omega⟩).trans (ylo k hk)
            refine ⟨rr, hrr, h3w, hlo, ?_⟩
            have fin := fun (a b c : Option Value) => l_Mod_end X d g (eX ms1) cnt cs sg hT hx3 hcl hx4 hcs hx2 hsl hid hS hx12 hx13 (remF (va_up (mres (eX ms1) JJ.2).1 3 JJ.1, (mres (eX ms1) JJ.2).2) (mV (eX ms1) 1 2 1 1) kp JJ.1) hlo rr hrr h3w (by rw [rem_n _ _ _ _ 5 (by decide)]; exact hx5) a b c
            refine zr_aload_n i_Mod_end_47 rfl ?_
            refine zr_cv0 i_Mod_end_48 rfl (by decide) rfl (Nat.le_of_ble_eq_true rfl) (Nat.le_of_ble_eq_true rfl) (hse) ?_
            refine zr_istore_n i_Mod_end_51 rfl ?_
            refine zr_iload_n i_Mod_end_52 rfl ?_
            refine zT_if_lt 74 i_Mod_end_53 (by decide) (fun k q => by cases q) (fun _ => ?_) (fun q => absurd q (by simp))
            refine zr_aload_n i_Mod_end_74 rfl ?_
            refine zr_cv0 i_Mod_end_75 rfl (by decide) rfl (Nat.le_of_ble_eq_true rfl) (Nat.le_of_ble_eq_true rfl) (e_Mod_kind X _ g (eX ms1) cnt hT) ?_
            refine zr_top (y := nI kd) hkd ?_
            refine zr_istore_n i_Mod_end_78 rfl ?_
            refine zr_aload_n i_Mod_end_79 rfl ?_
            refine zr_aload_n i_Mod_end_80 rfl ?_
            refine zr_iload_n i_Mod_end_81 rfl ?_
            refine zr_cv1 i_Mod_end_82 rfl (by decide) rfl (Nat.le_of_ble_eq_true rfl) (Nat.le_of_ble_eq_true rfl) (hju) ?_
            refine mr_putf (kk := 3) i_Mod_end_85 rfl rfl (Nat.le_of_ble_eq_true rfl) rfl rfl rfl ?_
            refine zr_aload_n i_Mod_end_88 rfl ?_
            refine zr_getf i_Mod_end_89 rfl rfl rfl ?_
            refine zr_if_ne 100 i_Mod_end_92 (by decide) (fun _ => ?_) (fun q => absurd q hj0)
            refine zr_aload_n i_Mod_end_100 rfl ?_
            refine zr_getf i_Mod_end_101 rfl rfl rfl ?_
            refine zr_bipush i_Mod_end_104 (v := 6) (by decide) ?_
            refine zr_icmp_eq 117 i_Mod_end_106 (by decide) (fun q => absurd q hj6) (fun c_106 => ?_)
            refine zr_aload_n i_Mod_end_109 rfl ?_
            refine zr_aload_n i_Mod_end_110 rfl ?_
            refine zr_getf i_Mod_end_111 rfl rfl rfl ?_
            refine zr_cv10 i_Mod_end_114 rfl (by decide) rfl (Nat.le_of_ble_eq_true rfl) (Nat.le_of_ble_eq_true rfl) (hre) ?_
            exact fin _ _ _
    obtain ⟨rr, hrr, hm1, hm2, K⟩ := main
    rw [hV] at K
    refine ⟨l, kd, rr, hkz, hrr, hkd0, hS14, hfit, h8, hmsg, by omega, hidF, hTab, by rw [hsg0]; exact hNam, hV, by rw [hsg0]; exact hm1, by rw [hsg0]; exact hm2, ?_⟩
    rw [hcnt, hcs0, hsg0]
    rw [hr0] at hrj
    refine zr_aload_n i_Mod_end_0 rfl ?_
    refine zr_iconst i_Mod_end_1 (v := 1) (by decide) ?_
    refine mr_putf (kk := 2) i_Mod_end_2 rfl rfl (Nat.le_of_ble_eq_true rfl) rfl rfl rfl ?_
    refine zr_aload_n i_Mod_end_5 rfl ?_
    refine zr_iconst i_Mod_end_6 (v := 0) (by decide) ?_
    refine mr_putf (kk := 4) i_Mod_end_7 rfl rfl (Nat.le_of_ble_eq_true rfl) rfl rfl rfl ?_
    refine zr_aload_n i_Mod_end_10 rfl ?_
    refine zr_iconst i_Mod_end_11 (v := 0) (by decide) ?_
    refine mr_putf (kk := 5) i_Mod_end_12 rfl rfl (Nat.le_of_ble_eq_true rfl) rfl rfl rfl ?_
    refine zr_aload_n i_Mod_end_15 rfl ?_
    refine zr_cv0 i_Mod_end_16 rfl (by decide) rfl (Nat.le_of_ble_eq_true rfl) (Nat.le_of_ble_eq_true rfl) (hrj) ?_
    refine zr_istore_n i_Mod_end_19 rfl ?_
    refine zr_aload_n i_Mod_end_20 rfl ?_
    refine zr_iload_n i_Mod_end_21 rfl ?_
    refine zN_if_le 29 i_Mod_end_22 (by decide) (by omega) (fun _ => ?_) (fun q => absurd q (by decide))
    refine zr_aload_n i_Mod_end_29 rfl ?_
    refine zr_getf i_Mod_end_30 rfl rfl rfl ?_
    refine mr_putf (kk := 0) i_Mod_end_33 rfl rfl (Nat.le_of_ble_eq_true rfl) rfl rfl rfl ?_
    refine zr_aload_n i_Mod_end_36 rfl ?_
    refine zr_iload_n i_Mod_end_37 rfl ?_
    refine mr_putf (kk := 3) i_Mod_end_38 rfl rfl (Nat.le_of_ble_eq_true rfl) rfl rfl rfl ?_
    refine zr_iload_n i_Mod_end_41 rfl ?_
    refine zN_if_le 47 i_Mod_end_42 (by decide) (by omega) (fun _ => ?_) (fun q => absurd q (by decide))
    exact K
