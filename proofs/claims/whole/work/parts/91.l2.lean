/-! THE LAW: its loop -/
theorem and31 (x : Int32) : ∃ c, c < 32 ∧ x &&& 31 = nI c := by
  refine ⟨(x.toBitVec &&& 31#32).toNat, ?_, ?_⟩
  · rw [BitVec.toNat_and]
    exact Nat.lt_of_le_of_lt Nat.and_le_right (by decide)
  · apply Int32.toBitVec_inj.mp
    show x.toBitVec &&& 31#32 = BitVec.ofNat 32 (x.toBitVec &&& 31#32).toNat
    rw [BitVec.ofNat_toNat, BitVec.setWidth_eq]
theorem law_body (X : zX) (d : Nat) (hX : X.2.2.category = 1) {h : zH} {ms : zMS} (H : Inv h ms) (i : Nat) (hi : i + 6 ≤ X.1) (hn : X.1 < 2 ^ 30) : ∃ h2 ms2, Inv h2 ms2 ∧ h.1 ≤ h2.1 ∧ h2.1 ≤ h.1 + 8 ∧ h.2.1 ≤ h2.2.1 ∧ h2.2.1 ≤ h.2.1 + 59 ∧ ∀ u, zR X (d + 13) 176 621 [some (.ref 0), some (.ref 100), some (.ref 129), some (.int (nI i))] [] h2 u → zR X (d + 13) 176 27 [some (.ref 0), some (.ref 100), some (.ref 129), some (.int (nI i))] [] h u := by
  have hz : zlow h := H.2.2.1
  obtain ⟨c, hc, ec⟩ := and31 (X.2.1 i)
  have pre : ∀ u, zR X (d + 13) 176 33 [some (.ref 0), some (.ref 100), some (.ref 129), some (.int (nI i))] [.int (nI c)] h u → zR X (d + 13) 176 27 [some (.ref 0), some (.ref 100), some (.ref 129), some (.int (nI i))] [] h u := fun u K => by
    refine zr_aload_n i_law_27 rfl ?_
    refine zr_iload_n i_law_28 rfl ?_
    refine zr_ialoadK i_law_29 (hz 0 (by decide)) (f := fun j => .int (X.2.1 j)) (n := X.1) rfl ?_ ?_
    · rw [nI_toInt (by omega)]; omega
    · rw [nI_clamp (by omega)]
      refine zr_bipush i_law_30 (v := 31) (by decide) ?_
      refine zr_iand i_law_32 ?_
      rw [ec]
      exact K
  have go : ∀ (t : Nat), (∃ h2 ms2, Inv h2 ms2 ∧ h.1 ≤ h2.1 ∧ h2.1 ≤ h.1 + 8 ∧ h.2.1 ≤ h2.2.1 ∧ h2.2.1 ≤ h.2.1 + 59 ∧ ∀ u, zR X (d + 13) 176 621 [some (.ref 0), some (.ref 100), some (.ref 129), some (.int (nI i))] [] h2 u → zR X (d + 13) 176 t [some (.ref 0), some (.ref 100), some (.ref 129), some (.int (nI i))] [] h u) → (∀ u, zR X (d + 13) 176 t [some (.ref 0), some (.ref 100), some (.ref 129), some (.int (nI i))] [] h u → zR X (d + 13) 176 33 [some (.ref 0), some (.ref 100), some (.ref 129), some (.int (nI i))] [.int (nI c)] h u) → ∃ h2 ms2, Inv h2 ms2 ∧ h.1 ≤ h2.1 ∧ h2.1 ≤ h.1 + 8 ∧ h.2.1 ≤ h2.2.1 ∧ h2.2.1 ≤ h.2.1 + 59 ∧ ∀ u, zR X (d + 13) 176 621 [some (.ref 0), some (.ref 100), some (.ref 129), some (.int (nI i))] [] h2 u → zR X (d + 13) 176 27 [some (.ref 0), some (.ref 100), some (.ref 129), some (.int (nI i))] [] h u := by
    rintro t ⟨h2, ms2, a1, a2, a3, a4, a5, a6⟩ k
    exact ⟨h2, ms2, a1, a2, a3, a4, a5, fun u hu => pre u (k u (a6 u hu))⟩
  rcases Nat.lt_or_ge c 17 with hlt | hge
  · have hcs : c = 0 ∨ c = 1 ∨ c = 2 ∨ c = 3 ∨ c = 4 ∨ c = 5 ∨ c = 6 ∨ c = 7 ∨ c = 8 ∨ c = 9 ∨ c = 10 ∨ c = 11 ∨ c = 12 ∨ c = 13 ∨ c = 14 ∨ c = 15 ∨ c = 16 := by omega
    rcases hcs with rfl | rfl | rfl | rfl | rfl | rfl | rfl | rfl | rfl | rfl | rfl | rfl | rfl | rfl | rfl | rfl | rfl
    · exact go 116 (w_law_0 X d hX H i hi hn) (fun u K => zr_tabIn 116 i_law_33 (by decide) (off := 83) rfl (by decide) K)
    · exact go 169 (w_law_1 X d hX H i hi hn) (fun u K => zr_tabIn 169 i_law_33 (by decide) (off := 136) rfl (by decide) K)
    · exact go 182 (w_law_2 X d hX H i hi hn) (fun u K => zr_tabIn 182 i_law_33 (by decide) (off := 149) rfl (by decide) K)
    · exact go 195 (w_law_3 X d hX H i hi hn) (fun u K => zr_tabIn 195 i_law_33 (by decide) (off := 162) rfl (by decide) K)
    · exact go 208 (w_law_4 X d hX H i hi hn) (fun u K => zr_tabIn 208 i_law_33 (by decide) (off := 175) rfl (by decide) K)
    · exact go 221 (w_law_5 X d hX H i hi hn) (fun u K => zr_tabIn 221 i_law_33 (by decide) (off := 188) rfl (by decide) K)
    · exact go 244 (w_law_6 X d hX H i hi hn) (fun u K => zr_tabIn 244 i_law_33 (by decide) (off := 211) rfl (by decide) K)
    · exact go 277 (w_law_7 X d hX H i hi hn) (fun u K => zr_tabIn 277 i_law_33 (by decide) (off := 244) rfl (by decide) K)
    · exact go 300 (w_law_8 X d hX H i hi hn) (fun u K => zr_tabIn 300 i_law_33 (by decide) (off := 267) rfl (by decide) K)
    · exact go 313 (w_law_9 X d hX H i hi hn) (fun u K => zr_tabIn 313 i_law_33 (by decide) (off := 280) rfl (by decide) K)
    · exact go 336 (w_law_10 X d hX H i hi hn) (fun u K => zr_tabIn 336 i_law_33 (by decide) (off := 303) rfl (by decide) K)
    · exact go 379 (w_law_11 X d hX H i hi hn) (fun u K => zr_tabIn 379 i_law_33 (by decide) (off := 346) rfl (by decide) K)
    · exact go 426 (w_law_12 X d hX H i hi hn) (fun u K => zr_tabIn 426 i_law_33 (by decide) (off := 393) rfl (by decide) K)
    · exact go 449 (w_law_13 X d hX H i hi hn) (fun u K => zr_tabIn 449 i_law_33 (by decide) (off := 416) rfl (by decide) K)
    · exact go 462 (w_law_14 X d hX H i hi hn) (fun u K => zr_tabIn 462 i_law_33 (by decide) (off := 429) rfl (by decide) K)
    · exact go 525 (w_law_15 X d hX H i hi hn) (fun u K => zr_tabIn 525 i_law_33 (by decide) (off := 492) rfl (by decide) K)
    · exact go 598 (w_law_16 X d hX H i hi hn) (fun u K => zr_tabIn 598 i_law_33 (by decide) (off := 565) rfl (by decide) K)
  · refine ⟨h, ms, H, Nat.le_refl _, by omega, Nat.le_refl _, by omega, fun u hu => pre u (zr_tabOut 621 i_law_33 (Or.inr ?_) (by decide) hu)⟩
    rw [nI_toInt (by omega)]
    omega
theorem law_loop (X : zX) (d : Nat) (hX : X.2.2.category = 1) (hn : X.1 < 2 ^ 30) (h6 : 6 ≤ X.1) : ∀ (m i : Nat) (h : zH) (ms : zMS), Inv h ms → i ≤ X.1 → X.1 < i + 6 * m + 6 → ∃ h', zR X (d + 13) 176 18 [some (.ref 0), some (.ref 100), some (.ref 129), some (.int (nI i))] [] h (some (.int 1), h') ∧ h'.1 ≤ h.1 + 8 * m ∧ h'.2.1 ≤ h.2.1 + 59 * m := by
  have top : ∀ (i : Nat) (h : zH) (ms : zMS) (u : Option Value × zH), Inv h ms → i ≤ X.1 → (X.1 - 6 < i → zR X (d + 13) 176 627 [some (.ref 0), some (.ref 100), some (.ref 129), some (.int (nI i))] [] h u) → (i ≤ X.1 - 6 → zR X (d + 13) 176 27 [some (.ref 0), some (.ref 100), some (.ref 129), some (.int (nI i))] [] h u) → zR X (d + 13) 176 18 [some (.ref 0), some (.ref 100), some (.ref 129), some (.int (nI i))] [] h u := by
    intro i h ms u H hi k1 k2
    have hz : zlow h := H.2.2.1
    refine zr_iload_n i_law_18 rfl ?_
    refine zr_aload_n i_law_19 rfl ?_
    refine zr_lenK (v := nI X.1) (t := 0) (n := X.1) (f := fun j => .int (X.2.1 j)) i_law_20 (hz 0 (by decide)) rfl rfl ?_
    refine zn_bipush 6 i_law_21 (by decide) ?_
    refine zn_isub i_law_23 h6 ?_
    exact zn_icmp_gt 627 i_law_24 (by decide) (by omega) (by omega) k1 k2
  have fin : ∀ (i : Nat) (h : zH), zR X (d + 13) 176 627 [some (.ref 0), some (.ref 100), some (.ref 129), some (.int (nI i))] [] h (some (.int 1), h) := by
    intro i h
    refine zr_iconst i_law_627 (v := 1) (by decide) ?_
    exact zR.retE i_law_628 rfl rfl
  intro m
  induction m with
  | zero =>
    intro i h ms H hi hm
    exact ⟨h, top i h ms _ H hi (fun _ => fin i h) (fun q => absurd q (by omega)), by omega, by omega⟩
  | succ m ih =>
    intro i h ms H hi hm
    by_cases hq : X.1 - 6 < i
    · exact ⟨h, top i h ms _ H hi (fun _ => fin i h) (fun q => absurd q (by omega)), by omega, by omega⟩
    · obtain ⟨h2, ms2, a1, a2, a3, a4, a5, a6⟩ := law_body X d hX H i (by omega) hn
      obtain ⟨h', k1, k2, k3⟩ := ih (i + 6) h2 ms2 a1 (by omega) (by omega)
      refine ⟨h', top i h ms _ H hi (fun q => absurd q hq) (fun _ => a6 _ ?_), by omega, by omega⟩
      refine zr_iinc i_law_621 rfl (v := nI (i + 6)) (by rw [← nI_add]; rfl) rfl ?_
      exact zr_goto 18 i_law_624 (by decide) k1
