/-! THE REFERENCE: reading the frame -/
theorem zretC {x : Int32} (hx : narrow .char (.int x) = .int x) : zret (some .char) .ireturn [.int x] = some (some (.int x)) := by
  unfold zret
  dsimp only
  rw [if_pos (show zrfit (some .char) x = true from decide_eq_true hx)]
theorem zchN {q : Nat} (h : q < 65536) : narrow .char (.int (nI q)) = .int (nI q) := (pk_charN h).1
theorem zch0 : narrow .char (.int 0) = .int 0 := by decide
theorem zr_top {X : zX} {d j pc : Nat} {L : zL} {r : List Value} {h : zH} {u : Option Value × zH} {x y : Int32} (e : x = y) (k : zR X d j pc L (.int y :: r) h u) : zR X d j pc L (.int x :: r) h u := by rw [e]; exact k
theorem zb_eq0 {b : Bool} : zb b = 0 ↔ b = false := by cases b <;> simp [zb]
def mhex (c : Int32) : Int32 := if zdig c = true then c - 48 else if c < 65 then -1 else if 70 < c then -1 else c - 65 + 10
theorem i_Mod_hex_0 : zins 112 0 = some (.iload_n 0) := by decide +kernel
theorem i_Mod_hex_1 : zins 112 1 = some (.invokestatic 109) := by decide +kernel
theorem i_Mod_hex_4 : zins 112 4 = some (.ifCond .eq 10) := by decide +kernel
theorem i_Mod_hex_7 : zins 112 7 = some (.iload_n 0) := by decide +kernel
theorem i_Mod_hex_8 : zins 112 8 = some (.bipush 48) := by decide +kernel
theorem i_Mod_hex_10 : zins 112 10 = some (.isub) := by decide +kernel
theorem i_Mod_hex_11 : zins 112 11 = some (.goto 26) := by decide +kernel
theorem i_Mod_hex_14 : zins 112 14 = some (.iload_n 0) := by decide +kernel
theorem i_Mod_hex_15 : zins 112 15 = some (.bipush 65) := by decide +kernel
theorem i_Mod_hex_17 : zins 112 17 = some (.if_icmp .lt 19) := by decide +kernel
theorem i_Mod_hex_20 : zins 112 20 = some (.iload_n 0) := by decide +kernel
theorem i_Mod_hex_21 : zins 112 21 = some (.bipush 70) := by decide +kernel
theorem i_Mod_hex_23 : zins 112 23 = some (.if_icmp .gt 13) := by decide +kernel
theorem i_Mod_hex_26 : zins 112 26 = some (.iload_n 0) := by decide +kernel
theorem i_Mod_hex_27 : zins 112 27 = some (.bipush 65) := by decide +kernel
theorem i_Mod_hex_29 : zins 112 29 = some (.isub) := by decide +kernel
theorem i_Mod_hex_30 : zins 112 30 = some (.bipush 10) := by decide +kernel
theorem i_Mod_hex_32 : zins 112 32 = some (.iadd) := by decide +kernel
theorem i_Mod_hex_33 : zins 112 33 = some (.goto 4) := by decide +kernel
theorem i_Mod_hex_36 : zins 112 36 = some (.iconst (-1)) := by decide +kernel
theorem i_Mod_hex_37 : zins 112 37 = some (.ireturn) := by decide +kernel
theorem e_Mod_hex (X : zX) (d : Nat) (h : zH) (c : Int32) : zR X (d + 1) 112 0 (zent 1 [.int c]) [] h (some (.int (mhex c)), h) := by
  refine zr_iload_n i_Mod_hex_0 rfl ?_
  refine zr_cs1 i_Mod_hex_1 rfl (by decide) (Nat.le_of_ble_eq_true rfl) (Nat.le_of_ble_eq_true rfl) (e_Mod_digit X d h c) ?_
  refine zr_if_eq 14 i_Mod_hex_4 (by decide) (fun c_4 => ?_) (fun c_4 => ?_)
  · skip
    refine zr_iload_n i_Mod_hex_14 rfl ?_
    refine zr_bipush i_Mod_hex_15 (v := 65) (by decide) ?_
    refine zr_icmp_lt 36 i_Mod_hex_17 (by decide) (fun c_17 => ?_) (fun c_17 => ?_)
    · skip
      refine zr_iconst i_Mod_hex_36 (v := (-1)) (by decide) ?_
      exact zR.retE i_Mod_hex_37 rfl (by simp only [zb_eq0] at c_4; simp [mhex, *])
    · skip
      refine zr_iload_n i_Mod_hex_20 rfl ?_
      refine zr_bipush i_Mod_hex_21 (v := 70) (by decide) ?_
      refine zr_icmp_gt 36 i_Mod_hex_23 (by decide) (fun c_23 => ?_) (fun c_23 => ?_)
      · skip
        refine zr_iconst i_Mod_hex_36 (v := (-1)) (by decide) ?_
        exact zR.retE i_Mod_hex_37 rfl (by simp only [zb_eq0] at c_4; simp [mhex, *])
      · skip
        refine zr_iload_n i_Mod_hex_26 rfl ?_
        refine zr_bipush i_Mod_hex_27 (v := 65) (by decide) ?_
        refine zr_isub i_Mod_hex_29 ?_
        refine zr_bipush i_Mod_hex_30 (v := 10) (by decide) ?_
        refine zr_iadd i_Mod_hex_32 ?_
        refine zr_goto 37 i_Mod_hex_33 (by decide) ?_
        exact zR.retE i_Mod_hex_37 rfl (by simp only [zb_eq0] at c_4; simp [mhex, *])
  · skip
    refine zr_iload_n i_Mod_hex_7 rfl ?_
    refine zr_bipush i_Mod_hex_8 (v := 48) (by decide) ?_
    refine zr_isub i_Mod_hex_10 ?_
    refine zr_goto 37 i_Mod_hex_11 (by decide) ?_
    exact zR.retE i_Mod_hex_37 rfl (by simp only [zb_eq0] at c_4; simp [mhex, *])
theorem i_Mod_now_0 : zins 102 0 = some (.aload_n 0) := by decide +kernel
theorem i_Mod_now_1 : zins 102 1 = some (.getfield 112) := by decide +kernel
theorem i_Mod_now_4 : zins 102 4 = some (.iload_n 1) := by decide +kernel
theorem i_Mod_now_5 : zins 102 5 = some (.iadd) := by decide +kernel
theorem i_Mod_now_6 : zins 102 6 = some (.aload_n 0) := by decide +kernel
theorem i_Mod_now_7 : zins 102 7 = some (.getfield 98) := by decide +kernel
theorem i_Mod_now_10 : zins 102 10 = some (.if_icmp .ge 17) := by decide +kernel
theorem i_Mod_now_13 : zins 102 13 = some (.aload_n 0) := by decide +kernel
theorem i_Mod_now_14 : zins 102 14 = some (.getfield 7) := by decide +kernel
theorem i_Mod_now_17 : zins 102 17 = some (.aload_n 0) := by decide +kernel
theorem i_Mod_now_18 : zins 102 18 = some (.getfield 112) := by decide +kernel
theorem i_Mod_now_21 : zins 102 21 = some (.iload_n 1) := by decide +kernel
theorem i_Mod_now_22 : zins 102 22 = some (.iadd) := by decide +kernel
theorem i_Mod_now_23 : zins 102 23 = some (.caload) := by decide +kernel
theorem i_Mod_now_24 : zins 102 24 = some (.goto 4) := by decide +kernel
theorem i_Mod_now_27 : zins 102 27 = some (.iconst 0) := by decide +kernel
theorem i_Mod_now_28 : zins 102 28 = some (.ireturn) := by decide +kernel
theorem e_Mod_now (X : zX) (d : Nat) (g : zH) (ms : zMS) (n a k : Nat) (h0 : ms.1 0 = nI n) (h1 : ms.1 1 = nI a) (hn : n ≤ 200) (hak : a + k < 2 ^ 30) (hc : ∀ i, i < n → narrow .char (.int (ms.2 1 i)) = .int (ms.2 1 i)) : zR X d 102 0 (zent 2 [.ref 129, .int (nI k)]) [] (mset g ms) (some (.int (if a + k < n then ms.2 1 (a + k) else 0)), mset g ms) := by
  refine zr_aload_n i_Mod_now_0 rfl ?_
  refine zr_getf i_Mod_now_1 rfl rfl rfl ?_
  refine zr_top (y := nI a) h1 ?_
  refine zr_iload_n i_Mod_now_4 rfl ?_
  refine zn_iadd i_Mod_now_5 ?_
  refine zr_aload_n i_Mod_now_6 rfl ?_
  refine zr_getf i_Mod_now_7 rfl rfl rfl ?_
  refine zr_top (y := nI n) h0 ?_
  refine zn_icmp_ge 27 i_Mod_now_10 (by decide) (by omega) (by omega) (fun c_10 => ?_) (fun c_10 => ?_)
  · skip
    refine zn_iconst 0 i_Mod_now_27 (by decide) ?_
    first
      | exact zR.retE i_Mod_now_28 (zretC zch0) (by rw [if_neg (by omega)]; rfl)
      | exact zR.retE i_Mod_now_28 (zretC (hc _ (by omega))) (by rw [if_pos (by omega)])
  · skip
    refine zr_aload_n i_Mod_now_13 rfl ?_
    refine zr_getf i_Mod_now_14 rfl rfl rfl ?_
    refine zr_aload_n i_Mod_now_17 rfl ?_
    refine zr_getf i_Mod_now_18 rfl rfl rfl ?_
    refine zr_top (y := nI a) h1 ?_
    refine zr_iload_n i_Mod_now_21 rfl ?_
    refine zn_iadd i_Mod_now_22 ?_
    refine zn_caload i_Mod_now_23 rfl (by omega) (by decide) ?_
    refine zr_goto 28 i_Mod_now_24 (by decide) ?_
    first
      | exact zR.retE i_Mod_now_28 (zretC zch0) (by rw [if_neg (by omega)]; rfl)
      | exact zR.retE i_Mod_now_28 (zretC (hc _ (by omega))) (by rw [if_pos (by omega)])
/-- a further text: its segment and numbers, where its letters begin -/
def mopen (ms : zMS) (t : Nat) (f r c s : Int32) : zMS := (ms.1, va_up (va_up (va_up (va_up (va_up (va_up (va_up (va_up ms.2 5 (upd (ms.2 5) t (ms.2 2 0))) 6 (upd (ms.2 6) t f)) 7 (upd (ms.2 7) t r)) 8 (upd (ms.2 8) t c)) 9 (upd (ms.2 9) t s)) 10 (upd (ms.2 10) t (ms.2 4 0))) 11 (upd (ms.2 11) t 0)) 3 (upd (ms.2 3) 0 (nI (t + 1))))
theorem i_Mod_open_0 : zins 113 0 = some (.aload_n 0) := by decide +kernel
theorem i_Mod_open_1 : zins 113 1 = some (.getfield 17) := by decide +kernel
theorem i_Mod_open_4 : zins 113 4 = some (.iconst 0) := by decide +kernel
theorem i_Mod_open_5 : zins 113 5 = some (.iaload) := by decide +kernel
theorem i_Mod_open_6 : zins 113 6 = some (.istore 5) := by decide +kernel
theorem i_Mod_open_8 : zins 113 8 = some (.aload_n 0) := by decide +kernel
theorem i_Mod_open_9 : zins 113 9 = some (.getfield 23) := by decide +kernel
theorem i_Mod_open_12 : zins 113 12 = some (.iload 5) := by decide +kernel
theorem i_Mod_open_14 : zins 113 14 = some (.aload_n 0) := by decide +kernel
theorem i_Mod_open_15 : zins 113 15 = some (.getfield 13) := by decide +kernel
theorem i_Mod_open_18 : zins 113 18 = some (.iconst 0) := by decide +kernel
theorem i_Mod_open_19 : zins 113 19 = some (.iaload) := by decide +kernel
theorem i_Mod_open_20 : zins 113 20 = some (.iastore) := by decide +kernel
theorem i_Mod_open_21 : zins 113 21 = some (.aload_n 0) := by decide +kernel
theorem i_Mod_open_22 : zins 113 22 = some (.getfield 26) := by decide +kernel
theorem i_Mod_open_25 : zins 113 25 = some (.iload 5) := by decide +kernel
theorem i_Mod_open_27 : zins 113 27 = some (.iload_n 1) := by decide +kernel
theorem i_Mod_open_28 : zins 113 28 = some (.iastore) := by decide +kernel
theorem i_Mod_open_29 : zins 113 29 = some (.aload_n 0) := by decide +kernel
theorem i_Mod_open_30 : zins 113 30 = some (.getfield 29) := by decide +kernel
theorem i_Mod_open_33 : zins 113 33 = some (.iload 5) := by decide +kernel
theorem i_Mod_open_35 : zins 113 35 = some (.iload_n 2) := by decide +kernel
theorem i_Mod_open_36 : zins 113 36 = some (.iastore) := by decide +kernel
theorem i_Mod_open_37 : zins 113 37 = some (.aload_n 0) := by decide +kernel
theorem i_Mod_open_38 : zins 113 38 = some (.getfield 32) := by decide +kernel
theorem i_Mod_open_41 : zins 113 41 = some (.iload 5) := by decide +kernel
theorem i_Mod_open_43 : zins 113 43 = some (.iload_n 3) := by decide +kernel
theorem i_Mod_open_44 : zins 113 44 = some (.iastore) := by decide +kernel
theorem i_Mod_open_45 : zins 113 45 = some (.aload_n 0) := by decide +kernel
theorem i_Mod_open_46 : zins 113 46 = some (.getfield 35) := by decide +kernel
theorem i_Mod_open_49 : zins 113 49 = some (.iload 5) := by decide +kernel
theorem i_Mod_open_51 : zins 113 51 = some (.iload 4) := by decide +kernel
theorem i_Mod_open_53 : zins 113 53 = some (.iastore) := by decide +kernel
theorem i_Mod_open_54 : zins 113 54 = some (.aload_n 0) := by decide +kernel
theorem i_Mod_open_55 : zins 113 55 = some (.getfield 38) := by decide +kernel
theorem i_Mod_open_58 : zins 113 58 = some (.iload 5) := by decide +kernel
theorem i_Mod_open_60 : zins 113 60 = some (.aload_n 0) := by decide +kernel
theorem i_Mod_open_61 : zins 113 61 = some (.getfield 20) := by decide +kernel
theorem i_Mod_open_64 : zins 113 64 = some (.iconst 0) := by decide +kernel
theorem i_Mod_open_65 : zins 113 65 = some (.iaload) := by decide +kernel
theorem i_Mod_open_66 : zins 113 66 = some (.iastore) := by decide +kernel
theorem i_Mod_open_67 : zins 113 67 = some (.aload_n 0) := by decide +kernel
theorem i_Mod_open_68 : zins 113 68 = some (.getfield 41) := by decide +kernel
theorem i_Mod_open_71 : zins 113 71 = some (.iload 5) := by decide +kernel
theorem i_Mod_open_73 : zins 113 73 = some (.iconst 0) := by decide +kernel
theorem i_Mod_open_74 : zins 113 74 = some (.iastore) := by decide +kernel
theorem i_Mod_open_75 : zins 113 75 = some (.aload_n 0) := by decide +kernel
theorem i_Mod_open_76 : zins 113 76 = some (.getfield 17) := by decide +kernel
theorem i_Mod_open_79 : zins 113 79 = some (.iconst 0) := by decide +kernel
theorem i_Mod_open_80 : zins 113 80 = some (.dup2) := by decide +kernel
theorem i_Mod_open_81 : zins 113 81 = some (.iaload) := by decide +kernel
theorem i_Mod_open_82 : zins 113 82 = some (.iconst 1) := by decide +kernel
theorem i_Mod_open_83 : zins 113 83 = some (.iadd) := by decide +kernel
theorem i_Mod_open_84 : zins 113 84 = some (.iastore) := by decide +kernel
theorem i_Mod_open_85 : zins 113 85 = some (.return_) := by decide +kernel
theorem e_Mod_open (X : zX) (d : Nat) (g : zH) (ms : zMS) (t : Nat) (f r c s : Int32) (ht : ms.2 3 0 = nI t) (hl : t < 440) : zR X d 113 0 (zent 6 [.ref 129, .int f, .int r, .int c, .int s]) [] (mset g ms) (none, mset g (mopen ms t f r c s)) := by
  refine zr_aload_n i_Mod_open_0 rfl ?_
  refine zr_getf i_Mod_open_1 rfl rfl rfl ?_
  refine zn_iconst 0 i_Mod_open_4 (by decide) ?_
  refine zn_iaload i_Mod_open_5 rfl (by omega) (by decide) ?_
  refine zr_top (y := nI t) ht ?_
  refine zr_istore i_Mod_open_6 rfl ?_
  refine zr_aload_n i_Mod_open_8 rfl ?_
  refine zr_getf i_Mod_open_9 rfl rfl rfl ?_
  refine zr_iload i_Mod_open_12 rfl ?_
  refine zr_aload_n i_Mod_open_14 rfl ?_
  refine zr_getf i_Mod_open_15 rfl rfl rfl ?_
  refine zn_iconst 0 i_Mod_open_18 (by decide) ?_
  refine zn_iaload i_Mod_open_19 rfl (by omega) (by decide) ?_
  refine mn_iastore 5 440 i_Mod_open_20 (fun _ => rfl) (by decide) (by omega) (by decide) ?_
  refine zr_aload_n i_Mod_open_21 rfl ?_
  refine zr_getf i_Mod_open_22 rfl rfl rfl ?_
  refine zr_iload i_Mod_open_25 rfl ?_
  refine zr_iload_n i_Mod_open_27 rfl ?_
  refine mn_iastore 6 440 i_Mod_open_28 (fun _ => rfl) (by decide) (by omega) (by decide) ?_
  refine zr_aload_n i_Mod_open_29 rfl ?_
  refine zr_getf i_Mod_open_30 rfl rfl rfl ?_
  refine zr_iload i_Mod_open_33 rfl ?_
  refine zr_iload_n i_Mod_open_35 rfl ?_
  refine mn_iastore 7 440 i_Mod_open_36 (fun _ => rfl) (by decide) (by omega) (by decide) ?_
  refine zr_aload_n i_Mod_open_37 rfl ?_
  refine zr_getf i_Mod_open_38 rfl rfl rfl ?_
  refine zr_iload i_Mod_open_41 rfl ?_
  refine zr_iload_n i_Mod_open_43 rfl ?_
  refine mn_iastore 8 440 i_Mod_open_44 (fun _ => rfl) (by decide) (by omega) (by decide) ?_
  refine zr_aload_n i_Mod_open_45 rfl ?_
  refine zr_getf i_Mod_open_46 rfl rfl rfl ?_
  refine zr_iload i_Mod_open_49 rfl ?_
  refine zr_iload i_Mod_open_51 rfl ?_
  refine mn_iastore 9 440 i_Mod_open_53 (fun _ => rfl) (by decide) (by omega) (by decide) ?_
  refine zr_aload_n i_Mod_open_54 rfl ?_
  refine zr_getf i_Mod_open_55 rfl rfl rfl ?_
  refine zr_iload i_Mod_open_58 rfl ?_
  refine zr_aload_n i_Mod_open_60 rfl ?_
  refine zr_getf i_Mod_open_61 rfl rfl rfl ?_
  refine zn_iconst 0 i_Mod_open_64 (by decide) ?_
  refine zn_iaload i_Mod_open_65 rfl (by omega) (by decide) ?_
  refine mn_iastore 10 440 i_Mod_open_66 (fun _ => rfl) (by decide) (by omega) (by decide) ?_
  refine zr_aload_n i_Mod_open_67 rfl ?_
  refine zr_getf i_Mod_open_68 rfl rfl rfl ?_
  refine zr_iload i_Mod_open_71 rfl ?_
  refine zn_iconst 0 i_Mod_open_73 (by decide) ?_
  refine mn_iastore 11 440 i_Mod_open_74 (fun _ => rfl) (by decide) (by omega) (by decide) ?_
  refine zr_aload_n i_Mod_open_75 rfl ?_
  refine zr_getf i_Mod_open_76 rfl rfl rfl ?_
  refine zn_iconst 0 i_Mod_open_79 (by decide) ?_
  refine zr_dup2 i_Mod_open_80 rfl rfl ?_
  refine zn_iaload i_Mod_open_81 rfl (by omega) (by decide) ?_
  refine zr_top (y := nI t) ht ?_
  refine zn_iconst 1 i_Mod_open_82 (by decide) ?_
  refine zn_iadd i_Mod_open_83 ?_
  refine mn_iastore 3 2 i_Mod_open_84 (fun _ => rfl) (by decide) (by omega) (by decide) ?_
  exact zR.retE i_Mod_open_85 rfl rfl
/-- a further letter of the last text -/
def madd (ms : zMS) (c t : Nat) (x : Int32) : zMS := (ms.1, va_up (va_up (va_up ms.2 12 (upd (ms.2 12) c (vp_nar .char x))) 4 (upd (ms.2 4) 0 (nI (c + 1)))) 11 (upd (ms.2 11) (t - 1) (ms.2 11 (t - 1) + 1)))
theorem i_Mod_add_0 : zins 111 0 = some (.aload_n 0) := by decide +kernel
theorem i_Mod_add_1 : zins 111 1 = some (.getfield 44) := by decide +kernel
theorem i_Mod_add_4 : zins 111 4 = some (.aload_n 0) := by decide +kernel
theorem i_Mod_add_5 : zins 111 5 = some (.getfield 20) := by decide +kernel
theorem i_Mod_add_8 : zins 111 8 = some (.iconst 0) := by decide +kernel
theorem i_Mod_add_9 : zins 111 9 = some (.iaload) := by decide +kernel
theorem i_Mod_add_10 : zins 111 10 = some (.iload_n 1) := by decide +kernel
theorem i_Mod_add_11 : zins 111 11 = some (.castore) := by decide +kernel
theorem i_Mod_add_12 : zins 111 12 = some (.aload_n 0) := by decide +kernel
theorem i_Mod_add_13 : zins 111 13 = some (.getfield 20) := by decide +kernel
theorem i_Mod_add_16 : zins 111 16 = some (.iconst 0) := by decide +kernel
theorem i_Mod_add_17 : zins 111 17 = some (.dup2) := by decide +kernel
theorem i_Mod_add_18 : zins 111 18 = some (.iaload) := by decide +kernel
theorem i_Mod_add_19 : zins 111 19 = some (.iconst 1) := by decide +kernel
theorem i_Mod_add_20 : zins 111 20 = some (.iadd) := by decide +kernel
theorem i_Mod_add_21 : zins 111 21 = some (.iastore) := by decide +kernel
theorem i_Mod_add_22 : zins 111 22 = some (.aload_n 0) := by decide +kernel
theorem i_Mod_add_23 : zins 111 23 = some (.getfield 41) := by decide +kernel
theorem i_Mod_add_26 : zins 111 26 = some (.aload_n 0) := by decide +kernel
theorem i_Mod_add_27 : zins 111 27 = some (.getfield 17) := by decide +kernel
theorem i_Mod_add_30 : zins 111 30 = some (.iconst 0) := by decide +kernel
theorem i_Mod_add_31 : zins 111 31 = some (.iaload) := by decide +kernel
theorem i_Mod_add_32 : zins 111 32 = some (.iconst 1) := by decide +kernel
theorem i_Mod_add_33 : zins 111 33 = some (.isub) := by decide +kernel
theorem i_Mod_add_34 : zins 111 34 = some (.dup2) := by decide +kernel
theorem i_Mod_add_35 : zins 111 35 = some (.iaload) := by decide +kernel
theorem i_Mod_add_36 : zins 111 36 = some (.iconst 1) := by decide +kernel
theorem i_Mod_add_37 : zins 111 37 = some (.iadd) := by decide +kernel
theorem i_Mod_add_38 : zins 111 38 = some (.iastore) := by decide +kernel
theorem i_Mod_add_39 : zins 111 39 = some (.return_) := by decide +kernel
theorem e_Mod_add (X : zX) (d : Nat) (g : zH) (ms : zMS) (c t : Nat) (x : Int32) (hc : ms.2 4 0 = nI c) (ht : ms.2 3 0 = nI t) (hcl : c < 400) (ht0 : 1 ≤ t) (htl : t ≤ 440) : zR X d 111 0 (zent 2 [.ref 129, .int x]) [] (mset g ms) (none, mset g (madd ms c t x)) := by
  refine zr_aload_n i_Mod_add_0 rfl ?_
  refine zr_getf i_Mod_add_1 rfl rfl rfl ?_
  refine zr_aload_n i_Mod_add_4 rfl ?_
  refine zr_getf i_Mod_add_5 rfl rfl rfl ?_
  refine zn_iconst 0 i_Mod_add_8 (by decide) ?_
  refine zn_iaload i_Mod_add_9 rfl (by omega) (by decide) ?_
  refine zr_top (y := nI c) hc ?_
  refine zr_iload_n i_Mod_add_10 rfl ?_
  refine mn_castore 12 400 i_Mod_add_11 (fun _ => rfl) (by decide) (by omega) (by decide) ?_
  refine zr_aload_n i_Mod_add_12 rfl ?_
  refine zr_getf i_Mod_add_13 rfl rfl rfl ?_
  refine zn_iconst 0 i_Mod_add_16 (by decide) ?_
  refine zr_dup2 i_Mod_add_17 rfl rfl ?_
  refine zn_iaload i_Mod_add_18 rfl (by omega) (by decide) ?_
  refine zr_top (y := nI c) hc ?_
  refine zn_iconst 1 i_Mod_add_19 (by decide) ?_
  refine zn_iadd i_Mod_add_20 ?_
  refine mn_iastore 4 2 i_Mod_add_21 (fun _ => rfl) (by decide) (by omega) (by decide) ?_
  refine zr_aload_n i_Mod_add_22 rfl ?_
  refine zr_getf i_Mod_add_23 rfl rfl rfl ?_
  refine zr_aload_n i_Mod_add_26 rfl ?_
  refine zr_getf i_Mod_add_27 rfl rfl rfl ?_
  refine zn_iconst 0 i_Mod_add_30 (by decide) ?_
  refine zn_iaload i_Mod_add_31 rfl (by omega) (by decide) ?_
  refine zr_top (y := nI t) ht ?_
  refine zn_iconst 1 i_Mod_add_32 (by decide) ?_
  refine zn_isub i_Mod_add_33 (by omega) ?_
  refine zr_dup2 i_Mod_add_34 rfl rfl ?_
  refine zn_iaload i_Mod_add_35 rfl (by omega) (by decide) ?_
  refine zr_iconst i_Mod_add_36 (v := 1) (by decide) ?_
  refine zr_iadd i_Mod_add_37 ?_
  refine mn_iastore 11 440 i_Mod_add_38 (fun _ => rfl) (by decide) (by omega) (by decide) ?_
  exact zR.retE i_Mod_add_39 rfl rfl
