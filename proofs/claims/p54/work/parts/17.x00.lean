set_option maxHeartbeats 4000000 in
set_option maxRecDepth 100000 in
theorem m_J3_checkIndex_8e157r (l : Launch) (hl0 : l.stackTraces = false) (g : kG) (i : Int32) (z : Int32) (qb : Nat) (h1 : ¬ i < 0) (h2 : i < z) : kc l g yJ3_checkIndex_8e157 prog_47_method_11_code 3 (some .int) 0 0 0 0 [.int i, .int z, .ref qb] [] (fun v w => (v = some (.int i) ∧ w = [])) (fun _ _ => False) := by
  refine kbody (by decide) (Nat.le_of_ble_eq_true rfl) ?_
  intro p e s m args below meth c A H K ht G hP hD hA hS ls hl
  have K : KB p s m meth c RJ3 "checkIndex" prog_47_method_11_code 3 (some .int) := K
  obtain ⟨hx, hb, hml, hown, hlocks, hr, hin⟩ := id K
  have hl : lv_has ls 3 [(0, .int i), (1, .int z), (2, .ref qb)] := hl
  refine lv_iload_n hx hb dJ3_checkIndex_8e157_0 rfl (lv_at hl 0 rfl) ?_
  refine lv_if_lt (tgt := 9) hx hb dJ3_checkIndex_8e157_1 (by decide) (fun c1_1 => ?_) (fun c1_1 => ?_)
  · exact absurd c1_1 (by exact h1)
  · refine lv_iload_n hx hb dJ3_checkIndex_8e157_4 rfl (lv_at hl 0 rfl) ?_
    refine lv_iload_n hx hb dJ3_checkIndex_8e157_5 rfl (lv_at hl 1 rfl) ?_
    refine lv_icmp_lt (tgt := 16) hx hb dJ3_checkIndex_8e157_6 (by decide) (fun c6_2 => ?_) (fun c6_2 => ?_)
    · refine lv_iload_n hx hb dJ3_checkIndex_8e157_16 rfl (lv_at hl 0 rfl) ?_
      exact kretI K hP hD hS [] [] rfl rfl ⟨(by first | simp only [if_neg c1_1, if_pos c6_2] | rfl | simp [if_neg c1_1, if_pos c6_2]), (by first | simp only [if_neg c1_1, if_pos c6_2] | rfl | simp [if_neg c1_1, if_pos c6_2])⟩ (by decide) (by decide) dJ3_checkIndex_8e157_17
    · exact absurd c6_2 (by exact fun h => h h2)

set_option maxHeartbeats 4000000 in
set_option maxRecDepth 100000 in
theorem m_J0_isLatin1_aae02n (l : Launch) (hl0 : l.stackTraces = false) (g : kG)   : kc l g yJ0_isLatin1_aae02 prog_28_method_154_code 1 (some .boolean) 0 0 0 0 [.ref (g.2.2.2.1 0)] [] (fun v w => (v = some (.int 1) ∧ w = [])) (fun _ _ => False) := by
  refine kbody (by decide) (Nat.le_of_ble_eq_true rfl) ?_
  intro p e s m args below meth c A H K ht G hP hD hA hS ls hl
  have K : KB p s m meth c RJ0 "isLatin1" prog_28_method_154_code 1 (some .boolean) := K
  obtain ⟨hx, hb, hml, hown, hlocks, hr, hin⟩ := id K
  have hl : lv_has ls 1 [(0, .ref (g.2.2.2.1 0))] := hl
  refine va_gets (v := .int 1) hx hb G.cs hS hown (G.w kw_520) (fun _ h9 => h9) dJ0_isLatin1_aae02_0 ?_
  refine lv_if_eq (tgt := 17) hx hb dJ0_isLatin1_aae02_3 (by decide) (fun c3_1 => absurd c3_1 (by decide)) (fun _ => ?_)
  refine lv_aload_n hx hb dJ0_isLatin1_aae02_6 rfl (lv_at hl 0 rfl) ?_
  refine vk_getf (v := .int 0) hx hb (G.st.1 0 (by decide)).2.1 hS hown (G.w kw_521) (fun _ h9 => h9) dJ0_isLatin1_aae02_7 ?_
  refine lv_if_ne (tgt := 17) hx hb dJ0_isLatin1_aae02_10 (by decide) (fun c10_2 => absurd c10_2 (by decide)) (fun _ => ?_)
  refine lv_iconst (v := 1) hx hb dJ0_isLatin1_aae02_13 (by decide) ?_
  refine lv_goto (tgt := 18) hx hb dJ0_isLatin1_aae02_14 (by decide) ?_
  exact kretZ K hP hD hS [] [] rfl rfl (⟨rfl, rfl⟩) (by decide) (by decide) dJ0_isLatin1_aae02_18

set_option maxHeartbeats 4000000 in
set_option maxRecDepth 100000 in
theorem m_J0_checkIndex_df1600 (l : Launch) (hl0 : l.stackTraces = false) (g : kG)   : kc l g yJ0_checkIndex_df160 prog_28_method_155_code 2 none 1 22 0 0 [.int 0, .int 4] [] (fun v w => (v = none ∧ w = [])) (fun _ _ => False) := by
  refine kbody (by decide) (Nat.le_of_ble_eq_true rfl) ?_
  intro p e s m args below meth c A H K ht G hP hD hA hS ls hl
  have K : KB p s m meth c RJ0 "checkIndex" prog_28_method_155_code 2 none := K
  obtain ⟨hx, hb, hml, hown, hlocks, hr, hin⟩ := id K
  have hl : lv_has ls 2 [(0, .int 0), (1, .int 4)] := hl
  refine lv_iload_n hx hb dJ0_checkIndex_df160_0 rfl (lv_at hl 0 rfl) ?_
  refine lv_iload_n hx hb dJ0_checkIndex_df160_1 rfl (lv_at hl 1 rfl) ?_
  rcases G.sio.1 with hq8 | ⟨q8, hq8⟩
  · refine va_gets (v := .null) hx hb hq8 hS hown (G.w kw_522) (fun _ h9 => h9) dJ0_checkIndex_df160_2 ?_
    refine kcallS (wc := []) (wr := []) (As := [.int 0, .int 4, .null]) (rest := []) K G (m_J3_checkIndex_8e157 l hl0 g 0 4 (by decide) (by decide)) hP hD hS hA hl kw_10 kw_523 kw_13 kw_12 ydJ3_checkIndex_8e157 [] [] rfl rfl rfl rfl (by decide) rfl rfl (Nat.le_of_ble_eq_true rfl) dJ0_checkIndex_df160_5 ⟨Nat.le_of_ble_eq_true rfl, Nat.le_of_ble_eq_true rfl⟩ ⟨Nat.le_of_ble_eq_true rfl, Nat.le_of_ble_eq_true rfl⟩ (fun _ _ _ _ _ _ hX _ _ _ _ _ _ => hX.elim) (fun v w1 H locs hQ hP hD hS => ?_)
    obtain ⟨rfl, rfl⟩ := hQ
    have hP : va_P g.1 vwCl [] H := hP
    have hD : va_D A [] := hD
    refine W.widen (k := 0) (n := 0) (by decide) (by decide) ?_
    refine W.eq (g2 := F0 m 8 ls [.int 0]) rfl ?_
    refine lv_pop hx hb dJ0_checkIndex_df160_8 rfl ?_
    exact kretV K hP hD hS [] [] rfl rfl (⟨rfl, rfl⟩) (by decide) (by decide) dJ0_checkIndex_df160_9
  · refine va_gets (v := .ref q8) hx hb hq8 hS hown (G.w kw_522) (fun _ h9 => h9) dJ0_checkIndex_df160_2 ?_
    refine kcallS (wc := []) (wr := []) (As := [.int 0, .int 4, .ref q8]) (rest := []) K G (m_J3_checkIndex_8e157r l hl0 g 0 4 q8 (by decide) (by decide)) hP hD hS hA hl kw_10 kw_523 kw_13 kw_12 ydJ3_checkIndex_8e157 [] [] rfl rfl rfl rfl (by decide) rfl rfl (Nat.le_of_ble_eq_true rfl) dJ0_checkIndex_df160_5 ⟨Nat.le_of_ble_eq_true rfl, Nat.le_of_ble_eq_true rfl⟩ ⟨Nat.le_of_ble_eq_true rfl, Nat.le_of_ble_eq_true rfl⟩ (fun _ _ _ _ _ _ hX _ _ _ _ _ _ => hX.elim) (fun v w1 H locs hQ hP hD hS => ?_)
    obtain ⟨rfl, rfl⟩ := hQ
    have hP : va_P g.1 vwCl [] H := hP
    have hD : va_D A [] := hD
    refine W.widen (k := 0) (n := 0) (by decide) (by decide) ?_
    refine W.eq (g2 := F0 m 8 ls [.int 0]) rfl ?_
    refine lv_pop hx hb dJ0_checkIndex_df160_8 rfl ?_
    exact kretV K hP hD hS [] [] rfl rfl (⟨rfl, rfl⟩) (by decide) (by decide) dJ0_checkIndex_df160_9

set_option maxHeartbeats 4000000 in
set_option maxRecDepth 100000 in
theorem m_J1_charAt_3b067n0 (l : Launch) (hl0 : l.stackTraces = false) (g : kG)   : kc l g yJ1_charAt_3b067 prog_29_method_2_code 2 (some .char) 2 43 0 0 [.ref (g.2.2.2.2 0), .int 0] [] (fun v w => (v = some (.int 110) ∧ w = [])) (fun _ _ => False) := by
  refine kbody (by decide) (Nat.le_of_ble_eq_true rfl) ?_
  intro p e s m args below meth c A H K ht G hP hD hA hS ls hl
  have K : KB p s m meth c RJ1 "charAt" prog_29_method_2_code 2 (some .char) := K
  obtain ⟨hx, hb, hml, hown, hlocks, hr, hin⟩ := id K
  have hl : lv_has ls 2 [(0, .ref (g.2.2.2.2 0)), (1, .int 0)] := hl
  refine lv_iload_n hx hb dJ1_charAt_3b067_0 rfl (lv_at hl 1 rfl) ?_
  refine lv_aload_n hx hb dJ1_charAt_3b067_1 rfl (lv_at hl 0 rfl) ?_
  refine va_tlen (v := 4) hx hb (G.st.1 0 (by decide)).2.2.2 hS rfl dJ1_charAt_3b067_2 ?_
  refine kcallS (wc := []) (wr := []) (As := [.int 0, .int 4]) (rest := []) K G (m_J0_checkIndex_df1600 l hl0 g  ) hP hD hS hA hl kw_524 kw_525 kw_527 kw_526 ydJ0_checkIndex_df160 [] [] rfl rfl rfl rfl (by decide) rfl rfl (Nat.le_of_ble_eq_true rfl) dJ1_charAt_3b067_3 ⟨Nat.le_of_ble_eq_true rfl, Nat.le_of_ble_eq_true rfl⟩ ⟨Nat.le_of_ble_eq_true rfl, Nat.le_of_ble_eq_true rfl⟩ (fun _ _ _ _ _ _ hX _ _ _ _ _ _ => hX.elim) (fun v w1 H locs hQ hP hD hS => ?_)
  obtain ⟨rfl, rfl⟩ := hQ
  have hP : va_P g.1 vwCl [] H := hP
  have hD : va_D A [] := hD
  refine W.widen (k := 0) (n := 0) (by decide) (by decide) ?_
  refine W.eq (g2 := F0 m 6 ls []) rfl ?_
  refine lv_aload_n hx hb dJ1_charAt_3b067_6 rfl (lv_at hl 0 rfl) ?_
  refine lv_iload_n hx hb dJ1_charAt_3b067_7 rfl (lv_at hl 1 rfl) ?_
  refine va_tb (v := .int 110) hx hb (G.st.1 0 (by decide)).2.2.2 hS (i := 0) (vp_in_iff.mpr ⟨by decide, by decide⟩) rfl dJ1_charAt_3b067_8 ?_
  refine lv_sipush (v := 255) hx hb dJ1_charAt_3b067_9 (by decide) ?_
  refine lv_iand hx hb dJ1_charAt_3b067_12 ?_
  refine lv_topi (fun y_2 ey_2 => ?_)
  obtain rfl : y_2 = 110 := ey_2.trans (by decide)
  refine lv_i2c (v := 110) hx hb dJ1_charAt_3b067_13 (by decide) ?_
  exact kretZ K hP hD hS [] [] rfl rfl (⟨rfl, rfl⟩) (by decide) (by decide) dJ1_charAt_3b067_14

set_option maxHeartbeats 4000000 in
set_option maxRecDepth 100000 in
theorem m_J0_charAt_5068en0 (l : Launch) (hl0 : l.stackTraces = false) (g : kG)   : kc l g yJ0_charAt_5068e prog_28_method_56_code 2 (some .char) 3 64 0 0 [.ref (g.2.2.2.1 0), .int 0] [] (fun v w => (v = some (.int 110) ∧ w = [])) (fun _ _ => False) := by
  refine kbody (by decide) (Nat.le_of_ble_eq_true rfl) ?_
  intro p e s m args below meth c A H K ht G hP hD hA hS ls hl
  have K : KB p s m meth c RJ0 "charAt" prog_28_method_56_code 2 (some .char) := K
  obtain ⟨hx, hb, hml, hown, hlocks, hr, hin⟩ := id K
  have hl : lv_has ls 2 [(0, .ref (g.2.2.2.1 0)), (1, .int 0)] := hl
  refine lv_aload_n hx hb dJ0_charAt_5068e_0 rfl (lv_at hl 0 rfl) ?_
  refine kcallVr (wc := []) (wr := []) (As := []) (rest := []) K G (m_J0_isLatin1_aae02n l hl0 g  ) hP hD hS hA hl kw_528 kw_529 kw_530 kw_531 kw_526 ydJ0_isLatin1_aae02 [] [] rfl rfl rfl rfl (by decide) (vk_recv G.st (by decide) hS) rfl rfl (Nat.le_of_ble_eq_true rfl) dJ0_charAt_5068e_1 ⟨Nat.le_of_ble_eq_true rfl, Nat.le_of_ble_eq_true rfl⟩ ⟨Nat.le_of_ble_eq_true rfl, Nat.le_of_ble_eq_true rfl⟩ (fun _ _ _ _ _ _ hX _ _ _ _ _ _ => hX.elim) (fun v w1 H locs hQ hP hD hS => ?_)
  obtain ⟨rfl, rfl⟩ := hQ
  have hP : va_P g.1 vwCl [] H := hP
  have hD : va_D A [] := hD
  refine W.widen (k := 0) (n := 0) (by decide) (by decide) ?_
  refine W.eq (g2 := F0 m 4 ls [.int 1]) rfl ?_
  refine lv_if_eq (tgt := 16) hx hb dJ0_charAt_5068e_4 (by decide) (fun c4_2 => absurd c4_2 (by decide)) (fun _ => ?_)
  refine lv_aload_n hx hb dJ0_charAt_5068e_7 rfl (lv_at hl 0 rfl) ?_
  refine vk_getf (v := .ref (g.2.2.2.2 0)) hx hb (G.st.1 0 (by decide)).2.2.1 hS hown (G.w kw_532) (fun _ h9 => h9) dJ0_charAt_5068e_8 ?_
  refine lv_iload_n hx hb dJ0_charAt_5068e_11 rfl (lv_at hl 1 rfl) ?_
  refine kcallS (wc := []) (wr := []) (As := [.ref (g.2.2.2.2 0), .int 0]) (rest := []) K G (m_J1_charAt_3b067n0 l hl0 g  ) hP hD hS hA hl kw_533 kw_534 kw_536 kw_535 ydJ1_charAt_3b067 [] [] rfl rfl rfl rfl (by decide) rfl rfl (Nat.le_of_ble_eq_true rfl) dJ0_charAt_5068e_12 ⟨Nat.le_of_ble_eq_true rfl, Nat.le_of_ble_eq_true rfl⟩ ⟨Nat.le_of_ble_eq_true rfl, Nat.le_of_ble_eq_true rfl⟩ (fun _ _ _ _ _ _ hX _ _ _ _ _ _ => hX.elim) (fun v w1 H locs hQ hP hD hS => ?_)
  obtain ⟨rfl, rfl⟩ := hQ
  have hP : va_P g.1 vwCl [] H := hP
  have hD : va_D A [] := hD
  refine W.widen (k := 0) (n := 0) (by decide) (by decide) ?_
  refine W.eq (g2 := F0 m 15 ls [.int 110]) rfl ?_
  exact kretZ K hP hD hS [] [] rfl rfl (⟨rfl, rfl⟩) (by decide) (by decide) dJ0_charAt_5068e_15

set_option maxHeartbeats 4000000 in
set_option maxRecDepth 100000 in
theorem m_J0_checkIndex_df1601 (l : Launch) (hl0 : l.stackTraces = false) (g : kG)   : kc l g yJ0_checkIndex_df160 prog_28_method_155_code 2 none 1 22 0 0 [.int 1, .int 4] [] (fun v w => (v = none ∧ w = [])) (fun _ _ => False) := by
  refine kbody (by decide) (Nat.le_of_ble_eq_true rfl) ?_
  intro p e s m args below meth c A H K ht G hP hD hA hS ls hl
  have K : KB p s m meth c RJ0 "checkIndex" prog_28_method_155_code 2 none := K
  obtain ⟨hx, hb, hml, hown, hlocks, hr, hin⟩ := id K
  have hl : lv_has ls 2 [(0, .int 1), (1, .int 4)] := hl
  refine lv_iload_n hx hb dJ0_checkIndex_df160_0 rfl (lv_at hl 0 rfl) ?_
  refine lv_iload_n hx hb dJ0_checkIndex_df160_1 rfl (lv_at hl 1 rfl) ?_
  rcases G.sio.1 with hq8 | ⟨q8, hq8⟩
  · refine va_gets (v := .null) hx hb hq8 hS hown (G.w kw_522) (fun _ h9 => h9) dJ0_checkIndex_df160_2 ?_
    refine kcallS (wc := []) (wr := []) (As := [.int 1, .int 4, .null]) (rest := []) K G (m_J3_checkIndex_8e157 l hl0 g 1 4 (by decide) (by decide)) hP hD hS hA hl kw_10 kw_523 kw_13 kw_12 ydJ3_checkIndex_8e157 [] [] rfl rfl rfl rfl (by decide) rfl rfl (Nat.le_of_ble_eq_true rfl) dJ0_checkIndex_df160_5 ⟨Nat.le_of_ble_eq_true rfl, Nat.le_of_ble_eq_true rfl⟩ ⟨Nat.le_of_ble_eq_true rfl, Nat.le_of_ble_eq_true rfl⟩ (fun _ _ _ _ _ _ hX _ _ _ _ _ _ => hX.elim) (fun v w1 H locs hQ hP hD hS => ?_)
    obtain ⟨rfl, rfl⟩ := hQ
    have hP : va_P g.1 vwCl [] H := hP
    have hD : va_D A [] := hD
    refine W.widen (k := 0) (n := 0) (by decide) (by decide) ?_
    refine W.eq (g2 := F0 m 8 ls [.int 1]) rfl ?_
    refine lv_pop hx hb dJ0_checkIndex_df160_8 rfl ?_
    exact kretV K hP hD hS [] [] rfl rfl (⟨rfl, rfl⟩) (by decide) (by decide) dJ0_checkIndex_df160_9
  · refine va_gets (v := .ref q8) hx hb hq8 hS hown (G.w kw_522) (fun _ h9 => h9) dJ0_checkIndex_df160_2 ?_
    refine kcallS (wc := []) (wr := []) (As := [.int 1, .int 4, .ref q8]) (rest := []) K G (m_J3_checkIndex_8e157r l hl0 g 1 4 q8 (by decide) (by decide)) hP hD hS hA hl kw_10 kw_523 kw_13 kw_12 ydJ3_checkIndex_8e157 [] [] rfl rfl rfl rfl (by decide) rfl rfl (Nat.le_of_ble_eq_true rfl) dJ0_checkIndex_df160_5 ⟨Nat.le_of_ble_eq_true rfl, Nat.le_of_ble_eq_true rfl⟩ ⟨Nat.le_of_ble_eq_true rfl, Nat.le_of_ble_eq_true rfl⟩ (fun _ _ _ _ _ _ hX _ _ _ _ _ _ => hX.elim) (fun v w1 H locs hQ hP hD hS => ?_)
    obtain ⟨rfl, rfl⟩ := hQ
    have hP : va_P g.1 vwCl [] H := hP
    have hD : va_D A [] := hD
    refine W.widen (k := 0) (n := 0) (by decide) (by decide) ?_
    refine W.eq (g2 := F0 m 8 ls [.int 1]) rfl ?_
    refine lv_pop hx hb dJ0_checkIndex_df160_8 rfl ?_
    exact kretV K hP hD hS [] [] rfl rfl (⟨rfl, rfl⟩) (by decide) (by decide) dJ0_checkIndex_df160_9

set_option maxHeartbeats 4000000 in
set_option maxRecDepth 100000 in
theorem m_J1_charAt_3b067n1 (l : Launch) (hl0 : l.stackTraces = false) (g : kG)   : kc l g yJ1_charAt_3b067 prog_29_method_2_code 2 (some .char) 2 43 0 0 [.ref (g.2.2.2.2 0), .int 1] [] (fun v w => (v = some (.int 101) ∧ w = [])) (fun _ _ => False) := by
  refine kbody (by decide) (Nat.le_of_ble_eq_true rfl) ?_
  intro p e s m args below meth c A H K ht G hP hD hA hS ls hl
  have K : KB p s m meth c RJ1 "charAt" prog_29_method_2_code 2 (some .char) := K
  obtain ⟨hx, hb, hml, hown, hlocks, hr, hin⟩ := id K
  have hl : lv_has ls 2 [(0, .ref (g.2.2.2.2 0)), (1, .int 1)] := hl
  refine lv_iload_n hx hb dJ1_charAt_3b067_0 rfl (lv_at hl 1 rfl) ?_
  refine lv_aload_n hx hb dJ1_charAt_3b067_1 rfl (lv_at hl 0 rfl) ?_
  refine va_tlen (v := 4) hx hb (G.st.1 0 (by decide)).2.2.2 hS rfl dJ1_charAt_3b067_2 ?_
  refine kcallS (wc := []) (wr := []) (As := [.int 1, .int 4]) (rest := []) K G (m_J0_checkIndex_df1601 l hl0 g  ) hP hD hS hA hl kw_524 kw_525 kw_527 kw_526 ydJ0_checkIndex_df160 [] [] rfl rfl rfl rfl (by decide) rfl rfl (Nat.le_of_ble_eq_true rfl) dJ1_charAt_3b067_3 ⟨Nat.le_of_ble_eq_true rfl, Nat.le_of_ble_eq_true rfl⟩ ⟨Nat.le_of_ble_eq_true rfl, Nat.le_of_ble_eq_true rfl⟩ (fun _ _ _ _ _ _ hX _ _ _ _ _ _ => hX.elim) (fun v w1 H locs hQ hP hD hS => ?_)
  obtain ⟨rfl, rfl⟩ := hQ
  have hP : va_P g.1 vwCl [] H := hP
  have hD : va_D A [] := hD
  refine W.widen (k := 0) (n := 0) (by decide) (by decide) ?_
  refine W.eq (g2 := F0 m 6 ls []) rfl ?_
  refine lv_aload_n hx hb dJ1_charAt_3b067_6 rfl (lv_at hl 0 rfl) ?_
  refine lv_iload_n hx hb dJ1_charAt_3b067_7 rfl (lv_at hl 1 rfl) ?_
  refine va_tb (v := .int 101) hx hb (G.st.1 0 (by decide)).2.2.2 hS (i := 1) (vp_in_iff.mpr ⟨by decide, by decide⟩) rfl dJ1_charAt_3b067_8 ?_
  refine lv_sipush (v := 255) hx hb dJ1_charAt_3b067_9 (by decide) ?_
  refine lv_iand hx hb dJ1_charAt_3b067_12 ?_
  refine lv_topi (fun y_2 ey_2 => ?_)
  obtain rfl : y_2 = 101 := ey_2.trans (by decide)
  refine lv_i2c (v := 101) hx hb dJ1_charAt_3b067_13 (by decide) ?_
  exact kretZ K hP hD hS [] [] rfl rfl (⟨rfl, rfl⟩) (by decide) (by decide) dJ1_charAt_3b067_14

set_option maxHeartbeats 4000000 in
set_option maxRecDepth 100000 in
theorem m_J0_charAt_5068en1 (l : Launch) (hl0 : l.stackTraces = false) (g : kG)   : kc l g yJ0_charAt_5068e prog_28_method_56_code 2 (some .char) 3 64 0 0 [.ref (g.2.2.2.1 0), .int 1] [] (fun v w => (v = some (.int 101) ∧ w = [])) (fun _ _ => False) := by
  refine kbody (by decide) (Nat.le_of_ble_eq_true rfl) ?_
  intro p e s m args below meth c A H K ht G hP hD hA hS ls hl
  have K : KB p s m meth c RJ0 "charAt" prog_28_method_56_code 2 (some .char) := K
  obtain ⟨hx, hb, hml, hown, hlocks, hr, hin⟩ := id K
  have hl : lv_has ls 2 [(0, .ref (g.2.2.2.1 0)), (1, .int 1)] := hl
  refine lv_aload_n hx hb dJ0_charAt_5068e_0 rfl (lv_at hl 0 rfl) ?_
  refine kcallVr (wc := []) (wr := []) (As := []) (rest := []) K G (m_J0_isLatin1_aae02n l hl0 g  ) hP hD hS hA hl kw_528 kw_529 kw_530 kw_531 kw_526 ydJ0_isLatin1_aae02 [] [] rfl rfl rfl rfl (by decide) (vk_recv G.st (by decide) hS) rfl rfl (Nat.le_of_ble_eq_true rfl) dJ0_charAt_5068e_1 ⟨Nat.le_of_ble_eq_true rfl, Nat.le_of_ble_eq_true rfl⟩ ⟨Nat.le_of_ble_eq_true rfl, Nat.le_of_ble_eq_true rfl⟩ (fun _ _ _ _ _ _ hX _ _ _ _ _ _ => hX.elim) (fun v w1 H locs hQ hP hD hS => ?_)
  obtain ⟨rfl, rfl⟩ := hQ
  have hP : va_P g.1 vwCl [] H := hP
  have hD : va_D A [] := hD
  refine W.widen (k := 0) (n := 0) (by decide) (by decide) ?_
  refine W.eq (g2 := F0 m 4 ls [.int 1]) rfl ?_
  refine lv_if_eq (tgt := 16) hx hb dJ0_charAt_5068e_4 (by decide) (fun c4_2 => absurd c4_2 (by decide)) (fun _ => ?_)
  refine lv_aload_n hx hb dJ0_charAt_5068e_7 rfl (lv_at hl 0 rfl) ?_
  refine vk_getf (v := .ref (g.2.2.2.2 0)) hx hb (G.st.1 0 (by decide)).2.2.1 hS hown (G.w kw_532) (fun _ h9 => h9) dJ0_charAt_5068e_8 ?_
  refine lv_iload_n hx hb dJ0_charAt_5068e_11 rfl (lv_at hl 1 rfl) ?_
  refine kcallS (wc := []) (wr := []) (As := [.ref (g.2.2.2.2 0), .int 1]) (rest := []) K G (m_J1_charAt_3b067n1 l hl0 g  ) hP hD hS hA hl kw_533 kw_534 kw_536 kw_535 ydJ1_charAt_3b067 [] [] rfl rfl rfl rfl (by decide) rfl rfl (Nat.le_of_ble_eq_true rfl) dJ0_charAt_5068e_12 ⟨Nat.le_of_ble_eq_true rfl, Nat.le_of_ble_eq_true rfl⟩ ⟨Nat.le_of_ble_eq_true rfl, Nat.le_of_ble_eq_true rfl⟩ (fun _ _ _ _ _ _ hX _ _ _ _ _ _ => hX.elim) (fun v w1 H locs hQ hP hD hS => ?_)
  obtain ⟨rfl, rfl⟩ := hQ
  have hP : va_P g.1 vwCl [] H := hP
  have hD : va_D A [] := hD
  refine W.widen (k := 0) (n := 0) (by decide) (by decide) ?_
  refine W.eq (g2 := F0 m 15 ls [.int 101]) rfl ?_
  exact kretZ K hP hD hS [] [] rfl rfl (⟨rfl, rfl⟩) (by decide) (by decide) dJ0_charAt_5068e_15

set_option maxHeartbeats 4000000 in
set_option maxRecDepth 100000 in
theorem m_J0_checkIndex_df1602 (l : Launch) (hl0 : l.stackTraces = false) (g : kG)   : kc l g yJ0_checkIndex_df160 prog_28_method_155_code 2 none 1 22 0 0 [.int 2, .int 4] [] (fun v w => (v = none ∧ w = [])) (fun _ _ => False) := by
  refine kbody (by decide) (Nat.le_of_ble_eq_true rfl) ?_
  intro p e s m args below meth c A H K ht G hP hD hA hS ls hl
  have K : KB p s m meth c RJ0 "checkIndex" prog_28_method_155_code 2 none := K
  obtain ⟨hx, hb, hml, hown, hlocks, hr, hin⟩ := id K
  have hl : lv_has ls 2 [(0, .int 2), (1, .int 4)] := hl
  refine lv_iload_n hx hb dJ0_checkIndex_df160_0 rfl (lv_at hl 0 rfl) ?_
  refine lv_iload_n hx hb dJ0_checkIndex_df160_1 rfl (lv_at hl 1 rfl) ?_
  rcases G.sio.1 with hq8 | ⟨q8, hq8⟩
  · refine va_gets (v := .null) hx hb hq8 hS hown (G.w kw_522) (fun _ h9 => h9) dJ0_checkIndex_df160_2 ?_
    refine kcallS (wc := []) (wr := []) (As := [.int 2, .int 4, .null]) (rest := []) K G (m_J3_checkIndex_8e157 l hl0 g 2 4 (by decide) (by decide)) hP hD hS hA hl kw_10 kw_523 kw_13 kw_12 ydJ3_checkIndex_8e157 [] [] rfl rfl rfl rfl (by decide) rfl rfl (Nat.le_of_ble_eq_true rfl) dJ0_checkIndex_df160_5 ⟨Nat.le_of_ble_eq_true rfl, Nat.le_of_ble_eq_true rfl⟩ ⟨Nat.le_of_ble_eq_true rfl, Nat.le_of_ble_eq_true rfl⟩ (fun _ _ _ _ _ _ hX _ _ _ _ _ _ => hX.elim) (fun v w1 H locs hQ hP hD hS => ?_)
    obtain ⟨rfl, rfl⟩ := hQ
    have hP : va_P g.1 vwCl [] H := hP
    have hD : va_D A [] := hD
    refine W.widen (k := 0) (n := 0) (by decide) (by decide) ?_
    refine W.eq (g2 := F0 m 8 ls [.int 2]) rfl ?_
    refine lv_pop hx hb dJ0_checkIndex_df160_8 rfl ?_
    exact kretV K hP hD hS [] [] rfl rfl (⟨rfl, rfl⟩) (by decide) (by decide) dJ0_checkIndex_df160_9
  · refine va_gets (v := .ref q8) hx hb hq8 hS hown (G.w kw_522) (fun _ h9 => h9) dJ0_checkIndex_df160_2 ?_
    refine kcallS (wc := []) (wr := []) (As := [.int 2, .int 4, .ref q8]) (rest := []) K G (m_J3_checkIndex_8e157r l hl0 g 2 4 q8 (by decide) (by decide)) hP hD hS hA hl kw_10 kw_523 kw_13 kw_12 ydJ3_checkIndex_8e157 [] [] rfl rfl rfl rfl (by decide) rfl rfl (Nat.le_of_ble_eq_true rfl) dJ0_checkIndex_df160_5 ⟨Nat.le_of_ble_eq_true rfl, Nat.le_of_ble_eq_true rfl⟩ ⟨Nat.le_of_ble_eq_true rfl, Nat.le_of_ble_eq_true rfl⟩ (fun _ _ _ _ _ _ hX _ _ _ _ _ _ => hX.elim) (fun v w1 H locs hQ hP hD hS => ?_)
    obtain ⟨rfl, rfl⟩ := hQ
    have hP : va_P g.1 vwCl [] H := hP
    have hD : va_D A [] := hD
    refine W.widen (k := 0) (n := 0) (by decide) (by decide) ?_
    refine W.eq (g2 := F0 m 8 ls [.int 2]) rfl ?_
    refine lv_pop hx hb dJ0_checkIndex_df160_8 rfl ?_
    exact kretV K hP hD hS [] [] rfl rfl (⟨rfl, rfl⟩) (by decide) (by decide) dJ0_checkIndex_df160_9

set_option maxHeartbeats 4000000 in
set_option maxRecDepth 100000 in
theorem m_J1_charAt_3b067n2 (l : Launch) (hl0 : l.stackTraces = false) (g : kG)   : kc l g yJ1_charAt_3b067 prog_29_method_2_code 2 (some .char) 2 43 0 0 [.ref (g.2.2.2.2 0), .int 2] [] (fun v w => (v = some (.int 115) ∧ w = [])) (fun _ _ => False) := by
  refine kbody (by decide) (Nat.le_of_ble_eq_true rfl) ?_
  intro p e s m args below meth c A H K ht G hP hD hA hS ls hl
  have K : KB p s m meth c RJ1 "charAt" prog_29_method_2_code 2 (some .char) := K
  obtain ⟨hx, hb, hml, hown, hlocks, hr, hin⟩ := id K
  have hl : lv_has ls 2 [(0, .ref (g.2.2.2.2 0)), (1, .int 2)] := hl
  refine lv_iload_n hx hb dJ1_charAt_3b067_0 rfl (lv_at hl 1 rfl) ?_
  refine lv_aload_n hx hb dJ1_charAt_3b067_1 rfl (lv_at hl 0 rfl) ?_
  refine va_tlen (v := 4) hx hb (G.st.1 0 (by decide)).2.2.2 hS rfl dJ1_charAt_3b067_2 ?_
  refine kcallS (wc := []) (wr := []) (As := [.int 2, .int 4]) (rest := []) K G (m_J0_checkIndex_df1602 l hl0 g  ) hP hD hS hA hl kw_524 kw_525 kw_527 kw_526 ydJ0_checkIndex_df160 [] [] rfl rfl rfl rfl (by decide) rfl rfl (Nat.le_of_ble_eq_true rfl) dJ1_charAt_3b067_3 ⟨Nat.le_of_ble_eq_true rfl, Nat.le_of_ble_eq_true rfl⟩ ⟨Nat.le_of_ble_eq_true rfl, Nat.le_of_ble_eq_true rfl⟩ (fun _ _ _ _ _ _ hX _ _ _ _ _ _ => hX.elim) (fun v w1 H locs hQ hP hD hS => ?_)
  obtain ⟨rfl, rfl⟩ := hQ
  have hP : va_P g.1 vwCl [] H := hP
  have hD : va_D A [] := hD
  refine W.widen (k := 0) (n := 0) (by decide) (by decide) ?_
  refine W.eq (g2 := F0 m 6 ls []) rfl ?_
  refine lv_aload_n hx hb dJ1_charAt_3b067_6 rfl (lv_at hl 0 rfl) ?_
  refine lv_iload_n hx hb dJ1_charAt_3b067_7 rfl (lv_at hl 1 rfl) ?_
  refine va_tb (v := .int 115) hx hb (G.st.1 0 (by decide)).2.2.2 hS (i := 2) (vp_in_iff.mpr ⟨by decide, by decide⟩) rfl dJ1_charAt_3b067_8 ?_
  refine lv_sipush (v := 255) hx hb dJ1_charAt_3b067_9 (by decide) ?_
  refine lv_iand hx hb dJ1_charAt_3b067_12 ?_
  refine lv_topi (fun y_2 ey_2 => ?_)
  obtain rfl : y_2 = 115 := ey_2.trans (by decide)
  refine lv_i2c (v := 115) hx hb dJ1_charAt_3b067_13 (by decide) ?_
  exact kretZ K hP hD hS [] [] rfl rfl (⟨rfl, rfl⟩) (by decide) (by decide) dJ1_charAt_3b067_14

set_option maxHeartbeats 4000000 in
set_option maxRecDepth 100000 in
theorem m_J0_charAt_5068en2 (l : Launch) (hl0 : l.stackTraces = false) (g : kG)   : kc l g yJ0_charAt_5068e prog_28_method_56_code 2 (some .char) 3 64 0 0 [.ref (g.2.2.2.1 0), .int 2] [] (fun v w => (v = some (.int 115) ∧ w = [])) (fun _ _ => False) := by
  refine kbody (by decide) (Nat.le_of_ble_eq_true rfl) ?_
  intro p e s m args below meth c A H K ht G hP hD hA hS ls hl
  have K : KB p s m meth c RJ0 "charAt" prog_28_method_56_code 2 (some .char) := K
  obtain ⟨hx, hb, hml, hown, hlocks, hr, hin⟩ := id K
  have hl : lv_has ls 2 [(0, .ref (g.2.2.2.1 0)), (1, .int 2)] := hl
  refine lv_aload_n hx hb dJ0_charAt_5068e_0 rfl (lv_at hl 0 rfl) ?_
  refine kcallVr (wc := []) (wr := []) (As := []) (rest := []) K G (m_J0_isLatin1_aae02n l hl0 g  ) hP hD hS hA hl kw_528 kw_529 kw_530 kw_531 kw_526 ydJ0_isLatin1_aae02 [] [] rfl rfl rfl rfl (by decide) (vk_recv G.st (by decide) hS) rfl rfl (Nat.le_of_ble_eq_true rfl) dJ0_charAt_5068e_1 ⟨Nat.le_of_ble_eq_true rfl, Nat.le_of_ble_eq_true rfl⟩ ⟨Nat.le_of_ble_eq_true rfl, Nat.le_of_ble_eq_true rfl⟩ (fun _ _ _ _ _ _ hX _ _ _ _ _ _ => hX.elim) (fun v w1 H locs hQ hP hD hS => ?_)
  obtain ⟨rfl, rfl⟩ := hQ
  have hP : va_P g.1 vwCl [] H := hP
  have hD : va_D A [] := hD
  refine W.widen (k := 0) (n := 0) (by decide) (by decide) ?_
  refine W.eq (g2 := F0 m 4 ls [.int 1]) rfl ?_
  refine lv_if_eq (tgt := 16) hx hb dJ0_charAt_5068e_4 (by decide) (fun c4_2 => absurd c4_2 (by decide)) (fun _ => ?_)
  refine lv_aload_n hx hb dJ0_charAt_5068e_7 rfl (lv_at hl 0 rfl) ?_
  refine vk_getf (v := .ref (g.2.2.2.2 0)) hx hb (G.st.1 0 (by decide)).2.2.1 hS hown (G.w kw_532) (fun _ h9 => h9) dJ0_charAt_5068e_8 ?_
  refine lv_iload_n hx hb dJ0_charAt_5068e_11 rfl (lv_at hl 1 rfl) ?_
  refine kcallS (wc := []) (wr := []) (As := [.ref (g.2.2.2.2 0), .int 2]) (rest := []) K G (m_J1_charAt_3b067n2 l hl0 g  ) hP hD hS hA hl kw_533 kw_534 kw_536 kw_535 ydJ1_charAt_3b067 [] [] rfl rfl rfl rfl (by decide) rfl rfl (Nat.le_of_ble_eq_true rfl) dJ0_charAt_5068e_12 ⟨Nat.le_of_ble_eq_true rfl, Nat.le_of_ble_eq_true rfl⟩ ⟨Nat.le_of_ble_eq_true rfl, Nat.le_of_ble_eq_true rfl⟩ (fun _ _ _ _ _ _ hX _ _ _ _ _ _ => hX.elim) (fun v w1 H locs hQ hP hD hS => ?_)
  obtain ⟨rfl, rfl⟩ := hQ
  have hP : va_P g.1 vwCl [] H := hP
  have hD : va_D A [] := hD
  refine W.widen (k := 0) (n := 0) (by decide) (by decide) ?_
  refine W.eq (g2 := F0 m 15 ls [.int 115]) rfl ?_
  exact kretZ K hP hD hS [] [] rfl rfl (⟨rfl, rfl⟩) (by decide) (by decide) dJ0_charAt_5068e_15

set_option maxHeartbeats 4000000 in
set_option maxRecDepth 100000 in
theorem m_J0_checkIndex_df1603 (l : Launch) (hl0 : l.stackTraces = false) (g : kG)   : kc l g yJ0_checkIndex_df160 prog_28_method_155_code 2 none 1 22 0 0 [.int 3, .int 4] [] (fun v w => (v = none ∧ w = [])) (fun _ _ => False) := by
  refine kbody (by decide) (Nat.le_of_ble_eq_true rfl) ?_
  intro p e s m args below meth c A H K ht G hP hD hA hS ls hl
  have K : KB p s m meth c RJ0 "checkIndex" prog_28_method_155_code 2 none := K
  obtain ⟨hx, hb, hml, hown, hlocks, hr, hin⟩ := id K
  have hl : lv_has ls 2 [(0, .int 3), (1, .int 4)] := hl
  refine lv_iload_n hx hb dJ0_checkIndex_df160_0 rfl (lv_at hl 0 rfl) ?_
  refine lv_iload_n hx hb dJ0_checkIndex_df160_1 rfl (lv_at hl 1 rfl) ?_
  rcases G.sio.1 with hq8 | ⟨q8, hq8⟩
  · refine va_gets (v := .null) hx hb hq8 hS hown (G.w kw_522) (fun _ h9 => h9) dJ0_checkIndex_df160_2 ?_
    refine kcallS (wc := []) (wr := []) (As := [.int 3, .int 4, .null]) (rest := []) K G (m_J3_checkIndex_8e157 l hl0 g 3 4 (by decide) (by decide)) hP hD hS hA hl kw_10 kw_523 kw_13 kw_12 ydJ3_checkIndex_8e157 [] [] rfl rfl rfl rfl (by decide) rfl rfl (Nat.le_of_ble_eq_true rfl) dJ0_checkIndex_df160_5 ⟨Nat.le_of_ble_eq_true rfl, Nat.le_of_ble_eq_true rfl⟩ ⟨Nat.le_of_ble_eq_true rfl, Nat.le_of_ble_eq_true rfl⟩ (fun _ _ _ _ _ _ hX _ _ _ _ _ _ => hX.elim) (fun v w1 H locs hQ hP hD hS => ?_)
    obtain ⟨rfl, rfl⟩ := hQ
    have hP : va_P g.1 vwCl [] H := hP
    have hD : va_D A [] := hD
    refine W.widen (k := 0) (n := 0) (by decide) (by decide) ?_
    refine W.eq (g2 := F0 m 8 ls [.int 3]) rfl ?_
    refine lv_pop hx hb dJ0_checkIndex_df160_8 rfl ?_
    exact kretV K hP hD hS [] [] rfl rfl (⟨rfl, rfl⟩) (by decide) (by decide) dJ0_checkIndex_df160_9
  · refine va_gets (v := .ref q8) hx hb hq8 hS hown (G.w kw_522) (fun _ h9 => h9) dJ0_checkIndex_df160_2 ?_
    refine kcallS (wc := []) (wr := []) (As := [.int 3, .int 4, .ref q8]) (rest := []) K G (m_J3_checkIndex_8e157r l hl0 g 3 4 q8 (by decide) (by decide)) hP hD hS hA hl kw_10 kw_523 kw_13 kw_12 ydJ3_checkIndex_8e157 [] [] rfl rfl rfl rfl (by decide) rfl rfl (Nat.le_of_ble_eq_true rfl) dJ0_checkIndex_df160_5 ⟨Nat.le_of_ble_eq_true rfl, Nat.le_of_ble_eq_true rfl⟩ ⟨Nat.le_of_ble_eq_true rfl, Nat.le_of_ble_eq_true rfl⟩ (fun _ _ _ _ _ _ hX _ _ _ _ _ _ => hX.elim) (fun v w1 H locs hQ hP hD hS => ?_)
    obtain ⟨rfl, rfl⟩ := hQ
    have hP : va_P g.1 vwCl [] H := hP
    have hD : va_D A [] := hD
    refine W.widen (k := 0) (n := 0) (by decide) (by decide) ?_
    refine W.eq (g2 := F0 m 8 ls [.int 3]) rfl ?_
    refine lv_pop hx hb dJ0_checkIndex_df160_8 rfl ?_
    exact kretV K hP hD hS [] [] rfl rfl (⟨rfl, rfl⟩) (by decide) (by decide) dJ0_checkIndex_df160_9

set_option maxHeartbeats 4000000 in
set_option maxRecDepth 100000 in
theorem m_J1_charAt_3b067n3 (l : Launch) (hl0 : l.stackTraces = false) (g : kG)   : kc l g yJ1_charAt_3b067 prog_29_method_2_code 2 (some .char) 2 43 0 0 [.ref (g.2.2.2.2 0), .int 3] [] (fun v w => (v = some (.int 119) ∧ w = [])) (fun _ _ => False) := by
  refine kbody (by decide) (Nat.le_of_ble_eq_true rfl) ?_
  intro p e s m args below meth c A H K ht G hP hD hA hS ls hl
  have K : KB p s m meth c RJ1 "charAt" prog_29_method_2_code 2 (some .char) := K
  obtain ⟨hx, hb, hml, hown, hlocks, hr, hin⟩ := id K
  have hl : lv_has ls 2 [(0, .ref (g.2.2.2.2 0)), (1, .int 3)] := hl
  refine lv_iload_n hx hb dJ1_charAt_3b067_0 rfl (lv_at hl 1 rfl) ?_
  refine lv_aload_n hx hb dJ1_charAt_3b067_1 rfl (lv_at hl 0 rfl) ?_
  refine va_tlen (v := 4) hx hb (G.st.1 0 (by decide)).2.2.2 hS rfl dJ1_charAt_3b067_2 ?_
  refine kcallS (wc := []) (wr := []) (As := [.int 3, .int 4]) (rest := []) K G (m_J0_checkIndex_df1603 l hl0 g  ) hP hD hS hA hl kw_524 kw_525 kw_527 kw_526 ydJ0_checkIndex_df160 [] [] rfl rfl rfl rfl (by decide) rfl rfl (Nat.le_of_ble_eq_true rfl) dJ1_charAt_3b067_3 ⟨Nat.le_of_ble_eq_true rfl, Nat.le_of_ble_eq_true rfl⟩ ⟨Nat.le_of_ble_eq_true rfl, Nat.le_of_ble_eq_true rfl⟩ (fun _ _ _ _ _ _ hX _ _ _ _ _ _ => hX.elim) (fun v w1 H locs hQ hP hD hS => ?_)
  obtain ⟨rfl, rfl⟩ := hQ
  have hP : va_P g.1 vwCl [] H := hP
  have hD : va_D A [] := hD
  refine W.widen (k := 0) (n := 0) (by decide) (by decide) ?_
  refine W.eq (g2 := F0 m 6 ls []) rfl ?_
  refine lv_aload_n hx hb dJ1_charAt_3b067_6 rfl (lv_at hl 0 rfl) ?_
  refine lv_iload_n hx hb dJ1_charAt_3b067_7 rfl (lv_at hl 1 rfl) ?_
  refine va_tb (v := .int 119) hx hb (G.st.1 0 (by decide)).2.2.2 hS (i := 3) (vp_in_iff.mpr ⟨by decide, by decide⟩) rfl dJ1_charAt_3b067_8 ?_
  refine lv_sipush (v := 255) hx hb dJ1_charAt_3b067_9 (by decide) ?_
  refine lv_iand hx hb dJ1_charAt_3b067_12 ?_
  refine lv_topi (fun y_2 ey_2 => ?_)
  obtain rfl : y_2 = 119 := ey_2.trans (by decide)
  refine lv_i2c (v := 119) hx hb dJ1_charAt_3b067_13 (by decide) ?_
  exact kretZ K hP hD hS [] [] rfl rfl (⟨rfl, rfl⟩) (by decide) (by decide) dJ1_charAt_3b067_14

set_option maxHeartbeats 4000000 in
set_option maxRecDepth 100000 in
theorem m_J0_charAt_5068en3 (l : Launch) (hl0 : l.stackTraces = false) (g : kG)   : kc l g yJ0_charAt_5068e prog_28_method_56_code 2 (some .char) 3 64 0 0 [.ref (g.2.2.2.1 0), .int 3] [] (fun v w => (v = some (.int 119) ∧ w = [])) (fun _ _ => False) := by
  refine kbody (by decide) (Nat.le_of_ble_eq_true rfl) ?_
  intro p e s m args below meth c A H K ht G hP hD hA hS ls hl
  have K : KB p s m meth c RJ0 "charAt" prog_28_method_56_code 2 (some .char) := K
  obtain ⟨hx, hb, hml, hown, hlocks, hr, hin⟩ := id K
  have hl : lv_has ls 2 [(0, .ref (g.2.2.2.1 0)), (1, .int 3)] := hl
  refine lv_aload_n hx hb dJ0_charAt_5068e_0 rfl (lv_at hl 0 rfl) ?_
  refine kcallVr (wc := []) (wr := []) (As := []) (rest := []) K G (m_J0_isLatin1_aae02n l hl0 g  ) hP hD hS hA hl kw_528 kw_529 kw_530 kw_531 kw_526 ydJ0_isLatin1_aae02 [] [] rfl rfl rfl rfl (by decide) (vk_recv G.st (by decide) hS) rfl rfl (Nat.le_of_ble_eq_true rfl) dJ0_charAt_5068e_1 ⟨Nat.le_of_ble_eq_true rfl, Nat.le_of_ble_eq_true rfl⟩ ⟨Nat.le_of_ble_eq_true rfl, Nat.le_of_ble_eq_true rfl⟩ (fun _ _ _ _ _ _ hX _ _ _ _ _ _ => hX.elim) (fun v w1 H locs hQ hP hD hS => ?_)
  obtain ⟨rfl, rfl⟩ := hQ
  have hP : va_P g.1 vwCl [] H := hP
  have hD : va_D A [] := hD
  refine W.widen (k := 0) (n := 0) (by decide) (by decide) ?_
  refine W.eq (g2 := F0 m 4 ls [.int 1]) rfl ?_
  refine lv_if_eq (tgt := 16) hx hb dJ0_charAt_5068e_4 (by decide) (fun c4_2 => absurd c4_2 (by decide)) (fun _ => ?_)
  refine lv_aload_n hx hb dJ0_charAt_5068e_7 rfl (lv_at hl 0 rfl) ?_
  refine vk_getf (v := .ref (g.2.2.2.2 0)) hx hb (G.st.1 0 (by decide)).2.2.1 hS hown (G.w kw_532) (fun _ h9 => h9) dJ0_charAt_5068e_8 ?_
  refine lv_iload_n hx hb dJ0_charAt_5068e_11 rfl (lv_at hl 1 rfl) ?_
  refine kcallS (wc := []) (wr := []) (As := [.ref (g.2.2.2.2 0), .int 3]) (rest := []) K G (m_J1_charAt_3b067n3 l hl0 g  ) hP hD hS hA hl kw_533 kw_534 kw_536 kw_535 ydJ1_charAt_3b067 [] [] rfl rfl rfl rfl (by decide) rfl rfl (Nat.le_of_ble_eq_true rfl) dJ0_charAt_5068e_12 ⟨Nat.le_of_ble_eq_true rfl, Nat.le_of_ble_eq_true rfl⟩ ⟨Nat.le_of_ble_eq_true rfl, Nat.le_of_ble_eq_true rfl⟩ (fun _ _ _ _ _ _ hX _ _ _ _ _ _ => hX.elim) (fun v w1 H locs hQ hP hD hS => ?_)
  obtain ⟨rfl, rfl⟩ := hQ
  have hP : va_P g.1 vwCl [] H := hP
  have hD : va_D A [] := hD
  refine W.widen (k := 0) (n := 0) (by decide) (by decide) ?_
  refine W.eq (g2 := F0 m 15 ls [.int 119]) rfl ?_
  exact kretZ K hP hD hS [] [] rfl rfl (⟨rfl, rfl⟩) (by decide) (by decide) dJ0_charAt_5068e_15

set_option maxHeartbeats 4000000 in
set_option maxRecDepth 100000 in
theorem m_J0_isLatin1_aae02s (l : Launch) (hl0 : l.stackTraces = false) (g : kG)   : kc l g yJ0_isLatin1_aae02 prog_28_method_154_code 1 (some .boolean) 0 0 0 0 [.ref (g.2.2.2.1 1)] [] (fun v w => (v = some (.int 1) ∧ w = [])) (fun _ _ => False) := by
  refine kbody (by decide) (Nat.le_of_ble_eq_true rfl) ?_
  intro p e s m args below meth c A H K ht G hP hD hA hS ls hl
  have K : KB p s m meth c RJ0 "isLatin1" prog_28_method_154_code 1 (some .boolean) := K
  obtain ⟨hx, hb, hml, hown, hlocks, hr, hin⟩ := id K
  have hl : lv_has ls 1 [(0, .ref (g.2.2.2.1 1))] := hl
  refine va_gets (v := .int 1) hx hb G.cs hS hown (G.w kw_520) (fun _ h9 => h9) dJ0_isLatin1_aae02_0 ?_
  refine lv_if_eq (tgt := 17) hx hb dJ0_isLatin1_aae02_3 (by decide) (fun c3_1 => absurd c3_1 (by decide)) (fun _ => ?_)
  refine lv_aload_n hx hb dJ0_isLatin1_aae02_6 rfl (lv_at hl 0 rfl) ?_
  refine vk_getf (v := .int 0) hx hb (G.st.1 1 (by decide)).2.1 hS hown (G.w kw_521) (fun _ h9 => h9) dJ0_isLatin1_aae02_7 ?_
  refine lv_if_ne (tgt := 17) hx hb dJ0_isLatin1_aae02_10 (by decide) (fun c10_2 => absurd c10_2 (by decide)) (fun _ => ?_)
  refine lv_iconst (v := 1) hx hb dJ0_isLatin1_aae02_13 (by decide) ?_
  refine lv_goto (tgt := 18) hx hb dJ0_isLatin1_aae02_14 (by decide) ?_
  exact kretZ K hP hD hS [] [] rfl rfl (⟨rfl, rfl⟩) (by decide) (by decide) dJ0_isLatin1_aae02_18

set_option maxHeartbeats 4000000 in
set_option maxRecDepth 100000 in
theorem m_J0_checkIndex_df160s0 (l : Launch) (hl0 : l.stackTraces = false) (g : kG)   : kc l g yJ0_checkIndex_df160 prog_28_method_155_code 2 none 1 22 0 0 [.int 0, .int 3] [] (fun v w => (v = none ∧ w = [])) (fun _ _ => False) := by
  refine kbody (by decide) (Nat.le_of_ble_eq_true rfl) ?_
  intro p e s m args below meth c A H K ht G hP hD hA hS ls hl
  have K : KB p s m meth c RJ0 "checkIndex" prog_28_method_155_code 2 none := K
  obtain ⟨hx, hb, hml, hown, hlocks, hr, hin⟩ := id K
  have hl : lv_has ls 2 [(0, .int 0), (1, .int 3)] := hl
  refine lv_iload_n hx hb dJ0_checkIndex_df160_0 rfl (lv_at hl 0 rfl) ?_
  refine lv_iload_n hx hb dJ0_checkIndex_df160_1 rfl (lv_at hl 1 rfl) ?_
  rcases G.sio.1 with hq8 | ⟨q8, hq8⟩
  · refine va_gets (v := .null) hx hb hq8 hS hown (G.w kw_522) (fun _ h9 => h9) dJ0_checkIndex_df160_2 ?_
    refine kcallS (wc := []) (wr := []) (As := [.int 0, .int 3, .null]) (rest := []) K G (m_J3_checkIndex_8e157 l hl0 g 0 3 (by decide) (by decide)) hP hD hS hA hl kw_10 kw_523 kw_13 kw_12 ydJ3_checkIndex_8e157 [] [] rfl rfl rfl rfl (by decide) rfl rfl (Nat.le_of_ble_eq_true rfl) dJ0_checkIndex_df160_5 ⟨Nat.le_of_ble_eq_true rfl, Nat.le_of_ble_eq_true rfl⟩ ⟨Nat.le_of_ble_eq_true rfl, Nat.le_of_ble_eq_true rfl⟩ (fun _ _ _ _ _ _ hX _ _ _ _ _ _ => hX.elim) (fun v w1 H locs hQ hP hD hS => ?_)
    obtain ⟨rfl, rfl⟩ := hQ
    have hP : va_P g.1 vwCl [] H := hP
    have hD : va_D A [] := hD
    refine W.widen (k := 0) (n := 0) (by decide) (by decide) ?_
    refine W.eq (g2 := F0 m 8 ls [.int 0]) rfl ?_
    refine lv_pop hx hb dJ0_checkIndex_df160_8 rfl ?_
    exact kretV K hP hD hS [] [] rfl rfl (⟨rfl, rfl⟩) (by decide) (by decide) dJ0_checkIndex_df160_9
  · refine va_gets (v := .ref q8) hx hb hq8 hS hown (G.w kw_522) (fun _ h9 => h9) dJ0_checkIndex_df160_2 ?_
    refine kcallS (wc := []) (wr := []) (As := [.int 0, .int 3, .ref q8]) (rest := []) K G (m_J3_checkIndex_8e157r l hl0 g 0 3 q8 (by decide) (by decide)) hP hD hS hA hl kw_10 kw_523 kw_13 kw_12 ydJ3_checkIndex_8e157 [] [] rfl rfl rfl rfl (by decide) rfl rfl (Nat.le_of_ble_eq_true rfl) dJ0_checkIndex_df160_5 ⟨Nat.le_of_ble_eq_true rfl, Nat.le_of_ble_eq_true rfl⟩ ⟨Nat.le_of_ble_eq_true rfl, Nat.le_of_ble_eq_true rfl⟩ (fun _ _ _ _ _ _ hX _ _ _ _ _ _ => hX.elim) (fun v w1 H locs hQ hP hD hS => ?_)
    obtain ⟨rfl, rfl⟩ := hQ
    have hP : va_P g.1 vwCl [] H := hP
    have hD : va_D A [] := hD
    refine W.widen (k := 0) (n := 0) (by decide) (by decide) ?_
    refine W.eq (g2 := F0 m 8 ls [.int 0]) rfl ?_
    refine lv_pop hx hb dJ0_checkIndex_df160_8 rfl ?_
    exact kretV K hP hD hS [] [] rfl rfl (⟨rfl, rfl⟩) (by decide) (by decide) dJ0_checkIndex_df160_9

set_option maxHeartbeats 4000000 in
set_option maxRecDepth 100000 in
theorem m_J1_charAt_3b067s0 (l : Launch) (hl0 : l.stackTraces = false) (g : kG)   : kc l g yJ1_charAt_3b067 prog_29_method_2_code 2 (some .char) 2 43 0 0 [.ref (g.2.2.2.2 1), .int 0] [] (fun v w => (v = some (.int 115) ∧ w = [])) (fun _ _ => False) := by
  refine kbody (by decide) (Nat.le_of_ble_eq_true rfl) ?_
  intro p e s m args below meth c A H K ht G hP hD hA hS ls hl
  have K : KB p s m meth c RJ1 "charAt" prog_29_method_2_code 2 (some .char) := K
  obtain ⟨hx, hb, hml, hown, hlocks, hr, hin⟩ := id K
  have hl : lv_has ls 2 [(0, .ref (g.2.2.2.2 1)), (1, .int 0)] := hl
  refine lv_iload_n hx hb dJ1_charAt_3b067_0 rfl (lv_at hl 1 rfl) ?_
  refine lv_aload_n hx hb dJ1_charAt_3b067_1 rfl (lv_at hl 0 rfl) ?_
  refine va_tlen (v := 3) hx hb (G.st.1 1 (by decide)).2.2.2 hS rfl dJ1_charAt_3b067_2 ?_
  refine kcallS (wc := []) (wr := []) (As := [.int 0, .int 3]) (rest := []) K G (m_J0_checkIndex_df160s0 l hl0 g  ) hP hD hS hA hl kw_524 kw_525 kw_527 kw_526 ydJ0_checkIndex_df160 [] [] rfl rfl rfl rfl (by decide) rfl rfl (Nat.le_of_ble_eq_true rfl) dJ1_charAt_3b067_3 ⟨Nat.le_of_ble_eq_true rfl, Nat.le_of_ble_eq_true rfl⟩ ⟨Nat.le_of_ble_eq_true rfl, Nat.le_of_ble_eq_true rfl⟩ (fun _ _ _ _ _ _ hX _ _ _ _ _ _ => hX.elim) (fun v w1 H locs hQ hP hD hS => ?_)
  obtain ⟨rfl, rfl⟩ := hQ
  have hP : va_P g.1 vwCl [] H := hP
  have hD : va_D A [] := hD
  refine W.widen (k := 0) (n := 0) (by decide) (by decide) ?_
  refine W.eq (g2 := F0 m 6 ls []) rfl ?_
  refine lv_aload_n hx hb dJ1_charAt_3b067_6 rfl (lv_at hl 0 rfl) ?_
  refine lv_iload_n hx hb dJ1_charAt_3b067_7 rfl (lv_at hl 1 rfl) ?_
  refine va_tb (v := .int 115) hx hb (G.st.1 1 (by decide)).2.2.2 hS (i := 0) (vp_in_iff.mpr ⟨by decide, by decide⟩) rfl dJ1_charAt_3b067_8 ?_
  refine lv_sipush (v := 255) hx hb dJ1_charAt_3b067_9 (by decide) ?_
  refine lv_iand hx hb dJ1_charAt_3b067_12 ?_
  refine lv_topi (fun y_2 ey_2 => ?_)
  obtain rfl : y_2 = 115 := ey_2.trans (by decide)
  refine lv_i2c (v := 115) hx hb dJ1_charAt_3b067_13 (by decide) ?_
  exact kretZ K hP hD hS [] [] rfl rfl (⟨rfl, rfl⟩) (by decide) (by decide) dJ1_charAt_3b067_14

set_option maxHeartbeats 4000000 in
set_option maxRecDepth 100000 in
theorem m_J0_charAt_5068es0 (l : Launch) (hl0 : l.stackTraces = false) (g : kG)   : kc l g yJ0_charAt_5068e prog_28_method_56_code 2 (some .char) 3 64 0 0 [.ref (g.2.2.2.1 1), .int 0] [] (fun v w => (v = some (.int 115) ∧ w = [])) (fun _ _ => False) := by
  refine kbody (by decide) (Nat.le_of_ble_eq_true rfl) ?_
  intro p e s m args below meth c A H K ht G hP hD hA hS ls hl
  have K : KB p s m meth c RJ0 "charAt" prog_28_method_56_code 2 (some .char) := K
  obtain ⟨hx, hb, hml, hown, hlocks, hr, hin⟩ := id K
  have hl : lv_has ls 2 [(0, .ref (g.2.2.2.1 1)), (1, .int 0)] := hl
  refine lv_aload_n hx hb dJ0_charAt_5068e_0 rfl (lv_at hl 0 rfl) ?_
  refine kcallVr (wc := []) (wr := []) (As := []) (rest := []) K G (m_J0_isLatin1_aae02s l hl0 g  ) hP hD hS hA hl kw_528 kw_529 kw_530 kw_531 kw_526 ydJ0_isLatin1_aae02 [] [] rfl rfl rfl rfl (by decide) (vk_recv G.st (by decide) hS) rfl rfl (Nat.le_of_ble_eq_true rfl) dJ0_charAt_5068e_1 ⟨Nat.le_of_ble_eq_true rfl, Nat.le_of_ble_eq_true rfl⟩ ⟨Nat.le_of_ble_eq_true rfl, Nat.le_of_ble_eq_true rfl⟩ (fun _ _ _ _ _ _ hX _ _ _ _ _ _ => hX.elim) (fun v w1 H locs hQ hP hD hS => ?_)
  obtain ⟨rfl, rfl⟩ := hQ
  have hP : va_P g.1 vwCl [] H := hP
  have hD : va_D A [] := hD
  refine W.widen (k := 0) (n := 0) (by decide) (by decide) ?_
  refine W.eq (g2 := F0 m 4 ls [.int 1]) rfl ?_
  refine lv_if_eq (tgt := 16) hx hb dJ0_charAt_5068e_4 (by decide) (fun c4_2 => absurd c4_2 (by decide)) (fun _ => ?_)
  refine lv_aload_n hx hb dJ0_charAt_5068e_7 rfl (lv_at hl 0 rfl) ?_
  refine vk_getf (v := .ref (g.2.2.2.2 1)) hx hb (G.st.1 1 (by decide)).2.2.1 hS hown (G.w kw_532) (fun _ h9 => h9) dJ0_charAt_5068e_8 ?_
  refine lv_iload_n hx hb dJ0_charAt_5068e_11 rfl (lv_at hl 1 rfl) ?_
  refine kcallS (wc := []) (wr := []) (As := [.ref (g.2.2.2.2 1), .int 0]) (rest := []) K G (m_J1_charAt_3b067s0 l hl0 g  ) hP hD hS hA hl kw_533 kw_534 kw_536 kw_535 ydJ1_charAt_3b067 [] [] rfl rfl rfl rfl (by decide) rfl rfl (Nat.le_of_ble_eq_true rfl) dJ0_charAt_5068e_12 ⟨Nat.le_of_ble_eq_true rfl, Nat.le_of_ble_eq_true rfl⟩ ⟨Nat.le_of_ble_eq_true rfl, Nat.le_of_ble_eq_true rfl⟩ (fun _ _ _ _ _ _ hX _ _ _ _ _ _ => hX.elim) (fun v w1 H locs hQ hP hD hS => ?_)
  obtain ⟨rfl, rfl⟩ := hQ
  have hP : va_P g.1 vwCl [] H := hP
  have hD : va_D A [] := hD
  refine W.widen (k := 0) (n := 0) (by decide) (by decide) ?_
  refine W.eq (g2 := F0 m 15 ls [.int 115]) rfl ?_
  exact kretZ K hP hD hS [] [] rfl rfl (⟨rfl, rfl⟩) (by decide) (by decide) dJ0_charAt_5068e_15

set_option maxHeartbeats 4000000 in
set_option maxRecDepth 100000 in
theorem m_J0_checkIndex_df160s1 (l : Launch) (hl0 : l.stackTraces = false) (g : kG)   : kc l g yJ0_checkIndex_df160 prog_28_method_155_code 2 none 1 22 0 0 [.int 1, .int 3] [] (fun v w => (v = none ∧ w = [])) (fun _ _ => False) := by
  refine kbody (by decide) (Nat.le_of_ble_eq_true rfl) ?_
  intro p e s m args below meth c A H K ht G hP hD hA hS ls hl
  have K : KB p s m meth c RJ0 "checkIndex" prog_28_method_155_code 2 none := K
  obtain ⟨hx, hb, hml, hown, hlocks, hr, hin⟩ := id K
  have hl : lv_has ls 2 [(0, .int 1), (1, .int 3)] := hl
  refine lv_iload_n hx hb dJ0_checkIndex_df160_0 rfl (lv_at hl 0 rfl) ?_
  refine lv_iload_n hx hb dJ0_checkIndex_df160_1 rfl (lv_at hl 1 rfl) ?_
  rcases G.sio.1 with hq8 | ⟨q8, hq8⟩
  · refine va_gets (v := .null) hx hb hq8 hS hown (G.w kw_522) (fun _ h9 => h9) dJ0_checkIndex_df160_2 ?_
    refine kcallS (wc := []) (wr := []) (As := [.int 1, .int 3, .null]) (rest := []) K G (m_J3_checkIndex_8e157 l hl0 g 1 3 (by decide) (by decide)) hP hD hS hA hl kw_10 kw_523 kw_13 kw_12 ydJ3_checkIndex_8e157 [] [] rfl rfl rfl rfl (by decide) rfl rfl (Nat.le_of_ble_eq_true rfl) dJ0_checkIndex_df160_5 ⟨Nat.le_of_ble_eq_true rfl, Nat.le_of_ble_eq_true rfl⟩ ⟨Nat.le_of_ble_eq_true rfl, Nat.le_of_ble_eq_true rfl⟩ (fun _ _ _ _ _ _ hX _ _ _ _ _ _ => hX.elim) (fun v w1 H locs hQ hP hD hS => ?_)
    obtain ⟨rfl, rfl⟩ := hQ
    have hP : va_P g.1 vwCl [] H := hP
    have hD : va_D A [] := hD
    refine W.widen (k := 0) (n := 0) (by decide) (by decide) ?_
    refine W.eq (g2 := F0 m 8 ls [.int 1]) rfl ?_
    refine lv_pop hx hb dJ0_checkIndex_df160_8 rfl ?_
    exact kretV K hP hD hS [] [] rfl rfl (⟨rfl, rfl⟩) (by decide) (by decide) dJ0_checkIndex_df160_9
  · refine va_gets (v := .ref q8) hx hb hq8 hS hown (G.w kw_522) (fun _ h9 => h9) dJ0_checkIndex_df160_2 ?_
    refine kcallS (wc := []) (wr := []) (As := [.int 1, .int 3, .ref q8]) (rest := []) K G (m_J3_checkIndex_8e157r l hl0 g 1 3 q8 (by decide) (by decide)) hP hD hS hA hl kw_10 kw_523 kw_13 kw_12 ydJ3_checkIndex_8e157 [] [] rfl rfl rfl rfl (by decide) rfl rfl (Nat.le_of_ble_eq_true rfl) dJ0_checkIndex_df160_5 ⟨Nat.le_of_ble_eq_true rfl, Nat.le_of_ble_eq_true rfl⟩ ⟨Nat.le_of_ble_eq_true rfl, Nat.le_of_ble_eq_true rfl⟩ (fun _ _ _ _ _ _ hX _ _ _ _ _ _ => hX.elim) (fun v w1 H locs hQ hP hD hS => ?_)
    obtain ⟨rfl, rfl⟩ := hQ
    have hP : va_P g.1 vwCl [] H := hP
    have hD : va_D A [] := hD
    refine W.widen (k := 0) (n := 0) (by decide) (by decide) ?_
    refine W.eq (g2 := F0 m 8 ls [.int 1]) rfl ?_
    refine lv_pop hx hb dJ0_checkIndex_df160_8 rfl ?_
    exact kretV K hP hD hS [] [] rfl rfl (⟨rfl, rfl⟩) (by decide) (by decide) dJ0_checkIndex_df160_9

set_option maxHeartbeats 4000000 in
set_option maxRecDepth 100000 in
theorem m_J1_charAt_3b067s1 (l : Launch) (hl0 : l.stackTraces = false) (g : kG)   : kc l g yJ1_charAt_3b067 prog_29_method_2_code 2 (some .char) 2 43 0 0 [.ref (g.2.2.2.2 1), .int 1] [] (fun v w => (v = some (.int 109) ∧ w = [])) (fun _ _ => False) := by
  refine kbody (by decide) (Nat.le_of_ble_eq_true rfl) ?_
  intro p e s m args below meth c A H K ht G hP hD hA hS ls hl
  have K : KB p s m meth c RJ1 "charAt" prog_29_method_2_code 2 (some .char) := K
  obtain ⟨hx, hb, hml, hown, hlocks, hr, hin⟩ := id K
  have hl : lv_has ls 2 [(0, .ref (g.2.2.2.2 1)), (1, .int 1)] := hl
  refine lv_iload_n hx hb dJ1_charAt_3b067_0 rfl (lv_at hl 1 rfl) ?_
  refine lv_aload_n hx hb dJ1_charAt_3b067_1 rfl (lv_at hl 0 rfl) ?_
  refine va_tlen (v := 3) hx hb (G.st.1 1 (by decide)).2.2.2 hS rfl dJ1_charAt_3b067_2 ?_
  refine kcallS (wc := []) (wr := []) (As := [.int 1, .int 3]) (rest := []) K G (m_J0_checkIndex_df160s1 l hl0 g  ) hP hD hS hA hl kw_524 kw_525 kw_527 kw_526 ydJ0_checkIndex_df160 [] [] rfl rfl rfl rfl (by decide) rfl rfl (Nat.le_of_ble_eq_true rfl) dJ1_charAt_3b067_3 ⟨Nat.le_of_ble_eq_true rfl, Nat.le_of_ble_eq_true rfl⟩ ⟨Nat.le_of_ble_eq_true rfl, Nat.le_of_ble_eq_true rfl⟩ (fun _ _ _ _ _ _ hX _ _ _ _ _ _ => hX.elim) (fun v w1 H locs hQ hP hD hS => ?_)
  obtain ⟨rfl, rfl⟩ := hQ
  have hP : va_P g.1 vwCl [] H := hP
  have hD : va_D A [] := hD
  refine W.widen (k := 0) (n := 0) (by decide) (by decide) ?_
  refine W.eq (g2 := F0 m 6 ls []) rfl ?_
  refine lv_aload_n hx hb dJ1_charAt_3b067_6 rfl (lv_at hl 0 rfl) ?_
  refine lv_iload_n hx hb dJ1_charAt_3b067_7 rfl (lv_at hl 1 rfl) ?_
  refine va_tb (v := .int 109) hx hb (G.st.1 1 (by decide)).2.2.2 hS (i := 1) (vp_in_iff.mpr ⟨by decide, by decide⟩) rfl dJ1_charAt_3b067_8 ?_
  refine lv_sipush (v := 255) hx hb dJ1_charAt_3b067_9 (by decide) ?_
  refine lv_iand hx hb dJ1_charAt_3b067_12 ?_
  refine lv_topi (fun y_2 ey_2 => ?_)
  obtain rfl : y_2 = 109 := ey_2.trans (by decide)
  refine lv_i2c (v := 109) hx hb dJ1_charAt_3b067_13 (by decide) ?_
  exact kretZ K hP hD hS [] [] rfl rfl (⟨rfl, rfl⟩) (by decide) (by decide) dJ1_charAt_3b067_14

set_option maxHeartbeats 4000000 in
set_option maxRecDepth 100000 in
theorem m_J0_charAt_5068es1 (l : Launch) (hl0 : l.stackTraces = false) (g : kG)   : kc l g yJ0_charAt_5068e prog_28_method_56_code 2 (some .char) 3 64 0 0 [.ref (g.2.2.2.1 1), .int 1] [] (fun v w => (v = some (.int 109) ∧ w = [])) (fun _ _ => False) := by
  refine kbody (by decide) (Nat.le_of_ble_eq_true rfl) ?_
  intro p e s m args below meth c A H K ht G hP hD hA hS ls hl
  have K : KB p s m meth c RJ0 "charAt" prog_28_method_56_code 2 (some .char) := K
  obtain ⟨hx, hb, hml, hown, hlocks, hr, hin⟩ := id K
  have hl : lv_has ls 2 [(0, .ref (g.2.2.2.1 1)), (1, .int 1)] := hl
  refine lv_aload_n hx hb dJ0_charAt_5068e_0 rfl (lv_at hl 0 rfl) ?_
  refine kcallVr (wc := []) (wr := []) (As := []) (rest := []) K G (m_J0_isLatin1_aae02s l hl0 g  ) hP hD hS hA hl kw_528 kw_529 kw_530 kw_531 kw_526 ydJ0_isLatin1_aae02 [] [] rfl rfl rfl rfl (by decide) (vk_recv G.st (by decide) hS) rfl rfl (Nat.le_of_ble_eq_true rfl) dJ0_charAt_5068e_1 ⟨Nat.le_of_ble_eq_true rfl, Nat.le_of_ble_eq_true rfl⟩ ⟨Nat.le_of_ble_eq_true rfl, Nat.le_of_ble_eq_true rfl⟩ (fun _ _ _ _ _ _ hX _ _ _ _ _ _ => hX.elim) (fun v w1 H locs hQ hP hD hS => ?_)
  obtain ⟨rfl, rfl⟩ := hQ
  have hP : va_P g.1 vwCl [] H := hP
  have hD : va_D A [] := hD
  refine W.widen (k := 0) (n := 0) (by decide) (by decide) ?_
  refine W.eq (g2 := F0 m 4 ls [.int 1]) rfl ?_
  refine lv_if_eq (tgt := 16) hx hb dJ0_charAt_5068e_4 (by decide) (fun c4_2 => absurd c4_2 (by decide)) (fun _ => ?_)
  refine lv_aload_n hx hb dJ0_charAt_5068e_7 rfl (lv_at hl 0 rfl) ?_
  refine vk_getf (v := .ref (g.2.2.2.2 1)) hx hb (G.st.1 1 (by decide)).2.2.1 hS hown (G.w kw_532) (fun _ h9 => h9) dJ0_charAt_5068e_8 ?_
  refine lv_iload_n hx hb dJ0_charAt_5068e_11 rfl (lv_at hl 1 rfl) ?_
  refine kcallS (wc := []) (wr := []) (As := [.ref (g.2.2.2.2 1), .int 1]) (rest := []) K G (m_J1_charAt_3b067s1 l hl0 g  ) hP hD hS hA hl kw_533 kw_534 kw_536 kw_535 ydJ1_charAt_3b067 [] [] rfl rfl rfl rfl (by decide) rfl rfl (Nat.le_of_ble_eq_true rfl) dJ0_charAt_5068e_12 ⟨Nat.le_of_ble_eq_true rfl, Nat.le_of_ble_eq_true rfl⟩ ⟨Nat.le_of_ble_eq_true rfl, Nat.le_of_ble_eq_true rfl⟩ (fun _ _ _ _ _ _ hX _ _ _ _ _ _ => hX.elim) (fun v w1 H locs hQ hP hD hS => ?_)
  obtain ⟨rfl, rfl⟩ := hQ
  have hP : va_P g.1 vwCl [] H := hP
  have hD : va_D A [] := hD
  refine W.widen (k := 0) (n := 0) (by decide) (by decide) ?_
  refine W.eq (g2 := F0 m 15 ls [.int 109]) rfl ?_
  exact kretZ K hP hD hS [] [] rfl rfl (⟨rfl, rfl⟩) (by decide) (by decide) dJ0_charAt_5068e_15

set_option maxHeartbeats 4000000 in
set_option maxRecDepth 100000 in
theorem m_J0_checkIndex_df160s2 (l : Launch) (hl0 : l.stackTraces = false) (g : kG)   : kc l g yJ0_checkIndex_df160 prog_28_method_155_code 2 none 1 22 0 0 [.int 2, .int 3] [] (fun v w => (v = none ∧ w = [])) (fun _ _ => False) := by
  refine kbody (by decide) (Nat.le_of_ble_eq_true rfl) ?_
  intro p e s m args below meth c A H K ht G hP hD hA hS ls hl
  have K : KB p s m meth c RJ0 "checkIndex" prog_28_method_155_code 2 none := K
  obtain ⟨hx, hb, hml, hown, hlocks, hr, hin⟩ := id K
  have hl : lv_has ls 2 [(0, .int 2), (1, .int 3)] := hl
  refine lv_iload_n hx hb dJ0_checkIndex_df160_0 rfl (lv_at hl 0 rfl) ?_
  refine lv_iload_n hx hb dJ0_checkIndex_df160_1 rfl (lv_at hl 1 rfl) ?_
  rcases G.sio.1 with hq8 | ⟨q8, hq8⟩
  · refine va_gets (v := .null) hx hb hq8 hS hown (G.w kw_522) (fun _ h9 => h9) dJ0_checkIndex_df160_2 ?_
    refine kcallS (wc := []) (wr := []) (As := [.int 2, .int 3, .null]) (rest := []) K G (m_J3_checkIndex_8e157 l hl0 g 2 3 (by decide) (by decide)) hP hD hS hA hl kw_10 kw_523 kw_13 kw_12 ydJ3_checkIndex_8e157 [] [] rfl rfl rfl rfl (by decide) rfl rfl (Nat.le_of_ble_eq_true rfl) dJ0_checkIndex_df160_5 ⟨Nat.le_of_ble_eq_true rfl, Nat.le_of_ble_eq_true rfl⟩ ⟨Nat.le_of_ble_eq_true rfl, Nat.le_of_ble_eq_true rfl⟩ (fun _ _ _ _ _ _ hX _ _ _ _ _ _ => hX.elim) (fun v w1 H locs hQ hP hD hS => ?_)
    obtain ⟨rfl, rfl⟩ := hQ
    have hP : va_P g.1 vwCl [] H := hP
    have hD : va_D A [] := hD
    refine W.widen (k := 0) (n := 0) (by decide) (by decide) ?_
    refine W.eq (g2 := F0 m 8 ls [.int 2]) rfl ?_
    refine lv_pop hx hb dJ0_checkIndex_df160_8 rfl ?_
    exact kretV K hP hD hS [] [] rfl rfl (⟨rfl, rfl⟩) (by decide) (by decide) dJ0_checkIndex_df160_9
  · refine va_gets (v := .ref q8) hx hb hq8 hS hown (G.w kw_522) (fun _ h9 => h9) dJ0_checkIndex_df160_2 ?_
    refine kcallS (wc := []) (wr := []) (As := [.int 2, .int 3, .ref q8]) (rest := []) K G (m_J3_checkIndex_8e157r l hl0 g 2 3 q8 (by decide) (by decide)) hP hD hS hA hl kw_10 kw_523 kw_13 kw_12 ydJ3_checkIndex_8e157 [] [] rfl rfl rfl rfl (by decide) rfl rfl (Nat.le_of_ble_eq_true rfl) dJ0_checkIndex_df160_5 ⟨Nat.le_of_ble_eq_true rfl, Nat.le_of_ble_eq_true rfl⟩ ⟨Nat.le_of_ble_eq_true rfl, Nat.le_of_ble_eq_true rfl⟩ (fun _ _ _ _ _ _ hX _ _ _ _ _ _ => hX.elim) (fun v w1 H locs hQ hP hD hS => ?_)
    obtain ⟨rfl, rfl⟩ := hQ
    have hP : va_P g.1 vwCl [] H := hP
    have hD : va_D A [] := hD
    refine W.widen (k := 0) (n := 0) (by decide) (by decide) ?_
    refine W.eq (g2 := F0 m 8 ls [.int 2]) rfl ?_
    refine lv_pop hx hb dJ0_checkIndex_df160_8 rfl ?_
    exact kretV K hP hD hS [] [] rfl rfl (⟨rfl, rfl⟩) (by decide) (by decide) dJ0_checkIndex_df160_9

set_option maxHeartbeats 4000000 in
set_option maxRecDepth 100000 in
theorem m_J1_charAt_3b067s2 (l : Launch) (hl0 : l.stackTraces = false) (g : kG)   : kc l g yJ1_charAt_3b067 prog_29_method_2_code 2 (some .char) 2 43 0 0 [.ref (g.2.2.2.2 1), .int 2] [] (fun v w => (v = some (.int 114) ∧ w = [])) (fun _ _ => False) := by
  refine kbody (by decide) (Nat.le_of_ble_eq_true rfl) ?_
  intro p e s m args below meth c A H K ht G hP hD hA hS ls hl
  have K : KB p s m meth c RJ1 "charAt" prog_29_method_2_code 2 (some .char) := K
  obtain ⟨hx, hb, hml, hown, hlocks, hr, hin⟩ := id K
  have hl : lv_has ls 2 [(0, .ref (g.2.2.2.2 1)), (1, .int 2)] := hl
  refine lv_iload_n hx hb dJ1_charAt_3b067_0 rfl (lv_at hl 1 rfl) ?_
  refine lv_aload_n hx hb dJ1_charAt_3b067_1 rfl (lv_at hl 0 rfl) ?_
  refine va_tlen (v := 3) hx hb (G.st.1 1 (by decide)).2.2.2 hS rfl dJ1_charAt_3b067_2 ?_
  refine kcallS (wc := []) (wr := []) (As := [.int 2, .int 3]) (rest := []) K G (m_J0_checkIndex_df160s2 l hl0 g  ) hP hD hS hA hl kw_524 kw_525 kw_527 kw_526 ydJ0_checkIndex_df160 [] [] rfl rfl rfl rfl (by decide) rfl rfl (Nat.le_of_ble_eq_true rfl) dJ1_charAt_3b067_3 ⟨Nat.le_of_ble_eq_true rfl, Nat.le_of_ble_eq_true rfl⟩ ⟨Nat.le_of_ble_eq_true rfl, Nat.le_of_ble_eq_true rfl⟩ (fun _ _ _ _ _ _ hX _ _ _ _ _ _ => hX.elim) (fun v w1 H locs hQ hP hD hS => ?_)
  obtain ⟨rfl, rfl⟩ := hQ
  have hP : va_P g.1 vwCl [] H := hP
  have hD : va_D A [] := hD
  refine W.widen (k := 0) (n := 0) (by decide) (by decide) ?_
  refine W.eq (g2 := F0 m 6 ls []) rfl ?_
  refine lv_aload_n hx hb dJ1_charAt_3b067_6 rfl (lv_at hl 0 rfl) ?_
  refine lv_iload_n hx hb dJ1_charAt_3b067_7 rfl (lv_at hl 1 rfl) ?_
  refine va_tb (v := .int 114) hx hb (G.st.1 1 (by decide)).2.2.2 hS (i := 2) (vp_in_iff.mpr ⟨by decide, by decide⟩) rfl dJ1_charAt_3b067_8 ?_
  refine lv_sipush (v := 255) hx hb dJ1_charAt_3b067_9 (by decide) ?_
  refine lv_iand hx hb dJ1_charAt_3b067_12 ?_
  refine lv_topi (fun y_2 ey_2 => ?_)
  obtain rfl : y_2 = 114 := ey_2.trans (by decide)
  refine lv_i2c (v := 114) hx hb dJ1_charAt_3b067_13 (by decide) ?_
  exact kretZ K hP hD hS [] [] rfl rfl (⟨rfl, rfl⟩) (by decide) (by decide) dJ1_charAt_3b067_14

set_option maxHeartbeats 4000000 in
set_option maxRecDepth 100000 in
theorem m_J0_charAt_5068es2 (l : Launch) (hl0 : l.stackTraces = false) (g : kG)   : kc l g yJ0_charAt_5068e prog_28_method_56_code 2 (some .char) 3 64 0 0 [.ref (g.2.2.2.1 1), .int 2] [] (fun v w => (v = some (.int 114) ∧ w = [])) (fun _ _ => False) := by
  refine kbody (by decide) (Nat.le_of_ble_eq_true rfl) ?_
  intro p e s m args below meth c A H K ht G hP hD hA hS ls hl
  have K : KB p s m meth c RJ0 "charAt" prog_28_method_56_code 2 (some .char) := K
  obtain ⟨hx, hb, hml, hown, hlocks, hr, hin⟩ := id K
  have hl : lv_has ls 2 [(0, .ref (g.2.2.2.1 1)), (1, .int 2)] := hl
  refine lv_aload_n hx hb dJ0_charAt_5068e_0 rfl (lv_at hl 0 rfl) ?_
  refine kcallVr (wc := []) (wr := []) (As := []) (rest := []) K G (m_J0_isLatin1_aae02s l hl0 g  ) hP hD hS hA hl kw_528 kw_529 kw_530 kw_531 kw_526 ydJ0_isLatin1_aae02 [] [] rfl rfl rfl rfl (by decide) (vk_recv G.st (by decide) hS) rfl rfl (Nat.le_of_ble_eq_true rfl) dJ0_charAt_5068e_1 ⟨Nat.le_of_ble_eq_true rfl, Nat.le_of_ble_eq_true rfl⟩ ⟨Nat.le_of_ble_eq_true rfl, Nat.le_of_ble_eq_true rfl⟩ (fun _ _ _ _ _ _ hX _ _ _ _ _ _ => hX.elim) (fun v w1 H locs hQ hP hD hS => ?_)
  obtain ⟨rfl, rfl⟩ := hQ
  have hP : va_P g.1 vwCl [] H := hP
  have hD : va_D A [] := hD
  refine W.widen (k := 0) (n := 0) (by decide) (by decide) ?_
  refine W.eq (g2 := F0 m 4 ls [.int 1]) rfl ?_
  refine lv_if_eq (tgt := 16) hx hb dJ0_charAt_5068e_4 (by decide) (fun c4_2 => absurd c4_2 (by decide)) (fun _ => ?_)
  refine lv_aload_n hx hb dJ0_charAt_5068e_7 rfl (lv_at hl 0 rfl) ?_
  refine vk_getf (v := .ref (g.2.2.2.2 1)) hx hb (G.st.1 1 (by decide)).2.2.1 hS hown (G.w kw_532) (fun _ h9 => h9) dJ0_charAt_5068e_8 ?_
  refine lv_iload_n hx hb dJ0_charAt_5068e_11 rfl (lv_at hl 1 rfl) ?_
  refine kcallS (wc := []) (wr := []) (As := [.ref (g.2.2.2.2 1), .int 2]) (rest := []) K G (m_J1_charAt_3b067s2 l hl0 g  ) hP hD hS hA hl kw_533 kw_534 kw_536 kw_535 ydJ1_charAt_3b067 [] [] rfl rfl rfl rfl (by decide) rfl rfl (Nat.le_of_ble_eq_true rfl) dJ0_charAt_5068e_12 ⟨Nat.le_of_ble_eq_true rfl, Nat.le_of_ble_eq_true rfl⟩ ⟨Nat.le_of_ble_eq_true rfl, Nat.le_of_ble_eq_true rfl⟩ (fun _ _ _ _ _ _ hX _ _ _ _ _ _ => hX.elim) (fun v w1 H locs hQ hP hD hS => ?_)
  obtain ⟨rfl, rfl⟩ := hQ
  have hP : va_P g.1 vwCl [] H := hP
  have hD : va_D A [] := hD
  refine W.widen (k := 0) (n := 0) (by decide) (by decide) ?_
  refine W.eq (g2 := F0 m 15 ls [.int 114]) rfl ?_
  exact kretZ K hP hD hS [] [] rfl rfl (⟨rfl, rfl⟩) (by decide) (by decide) dJ0_charAt_5068e_15

theorem m_J0_charAt_5068enw (l : Launch) (hl0 : l.stackTraces = false) (g : kG) (i : Int32) (hw : i = 0 ∨ i = 1 ∨ i = 2 ∨ i = 3) : kc l g yJ0_charAt_5068e prog_28_method_56_code 2 (some .char) 3 64 0 0 [.ref (g.2.2.2.1 0), .int i] [] (fun v w => (v = some (.int (wchar i)) ∧ w = [])) (fun _ _ => False) := by
  rcases hw with rfl | rfl | rfl | rfl
  · exact m_J0_charAt_5068en0 l hl0 g  
  · exact m_J0_charAt_5068en1 l hl0 g  
  · exact m_J0_charAt_5068en2 l hl0 g  
  · exact m_J0_charAt_5068en3 l hl0 g  

theorem m_J0_charAt_5068esb (l : Launch) (hl0 : l.stackTraces = false) (g : kG) (i : Int32) (hb3 : i = 0 ∨ i = 1 ∨ i = 2) : kc l g yJ0_charAt_5068e prog_28_method_56_code 2 (some .char) 3 64 0 0 [.ref (g.2.2.2.1 1), .int i] [] (fun v w => (v = some (.int (bchar i)) ∧ w = [])) (fun _ _ => False) := by
  rcases hb3 with rfl | rfl | rfl
  · exact m_J0_charAt_5068es0 l hl0 g  
  · exact m_J0_charAt_5068es1 l hl0 g  
  · exact m_J0_charAt_5068es2 l hl0 g  

theorem kscr {L : Nat} (hL : L ≤ 260) {i : Int32} (hi : ¬ i < 0) (h : ¬ Int32.ofNat L ≤ i) : vp_in i L := by
  have z : (0 : Int32).toInt = 0 := by decide
  have a : 0 ≤ i.toInt := by have := Int32.le_iff_toInt_le.mp (Int32.not_lt.mp hi); rwa [z] at this
  have b := Int32.lt_iff_toInt_lt.mp (Int32.not_le.mp h)
  rw [show (Int32.ofNat L).toInt = (L : Int) from nI_toInt (by omega)] at b
  exact vp_in_iff.mpr ⟨a, by exact b⟩

