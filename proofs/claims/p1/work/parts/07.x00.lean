set_option maxHeartbeats 4000000 in
set_option maxRecDepth 100000 in
theorem m_J0_isLatin1_aae02 (l : Launch) (hl0 : l.stackTraces = false) (g : kG)   : kc l g yJ0_isLatin1_aae02 prog_29_method_154_code 1 (some .boolean) 0 0 0 0 [.ref (g.2.2.2.1 0)] [] (fun v w => (v = some (.int 1) ∧ w = [])) (fun _ _ => False) := by
  refine kbody (by decide) (Nat.le_of_ble_eq_true rfl) ?_
  intro p e s m args below meth c A H K ht G hP hD hA hS ls hl
  have K : KB p s m meth c RJ0 "isLatin1" prog_29_method_154_code 1 (some .boolean) := K
  obtain ⟨hx, hb, hml, hown, hlocks, hr, hin⟩ := id K
  have hl : lv_has ls 1 [(0, .ref (g.2.2.2.1 0))] := hl
  refine va_gets (v := .int 1) hx hb G.cs hS hown (G.w kw_271) (fun _ h9 => h9) dJ0_isLatin1_aae02_0 ?_
  refine lv_if_eq (tgt := 17) hx hb dJ0_isLatin1_aae02_3 (by decide) (fun c3_1 => absurd c3_1 (by decide)) (fun _ => ?_)
  refine lv_aload_n hx hb dJ0_isLatin1_aae02_6 rfl (lv_at hl 0 rfl) ?_
  refine vk_getf (v := .int 0) hx hb (G.st.1 0 (by decide)).2.1 hS hown (G.w kw_272) (fun _ h9 => h9) dJ0_isLatin1_aae02_7 ?_
  refine lv_if_ne (tgt := 17) hx hb dJ0_isLatin1_aae02_10 (by decide) (fun c10_2 => absurd c10_2 (by decide)) (fun _ => ?_)
  refine lv_iconst (v := 1) hx hb dJ0_isLatin1_aae02_13 (by decide) ?_
  refine lv_goto (tgt := 18) hx hb dJ0_isLatin1_aae02_14 (by decide) ?_
  exact kretZ K hP hD hS [] [] rfl rfl (⟨rfl, rfl⟩) (by decide) (by decide) dJ0_isLatin1_aae02_18

set_option maxHeartbeats 4000000 in
set_option maxRecDepth 100000 in
theorem m_J0_coder_7d493 (l : Launch) (hl0 : l.stackTraces = false) (g : kG)   : kc l g yJ0_coder_7d493 prog_29_method_152_code 1 (some .byte) 0 0 0 0 [.ref (g.2.2.2.1 0)] [] (fun v w => (v = some (.int 0) ∧ w = [])) (fun _ _ => False) := by
  refine kbody (by decide) (Nat.le_of_ble_eq_true rfl) ?_
  intro p e s m args below meth c A H K ht G hP hD hA hS ls hl
  have K : KB p s m meth c RJ0 "coder" prog_29_method_152_code 1 (some .byte) := K
  obtain ⟨hx, hb, hml, hown, hlocks, hr, hin⟩ := id K
  have hl : lv_has ls 1 [(0, .ref (g.2.2.2.1 0))] := hl
  refine va_gets (v := .int 1) hx hb G.cs hS hown (G.w kw_271) (fun _ h9 => h9) dJ0_coder_7d493_0 ?_
  refine lv_if_eq (tgt := 13) hx hb dJ0_coder_7d493_3 (by decide) (fun c3_1 => absurd c3_1 (by decide)) (fun _ => ?_)
  refine lv_aload_n hx hb dJ0_coder_7d493_6 rfl (lv_at hl 0 rfl) ?_
  refine vk_getf (v := .int 0) hx hb (G.st.1 0 (by decide)).2.1 hS hown (G.w kw_272) (fun _ h9 => h9) dJ0_coder_7d493_7 ?_
  refine lv_goto (tgt := 14) hx hb dJ0_coder_7d493_10 (by decide) ?_
  exact kretZ K hP hD hS [] [] rfl rfl (⟨rfl, rfl⟩) (by decide) (by decide) dJ0_coder_7d493_14

set_option maxHeartbeats 4000000 in
set_option maxRecDepth 100000 in
theorem m_J0_length_8abf5 (l : Launch) (hl0 : l.stackTraces = false) (g : kG)   : kc l g yJ0_length_8abf5 prog_29_method_54_code 1 (some .int) 1 20 0 0 [.ref (g.2.2.2.1 0)] [] (fun v w => (v = some (.int 4) ∧ w = [])) (fun _ _ => False) := by
  refine kbody (by decide) (Nat.le_of_ble_eq_true rfl) ?_
  intro p e s m args below meth c A H K ht G hP hD hA hS ls hl
  have K : KB p s m meth c RJ0 "length" prog_29_method_54_code 1 (some .int) := K
  obtain ⟨hx, hb, hml, hown, hlocks, hr, hin⟩ := id K
  have hl : lv_has ls 1 [(0, .ref (g.2.2.2.1 0))] := hl
  refine lv_aload_n hx hb dJ0_length_8abf5_0 rfl (lv_at hl 0 rfl) ?_
  refine vk_getf (v := .ref (g.2.2.2.2 0)) hx hb (G.st.1 0 (by decide)).2.2.1 hS hown (G.w kw_273) (fun _ h9 => h9) dJ0_length_8abf5_1 ?_
  refine va_tlen (v := 4) hx hb (G.st.1 0 (by decide)).2.2.2 hS rfl dJ0_length_8abf5_4 ?_
  refine lv_aload_n hx hb dJ0_length_8abf5_5 rfl (lv_at hl 0 rfl) ?_
  refine kcallVr (wc := []) (wr := []) (As := []) (rest := [.int 4]) K G (m_J0_coder_7d493 l hl0 g  ) hP hD hS hA hl kw_274 kw_275 kw_277 kw_278 kw_276 ydJ0_coder_7d493 [] [] rfl rfl rfl rfl (by decide) (vk_recv G.st (by decide) hS) rfl rfl (Nat.le_of_ble_eq_true rfl) dJ0_length_8abf5_6 ⟨Nat.le_of_ble_eq_true rfl, Nat.le_of_ble_eq_true rfl⟩ ⟨Nat.le_of_ble_eq_true rfl, Nat.le_of_ble_eq_true rfl⟩ (fun _ _ _ _ _ _ hX _ _ _ _ _ _ => hX.elim) (fun v w1 H locs hQ hP hD hS => ?_)
  obtain ⟨rfl, rfl⟩ := hQ
  have hP : va_P g.1 vwCl [] H := hP
  have hD : va_D A [] := hD
  refine W.widen (k := 0) (n := 0) (by decide) (by decide) ?_
  refine W.eq (g2 := F0 m 9 ls [.int 0, .int 4]) rfl ?_
  refine lv_ishr hx hb dJ0_length_8abf5_9 ?_
  refine lv_topi (fun y_2 ey_2 => ?_)
  obtain rfl : y_2 = 4 := ey_2.trans (by decide)
  exact kretI K hP hD hS [] [] rfl rfl (⟨rfl, rfl⟩) (by decide) (by decide) dJ0_length_8abf5_10

set_option maxHeartbeats 4000000 in
set_option maxRecDepth 100000 in
theorem m_J1_canEncode_9a6ad (l : Launch) (hl0 : l.stackTraces = false) (g : kG) (x : Int32)  : kc l g yJ1_canEncode_9a6ad prog_30_method_4_code 1 (some .boolean) 0 0 0 0 [.int x] [] (fun v w => (v = some (.int 1) ∧ w = [] ∧ ¬ x < 0 ∧ x ≤ 255) ∨ (v = some (.int 0) ∧ w = [] ∧ (x < 0 ∨ ¬ x ≤ 255))) (fun _ _ => False) := by
  refine kbody (by decide) (Nat.le_of_ble_eq_true rfl) ?_
  intro p e s m args below meth c A H K ht G hP hD hA hS ls hl
  have K : KB p s m meth c RJ1 "canEncode" prog_30_method_4_code 1 (some .boolean) := K
  obtain ⟨hx, hb, hml, hown, hlocks, hr, hin⟩ := id K
  have hl : lv_has ls 1 [(0, .int x)] := hl
  refine lv_iload_n hx hb dJ1_canEncode_9a6ad_0 rfl (lv_at hl 0 rfl) ?_
  refine lv_if_lt (tgt := 15) hx hb dJ1_canEncode_9a6ad_1 (by decide) (fun c1_1 => ?_) (fun c1_1 => ?_)
  · refine lv_iconst (v := 0) hx hb dJ1_canEncode_9a6ad_15 (by decide) ?_
    exact kretZ K hP hD hS [] [] rfl rfl (Or.inr (⟨rfl, rfl, (by exact Or.inl c1_1)⟩)) (by decide) (by decide) dJ1_canEncode_9a6ad_16
  · refine lv_iload_n hx hb dJ1_canEncode_9a6ad_4 rfl (lv_at hl 0 rfl) ?_
    refine lv_sipush (v := 255) hx hb dJ1_canEncode_9a6ad_5 (by decide) ?_
    refine lv_icmp_gt (tgt := 15) hx hb dJ1_canEncode_9a6ad_8 (by decide) (fun c8_2 => ?_) (fun c8_2 => ?_)
    · refine lv_iconst (v := 0) hx hb dJ1_canEncode_9a6ad_15 (by decide) ?_
      exact kretZ K hP hD hS [] [] rfl rfl (Or.inr (⟨rfl, rfl, (by exact Or.inr (Int32.not_le.mpr c8_2))⟩)) (by decide) (by decide) dJ1_canEncode_9a6ad_16
    · refine lv_iconst (v := 1) hx hb dJ1_canEncode_9a6ad_11 (by decide) ?_
      refine lv_goto (tgt := 16) hx hb dJ1_canEncode_9a6ad_12 (by decide) ?_
      exact kretZ K hP hD hS [] [] rfl rfl (Or.inl ⟨rfl, rfl, (by exact c1_1), (by exact Int32.not_lt.mp c8_2)⟩) (by decide) (by decide) dJ1_canEncode_9a6ad_16

set_option maxHeartbeats 4000000 in
set_option maxRecDepth 100000 in
theorem m_J1_indexOfChar_4cfef (l : Launch) (hl0 : l.stackTraces = false) (g : kG) (x : Int32)  : kc l g yJ1_indexOfChar_4cfef prog_30_method_23_code 6 (some .int) 0 0 0 0 [.ref (g.2.2.2.2 0), .int x, .int 0, .int 4] [] (fun v w => (v = some (.int 0) ∧ w = [] ∧ x.toInt8.toInt32 = 110) ∨ (v = some (.int 1) ∧ w = [] ∧ x.toInt8.toInt32 = 101) ∨ (v = some (.int 2) ∧ w = [] ∧ x.toInt8.toInt32 = 115) ∨ (v = some (.int 3) ∧ w = [] ∧ x.toInt8.toInt32 = 119) ∨ (v = some (.int (-1)) ∧ w = [] ∧ ¬ x.toInt8.toInt32 = 110 ∧ ¬ x.toInt8.toInt32 = 101 ∧ ¬ x.toInt8.toInt32 = 115 ∧ ¬ x.toInt8.toInt32 = 119)) (fun _ _ => False) := by
  refine kbody (by decide) (Nat.le_of_ble_eq_true rfl) ?_
  intro p e s m args below meth c A H K ht G hP hD hA hS ls hl
  have K : KB p s m meth c RJ1 "indexOfChar" prog_30_method_23_code 6 (some .int) := K
  obtain ⟨hx, hb, hml, hown, hlocks, hr, hin⟩ := id K
  have hl : lv_has ls 6 [(0, .ref (g.2.2.2.2 0)), (1, .int x), (2, .int 0), (3, .int 4)] := hl
  refine lv_iload_n hx hb dJ1_indexOfChar_4cfef_0 rfl (lv_at hl 1 rfl) ?_
  refine lv_i2b (v := x.toInt8.toInt32) hx hb dJ1_indexOfChar_4cfef_1 rfl ?_
  refine lv_istore (lv' := [(4, .int (x.toInt8.toInt32)), (0, .ref (g.2.2.2.2 0)), (1, .int x), (2, .int 0), (3, .int 4)]) hx hb dJ1_indexOfChar_4cfef_2 hl (by decide) rfl (fun ls hl => ?_)
  refine lv_iload_n hx hb dJ1_indexOfChar_4cfef_4 rfl (lv_at hl 3 rfl) ?_
  refine lv_istore (lv' := [(5, .int 0), (4, .int (x.toInt8.toInt32)), (0, .ref (g.2.2.2.2 0)), (1, .int x), (2, .int 0), (3, .int 4)]) hx hb dJ1_indexOfChar_4cfef_5 hl (by decide) rfl (fun ls hl => ?_)
  refine lv_iload hx hb dJ1_indexOfChar_4cfef_7 (lv_at hl 0 rfl) ?_
  refine lv_iload_n hx hb dJ1_indexOfChar_4cfef_9 rfl (lv_at hl 5 rfl) ?_
  refine lv_icmp_ge (tgt := 31) hx hb dJ1_indexOfChar_4cfef_10 (by decide) (fun c10_1 => absurd c10_1 (by decide)) (fun _ => ?_)
  refine lv_aload_n hx hb dJ1_indexOfChar_4cfef_13 rfl (lv_at hl 2 rfl) ?_
  refine lv_iload hx hb dJ1_indexOfChar_4cfef_14 (lv_at hl 0 rfl) ?_
  refine va_tb (v := .int 110) hx hb (G.st.1 0 (by decide)).2.2.2 hS (i := 0) (vp_in_iff.mpr ⟨by decide, by decide⟩) rfl dJ1_indexOfChar_4cfef_16 ?_
  refine lv_iload hx hb dJ1_indexOfChar_4cfef_17 (lv_at hl 1 rfl) ?_
  refine lv_icmp_ne (tgt := 25) hx hb dJ1_indexOfChar_4cfef_19 (by decide) (fun c19_2 => ?_) (fun c19_2 => ?_)
  · refine lv_iinc (v := 1) (lv' := [(5, .int 1), (4, .int (x.toInt8.toInt32)), (0, .ref (g.2.2.2.2 0)), (1, .int x), (2, .int 0), (3, .int 4)]) hx hb dJ1_indexOfChar_4cfef_25 hl (k := 0) rfl (by decide) (by decide) rfl (fun ls hl => ?_)
    refine lv_goto (tgt := 7) hx hb dJ1_indexOfChar_4cfef_28 (by decide) ?_
    refine lv_iload hx hb dJ1_indexOfChar_4cfef_7 (lv_at hl 0 rfl) ?_
    refine lv_iload_n hx hb dJ1_indexOfChar_4cfef_9 rfl (lv_at hl 5 rfl) ?_
    refine lv_icmp_ge (tgt := 31) hx hb dJ1_indexOfChar_4cfef_10 (by decide) (fun c10_3 => absurd c10_3 (by decide)) (fun _ => ?_)
    refine lv_aload_n hx hb dJ1_indexOfChar_4cfef_13 rfl (lv_at hl 2 rfl) ?_
    refine lv_iload hx hb dJ1_indexOfChar_4cfef_14 (lv_at hl 0 rfl) ?_
    refine va_tb (v := .int 101) hx hb (G.st.1 0 (by decide)).2.2.2 hS (i := 1) (vp_in_iff.mpr ⟨by decide, by decide⟩) rfl dJ1_indexOfChar_4cfef_16 ?_
    refine lv_iload hx hb dJ1_indexOfChar_4cfef_17 (lv_at hl 1 rfl) ?_
    refine lv_icmp_ne (tgt := 25) hx hb dJ1_indexOfChar_4cfef_19 (by decide) (fun c19_4 => ?_) (fun c19_4 => ?_)
    · refine lv_iinc (v := 2) (lv' := [(5, .int 2), (4, .int (x.toInt8.toInt32)), (0, .ref (g.2.2.2.2 0)), (1, .int x), (2, .int 0), (3, .int 4)]) hx hb dJ1_indexOfChar_4cfef_25 hl (k := 0) rfl (by decide) (by decide) rfl (fun ls hl => ?_)
      refine lv_goto (tgt := 7) hx hb dJ1_indexOfChar_4cfef_28 (by decide) ?_
      refine lv_iload hx hb dJ1_indexOfChar_4cfef_7 (lv_at hl 0 rfl) ?_
      refine lv_iload_n hx hb dJ1_indexOfChar_4cfef_9 rfl (lv_at hl 5 rfl) ?_
      refine lv_icmp_ge (tgt := 31) hx hb dJ1_indexOfChar_4cfef_10 (by decide) (fun c10_5 => absurd c10_5 (by decide)) (fun _ => ?_)
      refine lv_aload_n hx hb dJ1_indexOfChar_4cfef_13 rfl (lv_at hl 2 rfl) ?_
      refine lv_iload hx hb dJ1_indexOfChar_4cfef_14 (lv_at hl 0 rfl) ?_
      refine va_tb (v := .int 115) hx hb (G.st.1 0 (by decide)).2.2.2 hS (i := 2) (vp_in_iff.mpr ⟨by decide, by decide⟩) rfl dJ1_indexOfChar_4cfef_16 ?_
      refine lv_iload hx hb dJ1_indexOfChar_4cfef_17 (lv_at hl 1 rfl) ?_
      refine lv_icmp_ne (tgt := 25) hx hb dJ1_indexOfChar_4cfef_19 (by decide) (fun c19_6 => ?_) (fun c19_6 => ?_)
      · refine lv_iinc (v := 3) (lv' := [(5, .int 3), (4, .int (x.toInt8.toInt32)), (0, .ref (g.2.2.2.2 0)), (1, .int x), (2, .int 0), (3, .int 4)]) hx hb dJ1_indexOfChar_4cfef_25 hl (k := 0) rfl (by decide) (by decide) rfl (fun ls hl => ?_)
        refine lv_goto (tgt := 7) hx hb dJ1_indexOfChar_4cfef_28 (by decide) ?_
        refine lv_iload hx hb dJ1_indexOfChar_4cfef_7 (lv_at hl 0 rfl) ?_
        refine lv_iload_n hx hb dJ1_indexOfChar_4cfef_9 rfl (lv_at hl 5 rfl) ?_
        refine lv_icmp_ge (tgt := 31) hx hb dJ1_indexOfChar_4cfef_10 (by decide) (fun c10_7 => absurd c10_7 (by decide)) (fun _ => ?_)
        refine lv_aload_n hx hb dJ1_indexOfChar_4cfef_13 rfl (lv_at hl 2 rfl) ?_
        refine lv_iload hx hb dJ1_indexOfChar_4cfef_14 (lv_at hl 0 rfl) ?_
        refine va_tb (v := .int 119) hx hb (G.st.1 0 (by decide)).2.2.2 hS (i := 3) (vp_in_iff.mpr ⟨by decide, by decide⟩) rfl dJ1_indexOfChar_4cfef_16 ?_
        refine lv_iload hx hb dJ1_indexOfChar_4cfef_17 (lv_at hl 1 rfl) ?_
        refine lv_icmp_ne (tgt := 25) hx hb dJ1_indexOfChar_4cfef_19 (by decide) (fun c19_8 => ?_) (fun c19_8 => ?_)
        · refine lv_iinc (v := 4) (lv' := [(5, .int 4), (4, .int (x.toInt8.toInt32)), (0, .ref (g.2.2.2.2 0)), (1, .int x), (2, .int 0), (3, .int 4)]) hx hb dJ1_indexOfChar_4cfef_25 hl (k := 0) rfl (by decide) (by decide) rfl (fun ls hl => ?_)
          refine lv_goto (tgt := 7) hx hb dJ1_indexOfChar_4cfef_28 (by decide) ?_
          refine lv_iload hx hb dJ1_indexOfChar_4cfef_7 (lv_at hl 0 rfl) ?_
          refine lv_iload_n hx hb dJ1_indexOfChar_4cfef_9 rfl (lv_at hl 5 rfl) ?_
          refine lv_icmp_ge (tgt := 31) hx hb dJ1_indexOfChar_4cfef_10 (by decide) (fun _ => ?_) (fun c10_9 => absurd c10_9 (by decide))
          refine lv_iconst (v := (-1)) hx hb dJ1_indexOfChar_4cfef_31 (by decide) ?_
          exact kretI K hP hD hS [] [] rfl rfl (Or.inr (Or.inr (Or.inr (Or.inr (⟨rfl, rfl, (by exact fun h => c19_2 h.symm), (by exact fun h => c19_4 h.symm), (by exact fun h => c19_6 h.symm), (by exact fun h => c19_8 h.symm)⟩))))) (by decide) (by decide) dJ1_indexOfChar_4cfef_32
        · refine lv_iload hx hb dJ1_indexOfChar_4cfef_22 (lv_at hl 0 rfl) ?_
          exact kretI K hP hD hS [] [] rfl rfl (Or.inr (Or.inr (Or.inr (Or.inl ⟨rfl, rfl, (by exact c19_8.symm)⟩)))) (by decide) (by decide) dJ1_indexOfChar_4cfef_24
      · refine lv_iload hx hb dJ1_indexOfChar_4cfef_22 (lv_at hl 0 rfl) ?_
        exact kretI K hP hD hS [] [] rfl rfl (Or.inr (Or.inr (Or.inl ⟨rfl, rfl, (by exact c19_6.symm)⟩))) (by decide) (by decide) dJ1_indexOfChar_4cfef_24
    · refine lv_iload hx hb dJ1_indexOfChar_4cfef_22 (lv_at hl 0 rfl) ?_
      exact kretI K hP hD hS [] [] rfl rfl (Or.inr (Or.inl ⟨rfl, rfl, (by exact c19_4.symm)⟩)) (by decide) (by decide) dJ1_indexOfChar_4cfef_24
  · refine lv_iload hx hb dJ1_indexOfChar_4cfef_22 (lv_at hl 0 rfl) ?_
    exact kretI K hP hD hS [] [] rfl rfl (Or.inl ⟨rfl, rfl, (by exact c19_2.symm)⟩) (by decide) (by decide) dJ1_indexOfChar_4cfef_24

set_option maxHeartbeats 4000000 in
set_option maxRecDepth 100000 in
theorem m_J1_indexOf_4cfef (l : Launch) (hl0 : l.stackTraces = false) (g : kG) (x : Int32)  : kc l g yJ1_indexOf_4cfef prog_30_method_22_code 4 (some .int) 1 25 0 0 [.ref (g.2.2.2.2 0), .int x, .int 0, .int 4] [] (fun v w => (v = some (.int 0) ∧ w = [] ∧ kway x = true) ∨ (v = some (.int 1) ∧ w = [] ∧ kway x = true) ∨ (v = some (.int 2) ∧ w = [] ∧ kway x = true) ∨ (v = some (.int 3) ∧ w = [] ∧ kway x = true) ∨ (v = some (.int (-1)) ∧ w = [] ∧ kway x = false)) (fun _ _ => False) := by
  refine kbody (by decide) (Nat.le_of_ble_eq_true rfl) ?_
  intro p e s m args below meth c A H K ht G hP hD hA hS ls hl
  have K : KB p s m meth c RJ1 "indexOf" prog_30_method_22_code 4 (some .int) := K
  obtain ⟨hx, hb, hml, hown, hlocks, hr, hin⟩ := id K
  have hl : lv_has ls 4 [(0, .ref (g.2.2.2.2 0)), (1, .int x), (2, .int 0), (3, .int 4)] := hl
  refine lv_iload_n hx hb dJ1_indexOf_4cfef_0 rfl (lv_at hl 1 rfl) ?_
  refine kcallS (wc := []) (wr := []) (As := [.int x]) (rest := []) K G (m_J1_canEncode_9a6ad l hl0 g x ) hP hD hS hA hl kw_279 kw_280 kw_282 kw_281 ydJ1_canEncode_9a6ad [] [] rfl rfl rfl rfl (by decide) rfl rfl (Nat.le_of_ble_eq_true rfl) dJ1_indexOf_4cfef_1 ⟨Nat.le_of_ble_eq_true rfl, Nat.le_of_ble_eq_true rfl⟩ ⟨Nat.le_of_ble_eq_true rfl, Nat.le_of_ble_eq_true rfl⟩ (fun _ _ _ _ _ _ hX _ _ _ _ _ _ => hX.elim) (fun v w1 H locs hQ hP hD hS => ?_)
  rcases hQ with ⟨rfl, rfl, f_2, f_3⟩ | ⟨rfl, rfl, f_4⟩
  · have hP : va_P g.1 vwCl [] H := hP
    have hD : va_D A [] := hD
    refine W.widen (k := 0) (n := 0) (by decide) (by decide) ?_
    refine W.eq (g2 := F0 m 4 ls [.int 1]) rfl ?_
    refine lv_if_ne (tgt := 9) hx hb dJ1_indexOf_4cfef_4 (by decide) (fun _ => ?_) (fun c4_5 => absurd c4_5 (by decide))
    refine lv_iload_n hx hb dJ1_indexOf_4cfef_9 rfl (lv_at hl 2 rfl) ?_
    refine lv_iconst (v := 0) hx hb dJ1_indexOf_4cfef_10 (by decide) ?_
    refine va_mmax hx hb (by rw [hml]; exact hl.1.symm) hown (G.w kw_283) (G.w kw_24) (G.w kw_25) (G.w kw_26) (Nat.le_of_ble_eq_true rfl) (Nat.le_of_ble_eq_true rfl) (Nat.le_of_ble_eq_true rfl) (Nat.le_of_ble_eq_true rfl) dJ1_indexOf_4cfef_11 ?_
    refine lv_topi (fun y_6 ey_6 => ?_)
    obtain rfl : y_6 = 0 := ey_6.trans (by decide)
    refine lv_istore_n (lv' := [(2, .int 0), (0, .ref (g.2.2.2.2 0)), (1, .int x), (3, .int 4)]) hx hb dJ1_indexOf_4cfef_14 rfl hl (by decide) rfl (fun ls hl => ?_)
    refine lv_iload_n hx hb dJ1_indexOf_4cfef_15 rfl (lv_at hl 3 rfl) ?_
    refine lv_aload_n hx hb dJ1_indexOf_4cfef_16 rfl (lv_at hl 1 rfl) ?_
    refine va_tlen (v := 4) hx hb (G.st.1 0 (by decide)).2.2.2 hS rfl dJ1_indexOf_4cfef_17 ?_
    refine va_mmin hx hb (by rw [hml]; exact hl.1.symm) hown (G.w kw_284) (G.w kw_285) (G.w kw_25) (G.w kw_286) (Nat.le_of_ble_eq_true rfl) (Nat.le_of_ble_eq_true rfl) (Nat.le_of_ble_eq_true rfl) (Nat.le_of_ble_eq_true rfl) dJ1_indexOf_4cfef_18 ?_
    refine lv_topi (fun y_7 ey_7 => ?_)
    obtain rfl : y_7 = 4 := ey_7.trans (by decide)
    refine lv_istore_n (lv' := [(3, .int 4), (2, .int 0), (0, .ref (g.2.2.2.2 0)), (1, .int x)]) hx hb dJ1_indexOf_4cfef_21 rfl hl (by decide) rfl (fun ls hl => ?_)
    refine lv_iload_n hx hb dJ1_indexOf_4cfef_22 rfl (lv_at hl 1 rfl) ?_
    refine lv_iload_n hx hb dJ1_indexOf_4cfef_23 rfl (lv_at hl 0 rfl) ?_
    refine lv_icmp_lt (tgt := 29) hx hb dJ1_indexOf_4cfef_24 (by decide) (fun _ => ?_) (fun c24_8 => absurd c24_8 (by decide))
    refine lv_aload_n hx hb dJ1_indexOf_4cfef_29 rfl (lv_at hl 2 rfl) ?_
    refine lv_iload_n hx hb dJ1_indexOf_4cfef_30 rfl (lv_at hl 3 rfl) ?_
    refine lv_iload_n hx hb dJ1_indexOf_4cfef_31 rfl (lv_at hl 1 rfl) ?_
    refine lv_iload_n hx hb dJ1_indexOf_4cfef_32 rfl (lv_at hl 0 rfl) ?_
    refine kcallS (wc := []) (wr := []) (As := [.ref (g.2.2.2.2 0), .int x, .int 0, .int 4]) (rest := []) K G (m_J1_indexOfChar_4cfef l hl0 g x ) hP hD hS hA hl kw_287 kw_288 kw_289 kw_281 ydJ1_indexOfChar_4cfef [] [] rfl rfl rfl rfl (by decide) rfl rfl (Nat.le_of_ble_eq_true rfl) dJ1_indexOf_4cfef_33 ⟨Nat.le_of_ble_eq_true rfl, Nat.le_of_ble_eq_true rfl⟩ ⟨Nat.le_of_ble_eq_true rfl, Nat.le_of_ble_eq_true rfl⟩ (fun _ _ _ _ _ _ hX _ _ _ _ _ _ => hX.elim) (fun v w1 H locs hQ hP hD hS => ?_)
    rcases hQ with ⟨rfl, rfl, f_10⟩ | ⟨rfl, rfl, f_11⟩ | ⟨rfl, rfl, f_12⟩ | ⟨rfl, rfl, f_13⟩ | ⟨rfl, rfl, f_14, f_15, f_16, f_17⟩
    · have hP : va_P g.1 vwCl [] H := hP
      have hD : va_D A [] := hD
      refine W.widen (k := 0) (n := 0) (by decide) (by decide) ?_
      refine W.eq (g2 := F0 m 36 ls [.int 0]) rfl ?_
      exact kretI K hP hD hS [] [] rfl rfl (Or.inl ⟨rfl, rfl, (by exact kway_0 f_2 f_3 f_10)⟩) (by decide) (by decide) dJ1_indexOf_4cfef_36
    · have hP : va_P g.1 vwCl [] H := hP
      have hD : va_D A [] := hD
      refine W.widen (k := 0) (n := 0) (by decide) (by decide) ?_
      refine W.eq (g2 := F0 m 36 ls [.int 1]) rfl ?_
      exact kretI K hP hD hS [] [] rfl rfl (Or.inr (Or.inl ⟨rfl, rfl, (by exact kway_1 f_2 f_3 f_11)⟩)) (by decide) (by decide) dJ1_indexOf_4cfef_36
    · have hP : va_P g.1 vwCl [] H := hP
      have hD : va_D A [] := hD
      refine W.widen (k := 0) (n := 0) (by decide) (by decide) ?_
      refine W.eq (g2 := F0 m 36 ls [.int 2]) rfl ?_
      exact kretI K hP hD hS [] [] rfl rfl (Or.inr (Or.inr (Or.inl ⟨rfl, rfl, (by exact kway_2 f_2 f_3 f_12)⟩))) (by decide) (by decide) dJ1_indexOf_4cfef_36
    · have hP : va_P g.1 vwCl [] H := hP
      have hD : va_D A [] := hD
      refine W.widen (k := 0) (n := 0) (by decide) (by decide) ?_
      refine W.eq (g2 := F0 m 36 ls [.int 3]) rfl ?_
      exact kretI K hP hD hS [] [] rfl rfl (Or.inr (Or.inr (Or.inr (Or.inl ⟨rfl, rfl, (by exact kway_3 f_2 f_3 f_13)⟩)))) (by decide) (by decide) dJ1_indexOf_4cfef_36
    · have hP : va_P g.1 vwCl [] H := hP
      have hD : va_D A [] := hD
      refine W.widen (k := 0) (n := 0) (by decide) (by decide) ?_
      refine W.eq (g2 := F0 m 36 ls [.int (-1)]) rfl ?_
      exact kretI K hP hD hS [] [] rfl rfl (Or.inr (Or.inr (Or.inr (Or.inr (⟨rfl, rfl, (by exact kway_no f_2 f_3 f_14 f_15 f_16 f_17)⟩))))) (by decide) (by decide) dJ1_indexOf_4cfef_36
  · have hP : va_P g.1 vwCl [] H := hP
    have hD : va_D A [] := hD
    refine W.widen (k := 0) (n := 0) (by decide) (by decide) ?_
    refine W.eq (g2 := F0 m 4 ls [.int 0]) rfl ?_
    refine lv_if_ne (tgt := 9) hx hb dJ1_indexOf_4cfef_4 (by decide) (fun c4_18 => absurd c4_18 (by decide)) (fun _ => ?_)
    refine lv_iconst (v := (-1)) hx hb dJ1_indexOf_4cfef_7 (by decide) ?_
    exact kretI K hP hD hS [] [] rfl rfl (Or.inr (Or.inr (Or.inr (Or.inr (⟨rfl, rfl, (by exact kway_out f_4)⟩))))) (by decide) (by decide) dJ1_indexOf_4cfef_8

set_option maxHeartbeats 4000000 in
set_option maxRecDepth 100000 in
theorem m_J0_indexOf_7cf53 (l : Launch) (hl0 : l.stackTraces = false) (g : kG) (x : Int32)  : kc l g yJ0_indexOf_7cf53 prog_29_method_80_code 3 (some .int) 2 48 0 0 [.ref (g.2.2.2.1 0), .int x, .int 0] [] (fun v w => (v = some (.int 0) ∧ w = [] ∧ kway x = true) ∨ (v = some (.int 1) ∧ w = [] ∧ kway x = true) ∨ (v = some (.int 2) ∧ w = [] ∧ kway x = true) ∨ (v = some (.int 3) ∧ w = [] ∧ kway x = true) ∨ (v = some (.int (-1)) ∧ w = [] ∧ kway x = false)) (fun _ _ => False) := by
  refine kbody (by decide) (Nat.le_of_ble_eq_true rfl) ?_
  intro p e s m args below meth c A H K ht G hP hD hA hS ls hl
  have K : KB p s m meth c RJ0 "indexOf" prog_29_method_80_code 3 (some .int) := K
  obtain ⟨hx, hb, hml, hown, hlocks, hr, hin⟩ := id K
  have hl : lv_has ls 3 [(0, .ref (g.2.2.2.1 0)), (1, .int x), (2, .int 0)] := hl
  refine lv_aload_n hx hb dJ0_indexOf_7cf53_0 rfl (lv_at hl 0 rfl) ?_
  refine kcallVr (wc := []) (wr := []) (As := []) (rest := []) K G (m_J0_isLatin1_aae02 l hl0 g  ) hP hD hS hA hl kw_290 kw_291 kw_292 kw_293 kw_276 ydJ0_isLatin1_aae02 [] [] rfl rfl rfl rfl (by decide) (vk_recv G.st (by decide) hS) rfl rfl (Nat.le_of_ble_eq_true rfl) dJ0_indexOf_7cf53_1 ⟨Nat.le_of_ble_eq_true rfl, Nat.le_of_ble_eq_true rfl⟩ ⟨Nat.le_of_ble_eq_true rfl, Nat.le_of_ble_eq_true rfl⟩ (fun _ _ _ _ _ _ hX _ _ _ _ _ _ => hX.elim) (fun v w1 H locs hQ hP hD hS => ?_)
  obtain ⟨rfl, rfl⟩ := hQ
  have hP : va_P g.1 vwCl [] H := hP
  have hD : va_D A [] := hD
  refine W.widen (k := 0) (n := 0) (by decide) (by decide) ?_
  refine W.eq (g2 := F0 m 4 ls [.int 1]) rfl ?_
  refine lv_if_eq (tgt := 23) hx hb dJ0_indexOf_7cf53_4 (by decide) (fun c4_2 => absurd c4_2 (by decide)) (fun _ => ?_)
  refine lv_aload_n hx hb dJ0_indexOf_7cf53_7 rfl (lv_at hl 0 rfl) ?_
  refine vk_getf (v := .ref (g.2.2.2.2 0)) hx hb (G.st.1 0 (by decide)).2.2.1 hS hown (G.w kw_273) (fun _ h9 => h9) dJ0_indexOf_7cf53_8 ?_
  refine lv_iload_n hx hb dJ0_indexOf_7cf53_11 rfl (lv_at hl 1 rfl) ?_
  refine lv_iload_n hx hb dJ0_indexOf_7cf53_12 rfl (lv_at hl 2 rfl) ?_
  refine lv_aload_n hx hb dJ0_indexOf_7cf53_13 rfl (lv_at hl 0 rfl) ?_
  refine kcallVr (wc := []) (wr := []) (As := []) (rest := [.int 0, .int x, .ref (g.2.2.2.2 0)]) K G (m_J0_length_8abf5 l hl0 g  ) hP hD hS hA hl kw_294 kw_295 kw_296 kw_297 kw_276 ydJ0_length_8abf5 [] [] rfl rfl rfl rfl (by decide) (vk_recv G.st (by decide) hS) rfl rfl (Nat.le_of_ble_eq_true rfl) dJ0_indexOf_7cf53_14 ⟨Nat.le_of_ble_eq_true rfl, Nat.le_of_ble_eq_true rfl⟩ ⟨Nat.le_of_ble_eq_true rfl, Nat.le_of_ble_eq_true rfl⟩ (fun _ _ _ _ _ _ hX _ _ _ _ _ _ => hX.elim) (fun v w1 H locs hQ hP hD hS => ?_)
  obtain ⟨rfl, rfl⟩ := hQ
  have hP : va_P g.1 vwCl [] H := hP
  have hD : va_D A [] := hD
  refine W.widen (k := 0) (n := 0) (by decide) (by decide) ?_
  refine W.eq (g2 := F0 m 17 ls [.int 4, .int 0, .int x, .ref (g.2.2.2.2 0)]) rfl ?_
  refine kcallS (wc := []) (wr := []) (As := [.ref (g.2.2.2.2 0), .int x, .int 0, .int 4]) (rest := []) K G (m_J1_indexOf_4cfef l hl0 g x ) hP hD hS hA hl kw_298 kw_299 kw_300 kw_281 ydJ1_indexOf_4cfef [] [] rfl rfl rfl rfl (by decide) rfl rfl (Nat.le_of_ble_eq_true rfl) dJ0_indexOf_7cf53_17 ⟨Nat.le_of_ble_eq_true rfl, Nat.le_of_ble_eq_true rfl⟩ ⟨Nat.le_of_ble_eq_true rfl, Nat.le_of_ble_eq_true rfl⟩ (fun _ _ _ _ _ _ hX _ _ _ _ _ _ => hX.elim) (fun v w1 H locs hQ hP hD hS => ?_)
  rcases hQ with ⟨rfl, rfl, f_5⟩ | ⟨rfl, rfl, f_6⟩ | ⟨rfl, rfl, f_7⟩ | ⟨rfl, rfl, f_8⟩ | ⟨rfl, rfl, f_9⟩
  · have hP : va_P g.1 vwCl [] H := hP
    have hD : va_D A [] := hD
    refine W.widen (k := 0) (n := 0) (by decide) (by decide) ?_
    refine W.eq (g2 := F0 m 20 ls [.int 0]) rfl ?_
    refine lv_goto (tgt := 36) hx hb dJ0_indexOf_7cf53_20 (by decide) ?_
    exact kretI K hP hD hS [] [] rfl rfl (Or.inl ⟨rfl, rfl, (by exact f_5)⟩) (by decide) (by decide) dJ0_indexOf_7cf53_36
  · have hP : va_P g.1 vwCl [] H := hP
    have hD : va_D A [] := hD
    refine W.widen (k := 0) (n := 0) (by decide) (by decide) ?_
    refine W.eq (g2 := F0 m 20 ls [.int 1]) rfl ?_
    refine lv_goto (tgt := 36) hx hb dJ0_indexOf_7cf53_20 (by decide) ?_
    exact kretI K hP hD hS [] [] rfl rfl (Or.inr (Or.inl ⟨rfl, rfl, (by exact f_6)⟩)) (by decide) (by decide) dJ0_indexOf_7cf53_36
  · have hP : va_P g.1 vwCl [] H := hP
    have hD : va_D A [] := hD
    refine W.widen (k := 0) (n := 0) (by decide) (by decide) ?_
    refine W.eq (g2 := F0 m 20 ls [.int 2]) rfl ?_
    refine lv_goto (tgt := 36) hx hb dJ0_indexOf_7cf53_20 (by decide) ?_
    exact kretI K hP hD hS [] [] rfl rfl (Or.inr (Or.inr (Or.inl ⟨rfl, rfl, (by exact f_7)⟩))) (by decide) (by decide) dJ0_indexOf_7cf53_36
  · have hP : va_P g.1 vwCl [] H := hP
    have hD : va_D A [] := hD
    refine W.widen (k := 0) (n := 0) (by decide) (by decide) ?_
    refine W.eq (g2 := F0 m 20 ls [.int 3]) rfl ?_
    refine lv_goto (tgt := 36) hx hb dJ0_indexOf_7cf53_20 (by decide) ?_
    exact kretI K hP hD hS [] [] rfl rfl (Or.inr (Or.inr (Or.inr (Or.inl ⟨rfl, rfl, (by exact f_8)⟩)))) (by decide) (by decide) dJ0_indexOf_7cf53_36
  · have hP : va_P g.1 vwCl [] H := hP
    have hD : va_D A [] := hD
    refine W.widen (k := 0) (n := 0) (by decide) (by decide) ?_
    refine W.eq (g2 := F0 m 20 ls [.int (-1)]) rfl ?_
    refine lv_goto (tgt := 36) hx hb dJ0_indexOf_7cf53_20 (by decide) ?_
    exact kretI K hP hD hS [] [] rfl rfl (Or.inr (Or.inr (Or.inr (Or.inr (⟨rfl, rfl, (by exact f_9)⟩))))) (by decide) (by decide) dJ0_indexOf_7cf53_36

set_option maxHeartbeats 4000000 in
set_option maxRecDepth 100000 in
theorem m_J0_indexOf_0f7a4 (l : Launch) (hl0 : l.stackTraces = false) (g : kG) (x : Int32)  : kc l g yJ0_indexOf_0f7a4 prog_29_method_79_code 2 (some .int) 3 70 0 0 [.ref (g.2.2.2.1 0), .int x] [] (fun v w => (v = some (.int 0) ∧ w = [] ∧ kway x = true) ∨ (v = some (.int 1) ∧ w = [] ∧ kway x = true) ∨ (v = some (.int 2) ∧ w = [] ∧ kway x = true) ∨ (v = some (.int 3) ∧ w = [] ∧ kway x = true) ∨ (v = some (.int (-1)) ∧ w = [] ∧ kway x = false)) (fun _ _ => False) := by
  refine kbody (by decide) (Nat.le_of_ble_eq_true rfl) ?_
  intro p e s m args below meth c A H K ht G hP hD hA hS ls hl
  have K : KB p s m meth c RJ0 "indexOf" prog_29_method_79_code 2 (some .int) := K
  obtain ⟨hx, hb, hml, hown, hlocks, hr, hin⟩ := id K
  have hl : lv_has ls 2 [(0, .ref (g.2.2.2.1 0)), (1, .int x)] := hl
  refine lv_aload_n hx hb dJ0_indexOf_0f7a4_0 rfl (lv_at hl 0 rfl) ?_
  refine lv_iload_n hx hb dJ0_indexOf_0f7a4_1 rfl (lv_at hl 1 rfl) ?_
  refine lv_iconst (v := 0) hx hb dJ0_indexOf_0f7a4_2 (by decide) ?_
  refine kcallVr (wc := []) (wr := []) (As := [.int x, .int 0]) (rest := []) K G (m_J0_indexOf_7cf53 l hl0 g x ) hP hD hS hA hl kw_301 kw_302 kw_303 kw_304 kw_276 ydJ0_indexOf_7cf53 [] [] rfl rfl rfl rfl (by decide) (vk_recv G.st (by decide) hS) rfl rfl (Nat.le_of_ble_eq_true rfl) dJ0_indexOf_0f7a4_3 ⟨Nat.le_of_ble_eq_true rfl, Nat.le_of_ble_eq_true rfl⟩ ⟨Nat.le_of_ble_eq_true rfl, Nat.le_of_ble_eq_true rfl⟩ (fun _ _ _ _ _ _ hX _ _ _ _ _ _ => hX.elim) (fun v w1 H locs hQ hP hD hS => ?_)
  rcases hQ with ⟨rfl, rfl, f_2⟩ | ⟨rfl, rfl, f_3⟩ | ⟨rfl, rfl, f_4⟩ | ⟨rfl, rfl, f_5⟩ | ⟨rfl, rfl, f_6⟩
  · have hP : va_P g.1 vwCl [] H := hP
    have hD : va_D A [] := hD
    refine W.widen (k := 0) (n := 0) (by decide) (by decide) ?_
    refine W.eq (g2 := F0 m 6 ls [.int 0]) rfl ?_
    exact kretI K hP hD hS [] [] rfl rfl (Or.inl ⟨rfl, rfl, (by exact f_2)⟩) (by decide) (by decide) dJ0_indexOf_0f7a4_6
  · have hP : va_P g.1 vwCl [] H := hP
    have hD : va_D A [] := hD
    refine W.widen (k := 0) (n := 0) (by decide) (by decide) ?_
    refine W.eq (g2 := F0 m 6 ls [.int 1]) rfl ?_
    exact kretI K hP hD hS [] [] rfl rfl (Or.inr (Or.inl ⟨rfl, rfl, (by exact f_3)⟩)) (by decide) (by decide) dJ0_indexOf_0f7a4_6
  · have hP : va_P g.1 vwCl [] H := hP
    have hD : va_D A [] := hD
    refine W.widen (k := 0) (n := 0) (by decide) (by decide) ?_
    refine W.eq (g2 := F0 m 6 ls [.int 2]) rfl ?_
    exact kretI K hP hD hS [] [] rfl rfl (Or.inr (Or.inr (Or.inl ⟨rfl, rfl, (by exact f_4)⟩))) (by decide) (by decide) dJ0_indexOf_0f7a4_6
  · have hP : va_P g.1 vwCl [] H := hP
    have hD : va_D A [] := hD
    refine W.widen (k := 0) (n := 0) (by decide) (by decide) ?_
    refine W.eq (g2 := F0 m 6 ls [.int 3]) rfl ?_
    exact kretI K hP hD hS [] [] rfl rfl (Or.inr (Or.inr (Or.inr (Or.inl ⟨rfl, rfl, (by exact f_5)⟩)))) (by decide) (by decide) dJ0_indexOf_0f7a4_6
  · have hP : va_P g.1 vwCl [] H := hP
    have hD : va_D A [] := hD
    refine W.widen (k := 0) (n := 0) (by decide) (by decide) ?_
    refine W.eq (g2 := F0 m 6 ls [.int (-1)]) rfl ?_
    exact kretI K hP hD hS [] [] rfl rfl (Or.inr (Or.inr (Or.inr (Or.inr (⟨rfl, rfl, (by exact f_6)⟩))))) (by decide) (by decide) dJ0_indexOf_0f7a4_6

set_option maxHeartbeats 4000000 in
set_option maxRecDepth 100000 in
theorem m_X12_isIn (l : Launch) (hl0 : l.stackTraces = false) (g : kG) (x : Int32) (lo : Int32) (hi : Int32)  : kc l g yX12_isIn prog_14_method_4_code 3 (some .boolean) 0 0 0 0 [.int x, .int lo, .int hi] [] (fun v w => (v = some (.int 1) ∧ w = [] ∧ inR x lo hi = true) ∨ (v = some (.int 0) ∧ w = [] ∧ inR x lo hi = false)) (fun _ _ => False) := by
  refine kbody (by decide) (Nat.le_of_ble_eq_true rfl) ?_
  intro p e s m args below meth c A H K ht G hP hD hA hS ls hl
  have K : KB p s m meth c RX12 "isIn" prog_14_method_4_code 3 (some .boolean) := K
  obtain ⟨hx, hb, hml, hown, hlocks, hr, hin⟩ := id K
  have hl : lv_has ls 3 [(0, .int x), (1, .int lo), (2, .int hi)] := hl
  refine lv_iload_n hx hb dX12_isIn_0 rfl (lv_at hl 0 rfl) ?_
  refine lv_iload_n hx hb dX12_isIn_1 rfl (lv_at hl 1 rfl) ?_
  refine lv_icmp_lt (tgt := 14) hx hb dX12_isIn_2 (by decide) (fun c2_1 => ?_) (fun c2_1 => ?_)
  · refine lv_iconst (v := 0) hx hb dX12_isIn_14 (by decide) ?_
    exact kretZ K hP hD hS [] [] rfl rfl (Or.inr (⟨rfl, rfl, (by exact inR_l c2_1)⟩)) (by decide) (by decide) dX12_isIn_15
  · refine lv_iload_n hx hb dX12_isIn_5 rfl (lv_at hl 0 rfl) ?_
    refine lv_iload_n hx hb dX12_isIn_6 rfl (lv_at hl 2 rfl) ?_
    refine lv_icmp_gt (tgt := 14) hx hb dX12_isIn_7 (by decide) (fun c7_2 => ?_) (fun c7_2 => ?_)
    · refine lv_iconst (v := 0) hx hb dX12_isIn_14 (by decide) ?_
      exact kretZ K hP hD hS [] [] rfl rfl (Or.inr (⟨rfl, rfl, (by exact inR_g (Int32.not_le.mpr c7_2))⟩)) (by decide) (by decide) dX12_isIn_15
    · refine lv_iconst (v := 1) hx hb dX12_isIn_10 (by decide) ?_
      refine lv_goto (tgt := 15) hx hb dX12_isIn_11 (by decide) ?_
      exact kretZ K hP hD hS [] [] rfl rfl (Or.inl ⟨rfl, rfl, (by exact inR_t c2_1 (Int32.not_lt.mp c7_2))⟩) (by decide) (by decide) dX12_isIn_15

set_option maxHeartbeats 4000000 in
set_option maxRecDepth 100000 in
theorem m_X12_isIn0 (l : Launch) (hl0 : l.stackTraces = false) (g : kG) (x : Int32)  : kc l g yX12_isIn prog_14_method_4_code 3 (some .boolean) 0 0 0 0 [.int x, .int 0, .int (-1)] [] (fun v w => (v = some (.int 0) ∧ w = [])) (fun _ _ => False) := by
  refine kbody (by decide) (Nat.le_of_ble_eq_true rfl) ?_
  intro p e s m args below meth c A H K ht G hP hD hA hS ls hl
  have K : KB p s m meth c RX12 "isIn" prog_14_method_4_code 3 (some .boolean) := K
  obtain ⟨hx, hb, hml, hown, hlocks, hr, hin⟩ := id K
  have hl : lv_has ls 3 [(0, .int x), (1, .int 0), (2, .int (-1))] := hl
  refine lv_iload_n hx hb dX12_isIn_0 rfl (lv_at hl 0 rfl) ?_
  refine lv_iload_n hx hb dX12_isIn_1 rfl (lv_at hl 1 rfl) ?_
  refine lv_icmp_lt (tgt := 14) hx hb dX12_isIn_2 (by decide) (fun c2_1 => ?_) (fun c2_1 => ?_)
  · refine lv_iconst (v := 0) hx hb dX12_isIn_14 (by decide) ?_
    exact kretZ K hP hD hS [] [] rfl rfl (⟨rfl, rfl⟩) (by decide) (by decide) dX12_isIn_15
  · refine lv_iload_n hx hb dX12_isIn_5 rfl (lv_at hl 0 rfl) ?_
    refine lv_iload_n hx hb dX12_isIn_6 rfl (lv_at hl 2 rfl) ?_
    refine lv_icmp_gt (tgt := 14) hx hb dX12_isIn_7 (by decide) (fun c7_2 => ?_) (fun c7_2 => ?_)
    · refine lv_iconst (v := 0) hx hb dX12_isIn_14 (by decide) ?_
      exact kretZ K hP hD hS [] [] rfl rfl (⟨rfl, rfl⟩) (by decide) (by decide) dX12_isIn_15
    · exact absurd c7_2 (by exact fun h => h (Int32.lt_of_lt_of_le (by decide) (Int32.not_lt.mp c2_1)))

set_option maxHeartbeats 4000000 in
set_option maxRecDepth 100000 in
theorem m_X12_isPlace (l : Launch) (hl0 : l.stackTraces = false) (g : kG) (x : Int32) (y : Int32)  : kc l g yX12_isPlace prog_14_method_5_code 2 (some .boolean) 1 22 0 0 [.int x, .int y] [] (fun v w => (v = some (.int 1) ∧ w = [] ∧ (inR x (-999) 999 && inR y (-999) 999) = true) ∨ (v = some (.int 0) ∧ w = [] ∧ (inR x (-999) 999 && inR y (-999) 999) = false)) (fun _ _ => False) := by
  refine kbody (by decide) (Nat.le_of_ble_eq_true rfl) ?_
  intro p e s m args below meth c A H K ht G hP hD hA hS ls hl
  have K : KB p s m meth c RX12 "isPlace" prog_14_method_5_code 2 (some .boolean) := K
  obtain ⟨hx, hb, hml, hown, hlocks, hr, hin⟩ := id K
  have hl : lv_has ls 2 [(0, .int x), (1, .int y)] := hl
  refine lv_iload_n hx hb dX12_isPlace_0 rfl (lv_at hl 0 rfl) ?_
  refine lv_sipush (v := (-999)) hx hb dX12_isPlace_1 (by decide) ?_
  refine lv_sipush (v := 999) hx hb dX12_isPlace_4 (by decide) ?_
  refine kcallS (wc := []) (wr := []) (As := [.int x, .int (-999), .int 999]) (rest := []) K G (m_X12_isIn l hl0 g x (-999) 999 ) hP hD hS hA hl kw_305 kw_306 kw_308 kw_307 ydX12_isIn [] [] rfl rfl rfl rfl (by decide) rfl rfl (Nat.le_of_ble_eq_true rfl) dX12_isPlace_7 ⟨Nat.le_of_ble_eq_true rfl, Nat.le_of_ble_eq_true rfl⟩ ⟨Nat.le_of_ble_eq_true rfl, Nat.le_of_ble_eq_true rfl⟩ (fun _ _ _ _ _ _ hX _ _ _ _ _ _ => hX.elim) (fun v w1 H locs hQ hP hD hS => ?_)
  rcases hQ with ⟨rfl, rfl, f_2⟩ | ⟨rfl, rfl, f_3⟩
  · have hP : va_P g.1 vwCl [] H := hP
    have hD : va_D A [] := hD
    refine W.widen (k := 0) (n := 0) (by decide) (by decide) ?_
    refine W.eq (g2 := F0 m 10 ls [.int 1]) rfl ?_
    refine lv_if_eq (tgt := 30) hx hb dX12_isPlace_10 (by decide) (fun c10_4 => absurd c10_4 (by decide)) (fun _ => ?_)
    refine lv_iload_n hx hb dX12_isPlace_13 rfl (lv_at hl 1 rfl) ?_
    refine lv_sipush (v := (-999)) hx hb dX12_isPlace_14 (by decide) ?_
    refine lv_sipush (v := 999) hx hb dX12_isPlace_17 (by decide) ?_
    refine kcallS (wc := []) (wr := []) (As := [.int y, .int (-999), .int 999]) (rest := []) K G (m_X12_isIn l hl0 g y (-999) 999 ) hP hD hS hA hl kw_305 kw_306 kw_308 kw_307 ydX12_isIn [] [] rfl rfl rfl rfl (by decide) rfl rfl (Nat.le_of_ble_eq_true rfl) dX12_isPlace_20 ⟨Nat.le_of_ble_eq_true rfl, Nat.le_of_ble_eq_true rfl⟩ ⟨Nat.le_of_ble_eq_true rfl, Nat.le_of_ble_eq_true rfl⟩ (fun _ _ _ _ _ _ hX _ _ _ _ _ _ => hX.elim) (fun v w1 H locs hQ hP hD hS => ?_)
    rcases hQ with ⟨rfl, rfl, f_6⟩ | ⟨rfl, rfl, f_7⟩
    · have hP : va_P g.1 vwCl [] H := hP
      have hD : va_D A [] := hD
      refine W.widen (k := 0) (n := 0) (by decide) (by decide) ?_
      refine W.eq (g2 := F0 m 23 ls [.int 1]) rfl ?_
      refine lv_if_eq (tgt := 30) hx hb dX12_isPlace_23 (by decide) (fun c23_8 => absurd c23_8 (by decide)) (fun _ => ?_)
      refine lv_iconst (v := 1) hx hb dX12_isPlace_26 (by decide) ?_
      refine lv_goto (tgt := 31) hx hb dX12_isPlace_27 (by decide) ?_
      exact kretZ K hP hD hS [] [] rfl rfl (Or.inl ⟨rfl, rfl, (by simp [f_2, f_6])⟩) (by decide) (by decide) dX12_isPlace_31
    · have hP : va_P g.1 vwCl [] H := hP
      have hD : va_D A [] := hD
      refine W.widen (k := 0) (n := 0) (by decide) (by decide) ?_
      refine W.eq (g2 := F0 m 23 ls [.int 0]) rfl ?_
      refine lv_if_eq (tgt := 30) hx hb dX12_isPlace_23 (by decide) (fun _ => ?_) (fun c23_9 => absurd c23_9 (by decide))
      refine lv_iconst (v := 0) hx hb dX12_isPlace_30 (by decide) ?_
      exact kretZ K hP hD hS [] [] rfl rfl (Or.inr (⟨rfl, rfl, (by simp [f_2, f_7])⟩)) (by decide) (by decide) dX12_isPlace_31
  · have hP : va_P g.1 vwCl [] H := hP
    have hD : va_D A [] := hD
    refine W.widen (k := 0) (n := 0) (by decide) (by decide) ?_
    refine W.eq (g2 := F0 m 10 ls [.int 0]) rfl ?_
    refine lv_if_eq (tgt := 30) hx hb dX12_isPlace_10 (by decide) (fun _ => ?_) (fun c10_10 => absurd c10_10 (by decide))
    refine lv_iconst (v := 0) hx hb dX12_isPlace_30 (by decide) ?_
    exact kretZ K hP hD hS [] [] rfl rfl (Or.inr (⟨rfl, rfl, (by simp [f_3])⟩)) (by decide) (by decide) dX12_isPlace_31

set_option maxHeartbeats 4000000 in
set_option maxRecDepth 100000 in
theorem m_X12_thrown (l : Launch) (hl0 : l.stackTraces = false) (g : kG) (m0 : Nat) (r : Nat → Nat) (p0 : Nat) (p1 : Nat) (p9 : Nat) (p10 : Nat) (p18 : Nat) (p27 : Nat) (p28 : Nat) (p30 : Nat) (p44 : Nat) (p45 : Nat) (i0 : Int32) (i1 : Int32) (i2 : Int32) (i3 : Int32) (i4 : Int32) (i5 : Int32) (i6 : Int32) (i7 : Int32) (i8 : Int32) (i9 : Int32) (i10 : Int32) (t : Int32)  : kc l g yX12_thrown prog_14_method_2_code 1 (some .int) 0 0 0 0 [.ref m0] [(m0, .inr (16, mO r p0 p1 p9 p10 p18 p27 p28 p30 p44 p45 i0 i1 i2 i3 i4 i5 i6 i7 i8 i9 i10 t))] (fun v w => (v = some (.int t) ∧ w = [])) (fun _ _ => False) := by
  refine kbody (by decide) (Nat.le_of_ble_eq_true rfl) ?_
  intro p e s m args below meth c A H K ht G hP hD hA hS ls hl
  have K : KB p s m meth c RX12 "thrown" prog_14_method_2_code 1 (some .int) := K
  obtain ⟨hx, hb, hml, hown, hlocks, hr, hin⟩ := id K
  have hl : lv_has ls 1 [(0, .ref m0)] := hl
  refine lv_aload_n hx hb dX12_thrown_0 rfl (lv_at hl 0 rfl) ?_
  refine va_get (D := g.1) (ci := 16) (v := .int t) (C := RX12) (T := TX12) (N := 59) hx hb G.ws inX12 hown G.K hP 0 rfl rfl 58 (by decide) (G.w kw_309) (fun _ h9 => h9) rfl dX12_thrown_1 ?_
  exact kretI K hP hD hS [] [] rfl rfl (⟨rfl, rfl⟩) (by decide) (by decide) dX12_thrown_4

set_option maxHeartbeats 4000000 in
set_option maxRecDepth 100000 in
theorem m_X12_isThrown1 (l : Launch) (hl0 : l.stackTraces = false) (g : kG) (m0 : Nat) (r : Nat → Nat) (p0 : Nat) (p1 : Nat) (p9 : Nat) (p10 : Nat) (p18 : Nat) (p27 : Nat) (p28 : Nat) (p30 : Nat) (p44 : Nat) (p45 : Nat) (i0 : Int32) (i1 : Int32) (i2 : Int32) (i3 : Int32) (i4 : Int32) (i5 : Int32) (i6 : Int32) (i7 : Int32) (i8 : Int32) (i9 : Int32) (i10 : Int32) (t : Int32) (k : Int32)  : kc l g yX12_isThrown prog_14_method_3_code 3 (some .boolean) 0 0 0 0 [.ref m0, .int 1, .int k] [(m0, .inr (16, mO r p0 p1 p9 p10 p18 p27 p28 p30 p44 p45 i0 i1 i2 i3 i4 i5 i6 i7 i8 i9 i10 t))] (fun v w => (v = some (.int 1) ∧ w = [(m0, .inr (16, mO r p0 p1 p9 p10 p18 p27 p28 p30 p44 p45 i0 i1 i2 i3 i4 i5 i6 i7 i8 i9 i10 k))])) (fun _ _ => False) := by
  refine kbody (by decide) (Nat.le_of_ble_eq_true rfl) ?_
  intro p e s m args below meth c A H K ht G hP hD hA hS ls hl
  have K : KB p s m meth c RX12 "isThrown" prog_14_method_3_code 3 (some .boolean) := K
  obtain ⟨hx, hb, hml, hown, hlocks, hr, hin⟩ := id K
  have hl : lv_has ls 3 [(0, .ref m0), (1, .int 1), (2, .int k)] := hl
  refine lv_aload_n hx hb dX12_isThrown_0 rfl (lv_at hl 0 rfl) ?_
  refine lv_iload_n hx hb dX12_isThrown_1 rfl (lv_at hl 1 rfl) ?_
  refine lv_if_eq (tgt := 9) hx hb dX12_isThrown_2 (by decide) (fun c2_1 => absurd c2_1 (by decide)) (fun _ => ?_)
  refine lv_iload_n hx hb dX12_isThrown_5 rfl (lv_at hl 2 rfl) ?_
  refine lv_goto (tgt := 10) hx hb dX12_isThrown_6 (by decide) ?_
  refine va_put (D := g.1) (ci := 16) (v := .int k) (ty := .int) (C := RX12) (T := TX12) (N := 59) hx hb G.ws inX12 tyX12 tyX12_ok nmX12 hown G.K hP hD hS 0 rfl rfl 58 (by decide) (G.w kw_309) (fun _ h9 => h9) (by decide +kernel) (by decide +kernel) rfl rfl (Nat.le_of_ble_eq_true rfl) dX12_isThrown_10 (fun H locs hP hD hS => ?_)
  have hP : va_P g.1 vwCl [(m0, .inr (16, mO r p0 p1 p9 p10 p18 p27 p28 p30 p44 p45 i0 i1 i2 i3 i4 i5 i6 i7 i8 i9 i10 k))] H := hP
  have hD : va_D A [(m0, .inr (16, mO r p0 p1 p9 p10 p18 p27 p28 p30 p44 p45 i0 i1 i2 i3 i4 i5 i6 i7 i8 i9 i10 k))] := hD
  refine lv_iload_n hx hb dX12_isThrown_13 rfl (lv_at hl 1 rfl) ?_
  exact kretZ K hP hD hS [0] [(m0, .inr (16, mO r p0 p1 p9 p10 p18 p27 p28 p30 p44 p45 i0 i1 i2 i3 i4 i5 i6 i7 i8 i9 i10 k))] rfl rfl (⟨rfl, rfl⟩) (by decide) (by decide) dX12_isThrown_14

set_option maxHeartbeats 4000000 in
set_option maxRecDepth 100000 in
theorem m_X12_isThrown0 (l : Launch) (hl0 : l.stackTraces = false) (g : kG) (m0 : Nat) (r : Nat → Nat) (p0 : Nat) (p1 : Nat) (p9 : Nat) (p10 : Nat) (p18 : Nat) (p27 : Nat) (p28 : Nat) (p30 : Nat) (p44 : Nat) (p45 : Nat) (i0 : Int32) (i1 : Int32) (i2 : Int32) (i3 : Int32) (i4 : Int32) (i5 : Int32) (i6 : Int32) (i7 : Int32) (i8 : Int32) (i9 : Int32) (i10 : Int32) (t : Int32) (k : Int32)  : kc l g yX12_isThrown prog_14_method_3_code 3 (some .boolean) 0 0 0 0 [.ref m0, .int 0, .int k] [(m0, .inr (16, mO r p0 p1 p9 p10 p18 p27 p28 p30 p44 p45 i0 i1 i2 i3 i4 i5 i6 i7 i8 i9 i10 t))] (fun v w => (v = some (.int 0) ∧ w = [(m0, .inr (16, mO r p0 p1 p9 p10 p18 p27 p28 p30 p44 p45 i0 i1 i2 i3 i4 i5 i6 i7 i8 i9 i10 0))])) (fun _ _ => False) := by
  refine kbody (by decide) (Nat.le_of_ble_eq_true rfl) ?_
  intro p e s m args below meth c A H K ht G hP hD hA hS ls hl
  have K : KB p s m meth c RX12 "isThrown" prog_14_method_3_code 3 (some .boolean) := K
  obtain ⟨hx, hb, hml, hown, hlocks, hr, hin⟩ := id K
  have hl : lv_has ls 3 [(0, .ref m0), (1, .int 0), (2, .int k)] := hl
  refine lv_aload_n hx hb dX12_isThrown_0 rfl (lv_at hl 0 rfl) ?_
  refine lv_iload_n hx hb dX12_isThrown_1 rfl (lv_at hl 1 rfl) ?_
  refine lv_if_eq (tgt := 9) hx hb dX12_isThrown_2 (by decide) (fun _ => ?_) (fun c2_1 => absurd c2_1 (by decide))
  refine lv_iconst (v := 0) hx hb dX12_isThrown_9 (by decide) ?_
  refine va_put (D := g.1) (ci := 16) (v := .int 0) (ty := .int) (C := RX12) (T := TX12) (N := 59) hx hb G.ws inX12 tyX12 tyX12_ok nmX12 hown G.K hP hD hS 0 rfl rfl 58 (by decide) (G.w kw_309) (fun _ h9 => h9) (by decide +kernel) (by decide +kernel) rfl rfl (Nat.le_of_ble_eq_true rfl) dX12_isThrown_10 (fun H locs hP hD hS => ?_)
  have hP : va_P g.1 vwCl [(m0, .inr (16, mO r p0 p1 p9 p10 p18 p27 p28 p30 p44 p45 i0 i1 i2 i3 i4 i5 i6 i7 i8 i9 i10 0))] H := hP
  have hD : va_D A [(m0, .inr (16, mO r p0 p1 p9 p10 p18 p27 p28 p30 p44 p45 i0 i1 i2 i3 i4 i5 i6 i7 i8 i9 i10 0))] := hD
  refine lv_iload_n hx hb dX12_isThrown_13 rfl (lv_at hl 1 rfl) ?_
  exact kretZ K hP hD hS [0] [(m0, .inr (16, mO r p0 p1 p9 p10 p18 p27 p28 p30 p44 p45 i0 i1 i2 i3 i4 i5 i6 i7 i8 i9 i10 0))] rfl rfl (⟨rfl, rfl⟩) (by decide) (by decide) dX12_isThrown_14

set_option maxHeartbeats 4000000 in
set_option maxRecDepth 100000 in
theorem m_X12_isNoLand (l : Launch) (hl0 : l.stackTraces = false) (g : kG) (m0 : Nat) (r : Nat → Nat) (p0 : Nat) (p1 : Nat) (p9 : Nat) (p10 : Nat) (p18 : Nat) (p27 : Nat) (p28 : Nat) (p30 : Nat) (p44 : Nat) (p45 : Nat) (x : Int32) (t : Int32)  : kc l g yX12_isNoLand prog_14_method_7_code 2 (some .boolean) 1 22 0 0 [.ref m0, .int x] [(m0, .inr (16, mO r p0 p1 p9 p10 p18 p27 p28 p30 p44 p45 0 0 0 0 0 0 0 0 0 0 0 t))] (fun v w => (v = some (.int 1) ∧ w = [(m0, .inr (16, mO r p0 p1 p9 p10 p18 p27 p28 p30 p44 p45 0 0 0 0 0 0 0 0 0 0 0 t))])) (fun _ _ => False) := by
  refine kbody (by decide) (Nat.le_of_ble_eq_true rfl) ?_
  intro p e s m args below meth c A H K ht G hP hD hA hS ls hl
  have K : KB p s m meth c RX12 "isNoLand" prog_14_method_7_code 2 (some .boolean) := K
  obtain ⟨hx, hb, hml, hown, hlocks, hr, hin⟩ := id K
  have hl : lv_has ls 2 [(0, .ref m0), (1, .int x)] := hl
  refine lv_iload_n hx hb dX12_isNoLand_0 rfl (lv_at hl 1 rfl) ?_
  refine lv_iconst (v := 0) hx hb dX12_isNoLand_1 (by decide) ?_
  refine lv_aload_n hx hb dX12_isNoLand_2 rfl (lv_at hl 0 rfl) ?_
  refine va_get (D := g.1) (ci := 16) (v := .int 0) (C := RX12) (T := TX12) (N := 59) hx hb G.ws inX12 hown G.K hP 0 rfl rfl 47 (by decide) (G.w kw_310) (fun _ h9 => h9) rfl dX12_isNoLand_3 ?_
  refine lv_iconst (v := 1) hx hb dX12_isNoLand_6 (by decide) ?_
  refine lv_isub hx hb dX12_isNoLand_7 ?_
  refine lv_topi (fun y_1 ey_1 => ?_)
  obtain rfl : y_1 = (-1) := ey_1.trans (by decide)
  refine kcallS (wc := []) (wr := [(m0, .inr (16, mO r p0 p1 p9 p10 p18 p27 p28 p30 p44 p45 0 0 0 0 0 0 0 0 0 0 0 t))]) (As := [.int x, .int 0, .int (-1)]) (rest := []) K G (m_X12_isIn0 l hl0 g x ) hP hD hS hA hl kw_305 kw_306 kw_308 kw_307 ydX12_isIn [] [0] rfl rfl rfl rfl (by decide) rfl rfl (Nat.le_of_ble_eq_true rfl) dX12_isNoLand_8 ⟨Nat.le_of_ble_eq_true rfl, Nat.le_of_ble_eq_true rfl⟩ ⟨Nat.le_of_ble_eq_true rfl, Nat.le_of_ble_eq_true rfl⟩ (fun _ _ _ _ _ _ hX _ _ _ _ _ _ => hX.elim) (fun v w1 H locs hQ hP hD hS => ?_)
  obtain ⟨rfl, rfl⟩ := hQ
  have hP : va_P g.1 vwCl [(m0, .inr (16, mO r p0 p1 p9 p10 p18 p27 p28 p30 p44 p45 0 0 0 0 0 0 0 0 0 0 0 t))] H := hP
  have hD : va_D A [(m0, .inr (16, mO r p0 p1 p9 p10 p18 p27 p28 p30 p44 p45 0 0 0 0 0 0 0 0 0 0 0 t))] := hD
  refine W.widen (k := 0) (n := 0) (by decide) (by decide) ?_
  refine W.eq (g2 := F0 m 11 ls [.int 0]) rfl ?_
  refine lv_if_ne (tgt := 18) hx hb dX12_isNoLand_11 (by decide) (fun c11_3 => absurd c11_3 (by decide)) (fun _ => ?_)
  refine lv_iconst (v := 1) hx hb dX12_isNoLand_14 (by decide) ?_
  refine lv_goto (tgt := 19) hx hb dX12_isNoLand_15 (by decide) ?_
  exact kretZ K hP hD hS [0] [(m0, .inr (16, mO r p0 p1 p9 p10 p18 p27 p28 p30 p44 p45 0 0 0 0 0 0 0 0 0 0 0 t))] rfl rfl (⟨rfl, rfl⟩) (by decide) (by decide) dX12_isNoLand_19

set_option maxHeartbeats 4000000 in
set_option maxRecDepth 100000 in
theorem m_X12_isNoShip (l : Launch) (hl0 : l.stackTraces = false) (g : kG) (m0 : Nat) (r : Nat → Nat) (p0 : Nat) (p1 : Nat) (p9 : Nat) (p10 : Nat) (p18 : Nat) (p27 : Nat) (p28 : Nat) (p30 : Nat) (p44 : Nat) (p45 : Nat) (x : Int32) (t : Int32)  : kc l g yX12_isNoShip prog_14_method_8_code 2 (some .boolean) 1 22 0 0 [.ref m0, .int x] [(m0, .inr (16, mO r p0 p1 p9 p10 p18 p27 p28 p30 p44 p45 0 0 0 0 0 0 0 0 0 0 0 t))] (fun v w => (v = some (.int 1) ∧ w = [(m0, .inr (16, mO r p0 p1 p9 p10 p18 p27 p28 p30 p44 p45 0 0 0 0 0 0 0 0 0 0 0 t))])) (fun _ _ => False) := by
  refine kbody (by decide) (Nat.le_of_ble_eq_true rfl) ?_
  intro p e s m args below meth c A H K ht G hP hD hA hS ls hl
  have K : KB p s m meth c RX12 "isNoShip" prog_14_method_8_code 2 (some .boolean) := K
  obtain ⟨hx, hb, hml, hown, hlocks, hr, hin⟩ := id K
  have hl : lv_has ls 2 [(0, .ref m0), (1, .int x)] := hl
  refine lv_iload_n hx hb dX12_isNoShip_0 rfl (lv_at hl 1 rfl) ?_
  refine lv_iconst (v := 0) hx hb dX12_isNoShip_1 (by decide) ?_
  refine lv_aload_n hx hb dX12_isNoShip_2 rfl (lv_at hl 0 rfl) ?_
  refine va_get (D := g.1) (ci := 16) (v := .int 0) (C := RX12) (T := TX12) (N := 59) hx hb G.ws inX12 hown G.K hP 0 rfl rfl 48 (by decide) (G.w kw_311) (fun _ h9 => h9) rfl dX12_isNoShip_3 ?_
  refine lv_iconst (v := 1) hx hb dX12_isNoShip_6 (by decide) ?_
  refine lv_isub hx hb dX12_isNoShip_7 ?_
  refine lv_topi (fun y_1 ey_1 => ?_)
  obtain rfl : y_1 = (-1) := ey_1.trans (by decide)
  refine kcallS (wc := []) (wr := [(m0, .inr (16, mO r p0 p1 p9 p10 p18 p27 p28 p30 p44 p45 0 0 0 0 0 0 0 0 0 0 0 t))]) (As := [.int x, .int 0, .int (-1)]) (rest := []) K G (m_X12_isIn0 l hl0 g x ) hP hD hS hA hl kw_305 kw_306 kw_308 kw_307 ydX12_isIn [] [0] rfl rfl rfl rfl (by decide) rfl rfl (Nat.le_of_ble_eq_true rfl) dX12_isNoShip_8 ⟨Nat.le_of_ble_eq_true rfl, Nat.le_of_ble_eq_true rfl⟩ ⟨Nat.le_of_ble_eq_true rfl, Nat.le_of_ble_eq_true rfl⟩ (fun _ _ _ _ _ _ hX _ _ _ _ _ _ => hX.elim) (fun v w1 H locs hQ hP hD hS => ?_)
  obtain ⟨rfl, rfl⟩ := hQ
  have hP : va_P g.1 vwCl [(m0, .inr (16, mO r p0 p1 p9 p10 p18 p27 p28 p30 p44 p45 0 0 0 0 0 0 0 0 0 0 0 t))] H := hP
  have hD : va_D A [(m0, .inr (16, mO r p0 p1 p9 p10 p18 p27 p28 p30 p44 p45 0 0 0 0 0 0 0 0 0 0 0 t))] := hD
  refine W.widen (k := 0) (n := 0) (by decide) (by decide) ?_
  refine W.eq (g2 := F0 m 11 ls [.int 0]) rfl ?_
  refine lv_if_ne (tgt := 18) hx hb dX12_isNoShip_11 (by decide) (fun c11_3 => absurd c11_3 (by decide)) (fun _ => ?_)
  refine lv_iconst (v := 1) hx hb dX12_isNoShip_14 (by decide) ?_
  refine lv_goto (tgt := 19) hx hb dX12_isNoShip_15 (by decide) ?_
  exact kretZ K hP hD hS [0] [(m0, .inr (16, mO r p0 p1 p9 p10 p18 p27 p28 p30 p44 p45 0 0 0 0 0 0 0 0 0 0 0 t))] rfl rfl (⟨rfl, rfl⟩) (by decide) (by decide) dX12_isNoShip_19

set_option maxHeartbeats 4000000 in
set_option maxRecDepth 100000 in
theorem m_X12_isNoTown (l : Launch) (hl0 : l.stackTraces = false) (g : kG) (m0 : Nat) (r : Nat → Nat) (p0 : Nat) (p1 : Nat) (p9 : Nat) (p10 : Nat) (p18 : Nat) (p27 : Nat) (p28 : Nat) (p30 : Nat) (p44 : Nat) (p45 : Nat) (x : Int32) (t : Int32)  : kc l g yX12_isNoTown prog_14_method_53_code 2 (some .boolean) 1 22 0 0 [.ref m0, .int x] [(m0, .inr (16, mO r p0 p1 p9 p10 p18 p27 p28 p30 p44 p45 0 0 0 0 0 0 0 0 0 0 0 t))] (fun v w => (v = some (.int 1) ∧ w = [(m0, .inr (16, mO r p0 p1 p9 p10 p18 p27 p28 p30 p44 p45 0 0 0 0 0 0 0 0 0 0 0 t))])) (fun _ _ => False) := by
  refine kbody (by decide) (Nat.le_of_ble_eq_true rfl) ?_
  intro p e s m args below meth c A H K ht G hP hD hA hS ls hl
  have K : KB p s m meth c RX12 "isNoTown" prog_14_method_53_code 2 (some .boolean) := K
  obtain ⟨hx, hb, hml, hown, hlocks, hr, hin⟩ := id K
  have hl : lv_has ls 2 [(0, .ref m0), (1, .int x)] := hl
  refine lv_iload_n hx hb dX12_isNoTown_0 rfl (lv_at hl 1 rfl) ?_
  refine lv_iconst (v := 0) hx hb dX12_isNoTown_1 (by decide) ?_
  refine lv_aload_n hx hb dX12_isNoTown_2 rfl (lv_at hl 0 rfl) ?_
  refine va_get (D := g.1) (ci := 16) (v := .int 0) (C := RX12) (T := TX12) (N := 59) hx hb G.ws inX12 hown G.K hP 0 rfl rfl 49 (by decide) (G.w kw_312) (fun _ h9 => h9) rfl dX12_isNoTown_3 ?_
  refine lv_iconst (v := 1) hx hb dX12_isNoTown_6 (by decide) ?_
  refine lv_isub hx hb dX12_isNoTown_7 ?_
  refine lv_topi (fun y_1 ey_1 => ?_)
  obtain rfl : y_1 = (-1) := ey_1.trans (by decide)
  refine kcallS (wc := []) (wr := [(m0, .inr (16, mO r p0 p1 p9 p10 p18 p27 p28 p30 p44 p45 0 0 0 0 0 0 0 0 0 0 0 t))]) (As := [.int x, .int 0, .int (-1)]) (rest := []) K G (m_X12_isIn0 l hl0 g x ) hP hD hS hA hl kw_305 kw_306 kw_308 kw_307 ydX12_isIn [] [0] rfl rfl rfl rfl (by decide) rfl rfl (Nat.le_of_ble_eq_true rfl) dX12_isNoTown_8 ⟨Nat.le_of_ble_eq_true rfl, Nat.le_of_ble_eq_true rfl⟩ ⟨Nat.le_of_ble_eq_true rfl, Nat.le_of_ble_eq_true rfl⟩ (fun _ _ _ _ _ _ hX _ _ _ _ _ _ => hX.elim) (fun v w1 H locs hQ hP hD hS => ?_)
  obtain ⟨rfl, rfl⟩ := hQ
  have hP : va_P g.1 vwCl [(m0, .inr (16, mO r p0 p1 p9 p10 p18 p27 p28 p30 p44 p45 0 0 0 0 0 0 0 0 0 0 0 t))] H := hP
  have hD : va_D A [(m0, .inr (16, mO r p0 p1 p9 p10 p18 p27 p28 p30 p44 p45 0 0 0 0 0 0 0 0 0 0 0 t))] := hD
  refine W.widen (k := 0) (n := 0) (by decide) (by decide) ?_
  refine W.eq (g2 := F0 m 11 ls [.int 0]) rfl ?_
  refine lv_if_ne (tgt := 18) hx hb dX12_isNoTown_11 (by decide) (fun c11_3 => absurd c11_3 (by decide)) (fun _ => ?_)
  refine lv_iconst (v := 1) hx hb dX12_isNoTown_14 (by decide) ?_
  refine lv_goto (tgt := 19) hx hb dX12_isNoTown_15 (by decide) ?_
  exact kretZ K hP hD hS [0] [(m0, .inr (16, mO r p0 p1 p9 p10 p18 p27 p28 p30 p44 p45 0 0 0 0 0 0 0 0 0 0 0 t))] rfl rfl (⟨rfl, rfl⟩) (by decide) (by decide) dX12_isNoTown_19

set_option maxHeartbeats 4000000 in
set_option maxRecDepth 100000 in
theorem m_X12_isNobody (l : Launch) (hl0 : l.stackTraces = false) (g : kG) (m0 : Nat) (r : Nat → Nat) (p0 : Nat) (p1 : Nat) (p9 : Nat) (p10 : Nat) (p18 : Nat) (p27 : Nat) (p28 : Nat) (p30 : Nat) (p44 : Nat) (p45 : Nat) (x : Int32) (t : Int32)  : kc l g yX12_isNobody prog_14_method_57_code 2 (some .boolean) 1 22 0 0 [.ref m0, .int x] [(m0, .inr (16, mO r p0 p1 p9 p10 p18 p27 p28 p30 p44 p45 0 0 0 0 0 0 0 0 0 0 0 t))] (fun v w => (v = some (.int 1) ∧ w = [(m0, .inr (16, mO r p0 p1 p9 p10 p18 p27 p28 p30 p44 p45 0 0 0 0 0 0 0 0 0 0 0 t))])) (fun _ _ => False) := by
  refine kbody (by decide) (Nat.le_of_ble_eq_true rfl) ?_
  intro p e s m args below meth c A H K ht G hP hD hA hS ls hl
  have K : KB p s m meth c RX12 "isNobody" prog_14_method_57_code 2 (some .boolean) := K
  obtain ⟨hx, hb, hml, hown, hlocks, hr, hin⟩ := id K
  have hl : lv_has ls 2 [(0, .ref m0), (1, .int x)] := hl
  refine lv_iload_n hx hb dX12_isNobody_0 rfl (lv_at hl 1 rfl) ?_
  refine lv_iconst (v := 0) hx hb dX12_isNobody_1 (by decide) ?_
  refine lv_aload_n hx hb dX12_isNobody_2 rfl (lv_at hl 0 rfl) ?_
  refine va_get (D := g.1) (ci := 16) (v := .int 0) (C := RX12) (T := TX12) (N := 59) hx hb G.ws inX12 hown G.K hP 0 rfl rfl 50 (by decide) (G.w kw_313) (fun _ h9 => h9) rfl dX12_isNobody_3 ?_
  refine lv_iconst (v := 1) hx hb dX12_isNobody_6 (by decide) ?_
  refine lv_isub hx hb dX12_isNobody_7 ?_
  refine lv_topi (fun y_1 ey_1 => ?_)
  obtain rfl : y_1 = (-1) := ey_1.trans (by decide)
  refine kcallS (wc := []) (wr := [(m0, .inr (16, mO r p0 p1 p9 p10 p18 p27 p28 p30 p44 p45 0 0 0 0 0 0 0 0 0 0 0 t))]) (As := [.int x, .int 0, .int (-1)]) (rest := []) K G (m_X12_isIn0 l hl0 g x ) hP hD hS hA hl kw_305 kw_306 kw_308 kw_307 ydX12_isIn [] [0] rfl rfl rfl rfl (by decide) rfl rfl (Nat.le_of_ble_eq_true rfl) dX12_isNobody_8 ⟨Nat.le_of_ble_eq_true rfl, Nat.le_of_ble_eq_true rfl⟩ ⟨Nat.le_of_ble_eq_true rfl, Nat.le_of_ble_eq_true rfl⟩ (fun _ _ _ _ _ _ hX _ _ _ _ _ _ => hX.elim) (fun v w1 H locs hQ hP hD hS => ?_)
  obtain ⟨rfl, rfl⟩ := hQ
  have hP : va_P g.1 vwCl [(m0, .inr (16, mO r p0 p1 p9 p10 p18 p27 p28 p30 p44 p45 0 0 0 0 0 0 0 0 0 0 0 t))] H := hP
  have hD : va_D A [(m0, .inr (16, mO r p0 p1 p9 p10 p18 p27 p28 p30 p44 p45 0 0 0 0 0 0 0 0 0 0 0 t))] := hD
  refine W.widen (k := 0) (n := 0) (by decide) (by decide) ?_
  refine W.eq (g2 := F0 m 11 ls [.int 0]) rfl ?_
  refine lv_if_ne (tgt := 18) hx hb dX12_isNobody_11 (by decide) (fun c11_3 => absurd c11_3 (by decide)) (fun _ => ?_)
  refine lv_iconst (v := 1) hx hb dX12_isNobody_14 (by decide) ?_
  refine lv_goto (tgt := 19) hx hb dX12_isNobody_15 (by decide) ?_
  exact kretZ K hP hD hS [0] [(m0, .inr (16, mO r p0 p1 p9 p10 p18 p27 p28 p30 p44 p45 0 0 0 0 0 0 0 0 0 0 0 t))] rfl rfl (⟨rfl, rfl⟩) (by decide) (by decide) dX12_isNobody_19

set_option maxHeartbeats 4000000 in
set_option maxRecDepth 100000 in
theorem m_X12_isNoRecording (l : Launch) (hl0 : l.stackTraces = false) (g : kG) (m0 : Nat) (r : Nat → Nat) (p0 : Nat) (p1 : Nat) (p9 : Nat) (p10 : Nat) (p18 : Nat) (p27 : Nat) (p28 : Nat) (p30 : Nat) (p44 : Nat) (p45 : Nat) (x : Int32) (t : Int32)  : kc l g yX12_isNoRecording prog_14_method_77_code 2 (some .boolean) 1 22 0 0 [.ref m0, .int x] [(m0, .inr (16, mO r p0 p1 p9 p10 p18 p27 p28 p30 p44 p45 0 0 0 0 0 0 0 0 0 0 0 t))] (fun v w => (v = some (.int 1) ∧ w = [(m0, .inr (16, mO r p0 p1 p9 p10 p18 p27 p28 p30 p44 p45 0 0 0 0 0 0 0 0 0 0 0 t))])) (fun _ _ => False) := by
  refine kbody (by decide) (Nat.le_of_ble_eq_true rfl) ?_
  intro p e s m args below meth c A H K ht G hP hD hA hS ls hl
  have K : KB p s m meth c RX12 "isNoRecording" prog_14_method_77_code 2 (some .boolean) := K
  obtain ⟨hx, hb, hml, hown, hlocks, hr, hin⟩ := id K
  have hl : lv_has ls 2 [(0, .ref m0), (1, .int x)] := hl
  refine lv_iload_n hx hb dX12_isNoRecording_0 rfl (lv_at hl 1 rfl) ?_
  refine lv_iconst (v := 0) hx hb dX12_isNoRecording_1 (by decide) ?_
  refine lv_aload_n hx hb dX12_isNoRecording_2 rfl (lv_at hl 0 rfl) ?_
  refine va_get (D := g.1) (ci := 16) (v := .int 0) (C := RX12) (T := TX12) (N := 59) hx hb G.ws inX12 hown G.K hP 0 rfl rfl 51 (by decide) (G.w kw_314) (fun _ h9 => h9) rfl dX12_isNoRecording_3 ?_
  refine lv_iconst (v := 1) hx hb dX12_isNoRecording_6 (by decide) ?_
  refine lv_isub hx hb dX12_isNoRecording_7 ?_
  refine lv_topi (fun y_1 ey_1 => ?_)
  obtain rfl : y_1 = (-1) := ey_1.trans (by decide)
  refine kcallS (wc := []) (wr := [(m0, .inr (16, mO r p0 p1 p9 p10 p18 p27 p28 p30 p44 p45 0 0 0 0 0 0 0 0 0 0 0 t))]) (As := [.int x, .int 0, .int (-1)]) (rest := []) K G (m_X12_isIn0 l hl0 g x ) hP hD hS hA hl kw_305 kw_306 kw_308 kw_307 ydX12_isIn [] [0] rfl rfl rfl rfl (by decide) rfl rfl (Nat.le_of_ble_eq_true rfl) dX12_isNoRecording_8 ⟨Nat.le_of_ble_eq_true rfl, Nat.le_of_ble_eq_true rfl⟩ ⟨Nat.le_of_ble_eq_true rfl, Nat.le_of_ble_eq_true rfl⟩ (fun _ _ _ _ _ _ hX _ _ _ _ _ _ => hX.elim) (fun v w1 H locs hQ hP hD hS => ?_)
  obtain ⟨rfl, rfl⟩ := hQ
  have hP : va_P g.1 vwCl [(m0, .inr (16, mO r p0 p1 p9 p10 p18 p27 p28 p30 p44 p45 0 0 0 0 0 0 0 0 0 0 0 t))] H := hP
  have hD : va_D A [(m0, .inr (16, mO r p0 p1 p9 p10 p18 p27 p28 p30 p44 p45 0 0 0 0 0 0 0 0 0 0 0 t))] := hD
  refine W.widen (k := 0) (n := 0) (by decide) (by decide) ?_
  refine W.eq (g2 := F0 m 11 ls [.int 0]) rfl ?_
  refine lv_if_ne (tgt := 18) hx hb dX12_isNoRecording_11 (by decide) (fun c11_3 => absurd c11_3 (by decide)) (fun _ => ?_)
  refine lv_iconst (v := 1) hx hb dX12_isNoRecording_14 (by decide) ?_
  refine lv_goto (tgt := 19) hx hb dX12_isNoRecording_15 (by decide) ?_
  exact kretZ K hP hD hS [0] [(m0, .inr (16, mO r p0 p1 p9 p10 p18 p27 p28 p30 p44 p45 0 0 0 0 0 0 0 0 0 0 0 t))] rfl rfl (⟨rfl, rfl⟩) (by decide) (by decide) dX12_isNoRecording_19

