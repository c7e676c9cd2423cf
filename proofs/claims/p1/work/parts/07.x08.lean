set_option maxHeartbeats 4000000 in
set_option maxRecDepth 100000 in
theorem m_X12_checksum (l : Launch) (hl0 : l.stackTraces = false) (g : kG) (m0 : Nat) (r : Nat → Nat) (p0 : Nat) (p1 : Nat) (p9 : Nat) (p10 : Nat) (p18 : Nat) (p27 : Nat) (p28 : Nat) (p30 : Nat) (p44 : Nat) (p45 : Nat)  : kc l g yX12_checksum prog_14_method_89_code 4 (some .long) 0 0 0 0 [.ref m0] [(m0, .inr (16, mO r p0 p1 p9 p10 p18 p27 p28 p30 p44 p45 0 0 0 0 0 0 0 0 0 0 0 0))] (fun v w => (v = some (.long 6727) ∧ w = [])) (fun _ _ => False) := by
  refine kbody (by decide) (Nat.le_of_ble_eq_true rfl) ?_
  intro p e s m args below meth c A H K ht G hP hD hA hS ls hl
  have K : KB p s m meth c RX12 "checksum" prog_14_method_89_code 4 (some .long) := K
  obtain ⟨hx, hb, hml, hown, hlocks, hr, hin⟩ := id K
  have hl : lv_has ls 4 [(0, .ref m0)] := hl
  refine lv_aload_n hx hb dX12_checksum_0 rfl (lv_at hl 0 rfl) ?_
  refine lv_iconst (v := 0) hx hb dX12_checksum_1 (by decide) ?_
  refine va_put (D := g.1) (ci := 16) (v := .int 0) (ty := .int) (C := RX12) (T := TX12) (N := 59) hx hb G.ws inX12 tyX12 tyX12_ok nmX12 hown G.K hP hD hS 0 rfl rfl 58 (by decide) (G.w kw_309) (fun _ h9 => h9) (by decide +kernel) (by decide +kernel) rfl rfl (Nat.le_of_ble_eq_true rfl) dX12_checksum_2 (fun H locs hP hD hS => ?_)
  have hP : va_P g.1 vwCl [(m0, .inr (16, mO r p0 p1 p9 p10 p18 p27 p28 p30 p44 p45 0 0 0 0 0 0 0 0 0 0 0 0))] H := hP
  have hD : va_D A [(m0, .inr (16, mO r p0 p1 p9 p10 p18 p27 p28 p30 p44 p45 0 0 0 0 0 0 0 0 0 0 0 0))] := hD
  refine lv_ldc2 (v := 7) hx hb hown (G.w kw_370) dX12_checksum_5 ?_
  refine lv_lstore_n (lv' := [(1, .long 7), (0, .ref m0)]) hx hb dX12_checksum_8 rfl hl (by decide) rfl (fun ls hl => ?_)
  refine lv_iconst (v := 0) hx hb dX12_checksum_9 (by decide) ?_
  refine lv_istore_n (lv' := [(3, .int 0), (1, .long 7), (0, .ref m0)]) hx hb dX12_checksum_10 rfl hl (by decide) rfl (fun ls hl => ?_)
  refine lv_iload_n hx hb dX12_checksum_11 rfl (lv_at hl 0 rfl) ?_
  refine lv_aload_n hx hb dX12_checksum_12 rfl (lv_at hl 2 rfl) ?_
  refine va_get (D := g.1) (ci := 16) (v := .int 0) (C := RX12) (T := TX12) (N := 59) hx hb G.ws inX12 hown G.K hP 0 rfl rfl 48 (by decide) (G.w kw_311) (fun _ h9 => h9) rfl dX12_checksum_13 ?_
  refine lv_icmp_ge (tgt := 99) hx hb dX12_checksum_16 (by decide) (fun _ => ?_) (fun c16_1 => absurd c16_1 (by decide))
  refine lv_ldc2 (v := 31) hx hb hown (G.w kw_371) dX12_checksum_99 ?_
  refine lv_lload_n hx hb dX12_checksum_102 rfl (lv_at hl 1 rfl) ?_
  refine lv_lmul hx hb dX12_checksum_103 ?_
  refine lv_topl (fun y_2 ey_2 => ?_)
  obtain rfl : y_2 = 217 := ey_2.trans (by decide)
  refine lv_aload_n hx hb dX12_checksum_104 rfl (lv_at hl 2 rfl) ?_
  refine va_get (D := g.1) (ci := 16) (v := .int 0) (C := RX12) (T := TX12) (N := 59) hx hb G.ws inX12 hown G.K hP 0 rfl rfl 56 (by decide) (G.w kw_367) (fun _ h9 => h9) rfl dX12_checksum_105 ?_
  refine lv_i2l (v := 0) hx hb dX12_checksum_108 (by decide) ?_
  refine lv_ladd hx hb dX12_checksum_109 ?_
  refine lv_topl (fun y_3 ey_3 => ?_)
  obtain rfl : y_3 = 217 := ey_3.trans (by decide)
  refine lv_lstore_n (lv' := [(1, .long 217), (3, .int 0), (0, .ref m0)]) hx hb dX12_checksum_110 rfl hl (by decide) rfl (fun ls hl => ?_)
  refine lv_ldc2 (v := 31) hx hb hown (G.w kw_371) dX12_checksum_111 ?_
  refine lv_lload_n hx hb dX12_checksum_114 rfl (lv_at hl 0 rfl) ?_
  refine lv_lmul hx hb dX12_checksum_115 ?_
  refine lv_topl (fun y_4 ey_4 => ?_)
  obtain rfl : y_4 = 6727 := ey_4.trans (by decide)
  refine lv_aload_n hx hb dX12_checksum_116 rfl (lv_at hl 2 rfl) ?_
  refine va_get (D := g.1) (ci := 16) (v := .int 0) (C := RX12) (T := TX12) (N := 59) hx hb G.ws inX12 hown G.K hP 0 rfl rfl 57 (by decide) (G.w kw_366) (fun _ h9 => h9) rfl dX12_checksum_117 ?_
  refine lv_i2l (v := 0) hx hb dX12_checksum_120 (by decide) ?_
  refine lv_ladd hx hb dX12_checksum_121 ?_
  refine lv_topl (fun y_5 ey_5 => ?_)
  obtain rfl : y_5 = 6727 := ey_5.trans (by decide)
  exact kretL K hP hD hS [] [] rfl rfl (⟨rfl, rfl⟩) (by decide) (by decide) dX12_checksum_122

set_option maxHeartbeats 4000000 in
set_option maxRecDepth 100000 in
theorem m_X12_isSound (l : Launch) (hl0 : l.stackTraces = false) (g : kG) (m0 : Nat) (r : Nat → Nat) (p0 : Nat) (p1 : Nat) (p9 : Nat) (p10 : Nat) (p18 : Nat) (p27 : Nat) (p28 : Nat) (p30 : Nat) (p44 : Nat) (p45 : Nat)  : kc l g yX12_isSound prog_14_method_90_code 1 (some .boolean) 0 0 0 0 [.ref m0] [(m0, .inr (16, mO r p0 p1 p9 p10 p18 p27 p28 p30 p44 p45 0 0 0 0 0 0 0 0 0 0 0 0))] (fun v w => (v = some (.int 1) ∧ w = [])) (fun _ _ => False) := by
  refine kbody (by decide) (Nat.le_of_ble_eq_true rfl) ?_
  intro p e s m args below meth c A H K ht G hP hD hA hS ls hl
  have K : KB p s m meth c RX12 "isSound" prog_14_method_90_code 1 (some .boolean) := K
  obtain ⟨hx, hb, hml, hown, hlocks, hr, hin⟩ := id K
  have hl : lv_has ls 1 [(0, .ref m0)] := hl
  refine lv_aload_n hx hb dX12_isSound_0 rfl (lv_at hl 0 rfl) ?_
  refine lv_iconst (v := 0) hx hb dX12_isSound_1 (by decide) ?_
  refine va_put (D := g.1) (ci := 16) (v := .int 0) (ty := .int) (C := RX12) (T := TX12) (N := 59) hx hb G.ws inX12 tyX12 tyX12_ok nmX12 hown G.K hP hD hS 0 rfl rfl 58 (by decide) (G.w kw_309) (fun _ h9 => h9) (by decide +kernel) (by decide +kernel) rfl rfl (Nat.le_of_ble_eq_true rfl) dX12_isSound_2 (fun H locs hP hD hS => ?_)
  have hP : va_P g.1 vwCl [(m0, .inr (16, mO r p0 p1 p9 p10 p18 p27 p28 p30 p44 p45 0 0 0 0 0 0 0 0 0 0 0 0))] H := hP
  have hD : va_D A [(m0, .inr (16, mO r p0 p1 p9 p10 p18 p27 p28 p30 p44 p45 0 0 0 0 0 0 0 0 0 0 0 0))] := hD
  refine lv_iconst (v := 1) hx hb dX12_isSound_5 (by decide) ?_
  exact kretZ K hP hD hS [] [] rfl rfl (⟨rfl, rfl⟩) (by decide) (by decide) dX12_isSound_6

set_option maxHeartbeats 4000000 in
set_option maxRecDepth 100000 in
theorem m_Jx4a65c_isEmpty_aae02 (l : Launch) (hl0 : l.stackTraces = false) (g : kG) (h0 : Nat)  : kc l g yJx4a65c_isEmpty_aae02 prog_39_method_9_code 1 (some .boolean) 0 0 0 0 [.ref h0] [(h0, .inr (3, [.int 0, .ref g.2.1, .int 0]))] (fun v w => (v = some (.int 1) ∧ w = [(h0, .inr (3, [.int 0, .ref g.2.1, .int 0]))])) (fun _ _ => False) := by
  refine kbody (by decide) (Nat.le_of_ble_eq_true rfl) ?_
  intro p e s m args below meth c A H K ht G hP hD hA hS ls hl
  have K : KB p s m meth c RJx4a65c "isEmpty" prog_39_method_9_code 1 (some .boolean) := K
  obtain ⟨hx, hb, hml, hown, hlocks, hr, hin⟩ := id K
  have hl : lv_has ls 1 [(0, .ref h0)] := hl
  refine lv_aload_n hx hb dJx4a65c_isEmpty_aae02_0 rfl (lv_at hl 0 rfl) ?_
  refine va_get (D := g.1) (ci := 3) (v := .int 0) (C := RJx4a65c) (T := TJx4a65c) (N := 3) hx hb G.ws inJx4a65c hown G.K hP 0 rfl rfl 2 (by decide) (G.w kw_22) (fun _ h9 => h9) rfl dJx4a65c_isEmpty_aae02_1 ?_
  refine lv_if_ne (tgt := 11) hx hb dJx4a65c_isEmpty_aae02_4 (by decide) (fun c4_1 => absurd c4_1 (by decide)) (fun _ => ?_)
  refine lv_iconst (v := 1) hx hb dJx4a65c_isEmpty_aae02_7 (by decide) ?_
  refine lv_goto (tgt := 12) hx hb dJx4a65c_isEmpty_aae02_8 (by decide) ?_
  exact kretZ K hP hD hS [0] [(h0, .inr (3, [.int 0, .ref g.2.1, .int 0]))] rfl rfl (⟨rfl, rfl⟩) (by decide) (by decide) dJx4a65c_isEmpty_aae02_12

set_option maxHeartbeats 4000000 in
set_option maxRecDepth 100000 in
theorem m_X12_getNightShare (l : Launch) (hl0 : l.stackTraces = false) (g : kG) (m0 : Nat) (r : Nat → Nat) (p0 : Nat) (p1 : Nat) (p9 : Nat) (p10 : Nat) (p18 : Nat) (p27 : Nat) (p28 : Nat) (p30 : Nat) (p44 : Nat) (p45 : Nat)  : kc l g yX12_getNightShare prog_14_method_87_code 4 (some .float) 1 22 0 0 [.ref m0] [(m0, .inr (16, mO r p0 p1 p9 p10 p18 p27 p28 p30 p44 p45 0 0 0 0 0 0 0 0 0 0 0 0)), (p44, .inr (3, [.int 0, .ref g.2.1, .int 0]))] (fun v w => (v = some (.float 0) ∧ w = [(m0, .inr (16, mO r p0 p1 p9 p10 p18 p27 p28 p30 p44 p45 0 0 0 0 0 0 0 0 0 0 0 1))])) (fun _ _ => False) := by
  refine kbody (by decide) (Nat.le_of_ble_eq_true rfl) ?_
  intro p e s m args below meth c A H K ht G hP hD hA hS ls hl
  have K : KB p s m meth c RX12 "getNightShare" prog_14_method_87_code 4 (some .float) := K
  obtain ⟨hx, hb, hml, hown, hlocks, hr, hin⟩ := id K
  have hl : lv_has ls 4 [(0, .ref m0)] := hl
  refine lv_aload_n hx hb dX12_getNightShare_0 rfl (lv_at hl 0 rfl) ?_
  refine lv_aload_n hx hb dX12_getNightShare_1 rfl (lv_at hl 0 rfl) ?_
  refine va_get (D := g.1) (ci := 16) (v := .ref p44) (C := RX12) (T := TX12) (N := 59) hx hb G.ws inX12 hown G.K hP 0 rfl rfl 44 (by decide) (G.w kw_368) (fun _ h9 => h9) rfl dX12_getNightShare_2 ?_
  refine kcallV (wc := [(p44, .inr (3, [.int 0, .ref g.2.1, .int 0]))]) (wr := [(m0, .inr (16, mO r p0 p1 p9 p10 p18 p27 p28 p30 p44 p45 0 0 0 0 0 0 0 0 0 0 0 0))]) (As := []) (rest := [.ref m0]) K G (m_Jx4a65c_isEmpty_aae02 l hl0 g p44 ) hP hD hS hA hl kw_372 kw_373 kw_374 kw_375 kw_30 ydJx4a65c_isEmpty_aae02 [1] [0] rfl rfl rfl rfl (by decide) (ci := 3) (q0 := 1) rfl rfl rfl rfl rfl (Nat.le_of_ble_eq_true rfl) dX12_getNightShare_5 ⟨Nat.le_of_ble_eq_true rfl, Nat.le_of_ble_eq_true rfl⟩ ⟨Nat.le_of_ble_eq_true rfl, Nat.le_of_ble_eq_true rfl⟩ (fun _ _ _ _ _ _ hX _ _ _ _ _ _ => hX.elim) (fun v w1 H locs hQ hP hD hS => ?_)
  obtain ⟨rfl, rfl⟩ := hQ
  have hP : va_P g.1 vwCl [(m0, .inr (16, mO r p0 p1 p9 p10 p18 p27 p28 p30 p44 p45 0 0 0 0 0 0 0 0 0 0 0 0)), (p44, .inr (3, [.int 0, .ref g.2.1, .int 0]))] H := hP
  have hD : va_D A [(m0, .inr (16, mO r p0 p1 p9 p10 p18 p27 p28 p30 p44 p45 0 0 0 0 0 0 0 0 0 0 0 0)), (p44, .inr (3, [.int 0, .ref g.2.1, .int 0]))] := hD
  refine W.widen (k := 0) (n := 0) (by decide) (by decide) ?_
  refine W.eq (g2 := F0 m 8 ls [.int 1, .ref m0]) rfl ?_
  refine lv_iconst (v := 1) hx hb dX12_getNightShare_8 (by decide) ?_
  refine kcallV (wc := [(m0, .inr (16, mO r p0 p1 p9 p10 p18 p27 p28 p30 p44 p45 0 0 0 0 0 0 0 0 0 0 0 0))]) (wr := [(p44, .inr (3, [.int 0, .ref g.2.1, .int 0]))]) (As := [.int 1, .int 1]) (rest := []) K G (m_X12_isThrown1 l hl0 g m0 r p0 p1 p9 p10 p18 p27 p28 p30 p44 p45 0 0 0 0 0 0 0 0 0 0 0 0 1 ) hP hD hS hA hl kw_319 kw_320 kw_321 kw_322 kw_307 ydX12_isThrown [0] [1] rfl rfl rfl rfl (by decide) (ci := 16) (q0 := 0) rfl rfl rfl rfl rfl (Nat.le_of_ble_eq_true rfl) dX12_getNightShare_9 ⟨Nat.le_of_ble_eq_true rfl, Nat.le_of_ble_eq_true rfl⟩ ⟨Nat.le_of_ble_eq_true rfl, Nat.le_of_ble_eq_true rfl⟩ (fun _ _ _ _ _ _ hX _ _ _ _ _ _ => hX.elim) (fun v w1 H locs hQ hP hD hS => ?_)
  obtain ⟨rfl, rfl⟩ := hQ
  have hP : va_P g.1 vwCl [(p44, .inr (3, [.int 0, .ref g.2.1, .int 0])), (m0, .inr (16, mO r p0 p1 p9 p10 p18 p27 p28 p30 p44 p45 0 0 0 0 0 0 0 0 0 0 0 1))] H := hP
  have hD : va_D A [(p44, .inr (3, [.int 0, .ref g.2.1, .int 0])), (m0, .inr (16, mO r p0 p1 p9 p10 p18 p27 p28 p30 p44 p45 0 0 0 0 0 0 0 0 0 0 0 1))] := hD
  refine W.widen (k := 0) (n := 0) (by decide) (by decide) ?_
  refine W.eq (g2 := F0 m 12 ls [.int 1]) rfl ?_
  refine lv_if_eq (tgt := 17) hx hb dX12_getNightShare_12 (by decide) (fun c12_3 => absurd c12_3 (by decide)) (fun _ => ?_)
  refine lv_fconst0 hx hb dX12_getNightShare_15 ?_
  exact kretF K hP hD hS [1] [(m0, .inr (16, mO r p0 p1 p9 p10 p18 p27 p28 p30 p44 p45 0 0 0 0 0 0 0 0 0 0 0 1))] rfl rfl (⟨rfl, rfl⟩) (by decide) (by decide) dX12_getNightShare_16

set_option maxHeartbeats 4000000 in
set_option maxRecDepth 100000 in
theorem m_X12_getMeanCrew (l : Launch) (hl0 : l.stackTraces = false) (g : kG) (m0 : Nat) (r : Nat → Nat) (p0 : Nat) (p1 : Nat) (p9 : Nat) (p10 : Nat) (p18 : Nat) (p27 : Nat) (p28 : Nat) (p30 : Nat) (p44 : Nat) (p45 : Nat)  : kc l g yX12_getMeanCrew prog_14_method_88_code 3 (some .double) 1 22 0 0 [.ref m0] [(m0, .inr (16, mO r p0 p1 p9 p10 p18 p27 p28 p30 p44 p45 0 0 0 0 0 0 0 0 0 0 0 0))] (fun v w => (v = some (.double 0) ∧ w = [(m0, .inr (16, mO r p0 p1 p9 p10 p18 p27 p28 p30 p44 p45 0 0 0 0 0 0 0 0 0 0 0 1))])) (fun _ _ => False) := by
  refine kbody (by decide) (Nat.le_of_ble_eq_true rfl) ?_
  intro p e s m args below meth c A H K ht G hP hD hA hS ls hl
  have K : KB p s m meth c RX12 "getMeanCrew" prog_14_method_88_code 3 (some .double) := K
  obtain ⟨hx, hb, hml, hown, hlocks, hr, hin⟩ := id K
  have hl : lv_has ls 3 [(0, .ref m0)] := hl
  refine lv_aload_n hx hb dX12_getMeanCrew_0 rfl (lv_at hl 0 rfl) ?_
  refine lv_aload_n hx hb dX12_getMeanCrew_1 rfl (lv_at hl 0 rfl) ?_
  refine va_get (D := g.1) (ci := 16) (v := .int 0) (C := RX12) (T := TX12) (N := 59) hx hb G.ws inX12 hown G.K hP 0 rfl rfl 48 (by decide) (G.w kw_311) (fun _ h9 => h9) rfl dX12_getMeanCrew_2 ?_
  refine lv_if_ne (tgt := 12) hx hb dX12_getMeanCrew_5 (by decide) (fun c5_1 => absurd c5_1 (by decide)) (fun _ => ?_)
  refine lv_iconst (v := 1) hx hb dX12_getMeanCrew_8 (by decide) ?_
  refine lv_goto (tgt := 13) hx hb dX12_getMeanCrew_9 (by decide) ?_
  refine lv_iconst (v := 1) hx hb dX12_getMeanCrew_13 (by decide) ?_
  refine kcallV (wc := [(m0, .inr (16, mO r p0 p1 p9 p10 p18 p27 p28 p30 p44 p45 0 0 0 0 0 0 0 0 0 0 0 0))]) (wr := []) (As := [.int 1, .int 1]) (rest := []) K G (m_X12_isThrown1 l hl0 g m0 r p0 p1 p9 p10 p18 p27 p28 p30 p44 p45 0 0 0 0 0 0 0 0 0 0 0 0 1 ) hP hD hS hA hl kw_319 kw_320 kw_321 kw_322 kw_307 ydX12_isThrown [0] [] rfl rfl rfl rfl (by decide) (ci := 16) (q0 := 0) rfl rfl rfl rfl rfl (Nat.le_of_ble_eq_true rfl) dX12_getMeanCrew_14 ⟨Nat.le_of_ble_eq_true rfl, Nat.le_of_ble_eq_true rfl⟩ ⟨Nat.le_of_ble_eq_true rfl, Nat.le_of_ble_eq_true rfl⟩ (fun _ _ _ _ _ _ hX _ _ _ _ _ _ => hX.elim) (fun v w1 H locs hQ hP hD hS => ?_)
  obtain ⟨rfl, rfl⟩ := hQ
  have hP : va_P g.1 vwCl [(m0, .inr (16, mO r p0 p1 p9 p10 p18 p27 p28 p30 p44 p45 0 0 0 0 0 0 0 0 0 0 0 1))] H := hP
  have hD : va_D A [(m0, .inr (16, mO r p0 p1 p9 p10 p18 p27 p28 p30 p44 p45 0 0 0 0 0 0 0 0 0 0 0 1))] := hD
  refine W.widen (k := 0) (n := 0) (by decide) (by decide) ?_
  refine W.eq (g2 := F0 m 17 ls [.int 1]) rfl ?_
  refine lv_if_eq (tgt := 22) hx hb dX12_getMeanCrew_17 (by decide) (fun c17_3 => absurd c17_3 (by decide)) (fun _ => ?_)
  refine lv_dconst0 hx hb dX12_getMeanCrew_20 ?_
  exact kretD K hP hD hS [0] [(m0, .inr (16, mO r p0 p1 p9 p10 p18 p27 p28 p30 p44 p45 0 0 0 0 0 0 0 0 0 0 0 1))] rfl rfl (⟨rfl, rfl⟩) (by decide) (by decide) dX12_getMeanCrew_21

