set_option maxHeartbeats 4000000 in
set_option maxRecDepth 100000 in
theorem m_X12_board (l : Launch) (hl0 : l.stackTraces = false) (g : kG) (m0 : Nat) (r : Nat → Nat) (p0 : Nat) (p1 : Nat) (p9 : Nat) (p10 : Nat) (p18 : Nat) (p27 : Nat) (p28 : Nat) (p30 : Nat) (p44 : Nat) (p45 : Nat) (x0 : Int32) (x1 : Int32)  : kc l g yX12_board prog_14_method_74_code 4 (some .boolean) 2 43 0 0 [.ref m0, .int x0, .int x1] [(m0, .inr (16, mO r p0 p1 p9 p10 p18 p27 p28 p30 p44 p45 0 0 0 0 0 0 0 0 0 0 0 0))] (fun v w => (v = some (.int 0) ∧ w = [(m0, .inr (16, mO r p0 p1 p9 p10 p18 p27 p28 p30 p44 p45 0 0 0 0 0 0 0 0 0 0 0 1))])) (fun _ _ => False) := by
  refine kbody (by decide) (Nat.le_of_ble_eq_true rfl) ?_
  intro p e s m args below meth c A H K ht G hP hD hA hS ls hl
  have K : KB p s m meth c RX12 "board" prog_14_method_74_code 4 (some .boolean) := K
  obtain ⟨hx, hb, hml, hown, hlocks, hr, hin⟩ := id K
  have hl : lv_has ls 4 [(0, .ref m0), (1, .int x0), (2, .int x1)] := hl
  refine lv_aload_n hx hb dX12_board_0 rfl (lv_at hl 0 rfl) ?_
  refine lv_aload_n hx hb dX12_board_1 rfl (lv_at hl 0 rfl) ?_
  refine lv_iload_n hx hb dX12_board_2 rfl (lv_at hl 1 rfl) ?_
  refine kcallV (wc := [(m0, .inr (16, mO r p0 p1 p9 p10 p18 p27 p28 p30 p44 p45 0 0 0 0 0 0 0 0 0 0 0 0))]) (wr := []) (As := [.int x0]) (rest := [.ref m0]) K G (m_X12_isNoShip l hl0 g m0 r p0 p1 p9 p10 p18 p27 p28 p30 p44 p45 x0 0 ) hP hD hS hA hl kw_323 kw_324 kw_325 kw_326 kw_307 ydX12_isNoShip [0] [] rfl rfl rfl rfl (by decide) (ci := 16) (q0 := 0) rfl rfl rfl rfl rfl (Nat.le_of_ble_eq_true rfl) dX12_board_3 ⟨Nat.le_of_ble_eq_true rfl, Nat.le_of_ble_eq_true rfl⟩ ⟨Nat.le_of_ble_eq_true rfl, Nat.le_of_ble_eq_true rfl⟩ (fun _ _ _ _ _ _ hX _ _ _ _ _ _ => hX.elim) (fun v w1 H locs hQ hP hD hS => ?_)
  obtain ⟨rfl, rfl⟩ := hQ
  have hP : va_P g.1 vwCl [(m0, .inr (16, mO r p0 p1 p9 p10 p18 p27 p28 p30 p44 p45 0 0 0 0 0 0 0 0 0 0 0 0))] H := hP
  have hD : va_D A [(m0, .inr (16, mO r p0 p1 p9 p10 p18 p27 p28 p30 p44 p45 0 0 0 0 0 0 0 0 0 0 0 0))] := hD
  refine W.widen (k := 0) (n := 0) (by decide) (by decide) ?_
  refine W.eq (g2 := F0 m 6 ls [.int 1, .ref m0]) rfl ?_
  refine lv_if_ne (tgt := 17) hx hb dX12_board_6 (by decide) (fun _ => ?_) (fun c6_2 => absurd c6_2 (by decide))
  refine lv_iconst (v := 1) hx hb dX12_board_17 (by decide) ?_
  refine lv_goto (tgt := 22) hx hb dX12_board_18 (by decide) ?_
  refine lv_iconst (v := 1) hx hb dX12_board_22 (by decide) ?_
  refine kcallV (wc := [(m0, .inr (16, mO r p0 p1 p9 p10 p18 p27 p28 p30 p44 p45 0 0 0 0 0 0 0 0 0 0 0 0))]) (wr := []) (As := [.int 1, .int 1]) (rest := []) K G (m_X12_isThrown1 l hl0 g m0 r p0 p1 p9 p10 p18 p27 p28 p30 p44 p45 0 0 0 0 0 0 0 0 0 0 0 0 1 ) hP hD hS hA hl kw_319 kw_320 kw_321 kw_322 kw_307 ydX12_isThrown [0] [] rfl rfl rfl rfl (by decide) (ci := 16) (q0 := 0) rfl rfl rfl rfl rfl (Nat.le_of_ble_eq_true rfl) dX12_board_23 ⟨Nat.le_of_ble_eq_true rfl, Nat.le_of_ble_eq_true rfl⟩ ⟨Nat.le_of_ble_eq_true rfl, Nat.le_of_ble_eq_true rfl⟩ (fun _ _ _ _ _ _ hX _ _ _ _ _ _ => hX.elim) (fun v w1 H locs hQ hP hD hS => ?_)
  obtain ⟨rfl, rfl⟩ := hQ
  have hP : va_P g.1 vwCl [(m0, .inr (16, mO r p0 p1 p9 p10 p18 p27 p28 p30 p44 p45 0 0 0 0 0 0 0 0 0 0 0 1))] H := hP
  have hD : va_D A [(m0, .inr (16, mO r p0 p1 p9 p10 p18 p27 p28 p30 p44 p45 0 0 0 0 0 0 0 0 0 0 0 1))] := hD
  refine W.widen (k := 0) (n := 0) (by decide) (by decide) ?_
  refine W.eq (g2 := F0 m 26 ls [.int 1]) rfl ?_
  refine lv_if_ne (tgt := 80) hx hb dX12_board_26 (by decide) (fun _ => ?_) (fun c26_4 => absurd c26_4 (by decide))
  refine lv_iconst (v := 0) hx hb dX12_board_80 (by decide) ?_
  exact kretZ K hP hD hS [0] [(m0, .inr (16, mO r p0 p1 p9 p10 p18 p27 p28 p30 p44 p45 0 0 0 0 0 0 0 0 0 0 0 1))] rfl rfl (⟨rfl, rfl⟩) (by decide) (by decide) dX12_board_81

set_option maxHeartbeats 4000000 in
set_option maxRecDepth 100000 in
theorem m_X12_getHeard (l : Launch) (hl0 : l.stackTraces = false) (g : kG) (m0 : Nat) (r : Nat → Nat) (p0 : Nat) (p1 : Nat) (p9 : Nat) (p10 : Nat) (p18 : Nat) (p27 : Nat) (p28 : Nat) (p30 : Nat) (p44 : Nat) (p45 : Nat) (x0 : Int32)  : kc l g yX12_getHeard prog_14_method_55_code 2 (some .int) 2 43 0 0 [.ref m0, .int x0] [(m0, .inr (16, mO r p0 p1 p9 p10 p18 p27 p28 p30 p44 p45 0 0 0 0 0 0 0 0 0 0 0 0))] (fun v w => (v = some (.int 0) ∧ w = [(m0, .inr (16, mO r p0 p1 p9 p10 p18 p27 p28 p30 p44 p45 0 0 0 0 0 0 0 0 0 0 0 1))])) (fun _ _ => False) := by
  refine kbody (by decide) (Nat.le_of_ble_eq_true rfl) ?_
  intro p e s m args below meth c A H K ht G hP hD hA hS ls hl
  have K : KB p s m meth c RX12 "getHeard" prog_14_method_55_code 2 (some .int) := K
  obtain ⟨hx, hb, hml, hown, hlocks, hr, hin⟩ := id K
  have hl : lv_has ls 2 [(0, .ref m0), (1, .int x0)] := hl
  refine lv_aload_n hx hb dX12_getHeard_0 rfl (lv_at hl 0 rfl) ?_
  refine lv_aload_n hx hb dX12_getHeard_1 rfl (lv_at hl 0 rfl) ?_
  refine lv_iload_n hx hb dX12_getHeard_2 rfl (lv_at hl 1 rfl) ?_
  refine kcallV (wc := [(m0, .inr (16, mO r p0 p1 p9 p10 p18 p27 p28 p30 p44 p45 0 0 0 0 0 0 0 0 0 0 0 0))]) (wr := []) (As := [.int x0]) (rest := [.ref m0]) K G (m_X12_isNoTown l hl0 g m0 r p0 p1 p9 p10 p18 p27 p28 p30 p44 p45 x0 0 ) hP hD hS hA hl kw_327 kw_328 kw_329 kw_330 kw_307 ydX12_isNoTown [0] [] rfl rfl rfl rfl (by decide) (ci := 16) (q0 := 0) rfl rfl rfl rfl rfl (Nat.le_of_ble_eq_true rfl) dX12_getHeard_3 ⟨Nat.le_of_ble_eq_true rfl, Nat.le_of_ble_eq_true rfl⟩ ⟨Nat.le_of_ble_eq_true rfl, Nat.le_of_ble_eq_true rfl⟩ (fun _ _ _ _ _ _ hX _ _ _ _ _ _ => hX.elim) (fun v w1 H locs hQ hP hD hS => ?_)
  obtain ⟨rfl, rfl⟩ := hQ
  have hP : va_P g.1 vwCl [(m0, .inr (16, mO r p0 p1 p9 p10 p18 p27 p28 p30 p44 p45 0 0 0 0 0 0 0 0 0 0 0 0))] H := hP
  have hD : va_D A [(m0, .inr (16, mO r p0 p1 p9 p10 p18 p27 p28 p30 p44 p45 0 0 0 0 0 0 0 0 0 0 0 0))] := hD
  refine W.widen (k := 0) (n := 0) (by decide) (by decide) ?_
  refine W.eq (g2 := F0 m 6 ls [.int 1, .ref m0]) rfl ?_
  refine lv_iconst (v := 1) hx hb dX12_getHeard_6 (by decide) ?_
  refine kcallV (wc := [(m0, .inr (16, mO r p0 p1 p9 p10 p18 p27 p28 p30 p44 p45 0 0 0 0 0 0 0 0 0 0 0 0))]) (wr := []) (As := [.int 1, .int 1]) (rest := []) K G (m_X12_isThrown1 l hl0 g m0 r p0 p1 p9 p10 p18 p27 p28 p30 p44 p45 0 0 0 0 0 0 0 0 0 0 0 0 1 ) hP hD hS hA hl kw_319 kw_320 kw_321 kw_322 kw_307 ydX12_isThrown [0] [] rfl rfl rfl rfl (by decide) (ci := 16) (q0 := 0) rfl rfl rfl rfl rfl (Nat.le_of_ble_eq_true rfl) dX12_getHeard_7 ⟨Nat.le_of_ble_eq_true rfl, Nat.le_of_ble_eq_true rfl⟩ ⟨Nat.le_of_ble_eq_true rfl, Nat.le_of_ble_eq_true rfl⟩ (fun _ _ _ _ _ _ hX _ _ _ _ _ _ => hX.elim) (fun v w1 H locs hQ hP hD hS => ?_)
  obtain ⟨rfl, rfl⟩ := hQ
  have hP : va_P g.1 vwCl [(m0, .inr (16, mO r p0 p1 p9 p10 p18 p27 p28 p30 p44 p45 0 0 0 0 0 0 0 0 0 0 0 1))] H := hP
  have hD : va_D A [(m0, .inr (16, mO r p0 p1 p9 p10 p18 p27 p28 p30 p44 p45 0 0 0 0 0 0 0 0 0 0 0 1))] := hD
  refine W.widen (k := 0) (n := 0) (by decide) (by decide) ?_
  refine W.eq (g2 := F0 m 10 ls [.int 1]) rfl ?_
  refine lv_if_eq (tgt := 17) hx hb dX12_getHeard_10 (by decide) (fun c10_3 => absurd c10_3 (by decide)) (fun _ => ?_)
  refine lv_iconst (v := 0) hx hb dX12_getHeard_13 (by decide) ?_
  refine lv_goto (tgt := 23) hx hb dX12_getHeard_14 (by decide) ?_
  exact kretI K hP hD hS [0] [(m0, .inr (16, mO r p0 p1 p9 p10 p18 p27 p28 p30 p44 p45 0 0 0 0 0 0 0 0 0 0 0 1))] rfl rfl (⟨rfl, rfl⟩) (by decide) (by decide) dX12_getHeard_23

set_option maxHeartbeats 4000000 in
set_option maxRecDepth 100000 in
theorem m_X12_getAboard (l : Launch) (hl0 : l.stackTraces = false) (g : kG) (m0 : Nat) (r : Nat → Nat) (p0 : Nat) (p1 : Nat) (p9 : Nat) (p10 : Nat) (p18 : Nat) (p27 : Nat) (p28 : Nat) (p30 : Nat) (p44 : Nat) (p45 : Nat) (x0 : Int32)  : kc l g yX12_getAboard prog_14_method_59_code 2 (some .int) 2 43 0 0 [.ref m0, .int x0] [(m0, .inr (16, mO r p0 p1 p9 p10 p18 p27 p28 p30 p44 p45 0 0 0 0 0 0 0 0 0 0 0 0))] (fun v w => (v = some (.int 0) ∧ w = [(m0, .inr (16, mO r p0 p1 p9 p10 p18 p27 p28 p30 p44 p45 0 0 0 0 0 0 0 0 0 0 0 1))])) (fun _ _ => False) := by
  refine kbody (by decide) (Nat.le_of_ble_eq_true rfl) ?_
  intro p e s m args below meth c A H K ht G hP hD hA hS ls hl
  have K : KB p s m meth c RX12 "getAboard" prog_14_method_59_code 2 (some .int) := K
  obtain ⟨hx, hb, hml, hown, hlocks, hr, hin⟩ := id K
  have hl : lv_has ls 2 [(0, .ref m0), (1, .int x0)] := hl
  refine lv_aload_n hx hb dX12_getAboard_0 rfl (lv_at hl 0 rfl) ?_
  refine lv_aload_n hx hb dX12_getAboard_1 rfl (lv_at hl 0 rfl) ?_
  refine lv_iload_n hx hb dX12_getAboard_2 rfl (lv_at hl 1 rfl) ?_
  refine kcallV (wc := [(m0, .inr (16, mO r p0 p1 p9 p10 p18 p27 p28 p30 p44 p45 0 0 0 0 0 0 0 0 0 0 0 0))]) (wr := []) (As := [.int x0]) (rest := [.ref m0]) K G (m_X12_isNobody l hl0 g m0 r p0 p1 p9 p10 p18 p27 p28 p30 p44 p45 x0 0 ) hP hD hS hA hl kw_331 kw_332 kw_333 kw_334 kw_307 ydX12_isNobody [0] [] rfl rfl rfl rfl (by decide) (ci := 16) (q0 := 0) rfl rfl rfl rfl rfl (Nat.le_of_ble_eq_true rfl) dX12_getAboard_3 ⟨Nat.le_of_ble_eq_true rfl, Nat.le_of_ble_eq_true rfl⟩ ⟨Nat.le_of_ble_eq_true rfl, Nat.le_of_ble_eq_true rfl⟩ (fun _ _ _ _ _ _ hX _ _ _ _ _ _ => hX.elim) (fun v w1 H locs hQ hP hD hS => ?_)
  obtain ⟨rfl, rfl⟩ := hQ
  have hP : va_P g.1 vwCl [(m0, .inr (16, mO r p0 p1 p9 p10 p18 p27 p28 p30 p44 p45 0 0 0 0 0 0 0 0 0 0 0 0))] H := hP
  have hD : va_D A [(m0, .inr (16, mO r p0 p1 p9 p10 p18 p27 p28 p30 p44 p45 0 0 0 0 0 0 0 0 0 0 0 0))] := hD
  refine W.widen (k := 0) (n := 0) (by decide) (by decide) ?_
  refine W.eq (g2 := F0 m 6 ls [.int 1, .ref m0]) rfl ?_
  refine lv_iconst (v := 1) hx hb dX12_getAboard_6 (by decide) ?_
  refine kcallV (wc := [(m0, .inr (16, mO r p0 p1 p9 p10 p18 p27 p28 p30 p44 p45 0 0 0 0 0 0 0 0 0 0 0 0))]) (wr := []) (As := [.int 1, .int 1]) (rest := []) K G (m_X12_isThrown1 l hl0 g m0 r p0 p1 p9 p10 p18 p27 p28 p30 p44 p45 0 0 0 0 0 0 0 0 0 0 0 0 1 ) hP hD hS hA hl kw_319 kw_320 kw_321 kw_322 kw_307 ydX12_isThrown [0] [] rfl rfl rfl rfl (by decide) (ci := 16) (q0 := 0) rfl rfl rfl rfl rfl (Nat.le_of_ble_eq_true rfl) dX12_getAboard_7 ⟨Nat.le_of_ble_eq_true rfl, Nat.le_of_ble_eq_true rfl⟩ ⟨Nat.le_of_ble_eq_true rfl, Nat.le_of_ble_eq_true rfl⟩ (fun _ _ _ _ _ _ hX _ _ _ _ _ _ => hX.elim) (fun v w1 H locs hQ hP hD hS => ?_)
  obtain ⟨rfl, rfl⟩ := hQ
  have hP : va_P g.1 vwCl [(m0, .inr (16, mO r p0 p1 p9 p10 p18 p27 p28 p30 p44 p45 0 0 0 0 0 0 0 0 0 0 0 1))] H := hP
  have hD : va_D A [(m0, .inr (16, mO r p0 p1 p9 p10 p18 p27 p28 p30 p44 p45 0 0 0 0 0 0 0 0 0 0 0 1))] := hD
  refine W.widen (k := 0) (n := 0) (by decide) (by decide) ?_
  refine W.eq (g2 := F0 m 10 ls [.int 1]) rfl ?_
  refine lv_if_eq (tgt := 17) hx hb dX12_getAboard_10 (by decide) (fun c10_3 => absurd c10_3 (by decide)) (fun _ => ?_)
  refine lv_iconst (v := 0) hx hb dX12_getAboard_13 (by decide) ?_
  refine lv_goto (tgt := 23) hx hb dX12_getAboard_14 (by decide) ?_
  exact kretI K hP hD hS [0] [(m0, .inr (16, mO r p0 p1 p9 p10 p18 p27 p28 p30 p44 p45 0 0 0 0 0 0 0 0 0 0 0 1))] rfl rfl (⟨rfl, rfl⟩) (by decide) (by decide) dX12_getAboard_23

set_option maxHeartbeats 4000000 in
set_option maxRecDepth 100000 in
theorem m_X12_isTired (l : Launch) (hl0 : l.stackTraces = false) (g : kG) (m0 : Nat) (r : Nat → Nat) (p0 : Nat) (p1 : Nat) (p9 : Nat) (p10 : Nat) (p18 : Nat) (p27 : Nat) (p28 : Nat) (p30 : Nat) (p44 : Nat) (p45 : Nat) (x0 : Int32)  : kc l g yX12_isTired prog_14_method_61_code 2 (some .boolean) 2 43 0 0 [.ref m0, .int x0] [(m0, .inr (16, mO r p0 p1 p9 p10 p18 p27 p28 p30 p44 p45 0 0 0 0 0 0 0 0 0 0 0 0))] (fun v w => (v = some (.int 0) ∧ w = [(m0, .inr (16, mO r p0 p1 p9 p10 p18 p27 p28 p30 p44 p45 0 0 0 0 0 0 0 0 0 0 0 1))])) (fun _ _ => False) := by
  refine kbody (by decide) (Nat.le_of_ble_eq_true rfl) ?_
  intro p e s m args below meth c A H K ht G hP hD hA hS ls hl
  have K : KB p s m meth c RX12 "isTired" prog_14_method_61_code 2 (some .boolean) := K
  obtain ⟨hx, hb, hml, hown, hlocks, hr, hin⟩ := id K
  have hl : lv_has ls 2 [(0, .ref m0), (1, .int x0)] := hl
  refine lv_aload_n hx hb dX12_isTired_0 rfl (lv_at hl 0 rfl) ?_
  refine lv_aload_n hx hb dX12_isTired_1 rfl (lv_at hl 0 rfl) ?_
  refine lv_iload_n hx hb dX12_isTired_2 rfl (lv_at hl 1 rfl) ?_
  refine kcallV (wc := [(m0, .inr (16, mO r p0 p1 p9 p10 p18 p27 p28 p30 p44 p45 0 0 0 0 0 0 0 0 0 0 0 0))]) (wr := []) (As := [.int x0]) (rest := [.ref m0]) K G (m_X12_isNobody l hl0 g m0 r p0 p1 p9 p10 p18 p27 p28 p30 p44 p45 x0 0 ) hP hD hS hA hl kw_331 kw_332 kw_333 kw_334 kw_307 ydX12_isNobody [0] [] rfl rfl rfl rfl (by decide) (ci := 16) (q0 := 0) rfl rfl rfl rfl rfl (Nat.le_of_ble_eq_true rfl) dX12_isTired_3 ⟨Nat.le_of_ble_eq_true rfl, Nat.le_of_ble_eq_true rfl⟩ ⟨Nat.le_of_ble_eq_true rfl, Nat.le_of_ble_eq_true rfl⟩ (fun _ _ _ _ _ _ hX _ _ _ _ _ _ => hX.elim) (fun v w1 H locs hQ hP hD hS => ?_)
  obtain ⟨rfl, rfl⟩ := hQ
  have hP : va_P g.1 vwCl [(m0, .inr (16, mO r p0 p1 p9 p10 p18 p27 p28 p30 p44 p45 0 0 0 0 0 0 0 0 0 0 0 0))] H := hP
  have hD : va_D A [(m0, .inr (16, mO r p0 p1 p9 p10 p18 p27 p28 p30 p44 p45 0 0 0 0 0 0 0 0 0 0 0 0))] := hD
  refine W.widen (k := 0) (n := 0) (by decide) (by decide) ?_
  refine W.eq (g2 := F0 m 6 ls [.int 1, .ref m0]) rfl ?_
  refine lv_iconst (v := 1) hx hb dX12_isTired_6 (by decide) ?_
  refine kcallV (wc := [(m0, .inr (16, mO r p0 p1 p9 p10 p18 p27 p28 p30 p44 p45 0 0 0 0 0 0 0 0 0 0 0 0))]) (wr := []) (As := [.int 1, .int 1]) (rest := []) K G (m_X12_isThrown1 l hl0 g m0 r p0 p1 p9 p10 p18 p27 p28 p30 p44 p45 0 0 0 0 0 0 0 0 0 0 0 0 1 ) hP hD hS hA hl kw_319 kw_320 kw_321 kw_322 kw_307 ydX12_isThrown [0] [] rfl rfl rfl rfl (by decide) (ci := 16) (q0 := 0) rfl rfl rfl rfl rfl (Nat.le_of_ble_eq_true rfl) dX12_isTired_7 ⟨Nat.le_of_ble_eq_true rfl, Nat.le_of_ble_eq_true rfl⟩ ⟨Nat.le_of_ble_eq_true rfl, Nat.le_of_ble_eq_true rfl⟩ (fun _ _ _ _ _ _ hX _ _ _ _ _ _ => hX.elim) (fun v w1 H locs hQ hP hD hS => ?_)
  obtain ⟨rfl, rfl⟩ := hQ
  have hP : va_P g.1 vwCl [(m0, .inr (16, mO r p0 p1 p9 p10 p18 p27 p28 p30 p44 p45 0 0 0 0 0 0 0 0 0 0 0 1))] H := hP
  have hD : va_D A [(m0, .inr (16, mO r p0 p1 p9 p10 p18 p27 p28 p30 p44 p45 0 0 0 0 0 0 0 0 0 0 0 1))] := hD
  refine W.widen (k := 0) (n := 0) (by decide) (by decide) ?_
  refine W.eq (g2 := F0 m 10 ls [.int 1]) rfl ?_
  refine lv_if_ne (tgt := 25) hx hb dX12_isTired_10 (by decide) (fun _ => ?_) (fun c10_3 => absurd c10_3 (by decide))
  refine lv_iconst (v := 0) hx hb dX12_isTired_25 (by decide) ?_
  exact kretZ K hP hD hS [0] [(m0, .inr (16, mO r p0 p1 p9 p10 p18 p27 p28 p30 p44 p45 0 0 0 0 0 0 0 0 0 0 0 1))] rfl rfl (⟨rfl, rfl⟩) (by decide) (by decide) dX12_isTired_26

set_option maxHeartbeats 4000000 in
set_option maxRecDepth 100000 in
theorem m_X12_addAhead (l : Launch) (hl0 : l.stackTraces = false) (g : kG) (m0 : Nat) (r : Nat → Nat) (p0 : Nat) (p1 : Nat) (p9 : Nat) (p10 : Nat) (p18 : Nat) (p27 : Nat) (p28 : Nat) (p30 : Nat) (p44 : Nat) (p45 : Nat) (x0 : Int32) (x1 : Int32)  : kc l g yX12_addAhead prog_14_method_79_code 12 (some .int) 2 43 0 0 [.ref m0, .int x0, .int x1] [(m0, .inr (16, mO r p0 p1 p9 p10 p18 p27 p28 p30 p44 p45 0 0 0 0 0 0 0 0 0 0 0 0))] (fun v w => (v = some (.int 0) ∧ w = [(m0, .inr (16, mO r p0 p1 p9 p10 p18 p27 p28 p30 p44 p45 0 0 0 0 0 0 0 0 0 0 0 1))])) (fun _ _ => False) := by
  refine kbody (by decide) (Nat.le_of_ble_eq_true rfl) ?_
  intro p e s m args below meth c A H K ht G hP hD hA hS ls hl
  have K : KB p s m meth c RX12 "addAhead" prog_14_method_79_code 12 (some .int) := K
  obtain ⟨hx, hb, hml, hown, hlocks, hr, hin⟩ := id K
  have hl : lv_has ls 12 [(0, .ref m0), (1, .int x0), (2, .int x1)] := hl
  refine lv_aload_n hx hb dX12_addAhead_0 rfl (lv_at hl 0 rfl) ?_
  refine lv_aload_n hx hb dX12_addAhead_1 rfl (lv_at hl 0 rfl) ?_
  refine lv_iload_n hx hb dX12_addAhead_2 rfl (lv_at hl 1 rfl) ?_
  refine kcallV (wc := [(m0, .inr (16, mO r p0 p1 p9 p10 p18 p27 p28 p30 p44 p45 0 0 0 0 0 0 0 0 0 0 0 0))]) (wr := []) (As := [.int x0]) (rest := [.ref m0]) K G (m_X12_isNoRecording l hl0 g m0 r p0 p1 p9 p10 p18 p27 p28 p30 p44 p45 x0 0 ) hP hD hS hA hl kw_335 kw_336 kw_337 kw_338 kw_307 ydX12_isNoRecording [0] [] rfl rfl rfl rfl (by decide) (ci := 16) (q0 := 0) rfl rfl rfl rfl rfl (Nat.le_of_ble_eq_true rfl) dX12_addAhead_3 ⟨Nat.le_of_ble_eq_true rfl, Nat.le_of_ble_eq_true rfl⟩ ⟨Nat.le_of_ble_eq_true rfl, Nat.le_of_ble_eq_true rfl⟩ (fun _ _ _ _ _ _ hX _ _ _ _ _ _ => hX.elim) (fun v w1 H locs hQ hP hD hS => ?_)
  obtain ⟨rfl, rfl⟩ := hQ
  have hP : va_P g.1 vwCl [(m0, .inr (16, mO r p0 p1 p9 p10 p18 p27 p28 p30 p44 p45 0 0 0 0 0 0 0 0 0 0 0 0))] H := hP
  have hD : va_D A [(m0, .inr (16, mO r p0 p1 p9 p10 p18 p27 p28 p30 p44 p45 0 0 0 0 0 0 0 0 0 0 0 0))] := hD
  refine W.widen (k := 0) (n := 0) (by decide) (by decide) ?_
  refine W.eq (g2 := F0 m 6 ls [.int 1, .ref m0]) rfl ?_
  refine lv_if_ne (tgt := 17) hx hb dX12_addAhead_6 (by decide) (fun _ => ?_) (fun c6_2 => absurd c6_2 (by decide))
  refine lv_iconst (v := 1) hx hb dX12_addAhead_17 (by decide) ?_
  refine lv_goto (tgt := 22) hx hb dX12_addAhead_18 (by decide) ?_
  refine lv_iconst (v := 1) hx hb dX12_addAhead_22 (by decide) ?_
  refine kcallV (wc := [(m0, .inr (16, mO r p0 p1 p9 p10 p18 p27 p28 p30 p44 p45 0 0 0 0 0 0 0 0 0 0 0 0))]) (wr := []) (As := [.int 1, .int 1]) (rest := []) K G (m_X12_isThrown1 l hl0 g m0 r p0 p1 p9 p10 p18 p27 p28 p30 p44 p45 0 0 0 0 0 0 0 0 0 0 0 0 1 ) hP hD hS hA hl kw_319 kw_320 kw_321 kw_322 kw_307 ydX12_isThrown [0] [] rfl rfl rfl rfl (by decide) (ci := 16) (q0 := 0) rfl rfl rfl rfl rfl (Nat.le_of_ble_eq_true rfl) dX12_addAhead_23 ⟨Nat.le_of_ble_eq_true rfl, Nat.le_of_ble_eq_true rfl⟩ ⟨Nat.le_of_ble_eq_true rfl, Nat.le_of_ble_eq_true rfl⟩ (fun _ _ _ _ _ _ hX _ _ _ _ _ _ => hX.elim) (fun v w1 H locs hQ hP hD hS => ?_)
  obtain ⟨rfl, rfl⟩ := hQ
  have hP : va_P g.1 vwCl [(m0, .inr (16, mO r p0 p1 p9 p10 p18 p27 p28 p30 p44 p45 0 0 0 0 0 0 0 0 0 0 0 1))] H := hP
  have hD : va_D A [(m0, .inr (16, mO r p0 p1 p9 p10 p18 p27 p28 p30 p44 p45 0 0 0 0 0 0 0 0 0 0 0 1))] := hD
  refine W.widen (k := 0) (n := 0) (by decide) (by decide) ?_
  refine W.eq (g2 := F0 m 26 ls [.int 1]) rfl ?_
  refine lv_if_ne (tgt := 80) hx hb dX12_addAhead_26 (by decide) (fun _ => ?_) (fun c26_4 => absurd c26_4 (by decide))
  refine lv_iconst (v := 0) hx hb dX12_addAhead_80 (by decide) ?_
  exact kretI K hP hD hS [0] [(m0, .inr (16, mO r p0 p1 p9 p10 p18 p27 p28 p30 p44 p45 0 0 0 0 0 0 0 0 0 0 0 1))] rfl rfl (⟨rfl, rfl⟩) (by decide) (by decide) dX12_addAhead_81

set_option maxHeartbeats 4000000 in
set_option maxRecDepth 100000 in
theorem m_X12_getChoices (l : Launch) (hl0 : l.stackTraces = false) (g : kG) (m0 : Nat) (r : Nat → Nat) (p0 : Nat) (p1 : Nat) (p9 : Nat) (p10 : Nat) (p18 : Nat) (p27 : Nat) (p28 : Nat) (p30 : Nat) (p44 : Nat) (p45 : Nat) (x0 : Int32)  : kc l g yX12_getChoices prog_14_method_81_code 4 (some .int) 2 43 0 0 [.ref m0, .int x0] [(m0, .inr (16, mO r p0 p1 p9 p10 p18 p27 p28 p30 p44 p45 0 0 0 0 0 0 0 0 0 0 0 0))] (fun v w => (v = some (.int 0) ∧ w = [(m0, .inr (16, mO r p0 p1 p9 p10 p18 p27 p28 p30 p44 p45 0 0 0 0 0 0 0 0 0 0 0 1))])) (fun _ _ => False) := by
  refine kbody (by decide) (Nat.le_of_ble_eq_true rfl) ?_
  intro p e s m args below meth c A H K ht G hP hD hA hS ls hl
  have K : KB p s m meth c RX12 "getChoices" prog_14_method_81_code 4 (some .int) := K
  obtain ⟨hx, hb, hml, hown, hlocks, hr, hin⟩ := id K
  have hl : lv_has ls 4 [(0, .ref m0), (1, .int x0)] := hl
  refine lv_aload_n hx hb dX12_getChoices_0 rfl (lv_at hl 0 rfl) ?_
  refine lv_aload_n hx hb dX12_getChoices_1 rfl (lv_at hl 0 rfl) ?_
  refine lv_iload_n hx hb dX12_getChoices_2 rfl (lv_at hl 1 rfl) ?_
  refine kcallV (wc := [(m0, .inr (16, mO r p0 p1 p9 p10 p18 p27 p28 p30 p44 p45 0 0 0 0 0 0 0 0 0 0 0 0))]) (wr := []) (As := [.int x0]) (rest := [.ref m0]) K G (m_X12_isNoRecording l hl0 g m0 r p0 p1 p9 p10 p18 p27 p28 p30 p44 p45 x0 0 ) hP hD hS hA hl kw_335 kw_336 kw_337 kw_338 kw_307 ydX12_isNoRecording [0] [] rfl rfl rfl rfl (by decide) (ci := 16) (q0 := 0) rfl rfl rfl rfl rfl (Nat.le_of_ble_eq_true rfl) dX12_getChoices_3 ⟨Nat.le_of_ble_eq_true rfl, Nat.le_of_ble_eq_true rfl⟩ ⟨Nat.le_of_ble_eq_true rfl, Nat.le_of_ble_eq_true rfl⟩ (fun _ _ _ _ _ _ hX _ _ _ _ _ _ => hX.elim) (fun v w1 H locs hQ hP hD hS => ?_)
  obtain ⟨rfl, rfl⟩ := hQ
  have hP : va_P g.1 vwCl [(m0, .inr (16, mO r p0 p1 p9 p10 p18 p27 p28 p30 p44 p45 0 0 0 0 0 0 0 0 0 0 0 0))] H := hP
  have hD : va_D A [(m0, .inr (16, mO r p0 p1 p9 p10 p18 p27 p28 p30 p44 p45 0 0 0 0 0 0 0 0 0 0 0 0))] := hD
  refine W.widen (k := 0) (n := 0) (by decide) (by decide) ?_
  refine W.eq (g2 := F0 m 6 ls [.int 1, .ref m0]) rfl ?_
  refine lv_iconst (v := 1) hx hb dX12_getChoices_6 (by decide) ?_
  refine kcallV (wc := [(m0, .inr (16, mO r p0 p1 p9 p10 p18 p27 p28 p30 p44 p45 0 0 0 0 0 0 0 0 0 0 0 0))]) (wr := []) (As := [.int 1, .int 1]) (rest := []) K G (m_X12_isThrown1 l hl0 g m0 r p0 p1 p9 p10 p18 p27 p28 p30 p44 p45 0 0 0 0 0 0 0 0 0 0 0 0 1 ) hP hD hS hA hl kw_319 kw_320 kw_321 kw_322 kw_307 ydX12_isThrown [0] [] rfl rfl rfl rfl (by decide) (ci := 16) (q0 := 0) rfl rfl rfl rfl rfl (Nat.le_of_ble_eq_true rfl) dX12_getChoices_7 ⟨Nat.le_of_ble_eq_true rfl, Nat.le_of_ble_eq_true rfl⟩ ⟨Nat.le_of_ble_eq_true rfl, Nat.le_of_ble_eq_true rfl⟩ (fun _ _ _ _ _ _ hX _ _ _ _ _ _ => hX.elim) (fun v w1 H locs hQ hP hD hS => ?_)
  obtain ⟨rfl, rfl⟩ := hQ
  have hP : va_P g.1 vwCl [(m0, .inr (16, mO r p0 p1 p9 p10 p18 p27 p28 p30 p44 p45 0 0 0 0 0 0 0 0 0 0 0 1))] H := hP
  have hD : va_D A [(m0, .inr (16, mO r p0 p1 p9 p10 p18 p27 p28 p30 p44 p45 0 0 0 0 0 0 0 0 0 0 0 1))] := hD
  refine W.widen (k := 0) (n := 0) (by decide) (by decide) ?_
  refine W.eq (g2 := F0 m 10 ls [.int 1]) rfl ?_
  refine lv_if_eq (tgt := 15) hx hb dX12_getChoices_10 (by decide) (fun c10_3 => absurd c10_3 (by decide)) (fun _ => ?_)
  refine lv_iconst (v := 0) hx hb dX12_getChoices_13 (by decide) ?_
  exact kretI K hP hD hS [0] [(m0, .inr (16, mO r p0 p1 p9 p10 p18 p27 p28 p30 p44 p45 0 0 0 0 0 0 0 0 0 0 0 1))] rfl rfl (⟨rfl, rfl⟩) (by decide) (by decide) dX12_getChoices_14

set_option maxHeartbeats 4000000 in
set_option maxRecDepth 100000 in
theorem m_X12_getDate (l : Launch) (hl0 : l.stackTraces = false) (g : kG) (m0 : Nat) (r : Nat → Nat) (p0 : Nat) (p1 : Nat) (p9 : Nat) (p10 : Nat) (p18 : Nat) (p27 : Nat) (p28 : Nat) (p30 : Nat) (p44 : Nat) (p45 : Nat) (x0 : Int32) (x1 : Int32)  : kc l g yX12_getDate prog_14_method_86_code 4 (some .int) 2 43 0 0 [.ref m0, .int x0, .int x1] [(m0, .inr (16, mO r p0 p1 p9 p10 p18 p27 p28 p30 p44 p45 0 0 0 0 0 0 0 0 0 0 0 0))] (fun v w => (v = some (.int 0) ∧ w = [(m0, .inr (16, mO r p0 p1 p9 p10 p18 p27 p28 p30 p44 p45 0 0 0 0 0 0 0 0 0 0 0 1))])) (fun _ _ => False) := by
  refine kbody (by decide) (Nat.le_of_ble_eq_true rfl) ?_
  intro p e s m args below meth c A H K ht G hP hD hA hS ls hl
  have K : KB p s m meth c RX12 "getDate" prog_14_method_86_code 4 (some .int) := K
  obtain ⟨hx, hb, hml, hown, hlocks, hr, hin⟩ := id K
  have hl : lv_has ls 4 [(0, .ref m0), (1, .int x0), (2, .int x1)] := hl
  refine lv_aload_n hx hb dX12_getDate_0 rfl (lv_at hl 0 rfl) ?_
  refine lv_aload_n hx hb dX12_getDate_1 rfl (lv_at hl 0 rfl) ?_
  refine lv_iload_n hx hb dX12_getDate_2 rfl (lv_at hl 1 rfl) ?_
  refine kcallV (wc := [(m0, .inr (16, mO r p0 p1 p9 p10 p18 p27 p28 p30 p44 p45 0 0 0 0 0 0 0 0 0 0 0 0))]) (wr := []) (As := [.int x0]) (rest := [.ref m0]) K G (m_X12_isNoRecording l hl0 g m0 r p0 p1 p9 p10 p18 p27 p28 p30 p44 p45 x0 0 ) hP hD hS hA hl kw_335 kw_336 kw_337 kw_338 kw_307 ydX12_isNoRecording [0] [] rfl rfl rfl rfl (by decide) (ci := 16) (q0 := 0) rfl rfl rfl rfl rfl (Nat.le_of_ble_eq_true rfl) dX12_getDate_3 ⟨Nat.le_of_ble_eq_true rfl, Nat.le_of_ble_eq_true rfl⟩ ⟨Nat.le_of_ble_eq_true rfl, Nat.le_of_ble_eq_true rfl⟩ (fun _ _ _ _ _ _ hX _ _ _ _ _ _ => hX.elim) (fun v w1 H locs hQ hP hD hS => ?_)
  obtain ⟨rfl, rfl⟩ := hQ
  have hP : va_P g.1 vwCl [(m0, .inr (16, mO r p0 p1 p9 p10 p18 p27 p28 p30 p44 p45 0 0 0 0 0 0 0 0 0 0 0 0))] H := hP
  have hD : va_D A [(m0, .inr (16, mO r p0 p1 p9 p10 p18 p27 p28 p30 p44 p45 0 0 0 0 0 0 0 0 0 0 0 0))] := hD
  refine W.widen (k := 0) (n := 0) (by decide) (by decide) ?_
  refine W.eq (g2 := F0 m 6 ls [.int 1, .ref m0]) rfl ?_
  refine lv_iconst (v := 1) hx hb dX12_getDate_6 (by decide) ?_
  refine kcallV (wc := [(m0, .inr (16, mO r p0 p1 p9 p10 p18 p27 p28 p30 p44 p45 0 0 0 0 0 0 0 0 0 0 0 0))]) (wr := []) (As := [.int 1, .int 1]) (rest := []) K G (m_X12_isThrown1 l hl0 g m0 r p0 p1 p9 p10 p18 p27 p28 p30 p44 p45 0 0 0 0 0 0 0 0 0 0 0 0 1 ) hP hD hS hA hl kw_319 kw_320 kw_321 kw_322 kw_307 ydX12_isThrown [0] [] rfl rfl rfl rfl (by decide) (ci := 16) (q0 := 0) rfl rfl rfl rfl rfl (Nat.le_of_ble_eq_true rfl) dX12_getDate_7 ⟨Nat.le_of_ble_eq_true rfl, Nat.le_of_ble_eq_true rfl⟩ ⟨Nat.le_of_ble_eq_true rfl, Nat.le_of_ble_eq_true rfl⟩ (fun _ _ _ _ _ _ hX _ _ _ _ _ _ => hX.elim) (fun v w1 H locs hQ hP hD hS => ?_)
  obtain ⟨rfl, rfl⟩ := hQ
  have hP : va_P g.1 vwCl [(m0, .inr (16, mO r p0 p1 p9 p10 p18 p27 p28 p30 p44 p45 0 0 0 0 0 0 0 0 0 0 0 1))] H := hP
  have hD : va_D A [(m0, .inr (16, mO r p0 p1 p9 p10 p18 p27 p28 p30 p44 p45 0 0 0 0 0 0 0 0 0 0 0 1))] := hD
  refine W.widen (k := 0) (n := 0) (by decide) (by decide) ?_
  refine W.eq (g2 := F0 m 10 ls [.int 1]) rfl ?_
  refine lv_if_eq (tgt := 15) hx hb dX12_getDate_10 (by decide) (fun c10_3 => absurd c10_3 (by decide)) (fun _ => ?_)
  refine lv_iconst (v := 0) hx hb dX12_getDate_13 (by decide) ?_
  exact kretI K hP hD hS [0] [(m0, .inr (16, mO r p0 p1 p9 p10 p18 p27 p28 p30 p44 p45 0 0 0 0 0 0 0 0 0 0 0 1))] rfl rfl (⟨rfl, rfl⟩) (by decide) (by decide) dX12_getDate_14

set_option maxHeartbeats 4000000 in
set_option maxRecDepth 100000 in
theorem m_X12_addLand (l : Launch) (hl0 : l.stackTraces = false) (g : kG) (m0 : Nat) (r : Nat → Nat) (p0 : Nat) (p1 : Nat) (p9 : Nat) (p10 : Nat) (p18 : Nat) (p27 : Nat) (p28 : Nat) (p30 : Nat) (p44 : Nat) (p45 : Nat) (f0 : Nat → Option Nat) (z0 : Nat) (f9 : Nat → Option Nat) (z9 : Nat) (f10 : Nat → Option Nat) (z10 : Nat) (f27 : Nat → Option Nat) (z27 : Nat) (f45 : Nat → Option Nat) (z45 : Nat) (x0 : Int32) (x1 : Int32) (x2 : Int32)  : kc l g yX12_addLand prog_14_method_9_code 4 (some .int) 2 43 0 0 [.ref m0, .int x0, .int x1, .int x2] [(m0, .inr (16, mO r p0 p1 p9 p10 p18 p27 p28 p30 p44 p45 0 0 0 0 0 0 0 0 0 0 0 0)), (p0, .inl ((g.2.2.1 5), 4, .inr (.inr (.inr (.inr (va_up f0 0 (some z0))))))), (z0, .inl ((g.2.2.1 0), 2, .inl (fun _ => 0))), (p1, .inl ((g.2.2.1 0), 4, .inl (fun _ => 0)))] (fun v w => (∃ j0 : Int32, ∃ j1 : Int32, ∃ j2 : Int32, ∃ j3 : Int32, ∃ j4 : Int32, ∃ j5 : Int32, ∃ j6 : Int32, ∃ j7 : Int32, ∃ j8 : Int32, ∃ j9 : Int32, ∃ j10 : Int32, v = some (.int 0) ∧ w = [(m0, .inr (16, mO r p0 p1 p9 p10 p18 p27 p28 p30 p44 p45 j0 j1 j2 j3 j4 j5 j6 j7 j8 j9 j10 0))] ∧ (inR x0 (-999) 999 && inR x1 (-999) 999 && inR x2 1 50) = true) ∨ (∃ j0 : Int32, ∃ j1 : Int32, ∃ j2 : Int32, ∃ j3 : Int32, ∃ j4 : Int32, ∃ j5 : Int32, ∃ j6 : Int32, ∃ j7 : Int32, ∃ j8 : Int32, ∃ j9 : Int32, ∃ j10 : Int32, v = some (.int 0) ∧ w = [(m0, .inr (16, mO r p0 p1 p9 p10 p18 p27 p28 p30 p44 p45 j0 j1 j2 j3 j4 j5 j6 j7 j8 j9 j10 1))] ∧ (inR x0 (-999) 999 && inR x1 (-999) 999 && inR x2 1 50) = false)) (fun _ _ => False) := by
  refine kbody (by decide) (Nat.le_of_ble_eq_true rfl) ?_
  intro p e s m args below meth c A H K ht G hP hD hA hS ls hl
  have K : KB p s m meth c RX12 "addLand" prog_14_method_9_code 4 (some .int) := K
  obtain ⟨hx, hb, hml, hown, hlocks, hr, hin⟩ := id K
  have hl : lv_has ls 4 [(0, .ref m0), (1, .int x0), (2, .int x1), (3, .int x2)] := hl
  refine lv_aload_n hx hb dX12_addLand_0 rfl (lv_at hl 0 rfl) ?_
  refine lv_iload_n hx hb dX12_addLand_1 rfl (lv_at hl 1 rfl) ?_
  refine lv_iload_n hx hb dX12_addLand_2 rfl (lv_at hl 2 rfl) ?_
  refine kcallS (wc := []) (wr := [(m0, .inr (16, mO r p0 p1 p9 p10 p18 p27 p28 p30 p44 p45 0 0 0 0 0 0 0 0 0 0 0 0)), (p0, .inl ((g.2.2.1 5), 4, .inr (.inr (.inr (.inr (va_up f0 0 (some z0))))))), (z0, .inl ((g.2.2.1 0), 2, .inl (fun _ => 0))), (p1, .inl ((g.2.2.1 0), 4, .inl (fun _ => 0)))]) (As := [.int x0, .int x1]) (rest := [.ref m0]) K G (m_X12_isPlace l hl0 g x0 x1 ) hP hD hS hA hl kw_339 kw_340 kw_341 kw_307 ydX12_isPlace [] [0, 1, 2, 3] rfl rfl rfl rfl (by decide) rfl rfl (Nat.le_of_ble_eq_true rfl) dX12_addLand_3 ⟨Nat.le_of_ble_eq_true rfl, Nat.le_of_ble_eq_true rfl⟩ ⟨Nat.le_of_ble_eq_true rfl, Nat.le_of_ble_eq_true rfl⟩ (fun _ _ _ _ _ _ hX _ _ _ _ _ _ => hX.elim) (fun v w1 H locs hQ hP hD hS => ?_)
  rcases hQ with ⟨rfl, rfl, f_2⟩ | ⟨rfl, rfl, f_3⟩
  · have hP : va_P g.1 vwCl [(m0, .inr (16, mO r p0 p1 p9 p10 p18 p27 p28 p30 p44 p45 0 0 0 0 0 0 0 0 0 0 0 0)), (p0, .inl ((g.2.2.1 5), 4, .inr (.inr (.inr (.inr (va_up f0 0 (some z0))))))), (z0, .inl ((g.2.2.1 0), 2, .inl (fun _ => 0))), (p1, .inl ((g.2.2.1 0), 4, .inl (fun _ => 0)))] H := hP
    have hD : va_D A [(m0, .inr (16, mO r p0 p1 p9 p10 p18 p27 p28 p30 p44 p45 0 0 0 0 0 0 0 0 0 0 0 0)), (p0, .inl ((g.2.2.1 5), 4, .inr (.inr (.inr (.inr (va_up f0 0 (some z0))))))), (z0, .inl ((g.2.2.1 0), 2, .inl (fun _ => 0))), (p1, .inl ((g.2.2.1 0), 4, .inl (fun _ => 0)))] := hD
    refine W.widen (k := 0) (n := 0) (by decide) (by decide) ?_
    refine W.eq (g2 := F0 m 6 ls [.int 1, .ref m0]) rfl ?_
    refine lv_if_eq (tgt := 19) hx hb dX12_addLand_6 (by decide) (fun c6_4 => absurd c6_4 (by decide)) (fun _ => ?_)
    refine lv_iload_n hx hb dX12_addLand_9 rfl (lv_at hl 3 rfl) ?_
    refine lv_iconst (v := 1) hx hb dX12_addLand_10 (by decide) ?_
    refine lv_bipush (v := 50) hx hb dX12_addLand_11 (by decide) ?_
    refine kcallS (wc := []) (wr := [(m0, .inr (16, mO r p0 p1 p9 p10 p18 p27 p28 p30 p44 p45 0 0 0 0 0 0 0 0 0 0 0 0)), (p0, .inl ((g.2.2.1 5), 4, .inr (.inr (.inr (.inr (va_up f0 0 (some z0))))))), (z0, .inl ((g.2.2.1 0), 2, .inl (fun _ => 0))), (p1, .inl ((g.2.2.1 0), 4, .inl (fun _ => 0)))]) (As := [.int x2, .int 1, .int 50]) (rest := [.ref m0]) K G (m_X12_isIn l hl0 g x2 1 50 ) hP hD hS hA hl kw_305 kw_306 kw_308 kw_307 ydX12_isIn [] [0, 1, 2, 3] rfl rfl rfl rfl (by decide) rfl rfl (Nat.le_of_ble_eq_true rfl) dX12_addLand_13 ⟨Nat.le_of_ble_eq_true rfl, Nat.le_of_ble_eq_true rfl⟩ ⟨Nat.le_of_ble_eq_true rfl, Nat.le_of_ble_eq_true rfl⟩ (fun _ _ _ _ _ _ hX _ _ _ _ _ _ => hX.elim) (fun v w1 H locs hQ hP hD hS => ?_)
    rcases hQ with ⟨rfl, rfl, f_6⟩ | ⟨rfl, rfl, f_7⟩
    · have hP : va_P g.1 vwCl [(m0, .inr (16, mO r p0 p1 p9 p10 p18 p27 p28 p30 p44 p45 0 0 0 0 0 0 0 0 0 0 0 0)), (p0, .inl ((g.2.2.1 5), 4, .inr (.inr (.inr (.inr (va_up f0 0 (some z0))))))), (z0, .inl ((g.2.2.1 0), 2, .inl (fun _ => 0))), (p1, .inl ((g.2.2.1 0), 4, .inl (fun _ => 0)))] H := hP
      have hD : va_D A [(m0, .inr (16, mO r p0 p1 p9 p10 p18 p27 p28 p30 p44 p45 0 0 0 0 0 0 0 0 0 0 0 0)), (p0, .inl ((g.2.2.1 5), 4, .inr (.inr (.inr (.inr (va_up f0 0 (some z0))))))), (z0, .inl ((g.2.2.1 0), 2, .inl (fun _ => 0))), (p1, .inl ((g.2.2.1 0), 4, .inl (fun _ => 0)))] := hD
      refine W.widen (k := 0) (n := 0) (by decide) (by decide) ?_
      refine W.eq (g2 := F0 m 16 ls [.int 1, .ref m0]) rfl ?_
      refine lv_if_ne (tgt := 23) hx hb dX12_addLand_16 (by decide) (fun _ => ?_) (fun c16_8 => absurd c16_8 (by decide))
      refine lv_iconst (v := 0) hx hb dX12_addLand_23 (by decide) ?_
      refine lv_iconst (v := 1) hx hb dX12_addLand_24 (by decide) ?_
      refine kcallV (wc := [(m0, .inr (16, mO r p0 p1 p9 p10 p18 p27 p28 p30 p44 p45 0 0 0 0 0 0 0 0 0 0 0 0))]) (wr := [(p0, .inl ((g.2.2.1 5), 4, .inr (.inr (.inr (.inr (va_up f0 0 (some z0))))))), (z0, .inl ((g.2.2.1 0), 2, .inl (fun _ => 0))), (p1, .inl ((g.2.2.1 0), 4, .inl (fun _ => 0)))]) (As := [.int 0, .int 1]) (rest := []) K G (m_X12_isThrown0 l hl0 g m0 r p0 p1 p9 p10 p18 p27 p28 p30 p44 p45 0 0 0 0 0 0 0 0 0 0 0 0 1 ) hP hD hS hA hl kw_319 kw_320 kw_321 kw_322 kw_307 ydX12_isThrown [0] [1, 2, 3] rfl rfl rfl rfl (by decide) (ci := 16) (q0 := 0) rfl rfl rfl rfl rfl (Nat.le_of_ble_eq_true rfl) dX12_addLand_25 ⟨Nat.le_of_ble_eq_true rfl, Nat.le_of_ble_eq_true rfl⟩ ⟨Nat.le_of_ble_eq_true rfl, Nat.le_of_ble_eq_true rfl⟩ (fun _ _ _ _ _ _ hX _ _ _ _ _ _ => hX.elim) (fun v w1 H locs hQ hP hD hS => ?_)
      obtain ⟨rfl, rfl⟩ := hQ
      have hP : va_P g.1 vwCl [(p0, .inl ((g.2.2.1 5), 4, .inr (.inr (.inr (.inr (va_up f0 0 (some z0))))))), (z0, .inl ((g.2.2.1 0), 2, .inl (fun _ => 0))), (p1, .inl ((g.2.2.1 0), 4, .inl (fun _ => 0))), (m0, .inr (16, mO r p0 p1 p9 p10 p18 p27 p28 p30 p44 p45 0 0 0 0 0 0 0 0 0 0 0 0))] H := hP
      have hD : va_D A [(p0, .inl ((g.2.2.1 5), 4, .inr (.inr (.inr (.inr (va_up f0 0 (some z0))))))), (z0, .inl ((g.2.2.1 0), 2, .inl (fun _ => 0))), (p1, .inl ((g.2.2.1 0), 4, .inl (fun _ => 0))), (m0, .inr (16, mO r p0 p1 p9 p10 p18 p27 p28 p30 p44 p45 0 0 0 0 0 0 0 0 0 0 0 0))] := hD
      refine W.widen (k := 0) (n := 0) (by decide) (by decide) ?_
      refine W.eq (g2 := F0 m 28 ls [.int 0]) rfl ?_
      refine lv_if_ne (tgt := 52) hx hb dX12_addLand_28 (by decide) (fun c28_10 => absurd c28_10 (by decide)) (fun _ => ?_)
      refine lv_aload_n hx hb dX12_addLand_31 rfl (lv_at hl 0 rfl) ?_
      refine lv_aload_n hx hb dX12_addLand_32 rfl (lv_at hl 0 rfl) ?_
      refine va_get (D := g.1) (ci := 16) (v := .int 0) (C := RX12) (T := TX12) (N := 59) hx hb G.ws inX12 hown G.K hP 3 rfl rfl 47 (by decide) (G.w kw_310) (fun _ h9 => h9) rfl dX12_addLand_33 ?_
      refine lv_iconst (v := 4) hx hb dX12_addLand_36 (by decide) ?_
      refine lv_icmp_ne (tgt := 44) hx hb dX12_addLand_37 (by decide) (fun _ => ?_) (fun c37_11 => absurd c37_11 (by decide))
      refine lv_iconst (v := 0) hx hb dX12_addLand_44 (by decide) ?_
      refine lv_iconst (v := 2) hx hb dX12_addLand_45 (by decide) ?_
      refine kcallV (wc := [(m0, .inr (16, mO r p0 p1 p9 p10 p18 p27 p28 p30 p44 p45 0 0 0 0 0 0 0 0 0 0 0 0))]) (wr := [(p0, .inl ((g.2.2.1 5), 4, .inr (.inr (.inr (.inr (va_up f0 0 (some z0))))))), (z0, .inl ((g.2.2.1 0), 2, .inl (fun _ => 0))), (p1, .inl ((g.2.2.1 0), 4, .inl (fun _ => 0)))]) (As := [.int 0, .int 2]) (rest := []) K G (m_X12_isThrown0 l hl0 g m0 r p0 p1 p9 p10 p18 p27 p28 p30 p44 p45 0 0 0 0 0 0 0 0 0 0 0 0 2 ) hP hD hS hA hl kw_319 kw_320 kw_321 kw_322 kw_307 ydX12_isThrown [3] [0, 1, 2] rfl rfl rfl rfl (by decide) (ci := 16) (q0 := 3) rfl rfl rfl rfl rfl (Nat.le_of_ble_eq_true rfl) dX12_addLand_46 ⟨Nat.le_of_ble_eq_true rfl, Nat.le_of_ble_eq_true rfl⟩ ⟨Nat.le_of_ble_eq_true rfl, Nat.le_of_ble_eq_true rfl⟩ (fun _ _ _ _ _ _ hX _ _ _ _ _ _ => hX.elim) (fun v w1 H locs hQ hP hD hS => ?_)
      obtain ⟨rfl, rfl⟩ := hQ
      have hP : va_P g.1 vwCl [(p0, .inl ((g.2.2.1 5), 4, .inr (.inr (.inr (.inr (va_up f0 0 (some z0))))))), (z0, .inl ((g.2.2.1 0), 2, .inl (fun _ => 0))), (p1, .inl ((g.2.2.1 0), 4, .inl (fun _ => 0))), (m0, .inr (16, mO r p0 p1 p9 p10 p18 p27 p28 p30 p44 p45 0 0 0 0 0 0 0 0 0 0 0 0))] H := hP
      have hD : va_D A [(p0, .inl ((g.2.2.1 5), 4, .inr (.inr (.inr (.inr (va_up f0 0 (some z0))))))), (z0, .inl ((g.2.2.1 0), 2, .inl (fun _ => 0))), (p1, .inl ((g.2.2.1 0), 4, .inl (fun _ => 0))), (m0, .inr (16, mO r p0 p1 p9 p10 p18 p27 p28 p30 p44 p45 0 0 0 0 0 0 0 0 0 0 0 0))] := hD
      refine W.widen (k := 0) (n := 0) (by decide) (by decide) ?_
      refine W.eq (g2 := F0 m 49 ls [.int 0]) rfl ?_
      refine lv_if_eq (tgt := 54) hx hb dX12_addLand_49 (by decide) (fun _ => ?_) (fun c49_13 => absurd c49_13 (by decide))
      refine lv_aload_n hx hb dX12_addLand_54 rfl (lv_at hl 0 rfl) ?_
      refine va_get (D := g.1) (ci := 16) (v := .ref p0) (C := RX12) (T := TX12) (N := 59) hx hb G.ws inX12 hown G.K hP 3 rfl rfl 0 (by decide) (G.w kw_342) (fun _ h9 => h9) rfl dX12_addLand_55 ?_
      refine lv_aload_n hx hb dX12_addLand_58 rfl (lv_at hl 0 rfl) ?_
      refine va_get (D := g.1) (ci := 16) (v := .int 0) (C := RX12) (T := TX12) (N := 59) hx hb G.ws inX12 hown G.K hP 3 rfl rfl 47 (by decide) (G.w kw_310) (fun _ h9 => h9) rfl dX12_addLand_59 ?_
      refine kaald (q0 := 0) (v := z0) hx hb G hP rfl (i := 0) (vp_in_iff.mpr ⟨by decide, by decide⟩) rfl dX12_addLand_62 ?_
      refine lv_iconst (v := 0) hx hb dX12_addLand_63 (by decide) ?_
      refine lv_iload_n hx hb dX12_addLand_64 rfl (lv_at hl 1 rfl) ?_
      refine va_iast hx hb G.K hP hD hS 1 0 rfl rfl (i := 0) (vp_in_iff.mpr ⟨by decide, by decide⟩) dX12_addLand_65 (fun H locs hP hD hS => ?_)
      have hP : va_P g.1 vwCl [(p0, .inl ((g.2.2.1 5), 4, .inr (.inr (.inr (.inr (va_up f0 0 (some z0))))))), (z0, .inl ((g.2.2.1 0), 2, .inl (upd (fun _ => 0) 0 x0))), (p1, .inl ((g.2.2.1 0), 4, .inl (fun _ => 0))), (m0, .inr (16, mO r p0 p1 p9 p10 p18 p27 p28 p30 p44 p45 0 0 0 0 0 0 0 0 0 0 0 0))] H := hP
      have hD : va_D A [(p0, .inl ((g.2.2.1 5), 4, .inr (.inr (.inr (.inr (va_up f0 0 (some z0))))))), (z0, .inl ((g.2.2.1 0), 2, .inl (upd (fun _ => 0) 0 x0))), (p1, .inl ((g.2.2.1 0), 4, .inl (fun _ => 0))), (m0, .inr (16, mO r p0 p1 p9 p10 p18 p27 p28 p30 p44 p45 0 0 0 0 0 0 0 0 0 0 0 0))] := hD
      refine lv_aload_n hx hb dX12_addLand_66 rfl (lv_at hl 0 rfl) ?_
      refine va_get (D := g.1) (ci := 16) (v := .ref p0) (C := RX12) (T := TX12) (N := 59) hx hb G.ws inX12 hown G.K hP 3 rfl rfl 0 (by decide) (G.w kw_342) (fun _ h9 => h9) rfl dX12_addLand_67 ?_
      refine lv_aload_n hx hb dX12_addLand_70 rfl (lv_at hl 0 rfl) ?_
      refine va_get (D := g.1) (ci := 16) (v := .int 0) (C := RX12) (T := TX12) (N := 59) hx hb G.ws inX12 hown G.K hP 3 rfl rfl 47 (by decide) (G.w kw_310) (fun _ h9 => h9) rfl dX12_addLand_71 ?_
      refine kaald (q0 := 0) (v := z0) hx hb G hP rfl (i := 0) (vp_in_iff.mpr ⟨by decide, by decide⟩) rfl dX12_addLand_74 ?_
      refine lv_iconst (v := 1) hx hb dX12_addLand_75 (by decide) ?_
      refine lv_iload_n hx hb dX12_addLand_76 rfl (lv_at hl 2 rfl) ?_
      refine va_iast hx hb G.K hP hD hS 1 0 rfl rfl (i := 1) (vp_in_iff.mpr ⟨by decide, by decide⟩) dX12_addLand_77 (fun H locs hP hD hS => ?_)
      have hP : va_P g.1 vwCl [(p0, .inl ((g.2.2.1 5), 4, .inr (.inr (.inr (.inr (va_up f0 0 (some z0))))))), (z0, .inl ((g.2.2.1 0), 2, .inl (upd (upd (fun _ => 0) 0 x0) 1 x1))), (p1, .inl ((g.2.2.1 0), 4, .inl (fun _ => 0))), (m0, .inr (16, mO r p0 p1 p9 p10 p18 p27 p28 p30 p44 p45 0 0 0 0 0 0 0 0 0 0 0 0))] H := hP
      have hD : va_D A [(p0, .inl ((g.2.2.1 5), 4, .inr (.inr (.inr (.inr (va_up f0 0 (some z0))))))), (z0, .inl ((g.2.2.1 0), 2, .inl (upd (upd (fun _ => 0) 0 x0) 1 x1))), (p1, .inl ((g.2.2.1 0), 4, .inl (fun _ => 0))), (m0, .inr (16, mO r p0 p1 p9 p10 p18 p27 p28 p30 p44 p45 0 0 0 0 0 0 0 0 0 0 0 0))] := hD
      refine lv_aload_n hx hb dX12_addLand_78 rfl (lv_at hl 0 rfl) ?_
      refine va_get (D := g.1) (ci := 16) (v := .ref p1) (C := RX12) (T := TX12) (N := 59) hx hb G.ws inX12 hown G.K hP 3 rfl rfl 1 (by decide) (G.w kw_343) (fun _ h9 => h9) rfl dX12_addLand_79 ?_
      refine lv_aload_n hx hb dX12_addLand_82 rfl (lv_at hl 0 rfl) ?_
      refine va_get (D := g.1) (ci := 16) (v := .int 0) (C := RX12) (T := TX12) (N := 59) hx hb G.ws inX12 hown G.K hP 3 rfl rfl 47 (by decide) (G.w kw_310) (fun _ h9 => h9) rfl dX12_addLand_83 ?_
      refine lv_iload_n hx hb dX12_addLand_86 rfl (lv_at hl 3 rfl) ?_
      refine va_iast hx hb G.K hP hD hS 2 0 rfl rfl (i := 0) (vp_in_iff.mpr ⟨by decide, by decide⟩) dX12_addLand_87 (fun H locs hP hD hS => ?_)
      have hP : va_P g.1 vwCl [(p0, .inl ((g.2.2.1 5), 4, .inr (.inr (.inr (.inr (va_up f0 0 (some z0))))))), (z0, .inl ((g.2.2.1 0), 2, .inl (upd (upd (fun _ => 0) 0 x0) 1 x1))), (p1, .inl ((g.2.2.1 0), 4, .inl (upd (fun _ => 0) 0 x2))), (m0, .inr (16, mO r p0 p1 p9 p10 p18 p27 p28 p30 p44 p45 0 0 0 0 0 0 0 0 0 0 0 0))] H := hP
      have hD : va_D A [(p0, .inl ((g.2.2.1 5), 4, .inr (.inr (.inr (.inr (va_up f0 0 (some z0))))))), (z0, .inl ((g.2.2.1 0), 2, .inl (upd (upd (fun _ => 0) 0 x0) 1 x1))), (p1, .inl ((g.2.2.1 0), 4, .inl (upd (fun _ => 0) 0 x2))), (m0, .inr (16, mO r p0 p1 p9 p10 p18 p27 p28 p30 p44 p45 0 0 0 0 0 0 0 0 0 0 0 0))] := hD
      refine lv_aload_n hx hb dX12_addLand_88 rfl (lv_at hl 0 rfl) ?_
      refine lv_dup hx hb dX12_addLand_89 rfl ?_
      refine va_get (D := g.1) (ci := 16) (v := .int 0) (C := RX12) (T := TX12) (N := 59) hx hb G.ws inX12 hown G.K hP 3 rfl rfl 47 (by decide) (G.w kw_310) (fun _ h9 => h9) rfl dX12_addLand_90 ?_
      refine lv_iconst (v := 1) hx hb dX12_addLand_93 (by decide) ?_
      refine lv_iadd hx hb dX12_addLand_94 ?_
      refine lv_topi (fun y_14 ey_14 => ?_)
      obtain rfl : y_14 = 1 := ey_14.trans (by decide)
      refine va_put (D := g.1) (ci := 16) (v := .int 1) (ty := .int) (C := RX12) (T := TX12) (N := 59) hx hb G.ws inX12 tyX12 tyX12_ok nmX12 hown G.K hP hD hS 3 rfl rfl 47 (by decide) (G.w kw_310) (fun _ h9 => h9) (by decide +kernel) (by decide +kernel) rfl rfl (Nat.le_of_ble_eq_true rfl) dX12_addLand_95 (fun H locs hP hD hS => ?_)
      have hP : va_P g.1 vwCl [(p0, .inl ((g.2.2.1 5), 4, .inr (.inr (.inr (.inr (va_up f0 0 (some z0))))))), (z0, .inl ((g.2.2.1 0), 2, .inl (upd (upd (fun _ => 0) 0 x0) 1 x1))), (p1, .inl ((g.2.2.1 0), 4, .inl (upd (fun _ => 0) 0 x2))), (m0, .inr (16, mO r p0 p1 p9 p10 p18 p27 p28 p30 p44 p45 1 0 0 0 0 0 0 0 0 0 0 0))] H := hP
      have hD : va_D A [(p0, .inl ((g.2.2.1 5), 4, .inr (.inr (.inr (.inr (va_up f0 0 (some z0))))))), (z0, .inl ((g.2.2.1 0), 2, .inl (upd (upd (fun _ => 0) 0 x0) 1 x1))), (p1, .inl ((g.2.2.1 0), 4, .inl (upd (fun _ => 0) 0 x2))), (m0, .inr (16, mO r p0 p1 p9 p10 p18 p27 p28 p30 p44 p45 1 0 0 0 0 0 0 0 0 0 0 0))] := hD
      refine lv_aload_n hx hb dX12_addLand_98 rfl (lv_at hl 0 rfl) ?_
      refine va_get (D := g.1) (ci := 16) (v := .int 1) (C := RX12) (T := TX12) (N := 59) hx hb G.ws inX12 hown G.K hP 3 rfl rfl 47 (by decide) (G.w kw_310) (fun _ h9 => h9) rfl dX12_addLand_99 ?_
      refine lv_iconst (v := 1) hx hb dX12_addLand_102 (by decide) ?_
      refine lv_isub hx hb dX12_addLand_103 ?_
      refine lv_topi (fun y_15 ey_15 => ?_)
      obtain rfl : y_15 = 0 := ey_15.trans (by decide)
      exact kretI K hP hD hS [3] [(m0, .inr (16, mO r p0 p1 p9 p10 p18 p27 p28 p30 p44 p45 1 0 0 0 0 0 0 0 0 0 0 0))] rfl rfl (Or.inl ⟨1, 0, 0, 0, 0, 0, 0, 0, 0, 0, 0, rfl, rfl, (by simp [f_2, f_6])⟩) (by decide) (by decide) dX12_addLand_104
    · have hP : va_P g.1 vwCl [(m0, .inr (16, mO r p0 p1 p9 p10 p18 p27 p28 p30 p44 p45 0 0 0 0 0 0 0 0 0 0 0 0)), (p0, .inl ((g.2.2.1 5), 4, .inr (.inr (.inr (.inr (va_up f0 0 (some z0))))))), (z0, .inl ((g.2.2.1 0), 2, .inl (fun _ => 0))), (p1, .inl ((g.2.2.1 0), 4, .inl (fun _ => 0)))] H := hP
      have hD : va_D A [(m0, .inr (16, mO r p0 p1 p9 p10 p18 p27 p28 p30 p44 p45 0 0 0 0 0 0 0 0 0 0 0 0)), (p0, .inl ((g.2.2.1 5), 4, .inr (.inr (.inr (.inr (va_up f0 0 (some z0))))))), (z0, .inl ((g.2.2.1 0), 2, .inl (fun _ => 0))), (p1, .inl ((g.2.2.1 0), 4, .inl (fun _ => 0)))] := hD
      refine W.widen (k := 0) (n := 0) (by decide) (by decide) ?_
      refine W.eq (g2 := F0 m 16 ls [.int 0, .ref m0]) rfl ?_
      refine lv_if_ne (tgt := 23) hx hb dX12_addLand_16 (by decide) (fun c16_16 => absurd c16_16 (by decide)) (fun _ => ?_)
      refine lv_iconst (v := 1) hx hb dX12_addLand_19 (by decide) ?_
      refine lv_goto (tgt := 24) hx hb dX12_addLand_20 (by decide) ?_
      refine lv_iconst (v := 1) hx hb dX12_addLand_24 (by decide) ?_
      refine kcallV (wc := [(m0, .inr (16, mO r p0 p1 p9 p10 p18 p27 p28 p30 p44 p45 0 0 0 0 0 0 0 0 0 0 0 0))]) (wr := [(p0, .inl ((g.2.2.1 5), 4, .inr (.inr (.inr (.inr (va_up f0 0 (some z0))))))), (z0, .inl ((g.2.2.1 0), 2, .inl (fun _ => 0))), (p1, .inl ((g.2.2.1 0), 4, .inl (fun _ => 0)))]) (As := [.int 1, .int 1]) (rest := []) K G (m_X12_isThrown1 l hl0 g m0 r p0 p1 p9 p10 p18 p27 p28 p30 p44 p45 0 0 0 0 0 0 0 0 0 0 0 0 1 ) hP hD hS hA hl kw_319 kw_320 kw_321 kw_322 kw_307 ydX12_isThrown [0] [1, 2, 3] rfl rfl rfl rfl (by decide) (ci := 16) (q0 := 0) rfl rfl rfl rfl rfl (Nat.le_of_ble_eq_true rfl) dX12_addLand_25 ⟨Nat.le_of_ble_eq_true rfl, Nat.le_of_ble_eq_true rfl⟩ ⟨Nat.le_of_ble_eq_true rfl, Nat.le_of_ble_eq_true rfl⟩ (fun _ _ _ _ _ _ hX _ _ _ _ _ _ => hX.elim) (fun v w1 H locs hQ hP hD hS => ?_)
      obtain ⟨rfl, rfl⟩ := hQ
      have hP : va_P g.1 vwCl [(p0, .inl ((g.2.2.1 5), 4, .inr (.inr (.inr (.inr (va_up f0 0 (some z0))))))), (z0, .inl ((g.2.2.1 0), 2, .inl (fun _ => 0))), (p1, .inl ((g.2.2.1 0), 4, .inl (fun _ => 0))), (m0, .inr (16, mO r p0 p1 p9 p10 p18 p27 p28 p30 p44 p45 0 0 0 0 0 0 0 0 0 0 0 1))] H := hP
      have hD : va_D A [(p0, .inl ((g.2.2.1 5), 4, .inr (.inr (.inr (.inr (va_up f0 0 (some z0))))))), (z0, .inl ((g.2.2.1 0), 2, .inl (fun _ => 0))), (p1, .inl ((g.2.2.1 0), 4, .inl (fun _ => 0))), (m0, .inr (16, mO r p0 p1 p9 p10 p18 p27 p28 p30 p44 p45 0 0 0 0 0 0 0 0 0 0 0 1))] := hD
      refine W.widen (k := 0) (n := 0) (by decide) (by decide) ?_
      refine W.eq (g2 := F0 m 28 ls [.int 1]) rfl ?_
      refine lv_if_ne (tgt := 52) hx hb dX12_addLand_28 (by decide) (fun _ => ?_) (fun c28_18 => absurd c28_18 (by decide))
      refine lv_iconst (v := 0) hx hb dX12_addLand_52 (by decide) ?_
      exact kretI K hP hD hS [3] [(m0, .inr (16, mO r p0 p1 p9 p10 p18 p27 p28 p30 p44 p45 0 0 0 0 0 0 0 0 0 0 0 1))] rfl rfl (Or.inr (⟨0, 0, 0, 0, 0, 0, 0, 0, 0, 0, 0, rfl, rfl, (by simp [f_2, f_7])⟩)) (by decide) (by decide) dX12_addLand_53
  · have hP : va_P g.1 vwCl [(m0, .inr (16, mO r p0 p1 p9 p10 p18 p27 p28 p30 p44 p45 0 0 0 0 0 0 0 0 0 0 0 0)), (p0, .inl ((g.2.2.1 5), 4, .inr (.inr (.inr (.inr (va_up f0 0 (some z0))))))), (z0, .inl ((g.2.2.1 0), 2, .inl (fun _ => 0))), (p1, .inl ((g.2.2.1 0), 4, .inl (fun _ => 0)))] H := hP
    have hD : va_D A [(m0, .inr (16, mO r p0 p1 p9 p10 p18 p27 p28 p30 p44 p45 0 0 0 0 0 0 0 0 0 0 0 0)), (p0, .inl ((g.2.2.1 5), 4, .inr (.inr (.inr (.inr (va_up f0 0 (some z0))))))), (z0, .inl ((g.2.2.1 0), 2, .inl (fun _ => 0))), (p1, .inl ((g.2.2.1 0), 4, .inl (fun _ => 0)))] := hD
    refine W.widen (k := 0) (n := 0) (by decide) (by decide) ?_
    refine W.eq (g2 := F0 m 6 ls [.int 0, .ref m0]) rfl ?_
    refine lv_if_eq (tgt := 19) hx hb dX12_addLand_6 (by decide) (fun _ => ?_) (fun c6_19 => absurd c6_19 (by decide))
    refine lv_iconst (v := 1) hx hb dX12_addLand_19 (by decide) ?_
    refine lv_goto (tgt := 24) hx hb dX12_addLand_20 (by decide) ?_
    refine lv_iconst (v := 1) hx hb dX12_addLand_24 (by decide) ?_
    refine kcallV (wc := [(m0, .inr (16, mO r p0 p1 p9 p10 p18 p27 p28 p30 p44 p45 0 0 0 0 0 0 0 0 0 0 0 0))]) (wr := [(p0, .inl ((g.2.2.1 5), 4, .inr (.inr (.inr (.inr (va_up f0 0 (some z0))))))), (z0, .inl ((g.2.2.1 0), 2, .inl (fun _ => 0))), (p1, .inl ((g.2.2.1 0), 4, .inl (fun _ => 0)))]) (As := [.int 1, .int 1]) (rest := []) K G (m_X12_isThrown1 l hl0 g m0 r p0 p1 p9 p10 p18 p27 p28 p30 p44 p45 0 0 0 0 0 0 0 0 0 0 0 0 1 ) hP hD hS hA hl kw_319 kw_320 kw_321 kw_322 kw_307 ydX12_isThrown [0] [1, 2, 3] rfl rfl rfl rfl (by decide) (ci := 16) (q0 := 0) rfl rfl rfl rfl rfl (Nat.le_of_ble_eq_true rfl) dX12_addLand_25 ⟨Nat.le_of_ble_eq_true rfl, Nat.le_of_ble_eq_true rfl⟩ ⟨Nat.le_of_ble_eq_true rfl, Nat.le_of_ble_eq_true rfl⟩ (fun _ _ _ _ _ _ hX _ _ _ _ _ _ => hX.elim) (fun v w1 H locs hQ hP hD hS => ?_)
    obtain ⟨rfl, rfl⟩ := hQ
    have hP : va_P g.1 vwCl [(p0, .inl ((g.2.2.1 5), 4, .inr (.inr (.inr (.inr (va_up f0 0 (some z0))))))), (z0, .inl ((g.2.2.1 0), 2, .inl (fun _ => 0))), (p1, .inl ((g.2.2.1 0), 4, .inl (fun _ => 0))), (m0, .inr (16, mO r p0 p1 p9 p10 p18 p27 p28 p30 p44 p45 0 0 0 0 0 0 0 0 0 0 0 1))] H := hP
    have hD : va_D A [(p0, .inl ((g.2.2.1 5), 4, .inr (.inr (.inr (.inr (va_up f0 0 (some z0))))))), (z0, .inl ((g.2.2.1 0), 2, .inl (fun _ => 0))), (p1, .inl ((g.2.2.1 0), 4, .inl (fun _ => 0))), (m0, .inr (16, mO r p0 p1 p9 p10 p18 p27 p28 p30 p44 p45 0 0 0 0 0 0 0 0 0 0 0 1))] := hD
    refine W.widen (k := 0) (n := 0) (by decide) (by decide) ?_
    refine W.eq (g2 := F0 m 28 ls [.int 1]) rfl ?_
    refine lv_if_ne (tgt := 52) hx hb dX12_addLand_28 (by decide) (fun _ => ?_) (fun c28_21 => absurd c28_21 (by decide))
    refine lv_iconst (v := 0) hx hb dX12_addLand_52 (by decide) ?_
    exact kretI K hP hD hS [3] [(m0, .inr (16, mO r p0 p1 p9 p10 p18 p27 p28 p30 p44 p45 0 0 0 0 0 0 0 0 0 0 0 1))] rfl rfl (Or.inr (⟨0, 0, 0, 0, 0, 0, 0, 0, 0, 0, 0, rfl, rfl, (by simp [f_3])⟩)) (by decide) (by decide) dX12_addLand_53

