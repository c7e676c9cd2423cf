set_option maxHeartbeats 4000000 in
set_option maxRecDepth 100000 in
theorem m_X12_setGenerator (l : Launch) (hl0 : l.stackTraces = false) (g : kG) (m0 : Nat) (r : Nat → Nat) (p0 : Nat) (p1 : Nat) (p9 : Nat) (p10 : Nat) (p18 : Nat) (p27 : Nat) (p28 : Nat) (p30 : Nat) (p44 : Nat) (p45 : Nat) (x0 : Int32) (x1 : Int32) (x2 : Int32)  : kc l g yX12_setGenerator prog_14_method_28_code 4 (some .int) 2 43 0 0 [.ref m0, .int x0, .int x1, .int x2] [(m0, .inr (16, mO r p0 p1 p9 p10 p18 p27 p28 p30 p44 p45 0 0 0 0 0 0 0 0 0 0 0 0))] (fun v w => (v = some (.int 0) ∧ w = [(m0, .inr (16, mO r p0 p1 p9 p10 p18 p27 p28 p30 p44 p45 0 0 0 0 0 0 0 0 0 0 0 1))])) (fun _ _ => False) := by
  refine kbody (by decide) (Nat.le_of_ble_eq_true rfl) ?_
  intro p e s m args below meth c A H K ht G hP hD hA hS ls hl
  have K : KB p s m meth c RX12 "setGenerator" prog_14_method_28_code 4 (some .int) := K
  obtain ⟨hx, hb, hml, hown, hlocks, hr, hin⟩ := id K
  have hl : lv_has ls 4 [(0, .ref m0), (1, .int x0), (2, .int x1), (3, .int x2)] := hl
  refine lv_aload_n hx hb dX12_setGenerator_0 rfl (lv_at hl 0 rfl) ?_
  refine lv_aload_n hx hb dX12_setGenerator_1 rfl (lv_at hl 0 rfl) ?_
  refine lv_iload_n hx hb dX12_setGenerator_2 rfl (lv_at hl 1 rfl) ?_
  refine kcallV (wc := [(m0, .inr (16, mO r p0 p1 p9 p10 p18 p27 p28 p30 p44 p45 0 0 0 0 0 0 0 0 0 0 0 0))]) (wr := []) (As := [.int x0]) (rest := [.ref m0]) K G (m_X12_isNoShip l hl0 g m0 r p0 p1 p9 p10 p18 p27 p28 p30 p44 p45 x0 0 ) hP hD hS hA hl kw_323 kw_324 kw_325 kw_326 kw_307 ydX12_isNoShip [0] [] rfl rfl rfl rfl (by decide) (ci := 16) (q0 := 0) rfl rfl rfl rfl rfl (Nat.le_of_ble_eq_true rfl) dX12_setGenerator_3 ⟨Nat.le_of_ble_eq_true rfl, Nat.le_of_ble_eq_true rfl⟩ ⟨Nat.le_of_ble_eq_true rfl, Nat.le_of_ble_eq_true rfl⟩ (fun _ _ _ _ _ _ hX _ _ _ _ _ _ => hX.elim) (fun v w1 H locs hQ hP hD hS => ?_)
  obtain ⟨rfl, rfl⟩ := hQ
  have hP : va_P g.1 vwCl [(m0, .inr (16, mO r p0 p1 p9 p10 p18 p27 p28 p30 p44 p45 0 0 0 0 0 0 0 0 0 0 0 0))] H := hP
  have hD : va_D A [(m0, .inr (16, mO r p0 p1 p9 p10 p18 p27 p28 p30 p44 p45 0 0 0 0 0 0 0 0 0 0 0 0))] := hD
  refine W.widen (k := 0) (n := 0) (by decide) (by decide) ?_
  refine W.eq (g2 := F0 m 6 ls [.int 1, .ref m0]) rfl ?_
  refine lv_if_ne (tgt := 25) hx hb dX12_setGenerator_6 (by decide) (fun _ => ?_) (fun c6_2 => absurd c6_2 (by decide))
  refine lv_iconst (v := 1) hx hb dX12_setGenerator_25 (by decide) ?_
  refine lv_goto (tgt := 30) hx hb dX12_setGenerator_26 (by decide) ?_
  refine lv_iconst (v := 1) hx hb dX12_setGenerator_30 (by decide) ?_
  refine kcallV (wc := [(m0, .inr (16, mO r p0 p1 p9 p10 p18 p27 p28 p30 p44 p45 0 0 0 0 0 0 0 0 0 0 0 0))]) (wr := []) (As := [.int 1, .int 1]) (rest := []) K G (m_X12_isThrown1 l hl0 g m0 r p0 p1 p9 p10 p18 p27 p28 p30 p44 p45 0 0 0 0 0 0 0 0 0 0 0 0 1 ) hP hD hS hA hl kw_319 kw_320 kw_321 kw_322 kw_307 ydX12_isThrown [0] [] rfl rfl rfl rfl (by decide) (ci := 16) (q0 := 0) rfl rfl rfl rfl rfl (Nat.le_of_ble_eq_true rfl) dX12_setGenerator_31 ⟨Nat.le_of_ble_eq_true rfl, Nat.le_of_ble_eq_true rfl⟩ ⟨Nat.le_of_ble_eq_true rfl, Nat.le_of_ble_eq_true rfl⟩ (fun _ _ _ _ _ _ hX _ _ _ _ _ _ => hX.elim) (fun v w1 H locs hQ hP hD hS => ?_)
  obtain ⟨rfl, rfl⟩ := hQ
  have hP : va_P g.1 vwCl [(m0, .inr (16, mO r p0 p1 p9 p10 p18 p27 p28 p30 p44 p45 0 0 0 0 0 0 0 0 0 0 0 1))] H := hP
  have hD : va_D A [(m0, .inr (16, mO r p0 p1 p9 p10 p18 p27 p28 p30 p44 p45 0 0 0 0 0 0 0 0 0 0 0 1))] := hD
  refine W.widen (k := 0) (n := 0) (by decide) (by decide) ?_
  refine W.eq (g2 := F0 m 34 ls [.int 1]) rfl ?_
  refine lv_if_eq (tgt := 39) hx hb dX12_setGenerator_34 (by decide) (fun c34_4 => absurd c34_4 (by decide)) (fun _ => ?_)
  refine lv_iconst (v := 0) hx hb dX12_setGenerator_37 (by decide) ?_
  exact kretI K hP hD hS [0] [(m0, .inr (16, mO r p0 p1 p9 p10 p18 p27 p28 p30 p44 p45 0 0 0 0 0 0 0 0 0 0 0 1))] rfl rfl (⟨rfl, rfl⟩) (by decide) (by decide) dX12_setGenerator_38

set_option maxHeartbeats 4000000 in
set_option maxRecDepth 100000 in
theorem m_X12_getFuel (l : Launch) (hl0 : l.stackTraces = false) (g : kG) (m0 : Nat) (r : Nat → Nat) (p0 : Nat) (p1 : Nat) (p9 : Nat) (p10 : Nat) (p18 : Nat) (p27 : Nat) (p28 : Nat) (p30 : Nat) (p44 : Nat) (p45 : Nat) (x0 : Int32)  : kc l g yX12_getFuel prog_14_method_29_code 2 (some .int) 2 43 0 0 [.ref m0, .int x0] [(m0, .inr (16, mO r p0 p1 p9 p10 p18 p27 p28 p30 p44 p45 0 0 0 0 0 0 0 0 0 0 0 0))] (fun v w => (v = some (.int 0) ∧ w = [(m0, .inr (16, mO r p0 p1 p9 p10 p18 p27 p28 p30 p44 p45 0 0 0 0 0 0 0 0 0 0 0 1))])) (fun _ _ => False) := by
  refine kbody (by decide) (Nat.le_of_ble_eq_true rfl) ?_
  intro p e s m args below meth c A H K ht G hP hD hA hS ls hl
  have K : KB p s m meth c RX12 "getFuel" prog_14_method_29_code 2 (some .int) := K
  obtain ⟨hx, hb, hml, hown, hlocks, hr, hin⟩ := id K
  have hl : lv_has ls 2 [(0, .ref m0), (1, .int x0)] := hl
  refine lv_aload_n hx hb dX12_getFuel_0 rfl (lv_at hl 0 rfl) ?_
  refine lv_aload_n hx hb dX12_getFuel_1 rfl (lv_at hl 0 rfl) ?_
  refine lv_iload_n hx hb dX12_getFuel_2 rfl (lv_at hl 1 rfl) ?_
  refine kcallV (wc := [(m0, .inr (16, mO r p0 p1 p9 p10 p18 p27 p28 p30 p44 p45 0 0 0 0 0 0 0 0 0 0 0 0))]) (wr := []) (As := [.int x0]) (rest := [.ref m0]) K G (m_X12_isNoShip l hl0 g m0 r p0 p1 p9 p10 p18 p27 p28 p30 p44 p45 x0 0 ) hP hD hS hA hl kw_323 kw_324 kw_325 kw_326 kw_307 ydX12_isNoShip [0] [] rfl rfl rfl rfl (by decide) (ci := 16) (q0 := 0) rfl rfl rfl rfl rfl (Nat.le_of_ble_eq_true rfl) dX12_getFuel_3 ⟨Nat.le_of_ble_eq_true rfl, Nat.le_of_ble_eq_true rfl⟩ ⟨Nat.le_of_ble_eq_true rfl, Nat.le_of_ble_eq_true rfl⟩ (fun _ _ _ _ _ _ hX _ _ _ _ _ _ => hX.elim) (fun v w1 H locs hQ hP hD hS => ?_)
  obtain ⟨rfl, rfl⟩ := hQ
  have hP : va_P g.1 vwCl [(m0, .inr (16, mO r p0 p1 p9 p10 p18 p27 p28 p30 p44 p45 0 0 0 0 0 0 0 0 0 0 0 0))] H := hP
  have hD : va_D A [(m0, .inr (16, mO r p0 p1 p9 p10 p18 p27 p28 p30 p44 p45 0 0 0 0 0 0 0 0 0 0 0 0))] := hD
  refine W.widen (k := 0) (n := 0) (by decide) (by decide) ?_
  refine W.eq (g2 := F0 m 6 ls [.int 1, .ref m0]) rfl ?_
  refine lv_iconst (v := 1) hx hb dX12_getFuel_6 (by decide) ?_
  refine kcallV (wc := [(m0, .inr (16, mO r p0 p1 p9 p10 p18 p27 p28 p30 p44 p45 0 0 0 0 0 0 0 0 0 0 0 0))]) (wr := []) (As := [.int 1, .int 1]) (rest := []) K G (m_X12_isThrown1 l hl0 g m0 r p0 p1 p9 p10 p18 p27 p28 p30 p44 p45 0 0 0 0 0 0 0 0 0 0 0 0 1 ) hP hD hS hA hl kw_319 kw_320 kw_321 kw_322 kw_307 ydX12_isThrown [0] [] rfl rfl rfl rfl (by decide) (ci := 16) (q0 := 0) rfl rfl rfl rfl rfl (Nat.le_of_ble_eq_true rfl) dX12_getFuel_7 ⟨Nat.le_of_ble_eq_true rfl, Nat.le_of_ble_eq_true rfl⟩ ⟨Nat.le_of_ble_eq_true rfl, Nat.le_of_ble_eq_true rfl⟩ (fun _ _ _ _ _ _ hX _ _ _ _ _ _ => hX.elim) (fun v w1 H locs hQ hP hD hS => ?_)
  obtain ⟨rfl, rfl⟩ := hQ
  have hP : va_P g.1 vwCl [(m0, .inr (16, mO r p0 p1 p9 p10 p18 p27 p28 p30 p44 p45 0 0 0 0 0 0 0 0 0 0 0 1))] H := hP
  have hD : va_D A [(m0, .inr (16, mO r p0 p1 p9 p10 p18 p27 p28 p30 p44 p45 0 0 0 0 0 0 0 0 0 0 0 1))] := hD
  refine W.widen (k := 0) (n := 0) (by decide) (by decide) ?_
  refine W.eq (g2 := F0 m 10 ls [.int 1]) rfl ?_
  refine lv_if_eq (tgt := 17) hx hb dX12_getFuel_10 (by decide) (fun c10_3 => absurd c10_3 (by decide)) (fun _ => ?_)
  refine lv_iconst (v := 0) hx hb dX12_getFuel_13 (by decide) ?_
  refine lv_goto (tgt := 23) hx hb dX12_getFuel_14 (by decide) ?_
  exact kretI K hP hD hS [0] [(m0, .inr (16, mO r p0 p1 p9 p10 p18 p27 p28 p30 p44 p45 0 0 0 0 0 0 0 0 0 0 0 1))] rfl rfl (⟨rfl, rfl⟩) (by decide) (by decide) dX12_getFuel_23

set_option maxHeartbeats 4000000 in
set_option maxRecDepth 100000 in
theorem m_X12_getFood (l : Launch) (hl0 : l.stackTraces = false) (g : kG) (m0 : Nat) (r : Nat → Nat) (p0 : Nat) (p1 : Nat) (p9 : Nat) (p10 : Nat) (p18 : Nat) (p27 : Nat) (p28 : Nat) (p30 : Nat) (p44 : Nat) (p45 : Nat) (x0 : Int32)  : kc l g yX12_getFood prog_14_method_30_code 2 (some .int) 2 43 0 0 [.ref m0, .int x0] [(m0, .inr (16, mO r p0 p1 p9 p10 p18 p27 p28 p30 p44 p45 0 0 0 0 0 0 0 0 0 0 0 0))] (fun v w => (v = some (.int 0) ∧ w = [(m0, .inr (16, mO r p0 p1 p9 p10 p18 p27 p28 p30 p44 p45 0 0 0 0 0 0 0 0 0 0 0 1))])) (fun _ _ => False) := by
  refine kbody (by decide) (Nat.le_of_ble_eq_true rfl) ?_
  intro p e s m args below meth c A H K ht G hP hD hA hS ls hl
  have K : KB p s m meth c RX12 "getFood" prog_14_method_30_code 2 (some .int) := K
  obtain ⟨hx, hb, hml, hown, hlocks, hr, hin⟩ := id K
  have hl : lv_has ls 2 [(0, .ref m0), (1, .int x0)] := hl
  refine lv_aload_n hx hb dX12_getFood_0 rfl (lv_at hl 0 rfl) ?_
  refine lv_aload_n hx hb dX12_getFood_1 rfl (lv_at hl 0 rfl) ?_
  refine lv_iload_n hx hb dX12_getFood_2 rfl (lv_at hl 1 rfl) ?_
  refine kcallV (wc := [(m0, .inr (16, mO r p0 p1 p9 p10 p18 p27 p28 p30 p44 p45 0 0 0 0 0 0 0 0 0 0 0 0))]) (wr := []) (As := [.int x0]) (rest := [.ref m0]) K G (m_X12_isNoShip l hl0 g m0 r p0 p1 p9 p10 p18 p27 p28 p30 p44 p45 x0 0 ) hP hD hS hA hl kw_323 kw_324 kw_325 kw_326 kw_307 ydX12_isNoShip [0] [] rfl rfl rfl rfl (by decide) (ci := 16) (q0 := 0) rfl rfl rfl rfl rfl (Nat.le_of_ble_eq_true rfl) dX12_getFood_3 ⟨Nat.le_of_ble_eq_true rfl, Nat.le_of_ble_eq_true rfl⟩ ⟨Nat.le_of_ble_eq_true rfl, Nat.le_of_ble_eq_true rfl⟩ (fun _ _ _ _ _ _ hX _ _ _ _ _ _ => hX.elim) (fun v w1 H locs hQ hP hD hS => ?_)
  obtain ⟨rfl, rfl⟩ := hQ
  have hP : va_P g.1 vwCl [(m0, .inr (16, mO r p0 p1 p9 p10 p18 p27 p28 p30 p44 p45 0 0 0 0 0 0 0 0 0 0 0 0))] H := hP
  have hD : va_D A [(m0, .inr (16, mO r p0 p1 p9 p10 p18 p27 p28 p30 p44 p45 0 0 0 0 0 0 0 0 0 0 0 0))] := hD
  refine W.widen (k := 0) (n := 0) (by decide) (by decide) ?_
  refine W.eq (g2 := F0 m 6 ls [.int 1, .ref m0]) rfl ?_
  refine lv_iconst (v := 1) hx hb dX12_getFood_6 (by decide) ?_
  refine kcallV (wc := [(m0, .inr (16, mO r p0 p1 p9 p10 p18 p27 p28 p30 p44 p45 0 0 0 0 0 0 0 0 0 0 0 0))]) (wr := []) (As := [.int 1, .int 1]) (rest := []) K G (m_X12_isThrown1 l hl0 g m0 r p0 p1 p9 p10 p18 p27 p28 p30 p44 p45 0 0 0 0 0 0 0 0 0 0 0 0 1 ) hP hD hS hA hl kw_319 kw_320 kw_321 kw_322 kw_307 ydX12_isThrown [0] [] rfl rfl rfl rfl (by decide) (ci := 16) (q0 := 0) rfl rfl rfl rfl rfl (Nat.le_of_ble_eq_true rfl) dX12_getFood_7 ⟨Nat.le_of_ble_eq_true rfl, Nat.le_of_ble_eq_true rfl⟩ ⟨Nat.le_of_ble_eq_true rfl, Nat.le_of_ble_eq_true rfl⟩ (fun _ _ _ _ _ _ hX _ _ _ _ _ _ => hX.elim) (fun v w1 H locs hQ hP hD hS => ?_)
  obtain ⟨rfl, rfl⟩ := hQ
  have hP : va_P g.1 vwCl [(m0, .inr (16, mO r p0 p1 p9 p10 p18 p27 p28 p30 p44 p45 0 0 0 0 0 0 0 0 0 0 0 1))] H := hP
  have hD : va_D A [(m0, .inr (16, mO r p0 p1 p9 p10 p18 p27 p28 p30 p44 p45 0 0 0 0 0 0 0 0 0 0 0 1))] := hD
  refine W.widen (k := 0) (n := 0) (by decide) (by decide) ?_
  refine W.eq (g2 := F0 m 10 ls [.int 1]) rfl ?_
  refine lv_if_eq (tgt := 17) hx hb dX12_getFood_10 (by decide) (fun c10_3 => absurd c10_3 (by decide)) (fun _ => ?_)
  refine lv_iconst (v := 0) hx hb dX12_getFood_13 (by decide) ?_
  refine lv_goto (tgt := 23) hx hb dX12_getFood_14 (by decide) ?_
  exact kretI K hP hD hS [0] [(m0, .inr (16, mO r p0 p1 p9 p10 p18 p27 p28 p30 p44 p45 0 0 0 0 0 0 0 0 0 0 0 1))] rfl rfl (⟨rfl, rfl⟩) (by decide) (by decide) dX12_getFood_23

set_option maxHeartbeats 4000000 in
set_option maxRecDepth 100000 in
theorem m_X12_getSalt (l : Launch) (hl0 : l.stackTraces = false) (g : kG) (m0 : Nat) (r : Nat → Nat) (p0 : Nat) (p1 : Nat) (p9 : Nat) (p10 : Nat) (p18 : Nat) (p27 : Nat) (p28 : Nat) (p30 : Nat) (p44 : Nat) (p45 : Nat) (x0 : Int32)  : kc l g yX12_getSalt prog_14_method_31_code 2 (some .int) 2 43 0 0 [.ref m0, .int x0] [(m0, .inr (16, mO r p0 p1 p9 p10 p18 p27 p28 p30 p44 p45 0 0 0 0 0 0 0 0 0 0 0 0))] (fun v w => (v = some (.int 0) ∧ w = [(m0, .inr (16, mO r p0 p1 p9 p10 p18 p27 p28 p30 p44 p45 0 0 0 0 0 0 0 0 0 0 0 1))])) (fun _ _ => False) := by
  refine kbody (by decide) (Nat.le_of_ble_eq_true rfl) ?_
  intro p e s m args below meth c A H K ht G hP hD hA hS ls hl
  have K : KB p s m meth c RX12 "getSalt" prog_14_method_31_code 2 (some .int) := K
  obtain ⟨hx, hb, hml, hown, hlocks, hr, hin⟩ := id K
  have hl : lv_has ls 2 [(0, .ref m0), (1, .int x0)] := hl
  refine lv_aload_n hx hb dX12_getSalt_0 rfl (lv_at hl 0 rfl) ?_
  refine lv_aload_n hx hb dX12_getSalt_1 rfl (lv_at hl 0 rfl) ?_
  refine lv_iload_n hx hb dX12_getSalt_2 rfl (lv_at hl 1 rfl) ?_
  refine kcallV (wc := [(m0, .inr (16, mO r p0 p1 p9 p10 p18 p27 p28 p30 p44 p45 0 0 0 0 0 0 0 0 0 0 0 0))]) (wr := []) (As := [.int x0]) (rest := [.ref m0]) K G (m_X12_isNoShip l hl0 g m0 r p0 p1 p9 p10 p18 p27 p28 p30 p44 p45 x0 0 ) hP hD hS hA hl kw_323 kw_324 kw_325 kw_326 kw_307 ydX12_isNoShip [0] [] rfl rfl rfl rfl (by decide) (ci := 16) (q0 := 0) rfl rfl rfl rfl rfl (Nat.le_of_ble_eq_true rfl) dX12_getSalt_3 ⟨Nat.le_of_ble_eq_true rfl, Nat.le_of_ble_eq_true rfl⟩ ⟨Nat.le_of_ble_eq_true rfl, Nat.le_of_ble_eq_true rfl⟩ (fun _ _ _ _ _ _ hX _ _ _ _ _ _ => hX.elim) (fun v w1 H locs hQ hP hD hS => ?_)
  obtain ⟨rfl, rfl⟩ := hQ
  have hP : va_P g.1 vwCl [(m0, .inr (16, mO r p0 p1 p9 p10 p18 p27 p28 p30 p44 p45 0 0 0 0 0 0 0 0 0 0 0 0))] H := hP
  have hD : va_D A [(m0, .inr (16, mO r p0 p1 p9 p10 p18 p27 p28 p30 p44 p45 0 0 0 0 0 0 0 0 0 0 0 0))] := hD
  refine W.widen (k := 0) (n := 0) (by decide) (by decide) ?_
  refine W.eq (g2 := F0 m 6 ls [.int 1, .ref m0]) rfl ?_
  refine lv_iconst (v := 1) hx hb dX12_getSalt_6 (by decide) ?_
  refine kcallV (wc := [(m0, .inr (16, mO r p0 p1 p9 p10 p18 p27 p28 p30 p44 p45 0 0 0 0 0 0 0 0 0 0 0 0))]) (wr := []) (As := [.int 1, .int 1]) (rest := []) K G (m_X12_isThrown1 l hl0 g m0 r p0 p1 p9 p10 p18 p27 p28 p30 p44 p45 0 0 0 0 0 0 0 0 0 0 0 0 1 ) hP hD hS hA hl kw_319 kw_320 kw_321 kw_322 kw_307 ydX12_isThrown [0] [] rfl rfl rfl rfl (by decide) (ci := 16) (q0 := 0) rfl rfl rfl rfl rfl (Nat.le_of_ble_eq_true rfl) dX12_getSalt_7 ⟨Nat.le_of_ble_eq_true rfl, Nat.le_of_ble_eq_true rfl⟩ ⟨Nat.le_of_ble_eq_true rfl, Nat.le_of_ble_eq_true rfl⟩ (fun _ _ _ _ _ _ hX _ _ _ _ _ _ => hX.elim) (fun v w1 H locs hQ hP hD hS => ?_)
  obtain ⟨rfl, rfl⟩ := hQ
  have hP : va_P g.1 vwCl [(m0, .inr (16, mO r p0 p1 p9 p10 p18 p27 p28 p30 p44 p45 0 0 0 0 0 0 0 0 0 0 0 1))] H := hP
  have hD : va_D A [(m0, .inr (16, mO r p0 p1 p9 p10 p18 p27 p28 p30 p44 p45 0 0 0 0 0 0 0 0 0 0 0 1))] := hD
  refine W.widen (k := 0) (n := 0) (by decide) (by decide) ?_
  refine W.eq (g2 := F0 m 10 ls [.int 1]) rfl ?_
  refine lv_if_eq (tgt := 17) hx hb dX12_getSalt_10 (by decide) (fun c10_3 => absurd c10_3 (by decide)) (fun _ => ?_)
  refine lv_iconst (v := 0) hx hb dX12_getSalt_13 (by decide) ?_
  refine lv_goto (tgt := 23) hx hb dX12_getSalt_14 (by decide) ?_
  exact kretI K hP hD hS [0] [(m0, .inr (16, mO r p0 p1 p9 p10 p18 p27 p28 p30 p44 p45 0 0 0 0 0 0 0 0 0 0 0 1))] rfl rfl (⟨rfl, rfl⟩) (by decide) (by decide) dX12_getSalt_23

set_option maxHeartbeats 4000000 in
set_option maxRecDepth 100000 in
theorem m_X12_wash (l : Launch) (hl0 : l.stackTraces = false) (g : kG) (m0 : Nat) (r : Nat → Nat) (p0 : Nat) (p1 : Nat) (p9 : Nat) (p10 : Nat) (p18 : Nat) (p27 : Nat) (p28 : Nat) (p30 : Nat) (p44 : Nat) (p45 : Nat) (x0 : Int32)  : kc l g yX12_wash prog_14_method_33_code 3 (some .int) 2 43 0 0 [.ref m0, .int x0] [(m0, .inr (16, mO r p0 p1 p9 p10 p18 p27 p28 p30 p44 p45 0 0 0 0 0 0 0 0 0 0 0 0))] (fun v w => (v = some (.int 0) ∧ w = [(m0, .inr (16, mO r p0 p1 p9 p10 p18 p27 p28 p30 p44 p45 0 0 0 0 0 0 0 0 0 0 0 1))])) (fun _ _ => False) := by
  refine kbody (by decide) (Nat.le_of_ble_eq_true rfl) ?_
  intro p e s m args below meth c A H K ht G hP hD hA hS ls hl
  have K : KB p s m meth c RX12 "wash" prog_14_method_33_code 3 (some .int) := K
  obtain ⟨hx, hb, hml, hown, hlocks, hr, hin⟩ := id K
  have hl : lv_has ls 3 [(0, .ref m0), (1, .int x0)] := hl
  refine lv_aload_n hx hb dX12_wash_0 rfl (lv_at hl 0 rfl) ?_
  refine lv_aload_n hx hb dX12_wash_1 rfl (lv_at hl 0 rfl) ?_
  refine lv_iload_n hx hb dX12_wash_2 rfl (lv_at hl 1 rfl) ?_
  refine kcallV (wc := [(m0, .inr (16, mO r p0 p1 p9 p10 p18 p27 p28 p30 p44 p45 0 0 0 0 0 0 0 0 0 0 0 0))]) (wr := []) (As := [.int x0]) (rest := [.ref m0]) K G (m_X12_isNoShip l hl0 g m0 r p0 p1 p9 p10 p18 p27 p28 p30 p44 p45 x0 0 ) hP hD hS hA hl kw_323 kw_324 kw_325 kw_326 kw_307 ydX12_isNoShip [0] [] rfl rfl rfl rfl (by decide) (ci := 16) (q0 := 0) rfl rfl rfl rfl rfl (Nat.le_of_ble_eq_true rfl) dX12_wash_3 ⟨Nat.le_of_ble_eq_true rfl, Nat.le_of_ble_eq_true rfl⟩ ⟨Nat.le_of_ble_eq_true rfl, Nat.le_of_ble_eq_true rfl⟩ (fun _ _ _ _ _ _ hX _ _ _ _ _ _ => hX.elim) (fun v w1 H locs hQ hP hD hS => ?_)
  obtain ⟨rfl, rfl⟩ := hQ
  have hP : va_P g.1 vwCl [(m0, .inr (16, mO r p0 p1 p9 p10 p18 p27 p28 p30 p44 p45 0 0 0 0 0 0 0 0 0 0 0 0))] H := hP
  have hD : va_D A [(m0, .inr (16, mO r p0 p1 p9 p10 p18 p27 p28 p30 p44 p45 0 0 0 0 0 0 0 0 0 0 0 0))] := hD
  refine W.widen (k := 0) (n := 0) (by decide) (by decide) ?_
  refine W.eq (g2 := F0 m 6 ls [.int 1, .ref m0]) rfl ?_
  refine lv_iconst (v := 1) hx hb dX12_wash_6 (by decide) ?_
  refine kcallV (wc := [(m0, .inr (16, mO r p0 p1 p9 p10 p18 p27 p28 p30 p44 p45 0 0 0 0 0 0 0 0 0 0 0 0))]) (wr := []) (As := [.int 1, .int 1]) (rest := []) K G (m_X12_isThrown1 l hl0 g m0 r p0 p1 p9 p10 p18 p27 p28 p30 p44 p45 0 0 0 0 0 0 0 0 0 0 0 0 1 ) hP hD hS hA hl kw_319 kw_320 kw_321 kw_322 kw_307 ydX12_isThrown [0] [] rfl rfl rfl rfl (by decide) (ci := 16) (q0 := 0) rfl rfl rfl rfl rfl (Nat.le_of_ble_eq_true rfl) dX12_wash_7 ⟨Nat.le_of_ble_eq_true rfl, Nat.le_of_ble_eq_true rfl⟩ ⟨Nat.le_of_ble_eq_true rfl, Nat.le_of_ble_eq_true rfl⟩ (fun _ _ _ _ _ _ hX _ _ _ _ _ _ => hX.elim) (fun v w1 H locs hQ hP hD hS => ?_)
  obtain ⟨rfl, rfl⟩ := hQ
  have hP : va_P g.1 vwCl [(m0, .inr (16, mO r p0 p1 p9 p10 p18 p27 p28 p30 p44 p45 0 0 0 0 0 0 0 0 0 0 0 1))] H := hP
  have hD : va_D A [(m0, .inr (16, mO r p0 p1 p9 p10 p18 p27 p28 p30 p44 p45 0 0 0 0 0 0 0 0 0 0 0 1))] := hD
  refine W.widen (k := 0) (n := 0) (by decide) (by decide) ?_
  refine W.eq (g2 := F0 m 10 ls [.int 1]) rfl ?_
  refine lv_if_ne (tgt := 34) hx hb dX12_wash_10 (by decide) (fun _ => ?_) (fun c10_3 => absurd c10_3 (by decide))
  refine lv_iconst (v := 0) hx hb dX12_wash_34 (by decide) ?_
  exact kretI K hP hD hS [0] [(m0, .inr (16, mO r p0 p1 p9 p10 p18 p27 p28 p30 p44 p45 0 0 0 0 0 0 0 0 0 0 0 1))] rfl rfl (⟨rfl, rfl⟩) (by decide) (by decide) dX12_wash_35

set_option maxHeartbeats 4000000 in
set_option maxRecDepth 100000 in
theorem m_X12_setPower (l : Launch) (hl0 : l.stackTraces = false) (g : kG) (m0 : Nat) (r : Nat → Nat) (p0 : Nat) (p1 : Nat) (p9 : Nat) (p10 : Nat) (p18 : Nat) (p27 : Nat) (p28 : Nat) (p30 : Nat) (p44 : Nat) (p45 : Nat) (x0 : Int32) (x1 : Int32)  : kc l g yX12_setPower prog_14_method_34_code 4 (some .int) 2 43 0 0 [.ref m0, .int x0, .int x1] [(m0, .inr (16, mO r p0 p1 p9 p10 p18 p27 p28 p30 p44 p45 0 0 0 0 0 0 0 0 0 0 0 0))] (fun v w => (v = some (.int 0) ∧ w = [(m0, .inr (16, mO r p0 p1 p9 p10 p18 p27 p28 p30 p44 p45 0 0 0 0 0 0 0 0 0 0 0 1))])) (fun _ _ => False) := by
  refine kbody (by decide) (Nat.le_of_ble_eq_true rfl) ?_
  intro p e s m args below meth c A H K ht G hP hD hA hS ls hl
  have K : KB p s m meth c RX12 "setPower" prog_14_method_34_code 4 (some .int) := K
  obtain ⟨hx, hb, hml, hown, hlocks, hr, hin⟩ := id K
  have hl : lv_has ls 4 [(0, .ref m0), (1, .int x0), (2, .int x1)] := hl
  refine lv_aload_n hx hb dX12_setPower_0 rfl (lv_at hl 0 rfl) ?_
  refine lv_aload_n hx hb dX12_setPower_1 rfl (lv_at hl 0 rfl) ?_
  refine lv_iload_n hx hb dX12_setPower_2 rfl (lv_at hl 1 rfl) ?_
  refine kcallV (wc := [(m0, .inr (16, mO r p0 p1 p9 p10 p18 p27 p28 p30 p44 p45 0 0 0 0 0 0 0 0 0 0 0 0))]) (wr := []) (As := [.int x0]) (rest := [.ref m0]) K G (m_X12_isNoShip l hl0 g m0 r p0 p1 p9 p10 p18 p27 p28 p30 p44 p45 x0 0 ) hP hD hS hA hl kw_323 kw_324 kw_325 kw_326 kw_307 ydX12_isNoShip [0] [] rfl rfl rfl rfl (by decide) (ci := 16) (q0 := 0) rfl rfl rfl rfl rfl (Nat.le_of_ble_eq_true rfl) dX12_setPower_3 ⟨Nat.le_of_ble_eq_true rfl, Nat.le_of_ble_eq_true rfl⟩ ⟨Nat.le_of_ble_eq_true rfl, Nat.le_of_ble_eq_true rfl⟩ (fun _ _ _ _ _ _ hX _ _ _ _ _ _ => hX.elim) (fun v w1 H locs hQ hP hD hS => ?_)
  obtain ⟨rfl, rfl⟩ := hQ
  have hP : va_P g.1 vwCl [(m0, .inr (16, mO r p0 p1 p9 p10 p18 p27 p28 p30 p44 p45 0 0 0 0 0 0 0 0 0 0 0 0))] H := hP
  have hD : va_D A [(m0, .inr (16, mO r p0 p1 p9 p10 p18 p27 p28 p30 p44 p45 0 0 0 0 0 0 0 0 0 0 0 0))] := hD
  refine W.widen (k := 0) (n := 0) (by decide) (by decide) ?_
  refine W.eq (g2 := F0 m 6 ls [.int 1, .ref m0]) rfl ?_
  refine lv_iconst (v := 1) hx hb dX12_setPower_6 (by decide) ?_
  refine kcallV (wc := [(m0, .inr (16, mO r p0 p1 p9 p10 p18 p27 p28 p30 p44 p45 0 0 0 0 0 0 0 0 0 0 0 0))]) (wr := []) (As := [.int 1, .int 1]) (rest := []) K G (m_X12_isThrown1 l hl0 g m0 r p0 p1 p9 p10 p18 p27 p28 p30 p44 p45 0 0 0 0 0 0 0 0 0 0 0 0 1 ) hP hD hS hA hl kw_319 kw_320 kw_321 kw_322 kw_307 ydX12_isThrown [0] [] rfl rfl rfl rfl (by decide) (ci := 16) (q0 := 0) rfl rfl rfl rfl rfl (Nat.le_of_ble_eq_true rfl) dX12_setPower_7 ⟨Nat.le_of_ble_eq_true rfl, Nat.le_of_ble_eq_true rfl⟩ ⟨Nat.le_of_ble_eq_true rfl, Nat.le_of_ble_eq_true rfl⟩ (fun _ _ _ _ _ _ hX _ _ _ _ _ _ => hX.elim) (fun v w1 H locs hQ hP hD hS => ?_)
  obtain ⟨rfl, rfl⟩ := hQ
  have hP : va_P g.1 vwCl [(m0, .inr (16, mO r p0 p1 p9 p10 p18 p27 p28 p30 p44 p45 0 0 0 0 0 0 0 0 0 0 0 1))] H := hP
  have hD : va_D A [(m0, .inr (16, mO r p0 p1 p9 p10 p18 p27 p28 p30 p44 p45 0 0 0 0 0 0 0 0 0 0 0 1))] := hD
  refine W.widen (k := 0) (n := 0) (by decide) (by decide) ?_
  refine W.eq (g2 := F0 m 10 ls [.int 1]) rfl ?_
  refine lv_if_ne (tgt := 36) hx hb dX12_setPower_10 (by decide) (fun _ => ?_) (fun c10_3 => absurd c10_3 (by decide))
  refine lv_iconst (v := 0) hx hb dX12_setPower_36 (by decide) ?_
  exact kretI K hP hD hS [0] [(m0, .inr (16, mO r p0 p1 p9 p10 p18 p27 p28 p30 p44 p45 0 0 0 0 0 0 0 0 0 0 0 1))] rfl rfl (⟨rfl, rfl⟩) (by decide) (by decide) dX12_setPower_37

set_option maxHeartbeats 4000000 in
set_option maxRecDepth 100000 in
theorem m_X12_getChannel (l : Launch) (hl0 : l.stackTraces = false) (g : kG) (m0 : Nat) (r : Nat → Nat) (p0 : Nat) (p1 : Nat) (p9 : Nat) (p10 : Nat) (p18 : Nat) (p27 : Nat) (p28 : Nat) (p30 : Nat) (p44 : Nat) (p45 : Nat) (x0 : Int32)  : kc l g yX12_getChannel prog_14_method_35_code 2 (some .int) 2 43 0 0 [.ref m0, .int x0] [(m0, .inr (16, mO r p0 p1 p9 p10 p18 p27 p28 p30 p44 p45 0 0 0 0 0 0 0 0 0 0 0 0))] (fun v w => (v = some (.int 0) ∧ w = [(m0, .inr (16, mO r p0 p1 p9 p10 p18 p27 p28 p30 p44 p45 0 0 0 0 0 0 0 0 0 0 0 1))])) (fun _ _ => False) := by
  refine kbody (by decide) (Nat.le_of_ble_eq_true rfl) ?_
  intro p e s m args below meth c A H K ht G hP hD hA hS ls hl
  have K : KB p s m meth c RX12 "getChannel" prog_14_method_35_code 2 (some .int) := K
  obtain ⟨hx, hb, hml, hown, hlocks, hr, hin⟩ := id K
  have hl : lv_has ls 2 [(0, .ref m0), (1, .int x0)] := hl
  refine lv_aload_n hx hb dX12_getChannel_0 rfl (lv_at hl 0 rfl) ?_
  refine lv_aload_n hx hb dX12_getChannel_1 rfl (lv_at hl 0 rfl) ?_
  refine lv_iload_n hx hb dX12_getChannel_2 rfl (lv_at hl 1 rfl) ?_
  refine kcallV (wc := [(m0, .inr (16, mO r p0 p1 p9 p10 p18 p27 p28 p30 p44 p45 0 0 0 0 0 0 0 0 0 0 0 0))]) (wr := []) (As := [.int x0]) (rest := [.ref m0]) K G (m_X12_isNoShip l hl0 g m0 r p0 p1 p9 p10 p18 p27 p28 p30 p44 p45 x0 0 ) hP hD hS hA hl kw_323 kw_324 kw_325 kw_326 kw_307 ydX12_isNoShip [0] [] rfl rfl rfl rfl (by decide) (ci := 16) (q0 := 0) rfl rfl rfl rfl rfl (Nat.le_of_ble_eq_true rfl) dX12_getChannel_3 ⟨Nat.le_of_ble_eq_true rfl, Nat.le_of_ble_eq_true rfl⟩ ⟨Nat.le_of_ble_eq_true rfl, Nat.le_of_ble_eq_true rfl⟩ (fun _ _ _ _ _ _ hX _ _ _ _ _ _ => hX.elim) (fun v w1 H locs hQ hP hD hS => ?_)
  obtain ⟨rfl, rfl⟩ := hQ
  have hP : va_P g.1 vwCl [(m0, .inr (16, mO r p0 p1 p9 p10 p18 p27 p28 p30 p44 p45 0 0 0 0 0 0 0 0 0 0 0 0))] H := hP
  have hD : va_D A [(m0, .inr (16, mO r p0 p1 p9 p10 p18 p27 p28 p30 p44 p45 0 0 0 0 0 0 0 0 0 0 0 0))] := hD
  refine W.widen (k := 0) (n := 0) (by decide) (by decide) ?_
  refine W.eq (g2 := F0 m 6 ls [.int 1, .ref m0]) rfl ?_
  refine lv_iconst (v := 1) hx hb dX12_getChannel_6 (by decide) ?_
  refine kcallV (wc := [(m0, .inr (16, mO r p0 p1 p9 p10 p18 p27 p28 p30 p44 p45 0 0 0 0 0 0 0 0 0 0 0 0))]) (wr := []) (As := [.int 1, .int 1]) (rest := []) K G (m_X12_isThrown1 l hl0 g m0 r p0 p1 p9 p10 p18 p27 p28 p30 p44 p45 0 0 0 0 0 0 0 0 0 0 0 0 1 ) hP hD hS hA hl kw_319 kw_320 kw_321 kw_322 kw_307 ydX12_isThrown [0] [] rfl rfl rfl rfl (by decide) (ci := 16) (q0 := 0) rfl rfl rfl rfl rfl (Nat.le_of_ble_eq_true rfl) dX12_getChannel_7 ⟨Nat.le_of_ble_eq_true rfl, Nat.le_of_ble_eq_true rfl⟩ ⟨Nat.le_of_ble_eq_true rfl, Nat.le_of_ble_eq_true rfl⟩ (fun _ _ _ _ _ _ hX _ _ _ _ _ _ => hX.elim) (fun v w1 H locs hQ hP hD hS => ?_)
  obtain ⟨rfl, rfl⟩ := hQ
  have hP : va_P g.1 vwCl [(m0, .inr (16, mO r p0 p1 p9 p10 p18 p27 p28 p30 p44 p45 0 0 0 0 0 0 0 0 0 0 0 1))] H := hP
  have hD : va_D A [(m0, .inr (16, mO r p0 p1 p9 p10 p18 p27 p28 p30 p44 p45 0 0 0 0 0 0 0 0 0 0 0 1))] := hD
  refine W.widen (k := 0) (n := 0) (by decide) (by decide) ?_
  refine W.eq (g2 := F0 m 10 ls [.int 1]) rfl ?_
  refine lv_if_eq (tgt := 17) hx hb dX12_getChannel_10 (by decide) (fun c10_3 => absurd c10_3 (by decide)) (fun _ => ?_)
  refine lv_iconst (v := 0) hx hb dX12_getChannel_13 (by decide) ?_
  refine lv_goto (tgt := 23) hx hb dX12_getChannel_14 (by decide) ?_
  exact kretI K hP hD hS [0] [(m0, .inr (16, mO r p0 p1 p9 p10 p18 p27 p28 p30 p44 p45 0 0 0 0 0 0 0 0 0 0 0 1))] rfl rfl (⟨rfl, rfl⟩) (by decide) (by decide) dX12_getChannel_23

set_option maxHeartbeats 4000000 in
set_option maxRecDepth 100000 in
theorem m_X12_isOnAir (l : Launch) (hl0 : l.stackTraces = false) (g : kG) (m0 : Nat) (r : Nat → Nat) (p0 : Nat) (p1 : Nat) (p9 : Nat) (p10 : Nat) (p18 : Nat) (p27 : Nat) (p28 : Nat) (p30 : Nat) (p44 : Nat) (p45 : Nat) (x0 : Int32)  : kc l g yX12_isOnAir prog_14_method_52_code 2 (some .boolean) 2 43 0 0 [.ref m0, .int x0] [(m0, .inr (16, mO r p0 p1 p9 p10 p18 p27 p28 p30 p44 p45 0 0 0 0 0 0 0 0 0 0 0 0))] (fun v w => (v = some (.int 0) ∧ w = [(m0, .inr (16, mO r p0 p1 p9 p10 p18 p27 p28 p30 p44 p45 0 0 0 0 0 0 0 0 0 0 0 1))])) (fun _ _ => False) := by
  refine kbody (by decide) (Nat.le_of_ble_eq_true rfl) ?_
  intro p e s m args below meth c A H K ht G hP hD hA hS ls hl
  have K : KB p s m meth c RX12 "isOnAir" prog_14_method_52_code 2 (some .boolean) := K
  obtain ⟨hx, hb, hml, hown, hlocks, hr, hin⟩ := id K
  have hl : lv_has ls 2 [(0, .ref m0), (1, .int x0)] := hl
  refine lv_aload_n hx hb dX12_isOnAir_0 rfl (lv_at hl 0 rfl) ?_
  refine lv_aload_n hx hb dX12_isOnAir_1 rfl (lv_at hl 0 rfl) ?_
  refine lv_iload_n hx hb dX12_isOnAir_2 rfl (lv_at hl 1 rfl) ?_
  refine kcallV (wc := [(m0, .inr (16, mO r p0 p1 p9 p10 p18 p27 p28 p30 p44 p45 0 0 0 0 0 0 0 0 0 0 0 0))]) (wr := []) (As := [.int x0]) (rest := [.ref m0]) K G (m_X12_isNoShip l hl0 g m0 r p0 p1 p9 p10 p18 p27 p28 p30 p44 p45 x0 0 ) hP hD hS hA hl kw_323 kw_324 kw_325 kw_326 kw_307 ydX12_isNoShip [0] [] rfl rfl rfl rfl (by decide) (ci := 16) (q0 := 0) rfl rfl rfl rfl rfl (Nat.le_of_ble_eq_true rfl) dX12_isOnAir_3 ⟨Nat.le_of_ble_eq_true rfl, Nat.le_of_ble_eq_true rfl⟩ ⟨Nat.le_of_ble_eq_true rfl, Nat.le_of_ble_eq_true rfl⟩ (fun _ _ _ _ _ _ hX _ _ _ _ _ _ => hX.elim) (fun v w1 H locs hQ hP hD hS => ?_)
  obtain ⟨rfl, rfl⟩ := hQ
  have hP : va_P g.1 vwCl [(m0, .inr (16, mO r p0 p1 p9 p10 p18 p27 p28 p30 p44 p45 0 0 0 0 0 0 0 0 0 0 0 0))] H := hP
  have hD : va_D A [(m0, .inr (16, mO r p0 p1 p9 p10 p18 p27 p28 p30 p44 p45 0 0 0 0 0 0 0 0 0 0 0 0))] := hD
  refine W.widen (k := 0) (n := 0) (by decide) (by decide) ?_
  refine W.eq (g2 := F0 m 6 ls [.int 1, .ref m0]) rfl ?_
  refine lv_iconst (v := 1) hx hb dX12_isOnAir_6 (by decide) ?_
  refine kcallV (wc := [(m0, .inr (16, mO r p0 p1 p9 p10 p18 p27 p28 p30 p44 p45 0 0 0 0 0 0 0 0 0 0 0 0))]) (wr := []) (As := [.int 1, .int 1]) (rest := []) K G (m_X12_isThrown1 l hl0 g m0 r p0 p1 p9 p10 p18 p27 p28 p30 p44 p45 0 0 0 0 0 0 0 0 0 0 0 0 1 ) hP hD hS hA hl kw_319 kw_320 kw_321 kw_322 kw_307 ydX12_isThrown [0] [] rfl rfl rfl rfl (by decide) (ci := 16) (q0 := 0) rfl rfl rfl rfl rfl (Nat.le_of_ble_eq_true rfl) dX12_isOnAir_7 ⟨Nat.le_of_ble_eq_true rfl, Nat.le_of_ble_eq_true rfl⟩ ⟨Nat.le_of_ble_eq_true rfl, Nat.le_of_ble_eq_true rfl⟩ (fun _ _ _ _ _ _ hX _ _ _ _ _ _ => hX.elim) (fun v w1 H locs hQ hP hD hS => ?_)
  obtain ⟨rfl, rfl⟩ := hQ
  have hP : va_P g.1 vwCl [(m0, .inr (16, mO r p0 p1 p9 p10 p18 p27 p28 p30 p44 p45 0 0 0 0 0 0 0 0 0 0 0 1))] H := hP
  have hD : va_D A [(m0, .inr (16, mO r p0 p1 p9 p10 p18 p27 p28 p30 p44 p45 0 0 0 0 0 0 0 0 0 0 0 1))] := hD
  refine W.widen (k := 0) (n := 0) (by decide) (by decide) ?_
  refine W.eq (g2 := F0 m 10 ls [.int 1]) rfl ?_
  refine lv_if_ne (tgt := 26) hx hb dX12_isOnAir_10 (by decide) (fun _ => ?_) (fun c10_3 => absurd c10_3 (by decide))
  refine lv_iconst (v := 0) hx hb dX12_isOnAir_26 (by decide) ?_
  exact kretZ K hP hD hS [0] [(m0, .inr (16, mO r p0 p1 p9 p10 p18 p27 p28 p30 p44 p45 0 0 0 0 0 0 0 0 0 0 0 1))] rfl rfl (⟨rfl, rfl⟩) (by decide) (by decide) dX12_isOnAir_27

set_option maxHeartbeats 4000000 in
set_option maxRecDepth 100000 in
theorem m_X12_getSignal (l : Launch) (hl0 : l.stackTraces = false) (g : kG) (m0 : Nat) (r : Nat → Nat) (p0 : Nat) (p1 : Nat) (p9 : Nat) (p10 : Nat) (p18 : Nat) (p27 : Nat) (p28 : Nat) (p30 : Nat) (p44 : Nat) (p45 : Nat) (x0 : Int32) (x1 : Int32)  : kc l g yX12_getSignal prog_14_method_54_code 3 (some .int) 2 43 0 0 [.ref m0, .int x0, .int x1] [(m0, .inr (16, mO r p0 p1 p9 p10 p18 p27 p28 p30 p44 p45 0 0 0 0 0 0 0 0 0 0 0 0))] (fun v w => (v = some (.int 0) ∧ w = [(m0, .inr (16, mO r p0 p1 p9 p10 p18 p27 p28 p30 p44 p45 0 0 0 0 0 0 0 0 0 0 0 1))])) (fun _ _ => False) := by
  refine kbody (by decide) (Nat.le_of_ble_eq_true rfl) ?_
  intro p e s m args below meth c A H K ht G hP hD hA hS ls hl
  have K : KB p s m meth c RX12 "getSignal" prog_14_method_54_code 3 (some .int) := K
  obtain ⟨hx, hb, hml, hown, hlocks, hr, hin⟩ := id K
  have hl : lv_has ls 3 [(0, .ref m0), (1, .int x0), (2, .int x1)] := hl
  refine lv_aload_n hx hb dX12_getSignal_0 rfl (lv_at hl 0 rfl) ?_
  refine lv_aload_n hx hb dX12_getSignal_1 rfl (lv_at hl 0 rfl) ?_
  refine lv_iload_n hx hb dX12_getSignal_2 rfl (lv_at hl 1 rfl) ?_
  refine kcallV (wc := [(m0, .inr (16, mO r p0 p1 p9 p10 p18 p27 p28 p30 p44 p45 0 0 0 0 0 0 0 0 0 0 0 0))]) (wr := []) (As := [.int x0]) (rest := [.ref m0]) K G (m_X12_isNoShip l hl0 g m0 r p0 p1 p9 p10 p18 p27 p28 p30 p44 p45 x0 0 ) hP hD hS hA hl kw_323 kw_324 kw_325 kw_326 kw_307 ydX12_isNoShip [0] [] rfl rfl rfl rfl (by decide) (ci := 16) (q0 := 0) rfl rfl rfl rfl rfl (Nat.le_of_ble_eq_true rfl) dX12_getSignal_3 ⟨Nat.le_of_ble_eq_true rfl, Nat.le_of_ble_eq_true rfl⟩ ⟨Nat.le_of_ble_eq_true rfl, Nat.le_of_ble_eq_true rfl⟩ (fun _ _ _ _ _ _ hX _ _ _ _ _ _ => hX.elim) (fun v w1 H locs hQ hP hD hS => ?_)
  obtain ⟨rfl, rfl⟩ := hQ
  have hP : va_P g.1 vwCl [(m0, .inr (16, mO r p0 p1 p9 p10 p18 p27 p28 p30 p44 p45 0 0 0 0 0 0 0 0 0 0 0 0))] H := hP
  have hD : va_D A [(m0, .inr (16, mO r p0 p1 p9 p10 p18 p27 p28 p30 p44 p45 0 0 0 0 0 0 0 0 0 0 0 0))] := hD
  refine W.widen (k := 0) (n := 0) (by decide) (by decide) ?_
  refine W.eq (g2 := F0 m 6 ls [.int 1, .ref m0]) rfl ?_
  refine lv_if_ne (tgt := 17) hx hb dX12_getSignal_6 (by decide) (fun _ => ?_) (fun c6_2 => absurd c6_2 (by decide))
  refine lv_iconst (v := 1) hx hb dX12_getSignal_17 (by decide) ?_
  refine lv_goto (tgt := 22) hx hb dX12_getSignal_18 (by decide) ?_
  refine lv_iconst (v := 1) hx hb dX12_getSignal_22 (by decide) ?_
  refine kcallV (wc := [(m0, .inr (16, mO r p0 p1 p9 p10 p18 p27 p28 p30 p44 p45 0 0 0 0 0 0 0 0 0 0 0 0))]) (wr := []) (As := [.int 1, .int 1]) (rest := []) K G (m_X12_isThrown1 l hl0 g m0 r p0 p1 p9 p10 p18 p27 p28 p30 p44 p45 0 0 0 0 0 0 0 0 0 0 0 0 1 ) hP hD hS hA hl kw_319 kw_320 kw_321 kw_322 kw_307 ydX12_isThrown [0] [] rfl rfl rfl rfl (by decide) (ci := 16) (q0 := 0) rfl rfl rfl rfl rfl (Nat.le_of_ble_eq_true rfl) dX12_getSignal_23 ⟨Nat.le_of_ble_eq_true rfl, Nat.le_of_ble_eq_true rfl⟩ ⟨Nat.le_of_ble_eq_true rfl, Nat.le_of_ble_eq_true rfl⟩ (fun _ _ _ _ _ _ hX _ _ _ _ _ _ => hX.elim) (fun v w1 H locs hQ hP hD hS => ?_)
  obtain ⟨rfl, rfl⟩ := hQ
  have hP : va_P g.1 vwCl [(m0, .inr (16, mO r p0 p1 p9 p10 p18 p27 p28 p30 p44 p45 0 0 0 0 0 0 0 0 0 0 0 1))] H := hP
  have hD : va_D A [(m0, .inr (16, mO r p0 p1 p9 p10 p18 p27 p28 p30 p44 p45 0 0 0 0 0 0 0 0 0 0 0 1))] := hD
  refine W.widen (k := 0) (n := 0) (by decide) (by decide) ?_
  refine W.eq (g2 := F0 m 26 ls [.int 1]) rfl ?_
  refine lv_if_eq (tgt := 33) hx hb dX12_getSignal_26 (by decide) (fun c26_4 => absurd c26_4 (by decide)) (fun _ => ?_)
  refine lv_iconst (v := 0) hx hb dX12_getSignal_29 (by decide) ?_
  refine lv_goto (tgt := 39) hx hb dX12_getSignal_30 (by decide) ?_
  exact kretI K hP hD hS [0] [(m0, .inr (16, mO r p0 p1 p9 p10 p18 p27 p28 p30 p44 p45 0 0 0 0 0 0 0 0 0 0 0 1))] rfl rfl (⟨rfl, rfl⟩) (by decide) (by decide) dX12_getSignal_39

set_option maxHeartbeats 4000000 in
set_option maxRecDepth 100000 in
theorem m_X12_getListeners (l : Launch) (hl0 : l.stackTraces = false) (g : kG) (m0 : Nat) (r : Nat → Nat) (p0 : Nat) (p1 : Nat) (p9 : Nat) (p10 : Nat) (p18 : Nat) (p27 : Nat) (p28 : Nat) (p30 : Nat) (p44 : Nat) (p45 : Nat) (x0 : Int32)  : kc l g yX12_getListeners prog_14_method_56_code 2 (some .int) 2 43 0 0 [.ref m0, .int x0] [(m0, .inr (16, mO r p0 p1 p9 p10 p18 p27 p28 p30 p44 p45 0 0 0 0 0 0 0 0 0 0 0 0))] (fun v w => (v = some (.int 0) ∧ w = [(m0, .inr (16, mO r p0 p1 p9 p10 p18 p27 p28 p30 p44 p45 0 0 0 0 0 0 0 0 0 0 0 1))])) (fun _ _ => False) := by
  refine kbody (by decide) (Nat.le_of_ble_eq_true rfl) ?_
  intro p e s m args below meth c A H K ht G hP hD hA hS ls hl
  have K : KB p s m meth c RX12 "getListeners" prog_14_method_56_code 2 (some .int) := K
  obtain ⟨hx, hb, hml, hown, hlocks, hr, hin⟩ := id K
  have hl : lv_has ls 2 [(0, .ref m0), (1, .int x0)] := hl
  refine lv_aload_n hx hb dX12_getListeners_0 rfl (lv_at hl 0 rfl) ?_
  refine lv_aload_n hx hb dX12_getListeners_1 rfl (lv_at hl 0 rfl) ?_
  refine lv_iload_n hx hb dX12_getListeners_2 rfl (lv_at hl 1 rfl) ?_
  refine kcallV (wc := [(m0, .inr (16, mO r p0 p1 p9 p10 p18 p27 p28 p30 p44 p45 0 0 0 0 0 0 0 0 0 0 0 0))]) (wr := []) (As := [.int x0]) (rest := [.ref m0]) K G (m_X12_isNoShip l hl0 g m0 r p0 p1 p9 p10 p18 p27 p28 p30 p44 p45 x0 0 ) hP hD hS hA hl kw_323 kw_324 kw_325 kw_326 kw_307 ydX12_isNoShip [0] [] rfl rfl rfl rfl (by decide) (ci := 16) (q0 := 0) rfl rfl rfl rfl rfl (Nat.le_of_ble_eq_true rfl) dX12_getListeners_3 ⟨Nat.le_of_ble_eq_true rfl, Nat.le_of_ble_eq_true rfl⟩ ⟨Nat.le_of_ble_eq_true rfl, Nat.le_of_ble_eq_true rfl⟩ (fun _ _ _ _ _ _ hX _ _ _ _ _ _ => hX.elim) (fun v w1 H locs hQ hP hD hS => ?_)
  obtain ⟨rfl, rfl⟩ := hQ
  have hP : va_P g.1 vwCl [(m0, .inr (16, mO r p0 p1 p9 p10 p18 p27 p28 p30 p44 p45 0 0 0 0 0 0 0 0 0 0 0 0))] H := hP
  have hD : va_D A [(m0, .inr (16, mO r p0 p1 p9 p10 p18 p27 p28 p30 p44 p45 0 0 0 0 0 0 0 0 0 0 0 0))] := hD
  refine W.widen (k := 0) (n := 0) (by decide) (by decide) ?_
  refine W.eq (g2 := F0 m 6 ls [.int 1, .ref m0]) rfl ?_
  refine lv_iconst (v := 1) hx hb dX12_getListeners_6 (by decide) ?_
  refine kcallV (wc := [(m0, .inr (16, mO r p0 p1 p9 p10 p18 p27 p28 p30 p44 p45 0 0 0 0 0 0 0 0 0 0 0 0))]) (wr := []) (As := [.int 1, .int 1]) (rest := []) K G (m_X12_isThrown1 l hl0 g m0 r p0 p1 p9 p10 p18 p27 p28 p30 p44 p45 0 0 0 0 0 0 0 0 0 0 0 0 1 ) hP hD hS hA hl kw_319 kw_320 kw_321 kw_322 kw_307 ydX12_isThrown [0] [] rfl rfl rfl rfl (by decide) (ci := 16) (q0 := 0) rfl rfl rfl rfl rfl (Nat.le_of_ble_eq_true rfl) dX12_getListeners_7 ⟨Nat.le_of_ble_eq_true rfl, Nat.le_of_ble_eq_true rfl⟩ ⟨Nat.le_of_ble_eq_true rfl, Nat.le_of_ble_eq_true rfl⟩ (fun _ _ _ _ _ _ hX _ _ _ _ _ _ => hX.elim) (fun v w1 H locs hQ hP hD hS => ?_)
  obtain ⟨rfl, rfl⟩ := hQ
  have hP : va_P g.1 vwCl [(m0, .inr (16, mO r p0 p1 p9 p10 p18 p27 p28 p30 p44 p45 0 0 0 0 0 0 0 0 0 0 0 1))] H := hP
  have hD : va_D A [(m0, .inr (16, mO r p0 p1 p9 p10 p18 p27 p28 p30 p44 p45 0 0 0 0 0 0 0 0 0 0 0 1))] := hD
  refine W.widen (k := 0) (n := 0) (by decide) (by decide) ?_
  refine W.eq (g2 := F0 m 10 ls [.int 1]) rfl ?_
  refine lv_if_eq (tgt := 17) hx hb dX12_getListeners_10 (by decide) (fun c10_3 => absurd c10_3 (by decide)) (fun _ => ?_)
  refine lv_iconst (v := 0) hx hb dX12_getListeners_13 (by decide) ?_
  refine lv_goto (tgt := 23) hx hb dX12_getListeners_14 (by decide) ?_
  exact kretI K hP hD hS [0] [(m0, .inr (16, mO r p0 p1 p9 p10 p18 p27 p28 p30 p44 p45 0 0 0 0 0 0 0 0 0 0 0 1))] rfl rfl (⟨rfl, rfl⟩) (by decide) (by decide) dX12_getListeners_23

set_option maxHeartbeats 4000000 in
set_option maxRecDepth 100000 in
theorem m_X12_plan (l : Launch) (hl0 : l.stackTraces = false) (g : kG) (m0 : Nat) (r : Nat → Nat) (p0 : Nat) (p1 : Nat) (p9 : Nat) (p10 : Nat) (p18 : Nat) (p27 : Nat) (p28 : Nat) (p30 : Nat) (p44 : Nat) (p45 : Nat) (x0 : Int32) (x1 : Int32) (x2 : Int32)  : kc l g yX12_plan prog_14_method_65_code 5 (some .int) 2 43 0 0 [.ref m0, .int x0, .int x1, .int x2] [(m0, .inr (16, mO r p0 p1 p9 p10 p18 p27 p28 p30 p44 p45 0 0 0 0 0 0 0 0 0 0 0 0))] (fun v w => (v = some (.int 0) ∧ w = [(m0, .inr (16, mO r p0 p1 p9 p10 p18 p27 p28 p30 p44 p45 0 0 0 0 0 0 0 0 0 0 0 1))])) (fun _ _ => False) := by
  refine kbody (by decide) (Nat.le_of_ble_eq_true rfl) ?_
  intro p e s m args below meth c A H K ht G hP hD hA hS ls hl
  have K : KB p s m meth c RX12 "plan" prog_14_method_65_code 5 (some .int) := K
  obtain ⟨hx, hb, hml, hown, hlocks, hr, hin⟩ := id K
  have hl : lv_has ls 5 [(0, .ref m0), (1, .int x0), (2, .int x1), (3, .int x2)] := hl
  refine lv_aload_n hx hb dX12_plan_0 rfl (lv_at hl 0 rfl) ?_
  refine lv_aload_n hx hb dX12_plan_1 rfl (lv_at hl 0 rfl) ?_
  refine lv_iload_n hx hb dX12_plan_2 rfl (lv_at hl 1 rfl) ?_
  refine kcallV (wc := [(m0, .inr (16, mO r p0 p1 p9 p10 p18 p27 p28 p30 p44 p45 0 0 0 0 0 0 0 0 0 0 0 0))]) (wr := []) (As := [.int x0]) (rest := [.ref m0]) K G (m_X12_isNoShip l hl0 g m0 r p0 p1 p9 p10 p18 p27 p28 p30 p44 p45 x0 0 ) hP hD hS hA hl kw_323 kw_324 kw_325 kw_326 kw_307 ydX12_isNoShip [0] [] rfl rfl rfl rfl (by decide) (ci := 16) (q0 := 0) rfl rfl rfl rfl rfl (Nat.le_of_ble_eq_true rfl) dX12_plan_3 ⟨Nat.le_of_ble_eq_true rfl, Nat.le_of_ble_eq_true rfl⟩ ⟨Nat.le_of_ble_eq_true rfl, Nat.le_of_ble_eq_true rfl⟩ (fun _ _ _ _ _ _ hX _ _ _ _ _ _ => hX.elim) (fun v w1 H locs hQ hP hD hS => ?_)
  obtain ⟨rfl, rfl⟩ := hQ
  have hP : va_P g.1 vwCl [(m0, .inr (16, mO r p0 p1 p9 p10 p18 p27 p28 p30 p44 p45 0 0 0 0 0 0 0 0 0 0 0 0))] H := hP
  have hD : va_D A [(m0, .inr (16, mO r p0 p1 p9 p10 p18 p27 p28 p30 p44 p45 0 0 0 0 0 0 0 0 0 0 0 0))] := hD
  refine W.widen (k := 0) (n := 0) (by decide) (by decide) ?_
  refine W.eq (g2 := F0 m 6 ls [.int 1, .ref m0]) rfl ?_
  refine lv_iconst (v := 1) hx hb dX12_plan_6 (by decide) ?_
  refine kcallV (wc := [(m0, .inr (16, mO r p0 p1 p9 p10 p18 p27 p28 p30 p44 p45 0 0 0 0 0 0 0 0 0 0 0 0))]) (wr := []) (As := [.int 1, .int 1]) (rest := []) K G (m_X12_isThrown1 l hl0 g m0 r p0 p1 p9 p10 p18 p27 p28 p30 p44 p45 0 0 0 0 0 0 0 0 0 0 0 0 1 ) hP hD hS hA hl kw_319 kw_320 kw_321 kw_322 kw_307 ydX12_isThrown [0] [] rfl rfl rfl rfl (by decide) (ci := 16) (q0 := 0) rfl rfl rfl rfl rfl (Nat.le_of_ble_eq_true rfl) dX12_plan_7 ⟨Nat.le_of_ble_eq_true rfl, Nat.le_of_ble_eq_true rfl⟩ ⟨Nat.le_of_ble_eq_true rfl, Nat.le_of_ble_eq_true rfl⟩ (fun _ _ _ _ _ _ hX _ _ _ _ _ _ => hX.elim) (fun v w1 H locs hQ hP hD hS => ?_)
  obtain ⟨rfl, rfl⟩ := hQ
  have hP : va_P g.1 vwCl [(m0, .inr (16, mO r p0 p1 p9 p10 p18 p27 p28 p30 p44 p45 0 0 0 0 0 0 0 0 0 0 0 1))] H := hP
  have hD : va_D A [(m0, .inr (16, mO r p0 p1 p9 p10 p18 p27 p28 p30 p44 p45 0 0 0 0 0 0 0 0 0 0 0 1))] := hD
  refine W.widen (k := 0) (n := 0) (by decide) (by decide) ?_
  refine W.eq (g2 := F0 m 10 ls [.int 1]) rfl ?_
  refine lv_if_ne (tgt := 61) hx hb dX12_plan_10 (by decide) (fun _ => ?_) (fun c10_3 => absurd c10_3 (by decide))
  refine lv_iconst (v := 0) hx hb dX12_plan_61 (by decide) ?_
  exact kretI K hP hD hS [0] [(m0, .inr (16, mO r p0 p1 p9 p10 p18 p27 p28 p30 p44 p45 0 0 0 0 0 0 0 0 0 0 0 1))] rfl rfl (⟨rfl, rfl⟩) (by decide) (by decide) dX12_plan_62

set_option maxHeartbeats 4000000 in
set_option maxRecDepth 100000 in
theorem m_X12_getSpeaker (l : Launch) (hl0 : l.stackTraces = false) (g : kG) (m0 : Nat) (r : Nat → Nat) (p0 : Nat) (p1 : Nat) (p9 : Nat) (p10 : Nat) (p18 : Nat) (p27 : Nat) (p28 : Nat) (p30 : Nat) (p44 : Nat) (p45 : Nat) (x0 : Int32)  : kc l g yX12_getSpeaker prog_14_method_66_code 2 (some .int) 2 43 0 0 [.ref m0, .int x0] [(m0, .inr (16, mO r p0 p1 p9 p10 p18 p27 p28 p30 p44 p45 0 0 0 0 0 0 0 0 0 0 0 0))] (fun v w => (v = some (.int 0) ∧ w = [(m0, .inr (16, mO r p0 p1 p9 p10 p18 p27 p28 p30 p44 p45 0 0 0 0 0 0 0 0 0 0 0 1))])) (fun _ _ => False) := by
  refine kbody (by decide) (Nat.le_of_ble_eq_true rfl) ?_
  intro p e s m args below meth c A H K ht G hP hD hA hS ls hl
  have K : KB p s m meth c RX12 "getSpeaker" prog_14_method_66_code 2 (some .int) := K
  obtain ⟨hx, hb, hml, hown, hlocks, hr, hin⟩ := id K
  have hl : lv_has ls 2 [(0, .ref m0), (1, .int x0)] := hl
  refine lv_aload_n hx hb dX12_getSpeaker_0 rfl (lv_at hl 0 rfl) ?_
  refine lv_aload_n hx hb dX12_getSpeaker_1 rfl (lv_at hl 0 rfl) ?_
  refine lv_iload_n hx hb dX12_getSpeaker_2 rfl (lv_at hl 1 rfl) ?_
  refine kcallV (wc := [(m0, .inr (16, mO r p0 p1 p9 p10 p18 p27 p28 p30 p44 p45 0 0 0 0 0 0 0 0 0 0 0 0))]) (wr := []) (As := [.int x0]) (rest := [.ref m0]) K G (m_X12_isNoShip l hl0 g m0 r p0 p1 p9 p10 p18 p27 p28 p30 p44 p45 x0 0 ) hP hD hS hA hl kw_323 kw_324 kw_325 kw_326 kw_307 ydX12_isNoShip [0] [] rfl rfl rfl rfl (by decide) (ci := 16) (q0 := 0) rfl rfl rfl rfl rfl (Nat.le_of_ble_eq_true rfl) dX12_getSpeaker_3 ⟨Nat.le_of_ble_eq_true rfl, Nat.le_of_ble_eq_true rfl⟩ ⟨Nat.le_of_ble_eq_true rfl, Nat.le_of_ble_eq_true rfl⟩ (fun _ _ _ _ _ _ hX _ _ _ _ _ _ => hX.elim) (fun v w1 H locs hQ hP hD hS => ?_)
  obtain ⟨rfl, rfl⟩ := hQ
  have hP : va_P g.1 vwCl [(m0, .inr (16, mO r p0 p1 p9 p10 p18 p27 p28 p30 p44 p45 0 0 0 0 0 0 0 0 0 0 0 0))] H := hP
  have hD : va_D A [(m0, .inr (16, mO r p0 p1 p9 p10 p18 p27 p28 p30 p44 p45 0 0 0 0 0 0 0 0 0 0 0 0))] := hD
  refine W.widen (k := 0) (n := 0) (by decide) (by decide) ?_
  refine W.eq (g2 := F0 m 6 ls [.int 1, .ref m0]) rfl ?_
  refine lv_iconst (v := 1) hx hb dX12_getSpeaker_6 (by decide) ?_
  refine kcallV (wc := [(m0, .inr (16, mO r p0 p1 p9 p10 p18 p27 p28 p30 p44 p45 0 0 0 0 0 0 0 0 0 0 0 0))]) (wr := []) (As := [.int 1, .int 1]) (rest := []) K G (m_X12_isThrown1 l hl0 g m0 r p0 p1 p9 p10 p18 p27 p28 p30 p44 p45 0 0 0 0 0 0 0 0 0 0 0 0 1 ) hP hD hS hA hl kw_319 kw_320 kw_321 kw_322 kw_307 ydX12_isThrown [0] [] rfl rfl rfl rfl (by decide) (ci := 16) (q0 := 0) rfl rfl rfl rfl rfl (Nat.le_of_ble_eq_true rfl) dX12_getSpeaker_7 ⟨Nat.le_of_ble_eq_true rfl, Nat.le_of_ble_eq_true rfl⟩ ⟨Nat.le_of_ble_eq_true rfl, Nat.le_of_ble_eq_true rfl⟩ (fun _ _ _ _ _ _ hX _ _ _ _ _ _ => hX.elim) (fun v w1 H locs hQ hP hD hS => ?_)
  obtain ⟨rfl, rfl⟩ := hQ
  have hP : va_P g.1 vwCl [(m0, .inr (16, mO r p0 p1 p9 p10 p18 p27 p28 p30 p44 p45 0 0 0 0 0 0 0 0 0 0 0 1))] H := hP
  have hD : va_D A [(m0, .inr (16, mO r p0 p1 p9 p10 p18 p27 p28 p30 p44 p45 0 0 0 0 0 0 0 0 0 0 0 1))] := hD
  refine W.widen (k := 0) (n := 0) (by decide) (by decide) ?_
  refine W.eq (g2 := F0 m 10 ls [.int 1]) rfl ?_
  refine lv_if_ne (tgt := 35) hx hb dX12_getSpeaker_10 (by decide) (fun _ => ?_) (fun c10_3 => absurd c10_3 (by decide))
  refine lv_iconst (v := 0) hx hb dX12_getSpeaker_35 (by decide) ?_
  refine lv_goto (tgt := 45) hx hb dX12_getSpeaker_36 (by decide) ?_
  exact kretI K hP hD hS [0] [(m0, .inr (16, mO r p0 p1 p9 p10 p18 p27 p28 p30 p44 p45 0 0 0 0 0 0 0 0 0 0 0 1))] rfl rfl (⟨rfl, rfl⟩) (by decide) (by decide) dX12_getSpeaker_45

set_option maxHeartbeats 4000000 in
set_option maxRecDepth 100000 in
theorem m_X12_isMutiny (l : Launch) (hl0 : l.stackTraces = false) (g : kG) (m0 : Nat) (r : Nat → Nat) (p0 : Nat) (p1 : Nat) (p9 : Nat) (p10 : Nat) (p18 : Nat) (p27 : Nat) (p28 : Nat) (p30 : Nat) (p44 : Nat) (p45 : Nat) (x0 : Int32)  : kc l g yX12_isMutiny prog_14_method_67_code 2 (some .boolean) 2 43 0 0 [.ref m0, .int x0] [(m0, .inr (16, mO r p0 p1 p9 p10 p18 p27 p28 p30 p44 p45 0 0 0 0 0 0 0 0 0 0 0 0))] (fun v w => (v = some (.int 0) ∧ w = [(m0, .inr (16, mO r p0 p1 p9 p10 p18 p27 p28 p30 p44 p45 0 0 0 0 0 0 0 0 0 0 0 1))])) (fun _ _ => False) := by
  refine kbody (by decide) (Nat.le_of_ble_eq_true rfl) ?_
  intro p e s m args below meth c A H K ht G hP hD hA hS ls hl
  have K : KB p s m meth c RX12 "isMutiny" prog_14_method_67_code 2 (some .boolean) := K
  obtain ⟨hx, hb, hml, hown, hlocks, hr, hin⟩ := id K
  have hl : lv_has ls 2 [(0, .ref m0), (1, .int x0)] := hl
  refine lv_aload_n hx hb dX12_isMutiny_0 rfl (lv_at hl 0 rfl) ?_
  refine lv_aload_n hx hb dX12_isMutiny_1 rfl (lv_at hl 0 rfl) ?_
  refine lv_iload_n hx hb dX12_isMutiny_2 rfl (lv_at hl 1 rfl) ?_
  refine kcallV (wc := [(m0, .inr (16, mO r p0 p1 p9 p10 p18 p27 p28 p30 p44 p45 0 0 0 0 0 0 0 0 0 0 0 0))]) (wr := []) (As := [.int x0]) (rest := [.ref m0]) K G (m_X12_isNoShip l hl0 g m0 r p0 p1 p9 p10 p18 p27 p28 p30 p44 p45 x0 0 ) hP hD hS hA hl kw_323 kw_324 kw_325 kw_326 kw_307 ydX12_isNoShip [0] [] rfl rfl rfl rfl (by decide) (ci := 16) (q0 := 0) rfl rfl rfl rfl rfl (Nat.le_of_ble_eq_true rfl) dX12_isMutiny_3 ⟨Nat.le_of_ble_eq_true rfl, Nat.le_of_ble_eq_true rfl⟩ ⟨Nat.le_of_ble_eq_true rfl, Nat.le_of_ble_eq_true rfl⟩ (fun _ _ _ _ _ _ hX _ _ _ _ _ _ => hX.elim) (fun v w1 H locs hQ hP hD hS => ?_)
  obtain ⟨rfl, rfl⟩ := hQ
  have hP : va_P g.1 vwCl [(m0, .inr (16, mO r p0 p1 p9 p10 p18 p27 p28 p30 p44 p45 0 0 0 0 0 0 0 0 0 0 0 0))] H := hP
  have hD : va_D A [(m0, .inr (16, mO r p0 p1 p9 p10 p18 p27 p28 p30 p44 p45 0 0 0 0 0 0 0 0 0 0 0 0))] := hD
  refine W.widen (k := 0) (n := 0) (by decide) (by decide) ?_
  refine W.eq (g2 := F0 m 6 ls [.int 1, .ref m0]) rfl ?_
  refine lv_iconst (v := 1) hx hb dX12_isMutiny_6 (by decide) ?_
  refine kcallV (wc := [(m0, .inr (16, mO r p0 p1 p9 p10 p18 p27 p28 p30 p44 p45 0 0 0 0 0 0 0 0 0 0 0 0))]) (wr := []) (As := [.int 1, .int 1]) (rest := []) K G (m_X12_isThrown1 l hl0 g m0 r p0 p1 p9 p10 p18 p27 p28 p30 p44 p45 0 0 0 0 0 0 0 0 0 0 0 0 1 ) hP hD hS hA hl kw_319 kw_320 kw_321 kw_322 kw_307 ydX12_isThrown [0] [] rfl rfl rfl rfl (by decide) (ci := 16) (q0 := 0) rfl rfl rfl rfl rfl (Nat.le_of_ble_eq_true rfl) dX12_isMutiny_7 ⟨Nat.le_of_ble_eq_true rfl, Nat.le_of_ble_eq_true rfl⟩ ⟨Nat.le_of_ble_eq_true rfl, Nat.le_of_ble_eq_true rfl⟩ (fun _ _ _ _ _ _ hX _ _ _ _ _ _ => hX.elim) (fun v w1 H locs hQ hP hD hS => ?_)
  obtain ⟨rfl, rfl⟩ := hQ
  have hP : va_P g.1 vwCl [(m0, .inr (16, mO r p0 p1 p9 p10 p18 p27 p28 p30 p44 p45 0 0 0 0 0 0 0 0 0 0 0 1))] H := hP
  have hD : va_D A [(m0, .inr (16, mO r p0 p1 p9 p10 p18 p27 p28 p30 p44 p45 0 0 0 0 0 0 0 0 0 0 0 1))] := hD
  refine W.widen (k := 0) (n := 0) (by decide) (by decide) ?_
  refine W.eq (g2 := F0 m 10 ls [.int 1]) rfl ?_
  refine lv_if_ne (tgt := 26) hx hb dX12_isMutiny_10 (by decide) (fun _ => ?_) (fun c10_3 => absurd c10_3 (by decide))
  refine lv_iconst (v := 0) hx hb dX12_isMutiny_26 (by decide) ?_
  exact kretZ K hP hD hS [0] [(m0, .inr (16, mO r p0 p1 p9 p10 p18 p27 p28 p30 p44 p45 0 0 0 0 0 0 0 0 0 0 0 1))] rfl rfl (⟨rfl, rfl⟩) (by decide) (by decide) dX12_isMutiny_27

set_option maxHeartbeats 4000000 in
set_option maxRecDepth 100000 in
theorem m_X12_sell (l : Launch) (hl0 : l.stackTraces = false) (g : kG) (m0 : Nat) (r : Nat → Nat) (p0 : Nat) (p1 : Nat) (p9 : Nat) (p10 : Nat) (p18 : Nat) (p27 : Nat) (p28 : Nat) (p30 : Nat) (p44 : Nat) (p45 : Nat) (x0 : Int32) (x1 : Int32)  : kc l g yX12_sell prog_14_method_68_code 4 (some .int) 2 43 0 0 [.ref m0, .int x0, .int x1] [(m0, .inr (16, mO r p0 p1 p9 p10 p18 p27 p28 p30 p44 p45 0 0 0 0 0 0 0 0 0 0 0 0))] (fun v w => (v = some (.int 0) ∧ w = [(m0, .inr (16, mO r p0 p1 p9 p10 p18 p27 p28 p30 p44 p45 0 0 0 0 0 0 0 0 0 0 0 1))])) (fun _ _ => False) := by
  refine kbody (by decide) (Nat.le_of_ble_eq_true rfl) ?_
  intro p e s m args below meth c A H K ht G hP hD hA hS ls hl
  have K : KB p s m meth c RX12 "sell" prog_14_method_68_code 4 (some .int) := K
  obtain ⟨hx, hb, hml, hown, hlocks, hr, hin⟩ := id K
  have hl : lv_has ls 4 [(0, .ref m0), (1, .int x0), (2, .int x1)] := hl
  refine lv_aload_n hx hb dX12_sell_0 rfl (lv_at hl 0 rfl) ?_
  refine lv_aload_n hx hb dX12_sell_1 rfl (lv_at hl 0 rfl) ?_
  refine lv_iload_n hx hb dX12_sell_2 rfl (lv_at hl 1 rfl) ?_
  refine kcallV (wc := [(m0, .inr (16, mO r p0 p1 p9 p10 p18 p27 p28 p30 p44 p45 0 0 0 0 0 0 0 0 0 0 0 0))]) (wr := []) (As := [.int x0]) (rest := [.ref m0]) K G (m_X12_isNoShip l hl0 g m0 r p0 p1 p9 p10 p18 p27 p28 p30 p44 p45 x0 0 ) hP hD hS hA hl kw_323 kw_324 kw_325 kw_326 kw_307 ydX12_isNoShip [0] [] rfl rfl rfl rfl (by decide) (ci := 16) (q0 := 0) rfl rfl rfl rfl rfl (Nat.le_of_ble_eq_true rfl) dX12_sell_3 ⟨Nat.le_of_ble_eq_true rfl, Nat.le_of_ble_eq_true rfl⟩ ⟨Nat.le_of_ble_eq_true rfl, Nat.le_of_ble_eq_true rfl⟩ (fun _ _ _ _ _ _ hX _ _ _ _ _ _ => hX.elim) (fun v w1 H locs hQ hP hD hS => ?_)
  obtain ⟨rfl, rfl⟩ := hQ
  have hP : va_P g.1 vwCl [(m0, .inr (16, mO r p0 p1 p9 p10 p18 p27 p28 p30 p44 p45 0 0 0 0 0 0 0 0 0 0 0 0))] H := hP
  have hD : va_D A [(m0, .inr (16, mO r p0 p1 p9 p10 p18 p27 p28 p30 p44 p45 0 0 0 0 0 0 0 0 0 0 0 0))] := hD
  refine W.widen (k := 0) (n := 0) (by decide) (by decide) ?_
  refine W.eq (g2 := F0 m 6 ls [.int 1, .ref m0]) rfl ?_
  refine lv_iconst (v := 1) hx hb dX12_sell_6 (by decide) ?_
  refine kcallV (wc := [(m0, .inr (16, mO r p0 p1 p9 p10 p18 p27 p28 p30 p44 p45 0 0 0 0 0 0 0 0 0 0 0 0))]) (wr := []) (As := [.int 1, .int 1]) (rest := []) K G (m_X12_isThrown1 l hl0 g m0 r p0 p1 p9 p10 p18 p27 p28 p30 p44 p45 0 0 0 0 0 0 0 0 0 0 0 0 1 ) hP hD hS hA hl kw_319 kw_320 kw_321 kw_322 kw_307 ydX12_isThrown [0] [] rfl rfl rfl rfl (by decide) (ci := 16) (q0 := 0) rfl rfl rfl rfl rfl (Nat.le_of_ble_eq_true rfl) dX12_sell_7 ⟨Nat.le_of_ble_eq_true rfl, Nat.le_of_ble_eq_true rfl⟩ ⟨Nat.le_of_ble_eq_true rfl, Nat.le_of_ble_eq_true rfl⟩ (fun _ _ _ _ _ _ hX _ _ _ _ _ _ => hX.elim) (fun v w1 H locs hQ hP hD hS => ?_)
  obtain ⟨rfl, rfl⟩ := hQ
  have hP : va_P g.1 vwCl [(m0, .inr (16, mO r p0 p1 p9 p10 p18 p27 p28 p30 p44 p45 0 0 0 0 0 0 0 0 0 0 0 1))] H := hP
  have hD : va_D A [(m0, .inr (16, mO r p0 p1 p9 p10 p18 p27 p28 p30 p44 p45 0 0 0 0 0 0 0 0 0 0 0 1))] := hD
  refine W.widen (k := 0) (n := 0) (by decide) (by decide) ?_
  refine W.eq (g2 := F0 m 10 ls [.int 1]) rfl ?_
  refine lv_if_ne (tgt := 36) hx hb dX12_sell_10 (by decide) (fun _ => ?_) (fun c10_3 => absurd c10_3 (by decide))
  refine lv_iconst (v := 0) hx hb dX12_sell_36 (by decide) ?_
  exact kretI K hP hD hS [0] [(m0, .inr (16, mO r p0 p1 p9 p10 p18 p27 p28 p30 p44 p45 0 0 0 0 0 0 0 0 0 0 0 1))] rfl rfl (⟨rfl, rfl⟩) (by decide) (by decide) dX12_sell_37

set_option maxHeartbeats 4000000 in
set_option maxRecDepth 100000 in
theorem m_X12_bank (l : Launch) (hl0 : l.stackTraces = false) (g : kG) (m0 : Nat) (r : Nat → Nat) (p0 : Nat) (p1 : Nat) (p9 : Nat) (p10 : Nat) (p18 : Nat) (p27 : Nat) (p28 : Nat) (p30 : Nat) (p44 : Nat) (p45 : Nat) (x0 : Int32)  : kc l g yX12_bank prog_14_method_69_code 2 (some .int) 2 43 0 0 [.ref m0, .int x0] [(m0, .inr (16, mO r p0 p1 p9 p10 p18 p27 p28 p30 p44 p45 0 0 0 0 0 0 0 0 0 0 0 0))] (fun v w => (v = some (.int 0) ∧ w = [(m0, .inr (16, mO r p0 p1 p9 p10 p18 p27 p28 p30 p44 p45 0 0 0 0 0 0 0 0 0 0 0 1))])) (fun _ _ => False) := by
  refine kbody (by decide) (Nat.le_of_ble_eq_true rfl) ?_
  intro p e s m args below meth c A H K ht G hP hD hA hS ls hl
  have K : KB p s m meth c RX12 "bank" prog_14_method_69_code 2 (some .int) := K
  obtain ⟨hx, hb, hml, hown, hlocks, hr, hin⟩ := id K
  have hl : lv_has ls 2 [(0, .ref m0), (1, .int x0)] := hl
  refine lv_aload_n hx hb dX12_bank_0 rfl (lv_at hl 0 rfl) ?_
  refine lv_aload_n hx hb dX12_bank_1 rfl (lv_at hl 0 rfl) ?_
  refine lv_iload_n hx hb dX12_bank_2 rfl (lv_at hl 1 rfl) ?_
  refine kcallV (wc := [(m0, .inr (16, mO r p0 p1 p9 p10 p18 p27 p28 p30 p44 p45 0 0 0 0 0 0 0 0 0 0 0 0))]) (wr := []) (As := [.int x0]) (rest := [.ref m0]) K G (m_X12_isNoShip l hl0 g m0 r p0 p1 p9 p10 p18 p27 p28 p30 p44 p45 x0 0 ) hP hD hS hA hl kw_323 kw_324 kw_325 kw_326 kw_307 ydX12_isNoShip [0] [] rfl rfl rfl rfl (by decide) (ci := 16) (q0 := 0) rfl rfl rfl rfl rfl (Nat.le_of_ble_eq_true rfl) dX12_bank_3 ⟨Nat.le_of_ble_eq_true rfl, Nat.le_of_ble_eq_true rfl⟩ ⟨Nat.le_of_ble_eq_true rfl, Nat.le_of_ble_eq_true rfl⟩ (fun _ _ _ _ _ _ hX _ _ _ _ _ _ => hX.elim) (fun v w1 H locs hQ hP hD hS => ?_)
  obtain ⟨rfl, rfl⟩ := hQ
  have hP : va_P g.1 vwCl [(m0, .inr (16, mO r p0 p1 p9 p10 p18 p27 p28 p30 p44 p45 0 0 0 0 0 0 0 0 0 0 0 0))] H := hP
  have hD : va_D A [(m0, .inr (16, mO r p0 p1 p9 p10 p18 p27 p28 p30 p44 p45 0 0 0 0 0 0 0 0 0 0 0 0))] := hD
  refine W.widen (k := 0) (n := 0) (by decide) (by decide) ?_
  refine W.eq (g2 := F0 m 6 ls [.int 1, .ref m0]) rfl ?_
  refine lv_iconst (v := 1) hx hb dX12_bank_6 (by decide) ?_
  refine kcallV (wc := [(m0, .inr (16, mO r p0 p1 p9 p10 p18 p27 p28 p30 p44 p45 0 0 0 0 0 0 0 0 0 0 0 0))]) (wr := []) (As := [.int 1, .int 1]) (rest := []) K G (m_X12_isThrown1 l hl0 g m0 r p0 p1 p9 p10 p18 p27 p28 p30 p44 p45 0 0 0 0 0 0 0 0 0 0 0 0 1 ) hP hD hS hA hl kw_319 kw_320 kw_321 kw_322 kw_307 ydX12_isThrown [0] [] rfl rfl rfl rfl (by decide) (ci := 16) (q0 := 0) rfl rfl rfl rfl rfl (Nat.le_of_ble_eq_true rfl) dX12_bank_7 ⟨Nat.le_of_ble_eq_true rfl, Nat.le_of_ble_eq_true rfl⟩ ⟨Nat.le_of_ble_eq_true rfl, Nat.le_of_ble_eq_true rfl⟩ (fun _ _ _ _ _ _ hX _ _ _ _ _ _ => hX.elim) (fun v w1 H locs hQ hP hD hS => ?_)
  obtain ⟨rfl, rfl⟩ := hQ
  have hP : va_P g.1 vwCl [(m0, .inr (16, mO r p0 p1 p9 p10 p18 p27 p28 p30 p44 p45 0 0 0 0 0 0 0 0 0 0 0 1))] H := hP
  have hD : va_D A [(m0, .inr (16, mO r p0 p1 p9 p10 p18 p27 p28 p30 p44 p45 0 0 0 0 0 0 0 0 0 0 0 1))] := hD
  refine W.widen (k := 0) (n := 0) (by decide) (by decide) ?_
  refine W.eq (g2 := F0 m 10 ls [.int 1]) rfl ?_
  refine lv_if_eq (tgt := 15) hx hb dX12_bank_10 (by decide) (fun c10_3 => absurd c10_3 (by decide)) (fun _ => ?_)
  refine lv_iconst (v := 0) hx hb dX12_bank_13 (by decide) ?_
  exact kretI K hP hD hS [0] [(m0, .inr (16, mO r p0 p1 p9 p10 p18 p27 p28 p30 p44 p45 0 0 0 0 0 0 0 0 0 0 0 1))] rfl rfl (⟨rfl, rfl⟩) (by decide) (by decide) dX12_bank_14

set_option maxHeartbeats 4000000 in
set_option maxRecDepth 100000 in
theorem m_X12_getEarned (l : Launch) (hl0 : l.stackTraces = false) (g : kG) (m0 : Nat) (r : Nat → Nat) (p0 : Nat) (p1 : Nat) (p9 : Nat) (p10 : Nat) (p18 : Nat) (p27 : Nat) (p28 : Nat) (p30 : Nat) (p44 : Nat) (p45 : Nat) (x0 : Int32)  : kc l g yX12_getEarned prog_14_method_70_code 2 (some .int) 2 43 0 0 [.ref m0, .int x0] [(m0, .inr (16, mO r p0 p1 p9 p10 p18 p27 p28 p30 p44 p45 0 0 0 0 0 0 0 0 0 0 0 0))] (fun v w => (v = some (.int 0) ∧ w = [(m0, .inr (16, mO r p0 p1 p9 p10 p18 p27 p28 p30 p44 p45 0 0 0 0 0 0 0 0 0 0 0 1))])) (fun _ _ => False) := by
  refine kbody (by decide) (Nat.le_of_ble_eq_true rfl) ?_
  intro p e s m args below meth c A H K ht G hP hD hA hS ls hl
  have K : KB p s m meth c RX12 "getEarned" prog_14_method_70_code 2 (some .int) := K
  obtain ⟨hx, hb, hml, hown, hlocks, hr, hin⟩ := id K
  have hl : lv_has ls 2 [(0, .ref m0), (1, .int x0)] := hl
  refine lv_aload_n hx hb dX12_getEarned_0 rfl (lv_at hl 0 rfl) ?_
  refine lv_aload_n hx hb dX12_getEarned_1 rfl (lv_at hl 0 rfl) ?_
  refine lv_iload_n hx hb dX12_getEarned_2 rfl (lv_at hl 1 rfl) ?_
  refine kcallV (wc := [(m0, .inr (16, mO r p0 p1 p9 p10 p18 p27 p28 p30 p44 p45 0 0 0 0 0 0 0 0 0 0 0 0))]) (wr := []) (As := [.int x0]) (rest := [.ref m0]) K G (m_X12_isNoShip l hl0 g m0 r p0 p1 p9 p10 p18 p27 p28 p30 p44 p45 x0 0 ) hP hD hS hA hl kw_323 kw_324 kw_325 kw_326 kw_307 ydX12_isNoShip [0] [] rfl rfl rfl rfl (by decide) (ci := 16) (q0 := 0) rfl rfl rfl rfl rfl (Nat.le_of_ble_eq_true rfl) dX12_getEarned_3 ⟨Nat.le_of_ble_eq_true rfl, Nat.le_of_ble_eq_true rfl⟩ ⟨Nat.le_of_ble_eq_true rfl, Nat.le_of_ble_eq_true rfl⟩ (fun _ _ _ _ _ _ hX _ _ _ _ _ _ => hX.elim) (fun v w1 H locs hQ hP hD hS => ?_)
  obtain ⟨rfl, rfl⟩ := hQ
  have hP : va_P g.1 vwCl [(m0, .inr (16, mO r p0 p1 p9 p10 p18 p27 p28 p30 p44 p45 0 0 0 0 0 0 0 0 0 0 0 0))] H := hP
  have hD : va_D A [(m0, .inr (16, mO r p0 p1 p9 p10 p18 p27 p28 p30 p44 p45 0 0 0 0 0 0 0 0 0 0 0 0))] := hD
  refine W.widen (k := 0) (n := 0) (by decide) (by decide) ?_
  refine W.eq (g2 := F0 m 6 ls [.int 1, .ref m0]) rfl ?_
  refine lv_iconst (v := 1) hx hb dX12_getEarned_6 (by decide) ?_
  refine kcallV (wc := [(m0, .inr (16, mO r p0 p1 p9 p10 p18 p27 p28 p30 p44 p45 0 0 0 0 0 0 0 0 0 0 0 0))]) (wr := []) (As := [.int 1, .int 1]) (rest := []) K G (m_X12_isThrown1 l hl0 g m0 r p0 p1 p9 p10 p18 p27 p28 p30 p44 p45 0 0 0 0 0 0 0 0 0 0 0 0 1 ) hP hD hS hA hl kw_319 kw_320 kw_321 kw_322 kw_307 ydX12_isThrown [0] [] rfl rfl rfl rfl (by decide) (ci := 16) (q0 := 0) rfl rfl rfl rfl rfl (Nat.le_of_ble_eq_true rfl) dX12_getEarned_7 ⟨Nat.le_of_ble_eq_true rfl, Nat.le_of_ble_eq_true rfl⟩ ⟨Nat.le_of_ble_eq_true rfl, Nat.le_of_ble_eq_true rfl⟩ (fun _ _ _ _ _ _ hX _ _ _ _ _ _ => hX.elim) (fun v w1 H locs hQ hP hD hS => ?_)
  obtain ⟨rfl, rfl⟩ := hQ
  have hP : va_P g.1 vwCl [(m0, .inr (16, mO r p0 p1 p9 p10 p18 p27 p28 p30 p44 p45 0 0 0 0 0 0 0 0 0 0 0 1))] H := hP
  have hD : va_D A [(m0, .inr (16, mO r p0 p1 p9 p10 p18 p27 p28 p30 p44 p45 0 0 0 0 0 0 0 0 0 0 0 1))] := hD
  refine W.widen (k := 0) (n := 0) (by decide) (by decide) ?_
  refine W.eq (g2 := F0 m 10 ls [.int 1]) rfl ?_
  refine lv_if_eq (tgt := 17) hx hb dX12_getEarned_10 (by decide) (fun c10_3 => absurd c10_3 (by decide)) (fun _ => ?_)
  refine lv_iconst (v := 0) hx hb dX12_getEarned_13 (by decide) ?_
  refine lv_goto (tgt := 23) hx hb dX12_getEarned_14 (by decide) ?_
  exact kretI K hP hD hS [0] [(m0, .inr (16, mO r p0 p1 p9 p10 p18 p27 p28 p30 p44 p45 0 0 0 0 0 0 0 0 0 0 0 1))] rfl rfl (⟨rfl, rfl⟩) (by decide) (by decide) dX12_getEarned_23

