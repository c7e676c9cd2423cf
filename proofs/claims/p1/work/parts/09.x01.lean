set_option maxHeartbeats 4000000 in
set_option maxRecDepth 100000 in
theorem m_L_getFuel (l : Launch) (hl0 : l.stackTraces = false) (g : kG) (h0 : Nat) (a1 : Nat) (a2 : Nat) (a3 : Nat) (a4 : Nat) (a5 : Nat) (tt : Int32) (wf : Int32) (ww : Int32) (te : Int32) (tn : Int32) (mo : Int32) (x0 : Int32) (o3 : Nat) (fo : Nat → Int64)  : kcH l g yL_getFuel method_19_code 4 (some .int) [(0, 9, 12, 21)] 9 145 1 6 [.ref h0, .int x0, .ref o3] [(h0, .inr (15, [.ref a1, .ref a2, .ref a3, .ref a4, .ref a5, .int tt, .int wf, .int ww, .int te, .int tn, .int mo])), (a3, .inr (3, [.int 0, .ref g.2.1, .int 0])), (o3, .inl ((g.2.2.1 1), 1, .inr (.inl fo)))] (fun v w => (v = some (.int 1) ∧ w = [(o3, .inl ((g.2.2.1 1), 1, .inr (.inl fo)))])) (fun _ _ => False) := by
  refine kbodyH (by decide) (Nat.le_of_ble_eq_true rfl) ?_
  intro p e s m args below meth c A H K ht G hP hD hA hS ls hl
  have K : KB p s m meth c RL "getFuel" method_19_code 4 (some .int) := K
  obtain ⟨hx, hb, hml, hown, hlocks, hr, hin⟩ := id K
  have hl : lv_has ls 4 [(0, .ref h0), (1, .int x0), (2, .ref o3)] := hl
  refine lv_aload_n hx hb dL_getFuel_0 rfl (lv_at hl 2 rfl) ?_
  refine lv_iconst (v := 0) hx hb dL_getFuel_1 (by decide) ?_
  refine lv_aload_n hx hb dL_getFuel_2 rfl (lv_at hl 0 rfl) ?_
  refine lv_iload_n hx hb dL_getFuel_3 rfl (lv_at hl 1 rfl) ?_
  refine kcallV (wc := [(h0, .inr (15, [.ref a1, .ref a2, .ref a3, .ref a4, .ref a5, .int tt, .int wf, .int ww, .int te, .int tn, .int mo])), (a3, .inr (3, [.int 0, .ref g.2.1, .int 0]))]) (wr := [(o3, .inl ((g.2.2.1 1), 1, .inr (.inl fo)))]) (As := [.int x0]) (rest := [.int 0, .ref o3]) K G (m_X11_getFuel l hl0 g h0 a1 a2 a3 a4 a5 tt wf ww te tn mo x0 ) hP hD hS hA hl kw_488 kw_489 kw_490 kw_491 kw_4 ydX11_getFuel [0, 1] [2] rfl rfl rfl rfl (by decide) (ci := 15) (q0 := 0) rfl rfl rfl rfl rfl (Nat.le_of_ble_eq_true rfl) dL_getFuel_4 ⟨Nat.le_of_ble_eq_true rfl, Nat.le_of_ble_eq_true rfl⟩ ⟨Nat.le_of_ble_eq_true rfl, Nat.le_of_ble_eq_true rfl⟩ (fun E w1 ce q9 H locs hX hP hD hS hce hcv hcl => ?_) (fun _ _ _ _ hQ _ _ _ => hQ.elim)
  obtain ⟨rfl, rfl⟩ := hX
  have hP : va_P g.1 vwCl [(o3, .inl ((g.2.2.1 1), 1, .inr (.inl fo)))] H := hP
  have hD : va_D A [(o3, .inl ((g.2.2.1 1), 1, .inr (.inl fo)))] := hD
  refine vx_widen (k := 1) (n := 6) (by decide) (by decide) ?_
  refine vx_catch (name := "java/lang/IndexOutOfBoundsException") hown [] { startPc := 0, endPc := 9, handlerPc := 12, catchType := 21 } [] (ht.trans rfl) (fun z hz => absurd hz List.not_mem_nil) rfl (by decide) (G.w kw_430) (G.w kw_431) hce hcv hcl ?_
  refine W.eq (g2 := F0 m 12 ls [.ref q9]) rfl ?_
  refine lv_astore_n (lv' := [(3, .ref q9), (0, .ref h0), (1, .int x0), (2, .ref o3)]) hx hb dL_getFuel_12 rfl hl (by decide) rfl (fun ls hl => ?_)
  refine lv_iconst (v := 1) hx hb dL_getFuel_13 (by decide) ?_
  exact kretI K hP hD hS [0] [(o3, .inl ((g.2.2.1 1), 1, .inr (.inl fo)))] rfl rfl (⟨rfl, rfl⟩) (by decide) (by decide) dL_getFuel_14

set_option maxHeartbeats 4000000 in
set_option maxRecDepth 100000 in
theorem m_L_getFood (l : Launch) (hl0 : l.stackTraces = false) (g : kG) (h0 : Nat) (a1 : Nat) (a2 : Nat) (a3 : Nat) (a4 : Nat) (a5 : Nat) (tt : Int32) (wf : Int32) (ww : Int32) (te : Int32) (tn : Int32) (mo : Int32) (x0 : Int32) (o3 : Nat) (fo : Nat → Int64)  : kcH l g yL_getFood method_20_code 4 (some .int) [(0, 9, 12, 21)] 9 145 1 6 [.ref h0, .int x0, .ref o3] [(h0, .inr (15, [.ref a1, .ref a2, .ref a3, .ref a4, .ref a5, .int tt, .int wf, .int ww, .int te, .int tn, .int mo])), (a3, .inr (3, [.int 0, .ref g.2.1, .int 0])), (o3, .inl ((g.2.2.1 1), 1, .inr (.inl fo)))] (fun v w => (v = some (.int 1) ∧ w = [(o3, .inl ((g.2.2.1 1), 1, .inr (.inl fo)))])) (fun _ _ => False) := by
  refine kbodyH (by decide) (Nat.le_of_ble_eq_true rfl) ?_
  intro p e s m args below meth c A H K ht G hP hD hA hS ls hl
  have K : KB p s m meth c RL "getFood" method_20_code 4 (some .int) := K
  obtain ⟨hx, hb, hml, hown, hlocks, hr, hin⟩ := id K
  have hl : lv_has ls 4 [(0, .ref h0), (1, .int x0), (2, .ref o3)] := hl
  refine lv_aload_n hx hb dL_getFood_0 rfl (lv_at hl 2 rfl) ?_
  refine lv_iconst (v := 0) hx hb dL_getFood_1 (by decide) ?_
  refine lv_aload_n hx hb dL_getFood_2 rfl (lv_at hl 0 rfl) ?_
  refine lv_iload_n hx hb dL_getFood_3 rfl (lv_at hl 1 rfl) ?_
  refine kcallV (wc := [(h0, .inr (15, [.ref a1, .ref a2, .ref a3, .ref a4, .ref a5, .int tt, .int wf, .int ww, .int te, .int tn, .int mo])), (a3, .inr (3, [.int 0, .ref g.2.1, .int 0]))]) (wr := [(o3, .inl ((g.2.2.1 1), 1, .inr (.inl fo)))]) (As := [.int x0]) (rest := [.int 0, .ref o3]) K G (m_X11_getFood l hl0 g h0 a1 a2 a3 a4 a5 tt wf ww te tn mo x0 ) hP hD hS hA hl kw_492 kw_493 kw_494 kw_495 kw_4 ydX11_getFood [0, 1] [2] rfl rfl rfl rfl (by decide) (ci := 15) (q0 := 0) rfl rfl rfl rfl rfl (Nat.le_of_ble_eq_true rfl) dL_getFood_4 ⟨Nat.le_of_ble_eq_true rfl, Nat.le_of_ble_eq_true rfl⟩ ⟨Nat.le_of_ble_eq_true rfl, Nat.le_of_ble_eq_true rfl⟩ (fun E w1 ce q9 H locs hX hP hD hS hce hcv hcl => ?_) (fun _ _ _ _ hQ _ _ _ => hQ.elim)
  obtain ⟨rfl, rfl⟩ := hX
  have hP : va_P g.1 vwCl [(o3, .inl ((g.2.2.1 1), 1, .inr (.inl fo)))] H := hP
  have hD : va_D A [(o3, .inl ((g.2.2.1 1), 1, .inr (.inl fo)))] := hD
  refine vx_widen (k := 1) (n := 6) (by decide) (by decide) ?_
  refine vx_catch (name := "java/lang/IndexOutOfBoundsException") hown [] { startPc := 0, endPc := 9, handlerPc := 12, catchType := 21 } [] (ht.trans rfl) (fun z hz => absurd hz List.not_mem_nil) rfl (by decide) (G.w kw_430) (G.w kw_431) hce hcv hcl ?_
  refine W.eq (g2 := F0 m 12 ls [.ref q9]) rfl ?_
  refine lv_astore_n (lv' := [(3, .ref q9), (0, .ref h0), (1, .int x0), (2, .ref o3)]) hx hb dL_getFood_12 rfl hl (by decide) rfl (fun ls hl => ?_)
  refine lv_iconst (v := 1) hx hb dL_getFood_13 (by decide) ?_
  exact kretI K hP hD hS [0] [(o3, .inl ((g.2.2.1 1), 1, .inr (.inl fo)))] rfl rfl (⟨rfl, rfl⟩) (by decide) (by decide) dL_getFood_14

set_option maxHeartbeats 4000000 in
set_option maxRecDepth 100000 in
theorem m_L_getSalt (l : Launch) (hl0 : l.stackTraces = false) (g : kG) (h0 : Nat) (a1 : Nat) (a2 : Nat) (a3 : Nat) (a4 : Nat) (a5 : Nat) (tt : Int32) (wf : Int32) (ww : Int32) (te : Int32) (tn : Int32) (mo : Int32) (x0 : Int32) (o3 : Nat) (fo : Nat → Int64)  : kcH l g yL_getSalt method_21_code 4 (some .int) [(0, 9, 12, 21)] 9 145 1 6 [.ref h0, .int x0, .ref o3] [(h0, .inr (15, [.ref a1, .ref a2, .ref a3, .ref a4, .ref a5, .int tt, .int wf, .int ww, .int te, .int tn, .int mo])), (a3, .inr (3, [.int 0, .ref g.2.1, .int 0])), (o3, .inl ((g.2.2.1 1), 1, .inr (.inl fo)))] (fun v w => (v = some (.int 1) ∧ w = [(o3, .inl ((g.2.2.1 1), 1, .inr (.inl fo)))])) (fun _ _ => False) := by
  refine kbodyH (by decide) (Nat.le_of_ble_eq_true rfl) ?_
  intro p e s m args below meth c A H K ht G hP hD hA hS ls hl
  have K : KB p s m meth c RL "getSalt" method_21_code 4 (some .int) := K
  obtain ⟨hx, hb, hml, hown, hlocks, hr, hin⟩ := id K
  have hl : lv_has ls 4 [(0, .ref h0), (1, .int x0), (2, .ref o3)] := hl
  refine lv_aload_n hx hb dL_getSalt_0 rfl (lv_at hl 2 rfl) ?_
  refine lv_iconst (v := 0) hx hb dL_getSalt_1 (by decide) ?_
  refine lv_aload_n hx hb dL_getSalt_2 rfl (lv_at hl 0 rfl) ?_
  refine lv_iload_n hx hb dL_getSalt_3 rfl (lv_at hl 1 rfl) ?_
  refine kcallV (wc := [(h0, .inr (15, [.ref a1, .ref a2, .ref a3, .ref a4, .ref a5, .int tt, .int wf, .int ww, .int te, .int tn, .int mo])), (a3, .inr (3, [.int 0, .ref g.2.1, .int 0]))]) (wr := [(o3, .inl ((g.2.2.1 1), 1, .inr (.inl fo)))]) (As := [.int x0]) (rest := [.int 0, .ref o3]) K G (m_X11_getSalt l hl0 g h0 a1 a2 a3 a4 a5 tt wf ww te tn mo x0 ) hP hD hS hA hl kw_496 kw_497 kw_498 kw_499 kw_4 ydX11_getSalt [0, 1] [2] rfl rfl rfl rfl (by decide) (ci := 15) (q0 := 0) rfl rfl rfl rfl rfl (Nat.le_of_ble_eq_true rfl) dL_getSalt_4 ⟨Nat.le_of_ble_eq_true rfl, Nat.le_of_ble_eq_true rfl⟩ ⟨Nat.le_of_ble_eq_true rfl, Nat.le_of_ble_eq_true rfl⟩ (fun E w1 ce q9 H locs hX hP hD hS hce hcv hcl => ?_) (fun _ _ _ _ hQ _ _ _ => hQ.elim)
  obtain ⟨rfl, rfl⟩ := hX
  have hP : va_P g.1 vwCl [(o3, .inl ((g.2.2.1 1), 1, .inr (.inl fo)))] H := hP
  have hD : va_D A [(o3, .inl ((g.2.2.1 1), 1, .inr (.inl fo)))] := hD
  refine vx_widen (k := 1) (n := 6) (by decide) (by decide) ?_
  refine vx_catch (name := "java/lang/IndexOutOfBoundsException") hown [] { startPc := 0, endPc := 9, handlerPc := 12, catchType := 21 } [] (ht.trans rfl) (fun z hz => absurd hz List.not_mem_nil) rfl (by decide) (G.w kw_430) (G.w kw_431) hce hcv hcl ?_
  refine W.eq (g2 := F0 m 12 ls [.ref q9]) rfl ?_
  refine lv_astore_n (lv' := [(3, .ref q9), (0, .ref h0), (1, .int x0), (2, .ref o3)]) hx hb dL_getSalt_12 rfl hl (by decide) rfl (fun ls hl => ?_)
  refine lv_iconst (v := 1) hx hb dL_getSalt_13 (by decide) ?_
  exact kretI K hP hD hS [0] [(o3, .inl ((g.2.2.1 1), 1, .inr (.inl fo)))] rfl rfl (⟨rfl, rfl⟩) (by decide) (by decide) dL_getSalt_14

set_option maxHeartbeats 4000000 in
set_option maxRecDepth 100000 in
theorem m_L_wash (l : Launch) (hl0 : l.stackTraces = false) (g : kG) (h0 : Nat) (a1 : Nat) (a2 : Nat) (a3 : Nat) (a4 : Nat) (a5 : Nat) (tt : Int32) (wf : Int32) (ww : Int32) (te : Int32) (tn : Int32) (mo : Int32) (x0 : Int32) (o3 : Nat) (fo : Nat → Int64)  : kcH l g yL_wash method_22_code 4 (some .int) [(0, 9, 12, 21), (0, 9, 15, 54)] 9 147 1 6 [.ref h0, .int x0, .ref o3] [(h0, .inr (15, [.ref a1, .ref a2, .ref a3, .ref a4, .ref a5, .int tt, .int wf, .int ww, .int te, .int tn, .int mo])), (a3, .inr (3, [.int 0, .ref g.2.1, .int 0])), (o3, .inl ((g.2.2.1 1), 1, .inr (.inl fo)))] (fun v w => (v = some (.int 1) ∧ w = [(o3, .inl ((g.2.2.1 1), 1, .inr (.inl fo)))])) (fun _ _ => False) := by
  refine kbodyH (by decide) (Nat.le_of_ble_eq_true rfl) ?_
  intro p e s m args below meth c A H K ht G hP hD hA hS ls hl
  have K : KB p s m meth c RL "wash" method_22_code 4 (some .int) := K
  obtain ⟨hx, hb, hml, hown, hlocks, hr, hin⟩ := id K
  have hl : lv_has ls 4 [(0, .ref h0), (1, .int x0), (2, .ref o3)] := hl
  refine lv_aload_n hx hb dL_wash_0 rfl (lv_at hl 2 rfl) ?_
  refine lv_iconst (v := 0) hx hb dL_wash_1 (by decide) ?_
  refine lv_aload_n hx hb dL_wash_2 rfl (lv_at hl 0 rfl) ?_
  refine lv_iload_n hx hb dL_wash_3 rfl (lv_at hl 1 rfl) ?_
  refine kcallV (wc := [(h0, .inr (15, [.ref a1, .ref a2, .ref a3, .ref a4, .ref a5, .int tt, .int wf, .int ww, .int te, .int tn, .int mo])), (a3, .inr (3, [.int 0, .ref g.2.1, .int 0]))]) (wr := [(o3, .inl ((g.2.2.1 1), 1, .inr (.inl fo)))]) (As := [.int x0]) (rest := [.int 0, .ref o3]) K G (m_X11_wash l hl0 g h0 a1 a2 a3 a4 a5 tt wf ww te tn mo x0 ) hP hD hS hA hl kw_500 kw_501 kw_502 kw_503 kw_4 ydX11_wash [0, 1] [2] rfl rfl rfl rfl (by decide) (ci := 15) (q0 := 0) rfl rfl rfl rfl rfl (Nat.le_of_ble_eq_true rfl) dL_wash_4 ⟨Nat.le_of_ble_eq_true rfl, Nat.le_of_ble_eq_true rfl⟩ ⟨Nat.le_of_ble_eq_true rfl, Nat.le_of_ble_eq_true rfl⟩ (fun E w1 ce q9 H locs hX hP hD hS hce hcv hcl => ?_) (fun _ _ _ _ hQ _ _ _ => hQ.elim)
  obtain ⟨rfl, rfl⟩ := hX
  have hP : va_P g.1 vwCl [(o3, .inl ((g.2.2.1 1), 1, .inr (.inl fo)))] H := hP
  have hD : va_D A [(o3, .inl ((g.2.2.1 1), 1, .inr (.inl fo)))] := hD
  refine vx_widen (k := 1) (n := 6) (by decide) (by decide) ?_
  refine vx_catch (name := "java/lang/IndexOutOfBoundsException") hown [] { startPc := 0, endPc := 9, handlerPc := 12, catchType := 21 } [{ startPc := 0, endPc := 9, handlerPc := 15, catchType := 54 }] (ht.trans rfl) (fun z hz => absurd hz List.not_mem_nil) rfl (by decide) (G.w kw_430) (G.w kw_431) hce hcv hcl ?_
  refine W.eq (g2 := F0 m 12 ls [.ref q9]) rfl ?_
  refine lv_astore_n (lv' := [(3, .ref q9), (0, .ref h0), (1, .int x0), (2, .ref o3)]) hx hb dL_wash_12 rfl hl (by decide) rfl (fun ls hl => ?_)
  refine lv_iconst (v := 1) hx hb dL_wash_13 (by decide) ?_
  exact kretI K hP hD hS [0] [(o3, .inl ((g.2.2.1 1), 1, .inr (.inl fo)))] rfl rfl (⟨rfl, rfl⟩) (by decide) (by decide) dL_wash_14

set_option maxHeartbeats 4000000 in
set_option maxRecDepth 100000 in
theorem m_L_setPower (l : Launch) (hl0 : l.stackTraces = false) (g : kG) (h0 : Nat) (a1 : Nat) (a2 : Nat) (a3 : Nat) (a4 : Nat) (a5 : Nat) (tt : Int32) (wf : Int32) (ww : Int32) (te : Int32) (tn : Int32) (mo : Int32) (x0 : Int32) (x1 : Int32) (o3 : Nat) (fo : Nat → Int64)  : kcH l g yL_setPower method_23_code 5 (some .int) [(0, 10, 13, 21), (0, 10, 17, 13)] 9 148 1 6 [.ref h0, .int x0, .int x1, .ref o3] [(h0, .inr (15, [.ref a1, .ref a2, .ref a3, .ref a4, .ref a5, .int tt, .int wf, .int ww, .int te, .int tn, .int mo])), (a3, .inr (3, [.int 0, .ref g.2.1, .int 0])), (o3, .inl ((g.2.2.1 1), 1, .inr (.inl fo)))] (fun v w => (v = some (.int 1) ∧ w = [(o3, .inl ((g.2.2.1 1), 1, .inr (.inl fo)))])) (fun _ _ => False) := by
  refine kbodyH (by decide) (Nat.le_of_ble_eq_true rfl) ?_
  intro p e s m args below meth c A H K ht G hP hD hA hS ls hl
  have K : KB p s m meth c RL "setPower" method_23_code 5 (some .int) := K
  obtain ⟨hx, hb, hml, hown, hlocks, hr, hin⟩ := id K
  have hl : lv_has ls 5 [(0, .ref h0), (1, .int x0), (2, .int x1), (3, .ref o3)] := hl
  refine lv_aload_n hx hb dL_setPower_0 rfl (lv_at hl 3 rfl) ?_
  refine lv_iconst (v := 0) hx hb dL_setPower_1 (by decide) ?_
  refine lv_aload_n hx hb dL_setPower_2 rfl (lv_at hl 0 rfl) ?_
  refine lv_iload_n hx hb dL_setPower_3 rfl (lv_at hl 1 rfl) ?_
  refine lv_iload_n hx hb dL_setPower_4 rfl (lv_at hl 2 rfl) ?_
  refine kcallV (wc := [(h0, .inr (15, [.ref a1, .ref a2, .ref a3, .ref a4, .ref a5, .int tt, .int wf, .int ww, .int te, .int tn, .int mo])), (a3, .inr (3, [.int 0, .ref g.2.1, .int 0]))]) (wr := [(o3, .inl ((g.2.2.1 1), 1, .inr (.inl fo)))]) (As := [.int x0, .int x1]) (rest := [.int 0, .ref o3]) K G (m_X11_setPower l hl0 g h0 a1 a2 a3 a4 a5 tt wf ww te tn mo x0 x1 ) hP hD hS hA hl kw_504 kw_505 kw_506 kw_507 kw_4 ydX11_setPower [0, 1] [2] rfl rfl rfl rfl (by decide) (ci := 15) (q0 := 0) rfl rfl rfl rfl rfl (Nat.le_of_ble_eq_true rfl) dL_setPower_5 ⟨Nat.le_of_ble_eq_true rfl, Nat.le_of_ble_eq_true rfl⟩ ⟨Nat.le_of_ble_eq_true rfl, Nat.le_of_ble_eq_true rfl⟩ (fun E w1 ce q9 H locs hX hP hD hS hce hcv hcl => ?_) (fun _ _ _ _ hQ _ _ _ => hQ.elim)
  obtain ⟨rfl, rfl⟩ := hX
  have hP : va_P g.1 vwCl [(o3, .inl ((g.2.2.1 1), 1, .inr (.inl fo)))] H := hP
  have hD : va_D A [(o3, .inl ((g.2.2.1 1), 1, .inr (.inl fo)))] := hD
  refine vx_widen (k := 1) (n := 6) (by decide) (by decide) ?_
  refine vx_catch (name := "java/lang/IndexOutOfBoundsException") hown [] { startPc := 0, endPc := 10, handlerPc := 13, catchType := 21 } [{ startPc := 0, endPc := 10, handlerPc := 17, catchType := 13 }] (ht.trans rfl) (fun z hz => absurd hz List.not_mem_nil) rfl (by decide) (G.w kw_430) (G.w kw_431) hce hcv hcl ?_
  refine W.eq (g2 := F0 m 13 ls [.ref q9]) rfl ?_
  refine lv_astore (lv' := [(4, .ref q9), (0, .ref h0), (1, .int x0), (2, .int x1), (3, .ref o3)]) hx hb dL_setPower_13 hl (by decide) rfl (fun ls hl => ?_)
  refine lv_iconst (v := 1) hx hb dL_setPower_15 (by decide) ?_
  exact kretI K hP hD hS [0] [(o3, .inl ((g.2.2.1 1), 1, .inr (.inl fo)))] rfl rfl (⟨rfl, rfl⟩) (by decide) (by decide) dL_setPower_16

set_option maxHeartbeats 4000000 in
set_option maxRecDepth 100000 in
theorem m_L_getChannel (l : Launch) (hl0 : l.stackTraces = false) (g : kG) (h0 : Nat) (a1 : Nat) (a2 : Nat) (a3 : Nat) (a4 : Nat) (a5 : Nat) (tt : Int32) (wf : Int32) (ww : Int32) (te : Int32) (tn : Int32) (mo : Int32) (x0 : Int32) (o3 : Nat) (fo : Nat → Int64)  : kcH l g yL_getChannel method_24_code 4 (some .int) [(0, 9, 12, 21)] 9 145 1 6 [.ref h0, .int x0, .ref o3] [(h0, .inr (15, [.ref a1, .ref a2, .ref a3, .ref a4, .ref a5, .int tt, .int wf, .int ww, .int te, .int tn, .int mo])), (a3, .inr (3, [.int 0, .ref g.2.1, .int 0])), (o3, .inl ((g.2.2.1 1), 1, .inr (.inl fo)))] (fun v w => (v = some (.int 1) ∧ w = [(o3, .inl ((g.2.2.1 1), 1, .inr (.inl fo)))])) (fun _ _ => False) := by
  refine kbodyH (by decide) (Nat.le_of_ble_eq_true rfl) ?_
  intro p e s m args below meth c A H K ht G hP hD hA hS ls hl
  have K : KB p s m meth c RL "getChannel" method_24_code 4 (some .int) := K
  obtain ⟨hx, hb, hml, hown, hlocks, hr, hin⟩ := id K
  have hl : lv_has ls 4 [(0, .ref h0), (1, .int x0), (2, .ref o3)] := hl
  refine lv_aload_n hx hb dL_getChannel_0 rfl (lv_at hl 2 rfl) ?_
  refine lv_iconst (v := 0) hx hb dL_getChannel_1 (by decide) ?_
  refine lv_aload_n hx hb dL_getChannel_2 rfl (lv_at hl 0 rfl) ?_
  refine lv_iload_n hx hb dL_getChannel_3 rfl (lv_at hl 1 rfl) ?_
  refine kcallV (wc := [(h0, .inr (15, [.ref a1, .ref a2, .ref a3, .ref a4, .ref a5, .int tt, .int wf, .int ww, .int te, .int tn, .int mo])), (a3, .inr (3, [.int 0, .ref g.2.1, .int 0]))]) (wr := [(o3, .inl ((g.2.2.1 1), 1, .inr (.inl fo)))]) (As := [.int x0]) (rest := [.int 0, .ref o3]) K G (m_X11_getChannel l hl0 g h0 a1 a2 a3 a4 a5 tt wf ww te tn mo x0 ) hP hD hS hA hl kw_508 kw_509 kw_510 kw_511 kw_4 ydX11_getChannel [0, 1] [2] rfl rfl rfl rfl (by decide) (ci := 15) (q0 := 0) rfl rfl rfl rfl rfl (Nat.le_of_ble_eq_true rfl) dL_getChannel_4 ⟨Nat.le_of_ble_eq_true rfl, Nat.le_of_ble_eq_true rfl⟩ ⟨Nat.le_of_ble_eq_true rfl, Nat.le_of_ble_eq_true rfl⟩ (fun E w1 ce q9 H locs hX hP hD hS hce hcv hcl => ?_) (fun _ _ _ _ hQ _ _ _ => hQ.elim)
  obtain ⟨rfl, rfl⟩ := hX
  have hP : va_P g.1 vwCl [(o3, .inl ((g.2.2.1 1), 1, .inr (.inl fo)))] H := hP
  have hD : va_D A [(o3, .inl ((g.2.2.1 1), 1, .inr (.inl fo)))] := hD
  refine vx_widen (k := 1) (n := 6) (by decide) (by decide) ?_
  refine vx_catch (name := "java/lang/IndexOutOfBoundsException") hown [] { startPc := 0, endPc := 9, handlerPc := 12, catchType := 21 } [] (ht.trans rfl) (fun z hz => absurd hz List.not_mem_nil) rfl (by decide) (G.w kw_430) (G.w kw_431) hce hcv hcl ?_
  refine W.eq (g2 := F0 m 12 ls [.ref q9]) rfl ?_
  refine lv_astore_n (lv' := [(3, .ref q9), (0, .ref h0), (1, .int x0), (2, .ref o3)]) hx hb dL_getChannel_12 rfl hl (by decide) rfl (fun ls hl => ?_)
  refine lv_iconst (v := 1) hx hb dL_getChannel_13 (by decide) ?_
  exact kretI K hP hD hS [0] [(o3, .inl ((g.2.2.1 1), 1, .inr (.inl fo)))] rfl rfl (⟨rfl, rfl⟩) (by decide) (by decide) dL_getChannel_14

set_option maxHeartbeats 4000000 in
set_option maxRecDepth 100000 in
theorem m_L_isOnAir (l : Launch) (hl0 : l.stackTraces = false) (g : kG) (h0 : Nat) (a1 : Nat) (a2 : Nat) (a3 : Nat) (a4 : Nat) (a5 : Nat) (tt : Int32) (wf : Int32) (ww : Int32) (te : Int32) (tn : Int32) (mo : Int32) (x0 : Int32) (o3 : Nat) (fo : Nat → Int64)  : kcH l g yL_isOnAir method_25_code 4 (some .int) [(0, 16, 19, 21)] 9 145 1 6 [.ref h0, .int x0, .ref o3] [(h0, .inr (15, [.ref a1, .ref a2, .ref a3, .ref a4, .ref a5, .int tt, .int wf, .int ww, .int te, .int tn, .int mo])), (a3, .inr (3, [.int 0, .ref g.2.1, .int 0])), (o3, .inl ((g.2.2.1 1), 1, .inr (.inl fo)))] (fun v w => (v = some (.int 1) ∧ w = [(o3, .inl ((g.2.2.1 1), 1, .inr (.inl fo)))])) (fun _ _ => False) := by
  refine kbodyH (by decide) (Nat.le_of_ble_eq_true rfl) ?_
  intro p e s m args below meth c A H K ht G hP hD hA hS ls hl
  have K : KB p s m meth c RL "isOnAir" method_25_code 4 (some .int) := K
  obtain ⟨hx, hb, hml, hown, hlocks, hr, hin⟩ := id K
  have hl : lv_has ls 4 [(0, .ref h0), (1, .int x0), (2, .ref o3)] := hl
  refine lv_aload_n hx hb dL_isOnAir_0 rfl (lv_at hl 2 rfl) ?_
  refine lv_iconst (v := 0) hx hb dL_isOnAir_1 (by decide) ?_
  refine lv_aload_n hx hb dL_isOnAir_2 rfl (lv_at hl 0 rfl) ?_
  refine lv_iload_n hx hb dL_isOnAir_3 rfl (lv_at hl 1 rfl) ?_
  refine kcallV (wc := [(h0, .inr (15, [.ref a1, .ref a2, .ref a3, .ref a4, .ref a5, .int tt, .int wf, .int ww, .int te, .int tn, .int mo])), (a3, .inr (3, [.int 0, .ref g.2.1, .int 0]))]) (wr := [(o3, .inl ((g.2.2.1 1), 1, .inr (.inl fo)))]) (As := [.int x0]) (rest := [.int 0, .ref o3]) K G (m_X11_isOnAir l hl0 g h0 a1 a2 a3 a4 a5 tt wf ww te tn mo x0 ) hP hD hS hA hl kw_512 kw_513 kw_514 kw_515 kw_4 ydX11_isOnAir [0, 1] [2] rfl rfl rfl rfl (by decide) (ci := 15) (q0 := 0) rfl rfl rfl rfl rfl (Nat.le_of_ble_eq_true rfl) dL_isOnAir_4 ⟨Nat.le_of_ble_eq_true rfl, Nat.le_of_ble_eq_true rfl⟩ ⟨Nat.le_of_ble_eq_true rfl, Nat.le_of_ble_eq_true rfl⟩ (fun E w1 ce q9 H locs hX hP hD hS hce hcv hcl => ?_) (fun _ _ _ _ hQ _ _ _ => hQ.elim)
  obtain ⟨rfl, rfl⟩ := hX
  have hP : va_P g.1 vwCl [(o3, .inl ((g.2.2.1 1), 1, .inr (.inl fo)))] H := hP
  have hD : va_D A [(o3, .inl ((g.2.2.1 1), 1, .inr (.inl fo)))] := hD
  refine vx_widen (k := 1) (n := 6) (by decide) (by decide) ?_
  refine vx_catch (name := "java/lang/IndexOutOfBoundsException") hown [] { startPc := 0, endPc := 16, handlerPc := 19, catchType := 21 } [] (ht.trans rfl) (fun z hz => absurd hz List.not_mem_nil) rfl (by decide) (G.w kw_430) (G.w kw_431) hce hcv hcl ?_
  refine W.eq (g2 := F0 m 19 ls [.ref q9]) rfl ?_
  refine lv_astore_n (lv' := [(3, .ref q9), (0, .ref h0), (1, .int x0), (2, .ref o3)]) hx hb dL_isOnAir_19 rfl hl (by decide) rfl (fun ls hl => ?_)
  refine lv_iconst (v := 1) hx hb dL_isOnAir_20 (by decide) ?_
  exact kretI K hP hD hS [0] [(o3, .inl ((g.2.2.1 1), 1, .inr (.inl fo)))] rfl rfl (⟨rfl, rfl⟩) (by decide) (by decide) dL_isOnAir_21

set_option maxHeartbeats 4000000 in
set_option maxRecDepth 100000 in
theorem m_L_getSignal (l : Launch) (hl0 : l.stackTraces = false) (g : kG) (h0 : Nat) (a1 : Nat) (a2 : Nat) (a3 : Nat) (a4 : Nat) (a5 : Nat) (tt : Int32) (wf : Int32) (ww : Int32) (te : Int32) (tn : Int32) (mo : Int32) (x0 : Int32) (x1 : Int32) (o3 : Nat) (fo : Nat → Int64)  : kcH l g yL_getSignal method_26_code 5 (some .int) [(0, 10, 13, 21)] 9 147 1 6 [.ref h0, .int x0, .int x1, .ref o3] [(h0, .inr (15, [.ref a1, .ref a2, .ref a3, .ref a4, .ref a5, .int tt, .int wf, .int ww, .int te, .int tn, .int mo])), (a3, .inr (3, [.int 0, .ref g.2.1, .int 0])), (o3, .inl ((g.2.2.1 1), 1, .inr (.inl fo)))] (fun v w => (v = some (.int 1) ∧ w = [(o3, .inl ((g.2.2.1 1), 1, .inr (.inl fo)))])) (fun _ _ => False) := by
  refine kbodyH (by decide) (Nat.le_of_ble_eq_true rfl) ?_
  intro p e s m args below meth c A H K ht G hP hD hA hS ls hl
  have K : KB p s m meth c RL "getSignal" method_26_code 5 (some .int) := K
  obtain ⟨hx, hb, hml, hown, hlocks, hr, hin⟩ := id K
  have hl : lv_has ls 5 [(0, .ref h0), (1, .int x0), (2, .int x1), (3, .ref o3)] := hl
  refine lv_aload_n hx hb dL_getSignal_0 rfl (lv_at hl 3 rfl) ?_
  refine lv_iconst (v := 0) hx hb dL_getSignal_1 (by decide) ?_
  refine lv_aload_n hx hb dL_getSignal_2 rfl (lv_at hl 0 rfl) ?_
  refine lv_iload_n hx hb dL_getSignal_3 rfl (lv_at hl 1 rfl) ?_
  refine lv_iload_n hx hb dL_getSignal_4 rfl (lv_at hl 2 rfl) ?_
  refine kcallV (wc := [(h0, .inr (15, [.ref a1, .ref a2, .ref a3, .ref a4, .ref a5, .int tt, .int wf, .int ww, .int te, .int tn, .int mo])), (a3, .inr (3, [.int 0, .ref g.2.1, .int 0]))]) (wr := [(o3, .inl ((g.2.2.1 1), 1, .inr (.inl fo)))]) (As := [.int x0, .int x1]) (rest := [.int 0, .ref o3]) K G (m_X11_getSignal l hl0 g h0 a1 a2 a3 a4 a5 tt wf ww te tn mo x0 x1 ) hP hD hS hA hl kw_516 kw_517 kw_518 kw_519 kw_4 ydX11_getSignal [0, 1] [2] rfl rfl rfl rfl (by decide) (ci := 15) (q0 := 0) rfl rfl rfl rfl rfl (Nat.le_of_ble_eq_true rfl) dL_getSignal_5 ⟨Nat.le_of_ble_eq_true rfl, Nat.le_of_ble_eq_true rfl⟩ ⟨Nat.le_of_ble_eq_true rfl, Nat.le_of_ble_eq_true rfl⟩ (fun E w1 ce q9 H locs hX hP hD hS hce hcv hcl => ?_) (fun _ _ _ _ hQ _ _ _ => hQ.elim)
  obtain ⟨rfl, rfl⟩ := hX
  have hP : va_P g.1 vwCl [(o3, .inl ((g.2.2.1 1), 1, .inr (.inl fo)))] H := hP
  have hD : va_D A [(o3, .inl ((g.2.2.1 1), 1, .inr (.inl fo)))] := hD
  refine vx_widen (k := 1) (n := 6) (by decide) (by decide) ?_
  refine vx_catch (name := "java/lang/IndexOutOfBoundsException") hown [] { startPc := 0, endPc := 10, handlerPc := 13, catchType := 21 } [] (ht.trans rfl) (fun z hz => absurd hz List.not_mem_nil) rfl (by decide) (G.w kw_430) (G.w kw_431) hce hcv hcl ?_
  refine W.eq (g2 := F0 m 13 ls [.ref q9]) rfl ?_
  refine lv_astore (lv' := [(4, .ref q9), (0, .ref h0), (1, .int x0), (2, .int x1), (3, .ref o3)]) hx hb dL_getSignal_13 hl (by decide) rfl (fun ls hl => ?_)
  refine lv_iconst (v := 1) hx hb dL_getSignal_15 (by decide) ?_
  exact kretI K hP hD hS [0] [(o3, .inl ((g.2.2.1 1), 1, .inr (.inl fo)))] rfl rfl (⟨rfl, rfl⟩) (by decide) (by decide) dL_getSignal_16

set_option maxHeartbeats 4000000 in
set_option maxRecDepth 100000 in
theorem m_L_getHeard (l : Launch) (hl0 : l.stackTraces = false) (g : kG) (h0 : Nat) (a1 : Nat) (a2 : Nat) (a3 : Nat) (a4 : Nat) (a5 : Nat) (tt : Int32) (wf : Int32) (ww : Int32) (te : Int32) (tn : Int32) (mo : Int32) (x0 : Int32) (o3 : Nat) (fo : Nat → Int64)  : kcH l g yL_getHeard method_27_code 4 (some .int) [(0, 9, 12, 21)] 9 145 1 6 [.ref h0, .int x0, .ref o3] [(h0, .inr (15, [.ref a1, .ref a2, .ref a3, .ref a4, .ref a5, .int tt, .int wf, .int ww, .int te, .int tn, .int mo])), (a2, .inr (3, [.int 0, .ref g.2.1, .int 0])), (o3, .inl ((g.2.2.1 1), 1, .inr (.inl fo)))] (fun v w => (v = some (.int 1) ∧ w = [(o3, .inl ((g.2.2.1 1), 1, .inr (.inl fo)))])) (fun _ _ => False) := by
  refine kbodyH (by decide) (Nat.le_of_ble_eq_true rfl) ?_
  intro p e s m args below meth c A H K ht G hP hD hA hS ls hl
  have K : KB p s m meth c RL "getHeard" method_27_code 4 (some .int) := K
  obtain ⟨hx, hb, hml, hown, hlocks, hr, hin⟩ := id K
  have hl : lv_has ls 4 [(0, .ref h0), (1, .int x0), (2, .ref o3)] := hl
  refine lv_aload_n hx hb dL_getHeard_0 rfl (lv_at hl 2 rfl) ?_
  refine lv_iconst (v := 0) hx hb dL_getHeard_1 (by decide) ?_
  refine lv_aload_n hx hb dL_getHeard_2 rfl (lv_at hl 0 rfl) ?_
  refine lv_iload_n hx hb dL_getHeard_3 rfl (lv_at hl 1 rfl) ?_
  refine kcallV (wc := [(h0, .inr (15, [.ref a1, .ref a2, .ref a3, .ref a4, .ref a5, .int tt, .int wf, .int ww, .int te, .int tn, .int mo])), (a2, .inr (3, [.int 0, .ref g.2.1, .int 0]))]) (wr := [(o3, .inl ((g.2.2.1 1), 1, .inr (.inl fo)))]) (As := [.int x0]) (rest := [.int 0, .ref o3]) K G (m_X11_getHeard l hl0 g h0 a1 a2 a3 a4 a5 tt wf ww te tn mo x0 ) hP hD hS hA hl kw_520 kw_521 kw_522 kw_523 kw_4 ydX11_getHeard [0, 1] [2] rfl rfl rfl rfl (by decide) (ci := 15) (q0 := 0) rfl rfl rfl rfl rfl (Nat.le_of_ble_eq_true rfl) dL_getHeard_4 ⟨Nat.le_of_ble_eq_true rfl, Nat.le_of_ble_eq_true rfl⟩ ⟨Nat.le_of_ble_eq_true rfl, Nat.le_of_ble_eq_true rfl⟩ (fun E w1 ce q9 H locs hX hP hD hS hce hcv hcl => ?_) (fun _ _ _ _ hQ _ _ _ => hQ.elim)
  obtain ⟨rfl, rfl⟩ := hX
  have hP : va_P g.1 vwCl [(o3, .inl ((g.2.2.1 1), 1, .inr (.inl fo)))] H := hP
  have hD : va_D A [(o3, .inl ((g.2.2.1 1), 1, .inr (.inl fo)))] := hD
  refine vx_widen (k := 1) (n := 6) (by decide) (by decide) ?_
  refine vx_catch (name := "java/lang/IndexOutOfBoundsException") hown [] { startPc := 0, endPc := 9, handlerPc := 12, catchType := 21 } [] (ht.trans rfl) (fun z hz => absurd hz List.not_mem_nil) rfl (by decide) (G.w kw_430) (G.w kw_431) hce hcv hcl ?_
  refine W.eq (g2 := F0 m 12 ls [.ref q9]) rfl ?_
  refine lv_astore_n (lv' := [(3, .ref q9), (0, .ref h0), (1, .int x0), (2, .ref o3)]) hx hb dL_getHeard_12 rfl hl (by decide) rfl (fun ls hl => ?_)
  refine lv_iconst (v := 1) hx hb dL_getHeard_13 (by decide) ?_
  exact kretI K hP hD hS [0] [(o3, .inl ((g.2.2.1 1), 1, .inr (.inl fo)))] rfl rfl (⟨rfl, rfl⟩) (by decide) (by decide) dL_getHeard_14

set_option maxHeartbeats 4000000 in
set_option maxRecDepth 100000 in
theorem m_L_getListeners (l : Launch) (hl0 : l.stackTraces = false) (g : kG) (h0 : Nat) (a1 : Nat) (a2 : Nat) (a3 : Nat) (a4 : Nat) (a5 : Nat) (tt : Int32) (wf : Int32) (ww : Int32) (te : Int32) (tn : Int32) (mo : Int32) (x0 : Int32) (o3 : Nat) (fo : Nat → Int64)  : kcH l g yL_getListeners method_28_code 4 (some .int) [(0, 9, 12, 21)] 9 145 1 6 [.ref h0, .int x0, .ref o3] [(h0, .inr (15, [.ref a1, .ref a2, .ref a3, .ref a4, .ref a5, .int tt, .int wf, .int ww, .int te, .int tn, .int mo])), (a3, .inr (3, [.int 0, .ref g.2.1, .int 0])), (o3, .inl ((g.2.2.1 1), 1, .inr (.inl fo)))] (fun v w => (v = some (.int 1) ∧ w = [(o3, .inl ((g.2.2.1 1), 1, .inr (.inl fo)))])) (fun _ _ => False) := by
  refine kbodyH (by decide) (Nat.le_of_ble_eq_true rfl) ?_
  intro p e s m args below meth c A H K ht G hP hD hA hS ls hl
  have K : KB p s m meth c RL "getListeners" method_28_code 4 (some .int) := K
  obtain ⟨hx, hb, hml, hown, hlocks, hr, hin⟩ := id K
  have hl : lv_has ls 4 [(0, .ref h0), (1, .int x0), (2, .ref o3)] := hl
  refine lv_aload_n hx hb dL_getListeners_0 rfl (lv_at hl 2 rfl) ?_
  refine lv_iconst (v := 0) hx hb dL_getListeners_1 (by decide) ?_
  refine lv_aload_n hx hb dL_getListeners_2 rfl (lv_at hl 0 rfl) ?_
  refine lv_iload_n hx hb dL_getListeners_3 rfl (lv_at hl 1 rfl) ?_
  refine kcallV (wc := [(h0, .inr (15, [.ref a1, .ref a2, .ref a3, .ref a4, .ref a5, .int tt, .int wf, .int ww, .int te, .int tn, .int mo])), (a3, .inr (3, [.int 0, .ref g.2.1, .int 0]))]) (wr := [(o3, .inl ((g.2.2.1 1), 1, .inr (.inl fo)))]) (As := [.int x0]) (rest := [.int 0, .ref o3]) K G (m_X11_getListeners l hl0 g h0 a1 a2 a3 a4 a5 tt wf ww te tn mo x0 ) hP hD hS hA hl kw_524 kw_525 kw_526 kw_527 kw_4 ydX11_getListeners [0, 1] [2] rfl rfl rfl rfl (by decide) (ci := 15) (q0 := 0) rfl rfl rfl rfl rfl (Nat.le_of_ble_eq_true rfl) dL_getListeners_4 ⟨Nat.le_of_ble_eq_true rfl, Nat.le_of_ble_eq_true rfl⟩ ⟨Nat.le_of_ble_eq_true rfl, Nat.le_of_ble_eq_true rfl⟩ (fun E w1 ce q9 H locs hX hP hD hS hce hcv hcl => ?_) (fun _ _ _ _ hQ _ _ _ => hQ.elim)
  obtain ⟨rfl, rfl⟩ := hX
  have hP : va_P g.1 vwCl [(o3, .inl ((g.2.2.1 1), 1, .inr (.inl fo)))] H := hP
  have hD : va_D A [(o3, .inl ((g.2.2.1 1), 1, .inr (.inl fo)))] := hD
  refine vx_widen (k := 1) (n := 6) (by decide) (by decide) ?_
  refine vx_catch (name := "java/lang/IndexOutOfBoundsException") hown [] { startPc := 0, endPc := 9, handlerPc := 12, catchType := 21 } [] (ht.trans rfl) (fun z hz => absurd hz List.not_mem_nil) rfl (by decide) (G.w kw_430) (G.w kw_431) hce hcv hcl ?_
  refine W.eq (g2 := F0 m 12 ls [.ref q9]) rfl ?_
  refine lv_astore_n (lv' := [(3, .ref q9), (0, .ref h0), (1, .int x0), (2, .ref o3)]) hx hb dL_getListeners_12 rfl hl (by decide) rfl (fun ls hl => ?_)
  refine lv_iconst (v := 1) hx hb dL_getListeners_13 (by decide) ?_
  exact kretI K hP hD hS [0] [(o3, .inl ((g.2.2.1 1), 1, .inr (.inl fo)))] rfl rfl (⟨rfl, rfl⟩) (by decide) (by decide) dL_getListeners_14

set_option maxHeartbeats 4000000 in
set_option maxRecDepth 100000 in
theorem m_L_addPerson (l : Launch) (hl0 : l.stackTraces = false) (g : kG) (h0 : Nat) (a1 : Nat) (a2 : Nat) (a3 : Nat) (a4 : Nat) (a5 : Nat) (tt : Int32) (wf : Int32) (ww : Int32) (te : Int32) (tn : Int32) (mo : Int32) (x0 : Int32) (x1 : Int32) (o3 : Nat) (fo : Nat → Int64)  : kcH l g yL_addPerson method_29_code 5 (some .int) [(0, 10, 13, 21), (0, 10, 17, 13), (0, 10, 21, 15)] 9 146 1 6 [.ref h0, .int x0, .int x1, .ref o3] [(h0, .inr (15, [.ref a1, .ref a2, .ref a3, .ref a4, .ref a5, .int tt, .int wf, .int ww, .int te, .int tn, .int mo])), (a1, .inr (3, [.int 0, .ref g.2.1, .int 0])), (o3, .inl ((g.2.2.1 1), 1, .inr (.inl fo)))] (fun v w => (v = some (.int 1) ∧ w = [(o3, .inl ((g.2.2.1 1), 1, .inr (.inl fo)))])) (fun _ _ => False) := by
  refine kbodyH (by decide) (Nat.le_of_ble_eq_true rfl) ?_
  intro p e s m args below meth c A H K ht G hP hD hA hS ls hl
  have K : KB p s m meth c RL "addPerson" method_29_code 5 (some .int) := K
  obtain ⟨hx, hb, hml, hown, hlocks, hr, hin⟩ := id K
  have hl : lv_has ls 5 [(0, .ref h0), (1, .int x0), (2, .int x1), (3, .ref o3)] := hl
  refine lv_aload_n hx hb dL_addPerson_0 rfl (lv_at hl 3 rfl) ?_
  refine lv_iconst (v := 0) hx hb dL_addPerson_1 (by decide) ?_
  refine lv_aload_n hx hb dL_addPerson_2 rfl (lv_at hl 0 rfl) ?_
  refine lv_iload_n hx hb dL_addPerson_3 rfl (lv_at hl 1 rfl) ?_
  refine lv_iload_n hx hb dL_addPerson_4 rfl (lv_at hl 2 rfl) ?_
  refine kcallV (wc := [(h0, .inr (15, [.ref a1, .ref a2, .ref a3, .ref a4, .ref a5, .int tt, .int wf, .int ww, .int te, .int tn, .int mo])), (a1, .inr (3, [.int 0, .ref g.2.1, .int 0]))]) (wr := [(o3, .inl ((g.2.2.1 1), 1, .inr (.inl fo)))]) (As := [.int x0, .int x1]) (rest := [.int 0, .ref o3]) K G (m_X11_addPerson l hl0 g h0 a1 a2 a3 a4 a5 tt wf ww te tn mo x0 x1 ) hP hD hS hA hl kw_528 kw_529 kw_530 kw_531 kw_4 ydX11_addPerson [0, 1] [2] rfl rfl rfl rfl (by decide) (ci := 15) (q0 := 0) rfl rfl rfl rfl rfl (Nat.le_of_ble_eq_true rfl) dL_addPerson_5 ⟨Nat.le_of_ble_eq_true rfl, Nat.le_of_ble_eq_true rfl⟩ ⟨Nat.le_of_ble_eq_true rfl, Nat.le_of_ble_eq_true rfl⟩ (fun E w1 ce q9 H locs hX hP hD hS hce hcv hcl => ?_) (fun _ _ _ _ hQ _ _ _ => hQ.elim)
  obtain ⟨rfl, rfl⟩ := hX
  have hP : va_P g.1 vwCl [(o3, .inl ((g.2.2.1 1), 1, .inr (.inl fo)))] H := hP
  have hD : va_D A [(o3, .inl ((g.2.2.1 1), 1, .inr (.inl fo)))] := hD
  refine vx_widen (k := 1) (n := 6) (by decide) (by decide) ?_
  refine vx_catch (name := "java/lang/IndexOutOfBoundsException") hown [] { startPc := 0, endPc := 10, handlerPc := 13, catchType := 21 } [{ startPc := 0, endPc := 10, handlerPc := 17, catchType := 13 }, { startPc := 0, endPc := 10, handlerPc := 21, catchType := 15 }] (ht.trans rfl) (fun z hz => absurd hz List.not_mem_nil) rfl (by decide) (G.w kw_430) (G.w kw_431) hce hcv hcl ?_
  refine W.eq (g2 := F0 m 13 ls [.ref q9]) rfl ?_
  refine lv_astore (lv' := [(4, .ref q9), (0, .ref h0), (1, .int x0), (2, .int x1), (3, .ref o3)]) hx hb dL_addPerson_13 hl (by decide) rfl (fun ls hl => ?_)
  refine lv_iconst (v := 1) hx hb dL_addPerson_15 (by decide) ?_
  exact kretI K hP hD hS [0] [(o3, .inl ((g.2.2.1 1), 1, .inr (.inl fo)))] rfl rfl (⟨rfl, rfl⟩) (by decide) (by decide) dL_addPerson_16

set_option maxHeartbeats 4000000 in
set_option maxRecDepth 100000 in
theorem m_L_getAboard (l : Launch) (hl0 : l.stackTraces = false) (g : kG) (h0 : Nat) (a1 : Nat) (a2 : Nat) (a3 : Nat) (a4 : Nat) (a5 : Nat) (tt : Int32) (wf : Int32) (ww : Int32) (te : Int32) (tn : Int32) (mo : Int32) (x0 : Int32) (o3 : Nat) (fo : Nat → Int64)  : kcH l g yL_getAboard method_30_code 4 (some .int) [(0, 9, 12, 21)] 9 145 1 6 [.ref h0, .int x0, .ref o3] [(h0, .inr (15, [.ref a1, .ref a2, .ref a3, .ref a4, .ref a5, .int tt, .int wf, .int ww, .int te, .int tn, .int mo])), (a4, .inr (3, [.int 0, .ref g.2.1, .int 0])), (o3, .inl ((g.2.2.1 1), 1, .inr (.inl fo)))] (fun v w => (v = some (.int 1) ∧ w = [(o3, .inl ((g.2.2.1 1), 1, .inr (.inl fo)))])) (fun _ _ => False) := by
  refine kbodyH (by decide) (Nat.le_of_ble_eq_true rfl) ?_
  intro p e s m args below meth c A H K ht G hP hD hA hS ls hl
  have K : KB p s m meth c RL "getAboard" method_30_code 4 (some .int) := K
  obtain ⟨hx, hb, hml, hown, hlocks, hr, hin⟩ := id K
  have hl : lv_has ls 4 [(0, .ref h0), (1, .int x0), (2, .ref o3)] := hl
  refine lv_aload_n hx hb dL_getAboard_0 rfl (lv_at hl 2 rfl) ?_
  refine lv_iconst (v := 0) hx hb dL_getAboard_1 (by decide) ?_
  refine lv_aload_n hx hb dL_getAboard_2 rfl (lv_at hl 0 rfl) ?_
  refine lv_iload_n hx hb dL_getAboard_3 rfl (lv_at hl 1 rfl) ?_
  refine kcallV (wc := [(h0, .inr (15, [.ref a1, .ref a2, .ref a3, .ref a4, .ref a5, .int tt, .int wf, .int ww, .int te, .int tn, .int mo])), (a4, .inr (3, [.int 0, .ref g.2.1, .int 0]))]) (wr := [(o3, .inl ((g.2.2.1 1), 1, .inr (.inl fo)))]) (As := [.int x0]) (rest := [.int 0, .ref o3]) K G (m_X11_getAboard l hl0 g h0 a1 a2 a3 a4 a5 tt wf ww te tn mo x0 ) hP hD hS hA hl kw_532 kw_533 kw_534 kw_535 kw_4 ydX11_getAboard [0, 1] [2] rfl rfl rfl rfl (by decide) (ci := 15) (q0 := 0) rfl rfl rfl rfl rfl (Nat.le_of_ble_eq_true rfl) dL_getAboard_4 ⟨Nat.le_of_ble_eq_true rfl, Nat.le_of_ble_eq_true rfl⟩ ⟨Nat.le_of_ble_eq_true rfl, Nat.le_of_ble_eq_true rfl⟩ (fun E w1 ce q9 H locs hX hP hD hS hce hcv hcl => ?_) (fun _ _ _ _ hQ _ _ _ => hQ.elim)
  obtain ⟨rfl, rfl⟩ := hX
  have hP : va_P g.1 vwCl [(o3, .inl ((g.2.2.1 1), 1, .inr (.inl fo)))] H := hP
  have hD : va_D A [(o3, .inl ((g.2.2.1 1), 1, .inr (.inl fo)))] := hD
  refine vx_widen (k := 1) (n := 6) (by decide) (by decide) ?_
  refine vx_catch (name := "java/lang/IndexOutOfBoundsException") hown [] { startPc := 0, endPc := 9, handlerPc := 12, catchType := 21 } [] (ht.trans rfl) (fun z hz => absurd hz List.not_mem_nil) rfl (by decide) (G.w kw_430) (G.w kw_431) hce hcv hcl ?_
  refine W.eq (g2 := F0 m 12 ls [.ref q9]) rfl ?_
  refine lv_astore_n (lv' := [(3, .ref q9), (0, .ref h0), (1, .int x0), (2, .ref o3)]) hx hb dL_getAboard_12 rfl hl (by decide) rfl (fun ls hl => ?_)
  refine lv_iconst (v := 1) hx hb dL_getAboard_13 (by decide) ?_
  exact kretI K hP hD hS [0] [(o3, .inl ((g.2.2.1 1), 1, .inr (.inl fo)))] rfl rfl (⟨rfl, rfl⟩) (by decide) (by decide) dL_getAboard_14

set_option maxHeartbeats 4000000 in
set_option maxRecDepth 100000 in
theorem m_L_isTired (l : Launch) (hl0 : l.stackTraces = false) (g : kG) (h0 : Nat) (a1 : Nat) (a2 : Nat) (a3 : Nat) (a4 : Nat) (a5 : Nat) (tt : Int32) (wf : Int32) (ww : Int32) (te : Int32) (tn : Int32) (mo : Int32) (x0 : Int32) (o3 : Nat) (fo : Nat → Int64)  : kcH l g yL_isTired method_31_code 4 (some .int) [(0, 16, 19, 21)] 9 145 1 6 [.ref h0, .int x0, .ref o3] [(h0, .inr (15, [.ref a1, .ref a2, .ref a3, .ref a4, .ref a5, .int tt, .int wf, .int ww, .int te, .int tn, .int mo])), (a4, .inr (3, [.int 0, .ref g.2.1, .int 0])), (o3, .inl ((g.2.2.1 1), 1, .inr (.inl fo)))] (fun v w => (v = some (.int 1) ∧ w = [(o3, .inl ((g.2.2.1 1), 1, .inr (.inl fo)))])) (fun _ _ => False) := by
  refine kbodyH (by decide) (Nat.le_of_ble_eq_true rfl) ?_
  intro p e s m args below meth c A H K ht G hP hD hA hS ls hl
  have K : KB p s m meth c RL "isTired" method_31_code 4 (some .int) := K
  obtain ⟨hx, hb, hml, hown, hlocks, hr, hin⟩ := id K
  have hl : lv_has ls 4 [(0, .ref h0), (1, .int x0), (2, .ref o3)] := hl
  refine lv_aload_n hx hb dL_isTired_0 rfl (lv_at hl 2 rfl) ?_
  refine lv_iconst (v := 0) hx hb dL_isTired_1 (by decide) ?_
  refine lv_aload_n hx hb dL_isTired_2 rfl (lv_at hl 0 rfl) ?_
  refine lv_iload_n hx hb dL_isTired_3 rfl (lv_at hl 1 rfl) ?_
  refine kcallV (wc := [(h0, .inr (15, [.ref a1, .ref a2, .ref a3, .ref a4, .ref a5, .int tt, .int wf, .int ww, .int te, .int tn, .int mo])), (a4, .inr (3, [.int 0, .ref g.2.1, .int 0]))]) (wr := [(o3, .inl ((g.2.2.1 1), 1, .inr (.inl fo)))]) (As := [.int x0]) (rest := [.int 0, .ref o3]) K G (m_X11_isTired l hl0 g h0 a1 a2 a3 a4 a5 tt wf ww te tn mo x0 ) hP hD hS hA hl kw_536 kw_537 kw_538 kw_539 kw_4 ydX11_isTired [0, 1] [2] rfl rfl rfl rfl (by decide) (ci := 15) (q0 := 0) rfl rfl rfl rfl rfl (Nat.le_of_ble_eq_true rfl) dL_isTired_4 ⟨Nat.le_of_ble_eq_true rfl, Nat.le_of_ble_eq_true rfl⟩ ⟨Nat.le_of_ble_eq_true rfl, Nat.le_of_ble_eq_true rfl⟩ (fun E w1 ce q9 H locs hX hP hD hS hce hcv hcl => ?_) (fun _ _ _ _ hQ _ _ _ => hQ.elim)
  obtain ⟨rfl, rfl⟩ := hX
  have hP : va_P g.1 vwCl [(o3, .inl ((g.2.2.1 1), 1, .inr (.inl fo)))] H := hP
  have hD : va_D A [(o3, .inl ((g.2.2.1 1), 1, .inr (.inl fo)))] := hD
  refine vx_widen (k := 1) (n := 6) (by decide) (by decide) ?_
  refine vx_catch (name := "java/lang/IndexOutOfBoundsException") hown [] { startPc := 0, endPc := 16, handlerPc := 19, catchType := 21 } [] (ht.trans rfl) (fun z hz => absurd hz List.not_mem_nil) rfl (by decide) (G.w kw_430) (G.w kw_431) hce hcv hcl ?_
  refine W.eq (g2 := F0 m 19 ls [.ref q9]) rfl ?_
  refine lv_astore_n (lv' := [(3, .ref q9), (0, .ref h0), (1, .int x0), (2, .ref o3)]) hx hb dL_isTired_19 rfl hl (by decide) rfl (fun ls hl => ?_)
  refine lv_iconst (v := 1) hx hb dL_isTired_20 (by decide) ?_
  exact kretI K hP hD hS [0] [(o3, .inl ((g.2.2.1 1), 1, .inr (.inl fo)))] rfl rfl (⟨rfl, rfl⟩) (by decide) (by decide) dL_isTired_21

set_option maxHeartbeats 4000000 in
set_option maxRecDepth 100000 in
theorem m_L_load (l : Launch) (hl0 : l.stackTraces = false) (g : kG) (h0 : Nat) (a1 : Nat) (a2 : Nat) (a3 : Nat) (a4 : Nat) (a5 : Nat) (tt : Int32) (wf : Int32) (ww : Int32) (te : Int32) (tn : Int32) (mo : Int32) (x0 : Int32) (x1 : Int32) (x2 : Int32) (x3 : Int32) (o3 : Nat) (fo : Nat → Int64)  : kcH l g yL_load method_32_code 7 (some .int) [(0, 14, 17, 21), (0, 14, 21, 13)] 9 149 1 6 [.ref h0, .int x0, .int x1, .int x2, .int x3, .ref o3] [(h0, .inr (15, [.ref a1, .ref a2, .ref a3, .ref a4, .ref a5, .int tt, .int wf, .int ww, .int te, .int tn, .int mo])), (a1, .inr (3, [.int 0, .ref g.2.1, .int 0])), (o3, .inl ((g.2.2.1 1), 1, .inr (.inl fo)))] (fun v w => (v = some (.int 1) ∧ w = [(o3, .inl ((g.2.2.1 1), 1, .inr (.inl fo)))])) (fun _ _ => False) := by
  refine kbodyH (by decide) (Nat.le_of_ble_eq_true rfl) ?_
  intro p e s m args below meth c A H K ht G hP hD hA hS ls hl
  have K : KB p s m meth c RL "load" method_32_code 7 (some .int) := K
  obtain ⟨hx, hb, hml, hown, hlocks, hr, hin⟩ := id K
  have hl : lv_has ls 7 [(0, .ref h0), (1, .int x0), (2, .int x1), (3, .int x2), (4, .int x3), (5, .ref o3)] := hl
  refine lv_aload hx hb dL_load_0 (lv_at hl 5 rfl) ?_
  refine lv_iconst (v := 0) hx hb dL_load_2 (by decide) ?_
  refine lv_aload_n hx hb dL_load_3 rfl (lv_at hl 0 rfl) ?_
  refine lv_iload_n hx hb dL_load_4 rfl (lv_at hl 1 rfl) ?_
  refine lv_iload_n hx hb dL_load_5 rfl (lv_at hl 2 rfl) ?_
  refine lv_iload_n hx hb dL_load_6 rfl (lv_at hl 3 rfl) ?_
  refine lv_iload hx hb dL_load_7 (lv_at hl 4 rfl) ?_
  refine kcallV (wc := [(h0, .inr (15, [.ref a1, .ref a2, .ref a3, .ref a4, .ref a5, .int tt, .int wf, .int ww, .int te, .int tn, .int mo])), (a1, .inr (3, [.int 0, .ref g.2.1, .int 0]))]) (wr := [(o3, .inl ((g.2.2.1 1), 1, .inr (.inl fo)))]) (As := [.int x0, .int x1, .int x2, .int x3]) (rest := [.int 0, .ref o3]) K G (m_X11_load l hl0 g h0 a1 a2 a3 a4 a5 tt wf ww te tn mo x0 x1 x2 x3 ) hP hD hS hA hl kw_540 kw_541 kw_542 kw_543 kw_4 ydX11_load [0, 1] [2] rfl rfl rfl rfl (by decide) (ci := 15) (q0 := 0) rfl rfl rfl rfl rfl (Nat.le_of_ble_eq_true rfl) dL_load_9 ⟨Nat.le_of_ble_eq_true rfl, Nat.le_of_ble_eq_true rfl⟩ ⟨Nat.le_of_ble_eq_true rfl, Nat.le_of_ble_eq_true rfl⟩ (fun E w1 ce q9 H locs hX hP hD hS hce hcv hcl => ?_) (fun _ _ _ _ hQ _ _ _ => hQ.elim)
  obtain ⟨rfl, rfl⟩ := hX
  have hP : va_P g.1 vwCl [(o3, .inl ((g.2.2.1 1), 1, .inr (.inl fo)))] H := hP
  have hD : va_D A [(o3, .inl ((g.2.2.1 1), 1, .inr (.inl fo)))] := hD
  refine vx_widen (k := 1) (n := 6) (by decide) (by decide) ?_
  refine vx_catch (name := "java/lang/IndexOutOfBoundsException") hown [] { startPc := 0, endPc := 14, handlerPc := 17, catchType := 21 } [{ startPc := 0, endPc := 14, handlerPc := 21, catchType := 13 }] (ht.trans rfl) (fun z hz => absurd hz List.not_mem_nil) rfl (by decide) (G.w kw_430) (G.w kw_431) hce hcv hcl ?_
  refine W.eq (g2 := F0 m 17 ls [.ref q9]) rfl ?_
  refine lv_astore (lv' := [(6, .ref q9), (0, .ref h0), (1, .int x0), (2, .int x1), (3, .int x2), (4, .int x3), (5, .ref o3)]) hx hb dL_load_17 hl (by decide) rfl (fun ls hl => ?_)
  refine lv_iconst (v := 1) hx hb dL_load_19 (by decide) ?_
  exact kretI K hP hD hS [0] [(o3, .inl ((g.2.2.1 1), 1, .inr (.inl fo)))] rfl rfl (⟨rfl, rfl⟩) (by decide) (by decide) dL_load_20

set_option maxHeartbeats 4000000 in
set_option maxRecDepth 100000 in
theorem m_L_book (l : Launch) (hl0 : l.stackTraces = false) (g : kG) (h0 : Nat) (a1 : Nat) (a2 : Nat) (a3 : Nat) (a4 : Nat) (a5 : Nat) (tt : Int32) (wf : Int32) (ww : Int32) (te : Int32) (tn : Int32) (mo : Int32) (x0 : Int32) (x1 : Int32) (x2 : Int32) (o3 : Nat) (fo : Nat → Int64)  : kcH l g yL_book method_33_code 6 (some .int) [(0, 12, 15, 21), (0, 12, 19, 54)] 9 148 1 6 [.ref h0, .int x0, .int x1, .int x2, .ref o3] [(h0, .inr (15, [.ref a1, .ref a2, .ref a3, .ref a4, .ref a5, .int tt, .int wf, .int ww, .int te, .int tn, .int mo])), (a1, .inr (3, [.int 0, .ref g.2.1, .int 0])), (o3, .inl ((g.2.2.1 1), 1, .inr (.inl fo)))] (fun v w => (v = some (.int 1) ∧ w = [(o3, .inl ((g.2.2.1 1), 1, .inr (.inl fo)))])) (fun _ _ => False) := by
  refine kbodyH (by decide) (Nat.le_of_ble_eq_true rfl) ?_
  intro p e s m args below meth c A H K ht G hP hD hA hS ls hl
  have K : KB p s m meth c RL "book" method_33_code 6 (some .int) := K
  obtain ⟨hx, hb, hml, hown, hlocks, hr, hin⟩ := id K
  have hl : lv_has ls 6 [(0, .ref h0), (1, .int x0), (2, .int x1), (3, .int x2), (4, .ref o3)] := hl
  refine lv_aload hx hb dL_book_0 (lv_at hl 4 rfl) ?_
  refine lv_iconst (v := 0) hx hb dL_book_2 (by decide) ?_
  refine lv_aload_n hx hb dL_book_3 rfl (lv_at hl 0 rfl) ?_
  refine lv_iload_n hx hb dL_book_4 rfl (lv_at hl 1 rfl) ?_
  refine lv_iload_n hx hb dL_book_5 rfl (lv_at hl 2 rfl) ?_
  refine lv_iload_n hx hb dL_book_6 rfl (lv_at hl 3 rfl) ?_
  refine kcallV (wc := [(h0, .inr (15, [.ref a1, .ref a2, .ref a3, .ref a4, .ref a5, .int tt, .int wf, .int ww, .int te, .int tn, .int mo])), (a1, .inr (3, [.int 0, .ref g.2.1, .int 0]))]) (wr := [(o3, .inl ((g.2.2.1 1), 1, .inr (.inl fo)))]) (As := [.int x0, .int x1, .int x2]) (rest := [.int 0, .ref o3]) K G (m_X11_book l hl0 g h0 a1 a2 a3 a4 a5 tt wf ww te tn mo x0 x1 x2 ) hP hD hS hA hl kw_544 kw_545 kw_546 kw_547 kw_4 ydX11_book [0, 1] [2] rfl rfl rfl rfl (by decide) (ci := 15) (q0 := 0) rfl rfl rfl rfl rfl (Nat.le_of_ble_eq_true rfl) dL_book_7 ⟨Nat.le_of_ble_eq_true rfl, Nat.le_of_ble_eq_true rfl⟩ ⟨Nat.le_of_ble_eq_true rfl, Nat.le_of_ble_eq_true rfl⟩ (fun E w1 ce q9 H locs hX hP hD hS hce hcv hcl => ?_) (fun _ _ _ _ hQ _ _ _ => hQ.elim)
  obtain ⟨rfl, rfl⟩ := hX
  have hP : va_P g.1 vwCl [(o3, .inl ((g.2.2.1 1), 1, .inr (.inl fo)))] H := hP
  have hD : va_D A [(o3, .inl ((g.2.2.1 1), 1, .inr (.inl fo)))] := hD
  refine vx_widen (k := 1) (n := 6) (by decide) (by decide) ?_
  refine vx_catch (name := "java/lang/IndexOutOfBoundsException") hown [] { startPc := 0, endPc := 12, handlerPc := 15, catchType := 21 } [{ startPc := 0, endPc := 12, handlerPc := 19, catchType := 54 }] (ht.trans rfl) (fun z hz => absurd hz List.not_mem_nil) rfl (by decide) (G.w kw_430) (G.w kw_431) hce hcv hcl ?_
  refine W.eq (g2 := F0 m 15 ls [.ref q9]) rfl ?_
  refine lv_astore (lv' := [(5, .ref q9), (0, .ref h0), (1, .int x0), (2, .int x1), (3, .int x2), (4, .ref o3)]) hx hb dL_book_15 hl (by decide) rfl (fun ls hl => ?_)
  refine lv_iconst (v := 1) hx hb dL_book_17 (by decide) ?_
  exact kretI K hP hD hS [0] [(o3, .inl ((g.2.2.1 1), 1, .inr (.inl fo)))] rfl rfl (⟨rfl, rfl⟩) (by decide) (by decide) dL_book_18

set_option maxHeartbeats 4000000 in
set_option maxRecDepth 100000 in
theorem m_L_send (l : Launch) (hl0 : l.stackTraces = false) (g : kG) (h0 : Nat) (a1 : Nat) (a2 : Nat) (a3 : Nat) (a4 : Nat) (a5 : Nat) (tt : Int32) (wf : Int32) (ww : Int32) (te : Int32) (tn : Int32) (mo : Int32) (x0 : Int32) (x1 : Int32) (x2 : Int32) (o3 : Nat) (fo : Nat → Int64)  : kcH l g yL_send method_34_code 6 (some .int) [(0, 12, 15, 21), (0, 12, 19, 54)] 9 149 1 6 [.ref h0, .int x0, .int x1, .int x2, .ref o3] [(h0, .inr (15, [.ref a1, .ref a2, .ref a3, .ref a4, .ref a5, .int tt, .int wf, .int ww, .int te, .int tn, .int mo])), (a1, .inr (3, [.int 0, .ref g.2.1, .int 0])), (o3, .inl ((g.2.2.1 1), 1, .inr (.inl fo)))] (fun v w => (v = some (.int 1) ∧ w = [(o3, .inl ((g.2.2.1 1), 1, .inr (.inl fo)))])) (fun _ _ => False) := by
  refine kbodyH (by decide) (Nat.le_of_ble_eq_true rfl) ?_
  intro p e s m args below meth c A H K ht G hP hD hA hS ls hl
  have K : KB p s m meth c RL "send" method_34_code 6 (some .int) := K
  obtain ⟨hx, hb, hml, hown, hlocks, hr, hin⟩ := id K
  have hl : lv_has ls 6 [(0, .ref h0), (1, .int x0), (2, .int x1), (3, .int x2), (4, .ref o3)] := hl
  refine lv_aload hx hb dL_send_0 (lv_at hl 4 rfl) ?_
  refine lv_iconst (v := 0) hx hb dL_send_2 (by decide) ?_
  refine lv_aload_n hx hb dL_send_3 rfl (lv_at hl 0 rfl) ?_
  refine lv_iload_n hx hb dL_send_4 rfl (lv_at hl 1 rfl) ?_
  refine lv_iload_n hx hb dL_send_5 rfl (lv_at hl 2 rfl) ?_
  refine lv_iload_n hx hb dL_send_6 rfl (lv_at hl 3 rfl) ?_
  refine kcallV (wc := [(h0, .inr (15, [.ref a1, .ref a2, .ref a3, .ref a4, .ref a5, .int tt, .int wf, .int ww, .int te, .int tn, .int mo])), (a1, .inr (3, [.int 0, .ref g.2.1, .int 0]))]) (wr := [(o3, .inl ((g.2.2.1 1), 1, .inr (.inl fo)))]) (As := [.int x0, .int x1, .int x2]) (rest := [.int 0, .ref o3]) K G (m_X11_send l hl0 g h0 a1 a2 a3 a4 a5 tt wf ww te tn mo x0 x1 x2 ) hP hD hS hA hl kw_548 kw_549 kw_550 kw_551 kw_4 ydX11_send [0, 1] [2] rfl rfl rfl rfl (by decide) (ci := 15) (q0 := 0) rfl rfl rfl rfl rfl (Nat.le_of_ble_eq_true rfl) dL_send_7 ⟨Nat.le_of_ble_eq_true rfl, Nat.le_of_ble_eq_true rfl⟩ ⟨Nat.le_of_ble_eq_true rfl, Nat.le_of_ble_eq_true rfl⟩ (fun E w1 ce q9 H locs hX hP hD hS hce hcv hcl => ?_) (fun _ _ _ _ hQ _ _ _ => hQ.elim)
  obtain ⟨rfl, rfl⟩ := hX
  have hP : va_P g.1 vwCl [(o3, .inl ((g.2.2.1 1), 1, .inr (.inl fo)))] H := hP
  have hD : va_D A [(o3, .inl ((g.2.2.1 1), 1, .inr (.inl fo)))] := hD
  refine vx_widen (k := 1) (n := 6) (by decide) (by decide) ?_
  refine vx_catch (name := "java/lang/IndexOutOfBoundsException") hown [] { startPc := 0, endPc := 12, handlerPc := 15, catchType := 21 } [{ startPc := 0, endPc := 12, handlerPc := 19, catchType := 54 }] (ht.trans rfl) (fun z hz => absurd hz List.not_mem_nil) rfl (by decide) (G.w kw_430) (G.w kw_431) hce hcv hcl ?_
  refine W.eq (g2 := F0 m 15 ls [.ref q9]) rfl ?_
  refine lv_astore (lv' := [(5, .ref q9), (0, .ref h0), (1, .int x0), (2, .int x1), (3, .int x2), (4, .ref o3)]) hx hb dL_send_15 hl (by decide) rfl (fun ls hl => ?_)
  refine lv_iconst (v := 1) hx hb dL_send_17 (by decide) ?_
  exact kretI K hP hD hS [0] [(o3, .inl ((g.2.2.1 1), 1, .inr (.inl fo)))] rfl rfl (⟨rfl, rfl⟩) (by decide) (by decide) dL_send_18

set_option maxHeartbeats 4000000 in
set_option maxRecDepth 100000 in
theorem m_L_plan (l : Launch) (hl0 : l.stackTraces = false) (g : kG) (h0 : Nat) (a1 : Nat) (a2 : Nat) (a3 : Nat) (a4 : Nat) (a5 : Nat) (tt : Int32) (wf : Int32) (ww : Int32) (te : Int32) (tn : Int32) (mo : Int32) (x0 : Int32) (x1 : Int32) (x2 : Int32) (o3 : Nat) (fo : Nat → Int64)  : kcH l g yL_plan method_35_code 6 (some .int) [(0, 12, 15, 21), (0, 12, 19, 13)] 9 148 1 6 [.ref h0, .int x0, .int x1, .int x2, .ref o3] [(h0, .inr (15, [.ref a1, .ref a2, .ref a3, .ref a4, .ref a5, .int tt, .int wf, .int ww, .int te, .int tn, .int mo])), (a3, .inr (3, [.int 0, .ref g.2.1, .int 0])), (o3, .inl ((g.2.2.1 1), 1, .inr (.inl fo)))] (fun v w => (v = some (.int 1) ∧ w = [(o3, .inl ((g.2.2.1 1), 1, .inr (.inl fo)))])) (fun _ _ => False) := by
  refine kbodyH (by decide) (Nat.le_of_ble_eq_true rfl) ?_
  intro p e s m args below meth c A H K ht G hP hD hA hS ls hl
  have K : KB p s m meth c RL "plan" method_35_code 6 (some .int) := K
  obtain ⟨hx, hb, hml, hown, hlocks, hr, hin⟩ := id K
  have hl : lv_has ls 6 [(0, .ref h0), (1, .int x0), (2, .int x1), (3, .int x2), (4, .ref o3)] := hl
  refine lv_aload hx hb dL_plan_0 (lv_at hl 4 rfl) ?_
  refine lv_iconst (v := 0) hx hb dL_plan_2 (by decide) ?_
  refine lv_aload_n hx hb dL_plan_3 rfl (lv_at hl 0 rfl) ?_
  refine lv_iload_n hx hb dL_plan_4 rfl (lv_at hl 1 rfl) ?_
  refine lv_iload_n hx hb dL_plan_5 rfl (lv_at hl 2 rfl) ?_
  refine lv_iload_n hx hb dL_plan_6 rfl (lv_at hl 3 rfl) ?_
  refine kcallV (wc := [(h0, .inr (15, [.ref a1, .ref a2, .ref a3, .ref a4, .ref a5, .int tt, .int wf, .int ww, .int te, .int tn, .int mo])), (a3, .inr (3, [.int 0, .ref g.2.1, .int 0]))]) (wr := [(o3, .inl ((g.2.2.1 1), 1, .inr (.inl fo)))]) (As := [.int x0, .int x1, .int x2]) (rest := [.int 0, .ref o3]) K G (m_X11_plan l hl0 g h0 a1 a2 a3 a4 a5 tt wf ww te tn mo x0 x1 x2 ) hP hD hS hA hl kw_552 kw_553 kw_554 kw_555 kw_4 ydX11_plan [0, 1] [2] rfl rfl rfl rfl (by decide) (ci := 15) (q0 := 0) rfl rfl rfl rfl rfl (Nat.le_of_ble_eq_true rfl) dL_plan_7 ⟨Nat.le_of_ble_eq_true rfl, Nat.le_of_ble_eq_true rfl⟩ ⟨Nat.le_of_ble_eq_true rfl, Nat.le_of_ble_eq_true rfl⟩ (fun E w1 ce q9 H locs hX hP hD hS hce hcv hcl => ?_) (fun _ _ _ _ hQ _ _ _ => hQ.elim)
  obtain ⟨rfl, rfl⟩ := hX
  have hP : va_P g.1 vwCl [(o3, .inl ((g.2.2.1 1), 1, .inr (.inl fo)))] H := hP
  have hD : va_D A [(o3, .inl ((g.2.2.1 1), 1, .inr (.inl fo)))] := hD
  refine vx_widen (k := 1) (n := 6) (by decide) (by decide) ?_
  refine vx_catch (name := "java/lang/IndexOutOfBoundsException") hown [] { startPc := 0, endPc := 12, handlerPc := 15, catchType := 21 } [{ startPc := 0, endPc := 12, handlerPc := 19, catchType := 13 }] (ht.trans rfl) (fun z hz => absurd hz List.not_mem_nil) rfl (by decide) (G.w kw_430) (G.w kw_431) hce hcv hcl ?_
  refine W.eq (g2 := F0 m 15 ls [.ref q9]) rfl ?_
  refine lv_astore (lv' := [(5, .ref q9), (0, .ref h0), (1, .int x0), (2, .int x1), (3, .int x2), (4, .ref o3)]) hx hb dL_plan_15 hl (by decide) rfl (fun ls hl => ?_)
  refine lv_iconst (v := 1) hx hb dL_plan_17 (by decide) ?_
  exact kretI K hP hD hS [0] [(o3, .inl ((g.2.2.1 1), 1, .inr (.inl fo)))] rfl rfl (⟨rfl, rfl⟩) (by decide) (by decide) dL_plan_18

set_option maxHeartbeats 4000000 in
set_option maxRecDepth 100000 in
theorem m_L_getSpeaker (l : Launch) (hl0 : l.stackTraces = false) (g : kG) (h0 : Nat) (a1 : Nat) (a2 : Nat) (a3 : Nat) (a4 : Nat) (a5 : Nat) (tt : Int32) (wf : Int32) (ww : Int32) (te : Int32) (tn : Int32) (mo : Int32) (x0 : Int32) (o3 : Nat) (fo : Nat → Int64)  : kcH l g yL_getSpeaker method_36_code 4 (some .int) [(0, 9, 12, 21), (0, 9, 15, 127)] 9 146 1 6 [.ref h0, .int x0, .ref o3] [(h0, .inr (15, [.ref a1, .ref a2, .ref a3, .ref a4, .ref a5, .int tt, .int wf, .int ww, .int te, .int tn, .int mo])), (a3, .inr (3, [.int 0, .ref g.2.1, .int 0])), (o3, .inl ((g.2.2.1 1), 1, .inr (.inl fo)))] (fun v w => (v = some (.int 1) ∧ w = [(o3, .inl ((g.2.2.1 1), 1, .inr (.inl fo)))])) (fun _ _ => False) := by
  refine kbodyH (by decide) (Nat.le_of_ble_eq_true rfl) ?_
  intro p e s m args below meth c A H K ht G hP hD hA hS ls hl
  have K : KB p s m meth c RL "getSpeaker" method_36_code 4 (some .int) := K
  obtain ⟨hx, hb, hml, hown, hlocks, hr, hin⟩ := id K
  have hl : lv_has ls 4 [(0, .ref h0), (1, .int x0), (2, .ref o3)] := hl
  refine lv_aload_n hx hb dL_getSpeaker_0 rfl (lv_at hl 2 rfl) ?_
  refine lv_iconst (v := 0) hx hb dL_getSpeaker_1 (by decide) ?_
  refine lv_aload_n hx hb dL_getSpeaker_2 rfl (lv_at hl 0 rfl) ?_
  refine lv_iload_n hx hb dL_getSpeaker_3 rfl (lv_at hl 1 rfl) ?_
  refine kcallV (wc := [(h0, .inr (15, [.ref a1, .ref a2, .ref a3, .ref a4, .ref a5, .int tt, .int wf, .int ww, .int te, .int tn, .int mo])), (a3, .inr (3, [.int 0, .ref g.2.1, .int 0]))]) (wr := [(o3, .inl ((g.2.2.1 1), 1, .inr (.inl fo)))]) (As := [.int x0]) (rest := [.int 0, .ref o3]) K G (m_X11_getSpeaker l hl0 g h0 a1 a2 a3 a4 a5 tt wf ww te tn mo x0 ) hP hD hS hA hl kw_556 kw_557 kw_558 kw_559 kw_4 ydX11_getSpeaker [0, 1] [2] rfl rfl rfl rfl (by decide) (ci := 15) (q0 := 0) rfl rfl rfl rfl rfl (Nat.le_of_ble_eq_true rfl) dL_getSpeaker_4 ⟨Nat.le_of_ble_eq_true rfl, Nat.le_of_ble_eq_true rfl⟩ ⟨Nat.le_of_ble_eq_true rfl, Nat.le_of_ble_eq_true rfl⟩ (fun E w1 ce q9 H locs hX hP hD hS hce hcv hcl => ?_) (fun _ _ _ _ hQ _ _ _ => hQ.elim)
  obtain ⟨rfl, rfl⟩ := hX
  have hP : va_P g.1 vwCl [(o3, .inl ((g.2.2.1 1), 1, .inr (.inl fo)))] H := hP
  have hD : va_D A [(o3, .inl ((g.2.2.1 1), 1, .inr (.inl fo)))] := hD
  refine vx_widen (k := 1) (n := 6) (by decide) (by decide) ?_
  refine vx_catch (name := "java/lang/IndexOutOfBoundsException") hown [] { startPc := 0, endPc := 9, handlerPc := 12, catchType := 21 } [{ startPc := 0, endPc := 9, handlerPc := 15, catchType := 127 }] (ht.trans rfl) (fun z hz => absurd hz List.not_mem_nil) rfl (by decide) (G.w kw_430) (G.w kw_431) hce hcv hcl ?_
  refine W.eq (g2 := F0 m 12 ls [.ref q9]) rfl ?_
  refine lv_astore_n (lv' := [(3, .ref q9), (0, .ref h0), (1, .int x0), (2, .ref o3)]) hx hb dL_getSpeaker_12 rfl hl (by decide) rfl (fun ls hl => ?_)
  refine lv_iconst (v := 1) hx hb dL_getSpeaker_13 (by decide) ?_
  exact kretI K hP hD hS [0] [(o3, .inl ((g.2.2.1 1), 1, .inr (.inl fo)))] rfl rfl (⟨rfl, rfl⟩) (by decide) (by decide) dL_getSpeaker_14

set_option maxHeartbeats 4000000 in
set_option maxRecDepth 100000 in
theorem m_L_isMutiny (l : Launch) (hl0 : l.stackTraces = false) (g : kG) (h0 : Nat) (a1 : Nat) (a2 : Nat) (a3 : Nat) (a4 : Nat) (a5 : Nat) (tt : Int32) (wf : Int32) (ww : Int32) (te : Int32) (tn : Int32) (mo : Int32) (x0 : Int32) (o3 : Nat) (fo : Nat → Int64)  : kcH l g yL_isMutiny method_37_code 4 (some .int) [(0, 16, 19, 21)] 9 145 1 6 [.ref h0, .int x0, .ref o3] [(h0, .inr (15, [.ref a1, .ref a2, .ref a3, .ref a4, .ref a5, .int tt, .int wf, .int ww, .int te, .int tn, .int mo])), (a3, .inr (3, [.int 0, .ref g.2.1, .int 0])), (o3, .inl ((g.2.2.1 1), 1, .inr (.inl fo)))] (fun v w => (v = some (.int 1) ∧ w = [(o3, .inl ((g.2.2.1 1), 1, .inr (.inl fo)))])) (fun _ _ => False) := by
  refine kbodyH (by decide) (Nat.le_of_ble_eq_true rfl) ?_
  intro p e s m args below meth c A H K ht G hP hD hA hS ls hl
  have K : KB p s m meth c RL "isMutiny" method_37_code 4 (some .int) := K
  obtain ⟨hx, hb, hml, hown, hlocks, hr, hin⟩ := id K
  have hl : lv_has ls 4 [(0, .ref h0), (1, .int x0), (2, .ref o3)] := hl
  refine lv_aload_n hx hb dL_isMutiny_0 rfl (lv_at hl 2 rfl) ?_
  refine lv_iconst (v := 0) hx hb dL_isMutiny_1 (by decide) ?_
  refine lv_aload_n hx hb dL_isMutiny_2 rfl (lv_at hl 0 rfl) ?_
  refine lv_iload_n hx hb dL_isMutiny_3 rfl (lv_at hl 1 rfl) ?_
  refine kcallV (wc := [(h0, .inr (15, [.ref a1, .ref a2, .ref a3, .ref a4, .ref a5, .int tt, .int wf, .int ww, .int te, .int tn, .int mo])), (a3, .inr (3, [.int 0, .ref g.2.1, .int 0]))]) (wr := [(o3, .inl ((g.2.2.1 1), 1, .inr (.inl fo)))]) (As := [.int x0]) (rest := [.int 0, .ref o3]) K G (m_X11_isMutiny l hl0 g h0 a1 a2 a3 a4 a5 tt wf ww te tn mo x0 ) hP hD hS hA hl kw_560 kw_561 kw_562 kw_563 kw_4 ydX11_isMutiny [0, 1] [2] rfl rfl rfl rfl (by decide) (ci := 15) (q0 := 0) rfl rfl rfl rfl rfl (Nat.le_of_ble_eq_true rfl) dL_isMutiny_4 ⟨Nat.le_of_ble_eq_true rfl, Nat.le_of_ble_eq_true rfl⟩ ⟨Nat.le_of_ble_eq_true rfl, Nat.le_of_ble_eq_true rfl⟩ (fun E w1 ce q9 H locs hX hP hD hS hce hcv hcl => ?_) (fun _ _ _ _ hQ _ _ _ => hQ.elim)
  obtain ⟨rfl, rfl⟩ := hX
  have hP : va_P g.1 vwCl [(o3, .inl ((g.2.2.1 1), 1, .inr (.inl fo)))] H := hP
  have hD : va_D A [(o3, .inl ((g.2.2.1 1), 1, .inr (.inl fo)))] := hD
  refine vx_widen (k := 1) (n := 6) (by decide) (by decide) ?_
  refine vx_catch (name := "java/lang/IndexOutOfBoundsException") hown [] { startPc := 0, endPc := 16, handlerPc := 19, catchType := 21 } [] (ht.trans rfl) (fun z hz => absurd hz List.not_mem_nil) rfl (by decide) (G.w kw_430) (G.w kw_431) hce hcv hcl ?_
  refine W.eq (g2 := F0 m 19 ls [.ref q9]) rfl ?_
  refine lv_astore_n (lv' := [(3, .ref q9), (0, .ref h0), (1, .int x0), (2, .ref o3)]) hx hb dL_isMutiny_19 rfl hl (by decide) rfl (fun ls hl => ?_)
  refine lv_iconst (v := 1) hx hb dL_isMutiny_20 (by decide) ?_
  exact kretI K hP hD hS [0] [(o3, .inl ((g.2.2.1 1), 1, .inr (.inl fo)))] rfl rfl (⟨rfl, rfl⟩) (by decide) (by decide) dL_isMutiny_21

