set_option maxHeartbeats 4000000 in
set_option maxRecDepth 100000 in
theorem m_L_addLand (l : Launch) (hl0 : l.stackTraces = false) (g : kG) (h0 : Nat) (a1 : Nat) (a2 : Nat) (a3 : Nat) (a4 : Nat) (a5 : Nat) (k0 : Nat) (r0 : Nat) (b1 : Nat) (b2 : Nat) (b3 : Nat) (b4 : Nat) (b5 : Nat) (b6 : Nat) (b7 : Nat) (b8 : Nat) (b9 : Nat) (b10 : Nat) (x0 : Int32) (x1 : Int32) (x2 : Int32) (o3 : Nat) (fo : Nat → Int64)  : kcH l g yL_addLand method_3_code 6 (some .int) [(0, 12, 15, 13), (0, 12, 19, 15)] 9 148 8 63 [.ref h0, .int x0, .int x1, .int x2, .ref o3] [(h0, .inr (15, [.ref a1, .ref a2, .ref a3, .ref a4, .ref a5, .int 0, .int 0, .int 110, .int 0, .int 0, .int 0])), (a1, .inr (3, [.int 0, .ref g.2.1, .int 0])), (a2, .inr (3, [.int 0, .ref g.2.1, .int 0])), (a3, .inr (3, [.int 0, .ref g.2.1, .int 0])), (a4, .inr (3, [.int 0, .ref g.2.1, .int 0])), (a5, .inr (5, [.ref k0, .ref r0, .ref b1, .ref b2, .ref b3, .ref b4, .ref b5, .int 0])), (k0, .inr (7, [.ref b6, .ref b7, .ref b8, .ref b9, .ref b10, .int 0, .int 0])), (r0, .inr (3, [.int 0, .ref g.2.1, .int 0])), (o3, .inl ((g.2.2.1 1), 1, .inr (.inl fo)))] (fun v w => (v = some (.int 0) ∧ w = [(o3, .inl ((g.2.2.1 1), 1, .inr (.inl (vp_updL fo 0 0))))] ∧ (inR x0 (-999) 999 && inR x1 (-999) 999 && inR x2 1 50) = true) ∨ (v = some (.int 1) ∧ w = [(o3, .inl ((g.2.2.1 1), 1, .inr (.inl fo)))] ∧ (inR x0 (-999) 999 && inR x1 (-999) 999 && inR x2 1 50) = false)) (fun _ _ => False) := by
  refine kbodyH (by decide) (Nat.le_of_ble_eq_true rfl) ?_
  intro p e s m args below meth c A H K ht G hP hD hA hS ls hl
  have K : KB p s m meth c RL "addLand" method_3_code 6 (some .int) := K
  obtain ⟨hx, hb, hml, hown, hlocks, hr, hin⟩ := id K
  have hl : lv_has ls 6 [(0, .ref h0), (1, .int x0), (2, .int x1), (3, .int x2), (4, .ref o3)] := hl
  refine lv_aload hx hb dL_addLand_0 (lv_at hl 4 rfl) ?_
  refine lv_iconst (v := 0) hx hb dL_addLand_2 (by decide) ?_
  refine lv_aload_n hx hb dL_addLand_3 rfl (lv_at hl 0 rfl) ?_
  refine lv_iload_n hx hb dL_addLand_4 rfl (lv_at hl 1 rfl) ?_
  refine lv_iload_n hx hb dL_addLand_5 rfl (lv_at hl 2 rfl) ?_
  refine lv_iload_n hx hb dL_addLand_6 rfl (lv_at hl 3 rfl) ?_
  refine kcallV (wc := [(h0, .inr (15, [.ref a1, .ref a2, .ref a3, .ref a4, .ref a5, .int 0, .int 0, .int 110, .int 0, .int 0, .int 0])), (a1, .inr (3, [.int 0, .ref g.2.1, .int 0])), (a2, .inr (3, [.int 0, .ref g.2.1, .int 0])), (a3, .inr (3, [.int 0, .ref g.2.1, .int 0])), (a4, .inr (3, [.int 0, .ref g.2.1, .int 0])), (a5, .inr (5, [.ref k0, .ref r0, .ref b1, .ref b2, .ref b3, .ref b4, .ref b5, .int 0])), (k0, .inr (7, [.ref b6, .ref b7, .ref b8, .ref b9, .ref b10, .int 0, .int 0])), (r0, .inr (3, [.int 0, .ref g.2.1, .int 0]))]) (wr := [(o3, .inl ((g.2.2.1 1), 1, .inr (.inl fo)))]) (As := [.int x0, .int x1, .int x2]) (rest := [.int 0, .ref o3]) K G (m_X11_addLand l hl0 g h0 a1 a2 a3 a4 a5 k0 r0 b1 b2 b3 b4 b5 b6 b7 b8 b9 b10 x0 x1 x2 ) hP hD hS hA hl kw_420 kw_421 kw_422 kw_423 kw_4 ydX11_addLand [0, 1, 2, 3, 4, 5, 6, 7] [8] rfl rfl rfl rfl (by decide) (ci := 15) (q0 := 0) rfl rfl rfl rfl rfl (Nat.le_of_ble_eq_true rfl) dL_addLand_7 ⟨Nat.le_of_ble_eq_true rfl, Nat.le_of_ble_eq_true rfl⟩ ⟨Nat.le_of_ble_eq_true rfl, Nat.le_of_ble_eq_true rfl⟩ (fun E w1 ce q9 H locs hX hP hD hS hce hcv hcl => ?_) (fun v w1 H locs hQ hP hD hS => ?_)
  · obtain ⟨rfl, rfl, f_2⟩ := hX
    have hP : va_P g.1 vwCl [(o3, .inl ((g.2.2.1 1), 1, .inr (.inl fo)))] H := hP
    have hD : va_D A [(o3, .inl ((g.2.2.1 1), 1, .inr (.inl fo)))] := hD
    refine vx_widen (k := 8) (n := 63) (by decide) (by decide) ?_
    refine vx_catch (name := "java/lang/IllegalArgumentException") hown [] { startPc := 0, endPc := 12, handlerPc := 15, catchType := 13 } [{ startPc := 0, endPc := 12, handlerPc := 19, catchType := 15 }] (ht.trans rfl) (fun z hz => absurd hz List.not_mem_nil) rfl (by decide) (G.w kw_424) (G.w kw_425) hce hcv hcl ?_
    refine W.eq (g2 := F0 m 15 ls [.ref q9]) rfl ?_
    refine lv_astore (lv' := [(5, .ref q9), (0, .ref h0), (1, .int x0), (2, .int x1), (3, .int x2), (4, .ref o3)]) hx hb dL_addLand_15 hl (by decide) rfl (fun ls hl => ?_)
    refine lv_iconst (v := 1) hx hb dL_addLand_17 (by decide) ?_
    exact kretI K hP hD hS [0] [(o3, .inl ((g.2.2.1 1), 1, .inr (.inl fo)))] rfl rfl (Or.inr (⟨rfl, rfl, (by exact f_2)⟩)) (by decide) (by decide) dL_addLand_18
  · obtain ⟨rfl, rfl, f_3⟩ := hQ
    have hP : va_P g.1 vwCl [(o3, .inl ((g.2.2.1 1), 1, .inr (.inl fo)))] H := hP
    have hD : va_D A [(o3, .inl ((g.2.2.1 1), 1, .inr (.inl fo)))] := hD
    refine W.widen (k := 8) (n := 63) (by decide) (by decide) ?_
    refine W.eq (g2 := F0 m 10 ls [.int 0, .int 0, .ref o3]) rfl ?_
    refine lv_i2l (v := 0) hx hb dL_addLand_10 (by decide) ?_
    refine va_last hx hb G.K hP hD hS 0 1 rfl rfl (i := 0) (vp_in_iff.mpr ⟨by decide, by decide⟩) dL_addLand_11 (fun H locs hP hD hS => ?_)
    have hP : va_P g.1 vwCl [(o3, .inl ((g.2.2.1 1), 1, .inr (.inl (vp_updL fo 0 0))))] H := hP
    have hD : va_D A [(o3, .inl ((g.2.2.1 1), 1, .inr (.inl (vp_updL fo 0 0))))] := hD
    refine lv_goto (tgt := 23) hx hb dL_addLand_12 (by decide) ?_
    refine lv_iconst (v := 0) hx hb dL_addLand_23 (by decide) ?_
    exact kretI K hP hD hS [0] [(o3, .inl ((g.2.2.1 1), 1, .inr (.inl (vp_updL fo 0 0))))] rfl rfl (Or.inl ⟨rfl, rfl, (by exact f_3)⟩) (by decide) (by decide) dL_addLand_24

set_option maxHeartbeats 4000000 in
set_option maxRecDepth 100000 in
theorem m_L_addAct (l : Launch) (hl0 : l.stackTraces = false) (g : kG) (h0 : Nat) (a1 : Nat) (a2 : Nat) (a3 : Nat) (a4 : Nat) (a5 : Nat) (tt : Int32) (wf : Int32) (ww : Int32) (te : Int32) (tn : Int32) (mo : Int32) (x0 : Int32) (x1 : Int32) (x2 : Int32) (x3 : Int32) (o3 : Nat) (fo : Nat → Int64)  : kcH l g yL_addAct method_4_code 7 (some .int) [(0, 14, 17, 21), (0, 14, 21, 13), (0, 14, 25, 15)] 9 149 1 6 [.ref h0, .int x0, .int x1, .int x2, .int x3, .ref o3] [(h0, .inr (15, [.ref a1, .ref a2, .ref a3, .ref a4, .ref a5, .int tt, .int wf, .int ww, .int te, .int tn, .int mo])), (a1, .inr (3, [.int 0, .ref g.2.1, .int 0])), (o3, .inl ((g.2.2.1 1), 1, .inr (.inl fo)))] (fun v w => (v = some (.int 1) ∧ w = [(o3, .inl ((g.2.2.1 1), 1, .inr (.inl fo)))])) (fun _ _ => False) := by
  refine kbodyH (by decide) (Nat.le_of_ble_eq_true rfl) ?_
  intro p e s m args below meth c A H K ht G hP hD hA hS ls hl
  have K : KB p s m meth c RL "addAct" method_4_code 7 (some .int) := K
  obtain ⟨hx, hb, hml, hown, hlocks, hr, hin⟩ := id K
  have hl : lv_has ls 7 [(0, .ref h0), (1, .int x0), (2, .int x1), (3, .int x2), (4, .int x3), (5, .ref o3)] := hl
  refine lv_aload hx hb dL_addAct_0 (lv_at hl 5 rfl) ?_
  refine lv_iconst (v := 0) hx hb dL_addAct_2 (by decide) ?_
  refine lv_aload_n hx hb dL_addAct_3 rfl (lv_at hl 0 rfl) ?_
  refine lv_iload_n hx hb dL_addAct_4 rfl (lv_at hl 1 rfl) ?_
  refine lv_iload_n hx hb dL_addAct_5 rfl (lv_at hl 2 rfl) ?_
  refine lv_iload_n hx hb dL_addAct_6 rfl (lv_at hl 3 rfl) ?_
  refine lv_iload hx hb dL_addAct_7 (lv_at hl 4 rfl) ?_
  refine kcallV (wc := [(h0, .inr (15, [.ref a1, .ref a2, .ref a3, .ref a4, .ref a5, .int tt, .int wf, .int ww, .int te, .int tn, .int mo])), (a1, .inr (3, [.int 0, .ref g.2.1, .int 0]))]) (wr := [(o3, .inl ((g.2.2.1 1), 1, .inr (.inl fo)))]) (As := [.int x0, .int x1, .int x2, .int x3]) (rest := [.int 0, .ref o3]) K G (m_X11_addAct l hl0 g h0 a1 a2 a3 a4 a5 tt wf ww te tn mo x0 x1 x2 x3 ) hP hD hS hA hl kw_426 kw_427 kw_428 kw_429 kw_4 ydX11_addAct [0, 1] [2] rfl rfl rfl rfl (by decide) (ci := 15) (q0 := 0) rfl rfl rfl rfl rfl (Nat.le_of_ble_eq_true rfl) dL_addAct_9 ⟨Nat.le_of_ble_eq_true rfl, Nat.le_of_ble_eq_true rfl⟩ ⟨Nat.le_of_ble_eq_true rfl, Nat.le_of_ble_eq_true rfl⟩ (fun E w1 ce q9 H locs hX hP hD hS hce hcv hcl => ?_) (fun _ _ _ _ hQ _ _ _ => hQ.elim)
  obtain ⟨rfl, rfl⟩ := hX
  have hP : va_P g.1 vwCl [(o3, .inl ((g.2.2.1 1), 1, .inr (.inl fo)))] H := hP
  have hD : va_D A [(o3, .inl ((g.2.2.1 1), 1, .inr (.inl fo)))] := hD
  refine vx_widen (k := 1) (n := 6) (by decide) (by decide) ?_
  refine vx_catch (name := "java/lang/IndexOutOfBoundsException") hown [] { startPc := 0, endPc := 14, handlerPc := 17, catchType := 21 } [{ startPc := 0, endPc := 14, handlerPc := 21, catchType := 13 }, { startPc := 0, endPc := 14, handlerPc := 25, catchType := 15 }] (ht.trans rfl) (fun z hz => absurd hz List.not_mem_nil) rfl (by decide) (G.w kw_430) (G.w kw_431) hce hcv hcl ?_
  refine W.eq (g2 := F0 m 17 ls [.ref q9]) rfl ?_
  refine lv_astore (lv' := [(6, .ref q9), (0, .ref h0), (1, .int x0), (2, .int x1), (3, .int x2), (4, .int x3), (5, .ref o3)]) hx hb dL_addAct_17 hl (by decide) rfl (fun ls hl => ?_)
  refine lv_iconst (v := 1) hx hb dL_addAct_19 (by decide) ?_
  exact kretI K hP hD hS [0] [(o3, .inl ((g.2.2.1 1), 1, .inr (.inl fo)))] rfl rfl (⟨rfl, rfl⟩) (by decide) (by decide) dL_addAct_20

set_option maxHeartbeats 4000000 in
set_option maxRecDepth 100000 in
theorem m_L_getLine (l : Launch) (hl0 : l.stackTraces = false) (g : kG) (h0 : Nat) (a1 : Nat) (a2 : Nat) (a3 : Nat) (a4 : Nat) (a5 : Nat) (tt : Int32) (wf : Int32) (ww : Int32) (te : Int32) (tn : Int32) (mo : Int32) (x0 : Int32) (o3 : Nat) (fo : Nat → Int64)  : kcH l g yL_getLine method_5_code 4 (some .int) [(0, 9, 12, 21)] 9 145 1 6 [.ref h0, .int x0, .ref o3] [(h0, .inr (15, [.ref a1, .ref a2, .ref a3, .ref a4, .ref a5, .int tt, .int wf, .int ww, .int te, .int tn, .int mo])), (a1, .inr (3, [.int 0, .ref g.2.1, .int 0])), (o3, .inl ((g.2.2.1 1), 1, .inr (.inl fo)))] (fun v w => (v = some (.int 1) ∧ w = [(o3, .inl ((g.2.2.1 1), 1, .inr (.inl fo)))])) (fun _ _ => False) := by
  refine kbodyH (by decide) (Nat.le_of_ble_eq_true rfl) ?_
  intro p e s m args below meth c A H K ht G hP hD hA hS ls hl
  have K : KB p s m meth c RL "getLine" method_5_code 4 (some .int) := K
  obtain ⟨hx, hb, hml, hown, hlocks, hr, hin⟩ := id K
  have hl : lv_has ls 4 [(0, .ref h0), (1, .int x0), (2, .ref o3)] := hl
  refine lv_aload_n hx hb dL_getLine_0 rfl (lv_at hl 2 rfl) ?_
  refine lv_iconst (v := 0) hx hb dL_getLine_1 (by decide) ?_
  refine lv_aload_n hx hb dL_getLine_2 rfl (lv_at hl 0 rfl) ?_
  refine lv_iload_n hx hb dL_getLine_3 rfl (lv_at hl 1 rfl) ?_
  refine kcallV (wc := [(h0, .inr (15, [.ref a1, .ref a2, .ref a3, .ref a4, .ref a5, .int tt, .int wf, .int ww, .int te, .int tn, .int mo])), (a1, .inr (3, [.int 0, .ref g.2.1, .int 0]))]) (wr := [(o3, .inl ((g.2.2.1 1), 1, .inr (.inl fo)))]) (As := [.int x0]) (rest := [.int 0, .ref o3]) K G (m_X11_getLine l hl0 g h0 a1 a2 a3 a4 a5 tt wf ww te tn mo x0 ) hP hD hS hA hl kw_432 kw_433 kw_434 kw_435 kw_4 ydX11_getLine [0, 1] [2] rfl rfl rfl rfl (by decide) (ci := 15) (q0 := 0) rfl rfl rfl rfl rfl (Nat.le_of_ble_eq_true rfl) dL_getLine_4 ⟨Nat.le_of_ble_eq_true rfl, Nat.le_of_ble_eq_true rfl⟩ ⟨Nat.le_of_ble_eq_true rfl, Nat.le_of_ble_eq_true rfl⟩ (fun E w1 ce q9 H locs hX hP hD hS hce hcv hcl => ?_) (fun _ _ _ _ hQ _ _ _ => hQ.elim)
  obtain ⟨rfl, rfl⟩ := hX
  have hP : va_P g.1 vwCl [(o3, .inl ((g.2.2.1 1), 1, .inr (.inl fo)))] H := hP
  have hD : va_D A [(o3, .inl ((g.2.2.1 1), 1, .inr (.inl fo)))] := hD
  refine vx_widen (k := 1) (n := 6) (by decide) (by decide) ?_
  refine vx_catch (name := "java/lang/IndexOutOfBoundsException") hown [] { startPc := 0, endPc := 9, handlerPc := 12, catchType := 21 } [] (ht.trans rfl) (fun z hz => absurd hz List.not_mem_nil) rfl (by decide) (G.w kw_430) (G.w kw_431) hce hcv hcl ?_
  refine W.eq (g2 := F0 m 12 ls [.ref q9]) rfl ?_
  refine lv_astore_n (lv' := [(3, .ref q9), (0, .ref h0), (1, .int x0), (2, .ref o3)]) hx hb dL_getLine_12 rfl hl (by decide) rfl (fun ls hl => ?_)
  refine lv_iconst (v := 1) hx hb dL_getLine_13 (by decide) ?_
  exact kretI K hP hD hS [0] [(o3, .inl ((g.2.2.1 1), 1, .inr (.inl fo)))] rfl rfl (⟨rfl, rfl⟩) (by decide) (by decide) dL_getLine_14

set_option maxHeartbeats 4000000 in
set_option maxRecDepth 100000 in
theorem m_L_setWind (l : Launch) (hl0 : l.stackTraces = false) (g : kG) (h0 : Nat) (a1 : Nat) (a2 : Nat) (a3 : Nat) (a4 : Nat) (a5 : Nat) (tt : Int32) (wf : Int32) (ww : Int32) (te : Int32) (tn : Int32) (mo : Int32) (x0 : Int32) (x1 : Int32) (o3 : Nat) (fo : Nat → Int64) (hn : narrow .char (.int x1) = .int x1) (hf : fits .char (.int x1) = true) : kcH l g yL_setWind method_6_code 5 (some .int) [(0, 10, 13, 13)] 8 127 2 12 [.ref h0, .int x0, .int x1, .ref o3] [(h0, .inr (15, [.ref a1, .ref a2, .ref a3, .ref a4, .ref a5, .int tt, .int wf, .int ww, .int te, .int tn, .int mo])), (o3, .inl ((g.2.2.1 1), 1, .inr (.inl fo)))] (fun v w => (v = some (.int 0) ∧ w = [(o3, .inl ((g.2.2.1 1), 1, .inr (.inl (vp_updL fo 0 ((wf : Int32).toInt64)))))] ∧ (inR x0 0 12 && kway x1) = true) ∨ (v = some (.int 1) ∧ w = [(o3, .inl ((g.2.2.1 1), 1, .inr (.inl fo)))] ∧ (inR x0 0 12 && kway x1) = false)) (fun _ _ => False) := by
  refine kbodyH (by decide) (Nat.le_of_ble_eq_true rfl) ?_
  intro p e s m args below meth c A H K ht G hP hD hA hS ls hl
  have K : KB p s m meth c RL "setWind" method_6_code 5 (some .int) := K
  obtain ⟨hx, hb, hml, hown, hlocks, hr, hin⟩ := id K
  have hl : lv_has ls 5 [(0, .ref h0), (1, .int x0), (2, .int x1), (3, .ref o3)] := hl
  refine lv_aload_n hx hb dL_setWind_0 rfl (lv_at hl 3 rfl) ?_
  refine lv_iconst (v := 0) hx hb dL_setWind_1 (by decide) ?_
  refine lv_aload_n hx hb dL_setWind_2 rfl (lv_at hl 0 rfl) ?_
  refine lv_iload_n hx hb dL_setWind_3 rfl (lv_at hl 1 rfl) ?_
  refine lv_iload_n hx hb dL_setWind_4 rfl (lv_at hl 2 rfl) ?_
  refine kcallV (wc := [(h0, .inr (15, [.ref a1, .ref a2, .ref a3, .ref a4, .ref a5, .int tt, .int wf, .int ww, .int te, .int tn, .int mo]))]) (wr := [(o3, .inl ((g.2.2.1 1), 1, .inr (.inl fo)))]) (As := [.int x0, .int x1]) (rest := [.int 0, .ref o3]) K G (m_X11_setWind l hl0 g h0 a1 a2 a3 a4 a5 tt wf ww te tn mo x0 x1 hn hf) hP hD hS hA hl kw_436 kw_437 kw_438 kw_439 kw_4 ydX11_setWind [0] [1] rfl rfl rfl rfl (by decide) (ci := 15) (q0 := 0) rfl rfl rfl rfl rfl (Nat.le_of_ble_eq_true rfl) dL_setWind_5 ⟨Nat.le_of_ble_eq_true rfl, Nat.le_of_ble_eq_true rfl⟩ ⟨Nat.le_of_ble_eq_true rfl, Nat.le_of_ble_eq_true rfl⟩ (fun E w1 ce q9 H locs hX hP hD hS hce hcv hcl => ?_) (fun v w1 H locs hQ hP hD hS => ?_)
  · obtain ⟨rfl, rfl, f_2⟩ := hX
    have hP : va_P g.1 vwCl [(o3, .inl ((g.2.2.1 1), 1, .inr (.inl fo)))] H := hP
    have hD : va_D A [(o3, .inl ((g.2.2.1 1), 1, .inr (.inl fo)))] := hD
    refine vx_widen (k := 2) (n := 12) (by decide) (by decide) ?_
    refine vx_catch (name := "java/lang/IllegalArgumentException") hown [] { startPc := 0, endPc := 10, handlerPc := 13, catchType := 13 } [] (ht.trans rfl) (fun z hz => absurd hz List.not_mem_nil) rfl (by decide) (G.w kw_424) (G.w kw_425) hce hcv hcl ?_
    refine W.eq (g2 := F0 m 13 ls [.ref q9]) rfl ?_
    refine lv_astore (lv' := [(4, .ref q9), (0, .ref h0), (1, .int x0), (2, .int x1), (3, .ref o3)]) hx hb dL_setWind_13 hl (by decide) rfl (fun ls hl => ?_)
    refine lv_iconst (v := 1) hx hb dL_setWind_15 (by decide) ?_
    exact kretI K hP hD hS [0] [(o3, .inl ((g.2.2.1 1), 1, .inr (.inl fo)))] rfl rfl (Or.inr (⟨rfl, rfl, (by exact f_2)⟩)) (by decide) (by decide) dL_setWind_16
  · obtain ⟨rfl, rfl, f_3⟩ := hQ
    have hP : va_P g.1 vwCl [(o3, .inl ((g.2.2.1 1), 1, .inr (.inl fo)))] H := hP
    have hD : va_D A [(o3, .inl ((g.2.2.1 1), 1, .inr (.inl fo)))] := hD
    refine W.widen (k := 2) (n := 12) (by decide) (by decide) ?_
    refine W.eq (g2 := F0 m 8 ls [.int wf, .int 0, .ref o3]) rfl ?_
    refine lv_i2l (v := (wf : Int32).toInt64) hx hb dL_setWind_8 rfl ?_
    refine va_last hx hb G.K hP hD hS 0 1 rfl rfl (i := 0) (vp_in_iff.mpr ⟨by decide, by decide⟩) dL_setWind_9 (fun H locs hP hD hS => ?_)
    have hP : va_P g.1 vwCl [(o3, .inl ((g.2.2.1 1), 1, .inr (.inl (vp_updL fo 0 ((wf : Int32).toInt64)))))] H := hP
    have hD : va_D A [(o3, .inl ((g.2.2.1 1), 1, .inr (.inl (vp_updL fo 0 ((wf : Int32).toInt64)))))] := hD
    refine lv_goto (tgt := 17) hx hb dL_setWind_10 (by decide) ?_
    refine lv_iconst (v := 0) hx hb dL_setWind_17 (by decide) ?_
    exact kretI K hP hD hS [0] [(o3, .inl ((g.2.2.1 1), 1, .inr (.inl (vp_updL fo 0 ((wf : Int32).toInt64)))))] rfl rfl (Or.inl ⟨rfl, rfl, (by exact f_3)⟩) (by decide) (by decide) dL_setWind_18

set_option maxHeartbeats 4000000 in
set_option maxRecDepth 100000 in
theorem m_L_setTide (l : Launch) (hl0 : l.stackTraces = false) (g : kG) (h0 : Nat) (a1 : Nat) (a2 : Nat) (a3 : Nat) (a4 : Nat) (a5 : Nat) (tt : Int32) (wf : Int32) (ww : Int32) (te : Int32) (tn : Int32) (mo : Int32) (x0 : Int32) (x1 : Int32) (o3 : Nat) (fo : Nat → Int64)  : kcH l g yL_setTide method_7_code 5 (some .int) [(0, 10, 13, 13)] 8 127 2 12 [.ref h0, .int x0, .int x1, .ref o3] [(h0, .inr (15, [.ref a1, .ref a2, .ref a3, .ref a4, .ref a5, .int tt, .int wf, .int ww, .int te, .int tn, .int mo])), (o3, .inl ((g.2.2.1 1), 1, .inr (.inl fo)))] (fun v w => (v = some (.int 0) ∧ w = [(o3, .inl ((g.2.2.1 1), 1, .inr (.inl (vp_updL fo 0 ((te : Int32).toInt64)))))] ∧ (inR x0 (-3) 3 && inR x1 (-3) 3) = true) ∨ (v = some (.int 1) ∧ w = [(o3, .inl ((g.2.2.1 1), 1, .inr (.inl fo)))] ∧ (inR x0 (-3) 3 && inR x1 (-3) 3) = false)) (fun _ _ => False) := by
  refine kbodyH (by decide) (Nat.le_of_ble_eq_true rfl) ?_
  intro p e s m args below meth c A H K ht G hP hD hA hS ls hl
  have K : KB p s m meth c RL "setTide" method_7_code 5 (some .int) := K
  obtain ⟨hx, hb, hml, hown, hlocks, hr, hin⟩ := id K
  have hl : lv_has ls 5 [(0, .ref h0), (1, .int x0), (2, .int x1), (3, .ref o3)] := hl
  refine lv_aload_n hx hb dL_setTide_0 rfl (lv_at hl 3 rfl) ?_
  refine lv_iconst (v := 0) hx hb dL_setTide_1 (by decide) ?_
  refine lv_aload_n hx hb dL_setTide_2 rfl (lv_at hl 0 rfl) ?_
  refine lv_iload_n hx hb dL_setTide_3 rfl (lv_at hl 1 rfl) ?_
  refine lv_iload_n hx hb dL_setTide_4 rfl (lv_at hl 2 rfl) ?_
  refine kcallV (wc := [(h0, .inr (15, [.ref a1, .ref a2, .ref a3, .ref a4, .ref a5, .int tt, .int wf, .int ww, .int te, .int tn, .int mo]))]) (wr := [(o3, .inl ((g.2.2.1 1), 1, .inr (.inl fo)))]) (As := [.int x0, .int x1]) (rest := [.int 0, .ref o3]) K G (m_X11_setTide l hl0 g h0 a1 a2 a3 a4 a5 tt wf ww te tn mo x0 x1 ) hP hD hS hA hl kw_440 kw_441 kw_442 kw_443 kw_4 ydX11_setTide [0] [1] rfl rfl rfl rfl (by decide) (ci := 15) (q0 := 0) rfl rfl rfl rfl rfl (Nat.le_of_ble_eq_true rfl) dL_setTide_5 ⟨Nat.le_of_ble_eq_true rfl, Nat.le_of_ble_eq_true rfl⟩ ⟨Nat.le_of_ble_eq_true rfl, Nat.le_of_ble_eq_true rfl⟩ (fun E w1 ce q9 H locs hX hP hD hS hce hcv hcl => ?_) (fun v w1 H locs hQ hP hD hS => ?_)
  · obtain ⟨rfl, rfl, f_2⟩ := hX
    have hP : va_P g.1 vwCl [(o3, .inl ((g.2.2.1 1), 1, .inr (.inl fo)))] H := hP
    have hD : va_D A [(o3, .inl ((g.2.2.1 1), 1, .inr (.inl fo)))] := hD
    refine vx_widen (k := 2) (n := 12) (by decide) (by decide) ?_
    refine vx_catch (name := "java/lang/IllegalArgumentException") hown [] { startPc := 0, endPc := 10, handlerPc := 13, catchType := 13 } [] (ht.trans rfl) (fun z hz => absurd hz List.not_mem_nil) rfl (by decide) (G.w kw_424) (G.w kw_425) hce hcv hcl ?_
    refine W.eq (g2 := F0 m 13 ls [.ref q9]) rfl ?_
    refine lv_astore (lv' := [(4, .ref q9), (0, .ref h0), (1, .int x0), (2, .int x1), (3, .ref o3)]) hx hb dL_setTide_13 hl (by decide) rfl (fun ls hl => ?_)
    refine lv_iconst (v := 1) hx hb dL_setTide_15 (by decide) ?_
    exact kretI K hP hD hS [0] [(o3, .inl ((g.2.2.1 1), 1, .inr (.inl fo)))] rfl rfl (Or.inr (⟨rfl, rfl, (by exact f_2)⟩)) (by decide) (by decide) dL_setTide_16
  · obtain ⟨rfl, rfl, f_3⟩ := hQ
    have hP : va_P g.1 vwCl [(o3, .inl ((g.2.2.1 1), 1, .inr (.inl fo)))] H := hP
    have hD : va_D A [(o3, .inl ((g.2.2.1 1), 1, .inr (.inl fo)))] := hD
    refine W.widen (k := 2) (n := 12) (by decide) (by decide) ?_
    refine W.eq (g2 := F0 m 8 ls [.int te, .int 0, .ref o3]) rfl ?_
    refine lv_i2l (v := (te : Int32).toInt64) hx hb dL_setTide_8 rfl ?_
    refine va_last hx hb G.K hP hD hS 0 1 rfl rfl (i := 0) (vp_in_iff.mpr ⟨by decide, by decide⟩) dL_setTide_9 (fun H locs hP hD hS => ?_)
    have hP : va_P g.1 vwCl [(o3, .inl ((g.2.2.1 1), 1, .inr (.inl (vp_updL fo 0 ((te : Int32).toInt64)))))] H := hP
    have hD : va_D A [(o3, .inl ((g.2.2.1 1), 1, .inr (.inl (vp_updL fo 0 ((te : Int32).toInt64)))))] := hD
    refine lv_goto (tgt := 17) hx hb dL_setTide_10 (by decide) ?_
    refine lv_iconst (v := 0) hx hb dL_setTide_17 (by decide) ?_
    exact kretI K hP hD hS [0] [(o3, .inl ((g.2.2.1 1), 1, .inr (.inl (vp_updL fo 0 ((te : Int32).toInt64)))))] rfl rfl (Or.inl ⟨rfl, rfl, (by exact f_3)⟩) (by decide) (by decide) dL_setTide_18

set_option maxHeartbeats 4000000 in
set_option maxRecDepth 100000 in
theorem m_L_addTown (l : Launch) (hl0 : l.stackTraces = false) (g : kG) (h0 : Nat) (a1 : Nat) (a2 : Nat) (a3 : Nat) (a4 : Nat) (a5 : Nat) (tt : Int32) (wf : Int32) (ww : Int32) (te : Int32) (tn : Int32) (mo : Int32) (x0 : Int32) (x1 : Int32) (x2 : Int32) (x3 : Int32) (o3 : Nat) (fo : Nat → Int64)  : kcH l g yL_addTown method_8_code 7 (some .int) [(0, 14, 17, 21), (0, 14, 21, 13), (0, 14, 25, 15)] 9 148 1 6 [.ref h0, .int x0, .int x1, .int x2, .int x3, .ref o3] [(h0, .inr (15, [.ref a1, .ref a2, .ref a3, .ref a4, .ref a5, .int tt, .int wf, .int ww, .int te, .int tn, .int mo])), (a1, .inr (3, [.int 0, .ref g.2.1, .int 0])), (o3, .inl ((g.2.2.1 1), 1, .inr (.inl fo)))] (fun v w => (v = some (.int 1) ∧ w = [(o3, .inl ((g.2.2.1 1), 1, .inr (.inl fo)))])) (fun _ _ => False) := by
  refine kbodyH (by decide) (Nat.le_of_ble_eq_true rfl) ?_
  intro p e s m args below meth c A H K ht G hP hD hA hS ls hl
  have K : KB p s m meth c RL "addTown" method_8_code 7 (some .int) := K
  obtain ⟨hx, hb, hml, hown, hlocks, hr, hin⟩ := id K
  have hl : lv_has ls 7 [(0, .ref h0), (1, .int x0), (2, .int x1), (3, .int x2), (4, .int x3), (5, .ref o3)] := hl
  refine lv_aload hx hb dL_addTown_0 (lv_at hl 5 rfl) ?_
  refine lv_iconst (v := 0) hx hb dL_addTown_2 (by decide) ?_
  refine lv_aload_n hx hb dL_addTown_3 rfl (lv_at hl 0 rfl) ?_
  refine lv_iload_n hx hb dL_addTown_4 rfl (lv_at hl 1 rfl) ?_
  refine lv_iload_n hx hb dL_addTown_5 rfl (lv_at hl 2 rfl) ?_
  refine lv_iload_n hx hb dL_addTown_6 rfl (lv_at hl 3 rfl) ?_
  refine lv_iload hx hb dL_addTown_7 (lv_at hl 4 rfl) ?_
  refine kcallV (wc := [(h0, .inr (15, [.ref a1, .ref a2, .ref a3, .ref a4, .ref a5, .int tt, .int wf, .int ww, .int te, .int tn, .int mo])), (a1, .inr (3, [.int 0, .ref g.2.1, .int 0]))]) (wr := [(o3, .inl ((g.2.2.1 1), 1, .inr (.inl fo)))]) (As := [.int x0, .int x1, .int x2, .int x3]) (rest := [.int 0, .ref o3]) K G (m_X11_addTown l hl0 g h0 a1 a2 a3 a4 a5 tt wf ww te tn mo x0 x1 x2 x3 ) hP hD hS hA hl kw_444 kw_445 kw_446 kw_447 kw_4 ydX11_addTown [0, 1] [2] rfl rfl rfl rfl (by decide) (ci := 15) (q0 := 0) rfl rfl rfl rfl rfl (Nat.le_of_ble_eq_true rfl) dL_addTown_9 ⟨Nat.le_of_ble_eq_true rfl, Nat.le_of_ble_eq_true rfl⟩ ⟨Nat.le_of_ble_eq_true rfl, Nat.le_of_ble_eq_true rfl⟩ (fun E w1 ce q9 H locs hX hP hD hS hce hcv hcl => ?_) (fun _ _ _ _ hQ _ _ _ => hQ.elim)
  obtain ⟨rfl, rfl⟩ := hX
  have hP : va_P g.1 vwCl [(o3, .inl ((g.2.2.1 1), 1, .inr (.inl fo)))] H := hP
  have hD : va_D A [(o3, .inl ((g.2.2.1 1), 1, .inr (.inl fo)))] := hD
  refine vx_widen (k := 1) (n := 6) (by decide) (by decide) ?_
  refine vx_catch (name := "java/lang/IndexOutOfBoundsException") hown [] { startPc := 0, endPc := 14, handlerPc := 17, catchType := 21 } [{ startPc := 0, endPc := 14, handlerPc := 21, catchType := 13 }, { startPc := 0, endPc := 14, handlerPc := 25, catchType := 15 }] (ht.trans rfl) (fun z hz => absurd hz List.not_mem_nil) rfl (by decide) (G.w kw_430) (G.w kw_431) hce hcv hcl ?_
  refine W.eq (g2 := F0 m 17 ls [.ref q9]) rfl ?_
  refine lv_astore (lv' := [(6, .ref q9), (0, .ref h0), (1, .int x0), (2, .int x1), (3, .int x2), (4, .int x3), (5, .ref o3)]) hx hb dL_addTown_17 hl (by decide) rfl (fun ls hl => ?_)
  refine lv_iconst (v := 1) hx hb dL_addTown_19 (by decide) ?_
  exact kretI K hP hD hS [0] [(o3, .inl ((g.2.2.1 1), 1, .inr (.inl fo)))] rfl rfl (⟨rfl, rfl⟩) (by decide) (by decide) dL_addTown_20

set_option maxHeartbeats 4000000 in
set_option maxRecDepth 100000 in
theorem m_L_pass (l : Launch) (hl0 : l.stackTraces = false) (g : kG) (h0 : Nat) (a1 : Nat) (a2 : Nat) (a3 : Nat) (a4 : Nat) (a5 : Nat) (wf : Int32) (ww : Int32) (te : Int32) (tn : Int32) (mo : Int32) (x : Int32) (o3 : Nat) (fo : Nat → Int64)  : kcH l g yL_pass method_9_code 4 (some .int) [(0, 9, 12, 13)] 8 126 1 6 [.ref h0, .int x, .ref o3] [(h0, .inr (15, [.ref a1, .ref a2, .ref a3, .ref a4, .ref a5, .int 0, .int wf, .int ww, .int te, .int tn, .int mo])), (a2, .inr (3, [.int 0, .ref g.2.1, .int 0])), (a3, .inr (3, [.int 0, .ref g.2.1, .int 0])), (a4, .inr (3, [.int 0, .ref g.2.1, .int 0])), (o3, .inl ((g.2.2.1 1), 1, .inr (.inl fo)))] (fun v w => (v = some (.int 0) ∧ w = [(o3, .inl ((g.2.2.1 1), 1, .inr (.inl (vp_updL fo 0 ((x : Int32).toInt64)))))] ∧ inR x 1 96 = true) ∨ (v = some (.int 1) ∧ w = [(o3, .inl ((g.2.2.1 1), 1, .inr (.inl fo)))] ∧ inR x 1 96 = false)) (fun _ _ => False) := by
  refine kbodyH (by decide) (Nat.le_of_ble_eq_true rfl) ?_
  intro p e s m args below meth c A H K ht G hP hD hA hS ls hl
  have K : KB p s m meth c RL "pass" method_9_code 4 (some .int) := K
  obtain ⟨hx, hb, hml, hown, hlocks, hr, hin⟩ := id K
  have hl : lv_has ls 4 [(0, .ref h0), (1, .int x), (2, .ref o3)] := hl
  refine lv_aload_n hx hb dL_pass_0 rfl (lv_at hl 2 rfl) ?_
  refine lv_iconst (v := 0) hx hb dL_pass_1 (by decide) ?_
  refine lv_aload_n hx hb dL_pass_2 rfl (lv_at hl 0 rfl) ?_
  refine lv_iload_n hx hb dL_pass_3 rfl (lv_at hl 1 rfl) ?_
  refine kcallV (wc := [(h0, .inr (15, [.ref a1, .ref a2, .ref a3, .ref a4, .ref a5, .int 0, .int wf, .int ww, .int te, .int tn, .int mo])), (a2, .inr (3, [.int 0, .ref g.2.1, .int 0])), (a3, .inr (3, [.int 0, .ref g.2.1, .int 0])), (a4, .inr (3, [.int 0, .ref g.2.1, .int 0]))]) (wr := [(o3, .inl ((g.2.2.1 1), 1, .inr (.inl fo)))]) (As := [.int x]) (rest := [.int 0, .ref o3]) K G (m_X11_pass l hl0 g h0 a1 a2 a3 a4 a5 wf ww te tn mo x ) hP hD hS hA hl kw_448 kw_449 kw_450 kw_451 kw_4 ydX11_pass [0, 1, 2, 3] [4] rfl rfl rfl rfl (by decide) (ci := 15) (q0 := 0) rfl rfl rfl rfl rfl (Nat.le_of_ble_eq_true rfl) dL_pass_4 ⟨Nat.le_of_ble_eq_true rfl, Nat.le_of_ble_eq_true rfl⟩ ⟨Nat.le_of_ble_eq_true rfl, Nat.le_of_ble_eq_true rfl⟩ (fun E w1 ce q9 H locs hX hP hD hS hce hcv hcl => ?_) (fun v w1 H locs hQ hP hD hS => ?_)
  · obtain ⟨rfl, rfl, f_2⟩ := hX
    have hP : va_P g.1 vwCl [(o3, .inl ((g.2.2.1 1), 1, .inr (.inl fo)))] H := hP
    have hD : va_D A [(o3, .inl ((g.2.2.1 1), 1, .inr (.inl fo)))] := hD
    refine vx_widen (k := 1) (n := 6) (by decide) (by decide) ?_
    refine vx_catch (name := "java/lang/IllegalArgumentException") hown [] { startPc := 0, endPc := 9, handlerPc := 12, catchType := 13 } [] (ht.trans rfl) (fun z hz => absurd hz List.not_mem_nil) rfl (by decide) (G.w kw_424) (G.w kw_425) hce hcv hcl ?_
    refine W.eq (g2 := F0 m 12 ls [.ref q9]) rfl ?_
    refine lv_astore_n (lv' := [(3, .ref q9), (0, .ref h0), (1, .int x), (2, .ref o3)]) hx hb dL_pass_12 rfl hl (by decide) rfl (fun ls hl => ?_)
    refine lv_iconst (v := 1) hx hb dL_pass_13 (by decide) ?_
    exact kretI K hP hD hS [0] [(o3, .inl ((g.2.2.1 1), 1, .inr (.inl fo)))] rfl rfl (Or.inr (⟨rfl, rfl, (by exact f_2)⟩)) (by decide) (by decide) dL_pass_14
  · obtain ⟨rfl, rfl, f_3⟩ := hQ
    have hP : va_P g.1 vwCl [(o3, .inl ((g.2.2.1 1), 1, .inr (.inl fo)))] H := hP
    have hD : va_D A [(o3, .inl ((g.2.2.1 1), 1, .inr (.inl fo)))] := hD
    refine W.widen (k := 1) (n := 6) (by decide) (by decide) ?_
    refine W.eq (g2 := F0 m 7 ls [.int x, .int 0, .ref o3]) rfl ?_
    refine lv_i2l (v := (x : Int32).toInt64) hx hb dL_pass_7 rfl ?_
    refine va_last hx hb G.K hP hD hS 0 1 rfl rfl (i := 0) (vp_in_iff.mpr ⟨by decide, by decide⟩) dL_pass_8 (fun H locs hP hD hS => ?_)
    have hP : va_P g.1 vwCl [(o3, .inl ((g.2.2.1 1), 1, .inr (.inl (vp_updL fo 0 ((x : Int32).toInt64)))))] H := hP
    have hD : va_D A [(o3, .inl ((g.2.2.1 1), 1, .inr (.inl (vp_updL fo 0 ((x : Int32).toInt64)))))] := hD
    refine lv_goto (tgt := 15) hx hb dL_pass_9 (by decide) ?_
    refine lv_iconst (v := 0) hx hb dL_pass_15 (by decide) ?_
    exact kretI K hP hD hS [0] [(o3, .inl ((g.2.2.1 1), 1, .inr (.inl (vp_updL fo 0 ((x : Int32).toInt64)))))] rfl rfl (Or.inl ⟨rfl, rfl, (by exact f_3)⟩) (by decide) (by decide) dL_pass_16

set_option maxHeartbeats 4000000 in
set_option maxRecDepth 100000 in
theorem m_L_addShip (l : Launch) (hl0 : l.stackTraces = false) (g : kG) (h0 : Nat) (a1 : Nat) (a2 : Nat) (a3 : Nat) (a4 : Nat) (a5 : Nat) (k0 : Nat) (r0 : Nat) (b1 : Nat) (b2 : Nat) (b3 : Nat) (b4 : Nat) (b5 : Nat) (b6 : Nat) (b7 : Nat) (b8 : Nat) (b9 : Nat) (b10 : Nat) (x0 : Int32) (x1 : Int32) (o3 : Nat) (fo : Nat → Int64)  : kcH l g yL_addShip method_10_code 5 (some .int) [(0, 10, 13, 13), (0, 10, 17, 15)] 9 147 9 77 [.ref h0, .int x0, .int x1, .ref o3] [(h0, .inr (15, [.ref a1, .ref a2, .ref a3, .ref a4, .ref a5, .int 0, .int 0, .int 110, .int 0, .int 0, .int 0])), (a1, .inr (3, [.int 0, .ref g.2.1, .int 0])), (a2, .inr (3, [.int 0, .ref g.2.1, .int 0])), (a3, .inr (3, [.int 0, .ref g.2.1, .int 0])), (a4, .inr (3, [.int 0, .ref g.2.1, .int 0])), (a5, .inr (5, [.ref k0, .ref r0, .ref b1, .ref b2, .ref b3, .ref b4, .ref b5, .int 0])), (k0, .inr (7, [.ref b6, .ref b7, .ref b8, .ref b9, .ref b10, .int 0, .int 0])), (r0, .inr (3, [.int 0, .ref g.2.1, .int 0])), (o3, .inl ((g.2.2.1 1), 1, .inr (.inl fo)))] (fun v w => (v = some (.int 0) ∧ w = [(o3, .inl ((g.2.2.1 1), 1, .inr (.inl (vp_updL fo 0 0))))] ∧ (inR x0 (-999) 999 && inR x1 (-999) 999) = true) ∨ (v = some (.int 1) ∧ w = [(o3, .inl ((g.2.2.1 1), 1, .inr (.inl fo)))] ∧ (inR x0 (-999) 999 && inR x1 (-999) 999) = false)) (fun _ _ => False) := by
  refine kbodyH (by decide) (Nat.le_of_ble_eq_true rfl) ?_
  intro p e s m args below meth c A H K ht G hP hD hA hS ls hl
  have K : KB p s m meth c RL "addShip" method_10_code 5 (some .int) := K
  obtain ⟨hx, hb, hml, hown, hlocks, hr, hin⟩ := id K
  have hl : lv_has ls 5 [(0, .ref h0), (1, .int x0), (2, .int x1), (3, .ref o3)] := hl
  refine lv_aload_n hx hb dL_addShip_0 rfl (lv_at hl 3 rfl) ?_
  refine lv_iconst (v := 0) hx hb dL_addShip_1 (by decide) ?_
  refine lv_aload_n hx hb dL_addShip_2 rfl (lv_at hl 0 rfl) ?_
  refine lv_iload_n hx hb dL_addShip_3 rfl (lv_at hl 1 rfl) ?_
  refine lv_iload_n hx hb dL_addShip_4 rfl (lv_at hl 2 rfl) ?_
  refine kcallV (wc := [(h0, .inr (15, [.ref a1, .ref a2, .ref a3, .ref a4, .ref a5, .int 0, .int 0, .int 110, .int 0, .int 0, .int 0])), (a1, .inr (3, [.int 0, .ref g.2.1, .int 0])), (a2, .inr (3, [.int 0, .ref g.2.1, .int 0])), (a3, .inr (3, [.int 0, .ref g.2.1, .int 0])), (a4, .inr (3, [.int 0, .ref g.2.1, .int 0])), (a5, .inr (5, [.ref k0, .ref r0, .ref b1, .ref b2, .ref b3, .ref b4, .ref b5, .int 0])), (k0, .inr (7, [.ref b6, .ref b7, .ref b8, .ref b9, .ref b10, .int 0, .int 0])), (r0, .inr (3, [.int 0, .ref g.2.1, .int 0]))]) (wr := [(o3, .inl ((g.2.2.1 1), 1, .inr (.inl fo)))]) (As := [.int x0, .int x1]) (rest := [.int 0, .ref o3]) K G (m_X11_addShip l hl0 g h0 a1 a2 a3 a4 a5 k0 r0 b1 b2 b3 b4 b5 b6 b7 b8 b9 b10 x0 x1 ) hP hD hS hA hl kw_452 kw_453 kw_454 kw_455 kw_4 ydX11_addShip [0, 1, 2, 3, 4, 5, 6, 7] [8] rfl rfl rfl rfl (by decide) (ci := 15) (q0 := 0) rfl rfl rfl rfl rfl (Nat.le_of_ble_eq_true rfl) dL_addShip_5 ⟨Nat.le_of_ble_eq_true rfl, Nat.le_of_ble_eq_true rfl⟩ ⟨Nat.le_of_ble_eq_true rfl, Nat.le_of_ble_eq_true rfl⟩ (fun E w1 ce q9 H locs hX hP hD hS hce hcv hcl => ?_) (fun v w1 H locs hQ hP hD hS => ?_)
  · obtain ⟨rfl, rfl, f_2⟩ := hX
    have hP : va_P g.1 vwCl [(o3, .inl ((g.2.2.1 1), 1, .inr (.inl fo)))] H := hP
    have hD : va_D A [(o3, .inl ((g.2.2.1 1), 1, .inr (.inl fo)))] := hD
    refine vx_widen (k := 9) (n := 77) (by decide) (by decide) ?_
    refine vx_catch (name := "java/lang/IllegalArgumentException") hown [] { startPc := 0, endPc := 10, handlerPc := 13, catchType := 13 } [{ startPc := 0, endPc := 10, handlerPc := 17, catchType := 15 }] (ht.trans rfl) (fun z hz => absurd hz List.not_mem_nil) rfl (by decide) (G.w kw_424) (G.w kw_425) hce hcv hcl ?_
    refine W.eq (g2 := F0 m 13 ls [.ref q9]) rfl ?_
    refine lv_astore (lv' := [(4, .ref q9), (0, .ref h0), (1, .int x0), (2, .int x1), (3, .ref o3)]) hx hb dL_addShip_13 hl (by decide) rfl (fun ls hl => ?_)
    refine lv_iconst (v := 1) hx hb dL_addShip_15 (by decide) ?_
    exact kretI K hP hD hS [0] [(o3, .inl ((g.2.2.1 1), 1, .inr (.inl fo)))] rfl rfl (Or.inr (⟨rfl, rfl, (by exact f_2)⟩)) (by decide) (by decide) dL_addShip_16
  · obtain ⟨rfl, rfl, f_3⟩ := hQ
    have hP : va_P g.1 vwCl [(o3, .inl ((g.2.2.1 1), 1, .inr (.inl fo)))] H := hP
    have hD : va_D A [(o3, .inl ((g.2.2.1 1), 1, .inr (.inl fo)))] := hD
    refine W.widen (k := 9) (n := 77) (by decide) (by decide) ?_
    refine W.eq (g2 := F0 m 8 ls [.int 0, .int 0, .ref o3]) rfl ?_
    refine lv_i2l (v := 0) hx hb dL_addShip_8 (by decide) ?_
    refine va_last hx hb G.K hP hD hS 0 1 rfl rfl (i := 0) (vp_in_iff.mpr ⟨by decide, by decide⟩) dL_addShip_9 (fun H locs hP hD hS => ?_)
    have hP : va_P g.1 vwCl [(o3, .inl ((g.2.2.1 1), 1, .inr (.inl (vp_updL fo 0 0))))] H := hP
    have hD : va_D A [(o3, .inl ((g.2.2.1 1), 1, .inr (.inl (vp_updL fo 0 0))))] := hD
    refine lv_goto (tgt := 21) hx hb dL_addShip_10 (by decide) ?_
    refine lv_iconst (v := 0) hx hb dL_addShip_21 (by decide) ?_
    exact kretI K hP hD hS [0] [(o3, .inl ((g.2.2.1 1), 1, .inr (.inl (vp_updL fo 0 0))))] rfl rfl (Or.inl ⟨rfl, rfl, (by exact f_3)⟩) (by decide) (by decide) dL_addShip_22

set_option maxHeartbeats 4000000 in
set_option maxRecDepth 100000 in
theorem m_L_getPlace (l : Launch) (hl0 : l.stackTraces = false) (g : kG) (h0 : Nat) (a1 : Nat) (a2 : Nat) (a3 : Nat) (a4 : Nat) (a5 : Nat) (tt : Int32) (wf : Int32) (ww : Int32) (te : Int32) (tn : Int32) (mo : Int32) (x0 : Int32) (x1 : Int32) (o3 : Nat) (fo : Nat → Int64)  : kcH l g yL_getPlace method_11_code 5 (some .int) [(0, 10, 13, 21)] 9 147 1 6 [.ref h0, .int x0, .int x1, .ref o3] [(h0, .inr (15, [.ref a1, .ref a2, .ref a3, .ref a4, .ref a5, .int tt, .int wf, .int ww, .int te, .int tn, .int mo])), (a3, .inr (3, [.int 0, .ref g.2.1, .int 0])), (o3, .inl ((g.2.2.1 1), 1, .inr (.inl fo)))] (fun v w => (v = some (.int 1) ∧ w = [(o3, .inl ((g.2.2.1 1), 1, .inr (.inl fo)))])) (fun _ _ => False) := by
  refine kbodyH (by decide) (Nat.le_of_ble_eq_true rfl) ?_
  intro p e s m args below meth c A H K ht G hP hD hA hS ls hl
  have K : KB p s m meth c RL "getPlace" method_11_code 5 (some .int) := K
  obtain ⟨hx, hb, hml, hown, hlocks, hr, hin⟩ := id K
  have hl : lv_has ls 5 [(0, .ref h0), (1, .int x0), (2, .int x1), (3, .ref o3)] := hl
  refine lv_aload_n hx hb dL_getPlace_0 rfl (lv_at hl 3 rfl) ?_
  refine lv_iconst (v := 0) hx hb dL_getPlace_1 (by decide) ?_
  refine lv_aload_n hx hb dL_getPlace_2 rfl (lv_at hl 0 rfl) ?_
  refine lv_iload_n hx hb dL_getPlace_3 rfl (lv_at hl 1 rfl) ?_
  refine lv_iload_n hx hb dL_getPlace_4 rfl (lv_at hl 2 rfl) ?_
  refine kcallV (wc := [(h0, .inr (15, [.ref a1, .ref a2, .ref a3, .ref a4, .ref a5, .int tt, .int wf, .int ww, .int te, .int tn, .int mo])), (a3, .inr (3, [.int 0, .ref g.2.1, .int 0]))]) (wr := [(o3, .inl ((g.2.2.1 1), 1, .inr (.inl fo)))]) (As := [.int x0, .int x1]) (rest := [.int 0, .ref o3]) K G (m_X11_getPlace l hl0 g h0 a1 a2 a3 a4 a5 tt wf ww te tn mo x0 x1 ) hP hD hS hA hl kw_456 kw_457 kw_458 kw_459 kw_4 ydX11_getPlace [0, 1] [2] rfl rfl rfl rfl (by decide) (ci := 15) (q0 := 0) rfl rfl rfl rfl rfl (Nat.le_of_ble_eq_true rfl) dL_getPlace_5 ⟨Nat.le_of_ble_eq_true rfl, Nat.le_of_ble_eq_true rfl⟩ ⟨Nat.le_of_ble_eq_true rfl, Nat.le_of_ble_eq_true rfl⟩ (fun E w1 ce q9 H locs hX hP hD hS hce hcv hcl => ?_) (fun _ _ _ _ hQ _ _ _ => hQ.elim)
  obtain ⟨rfl, rfl⟩ := hX
  have hP : va_P g.1 vwCl [(o3, .inl ((g.2.2.1 1), 1, .inr (.inl fo)))] H := hP
  have hD : va_D A [(o3, .inl ((g.2.2.1 1), 1, .inr (.inl fo)))] := hD
  refine vx_widen (k := 1) (n := 6) (by decide) (by decide) ?_
  refine vx_catch (name := "java/lang/IndexOutOfBoundsException") hown [] { startPc := 0, endPc := 10, handlerPc := 13, catchType := 21 } [] (ht.trans rfl) (fun z hz => absurd hz List.not_mem_nil) rfl (by decide) (G.w kw_430) (G.w kw_431) hce hcv hcl ?_
  refine W.eq (g2 := F0 m 13 ls [.ref q9]) rfl ?_
  refine lv_astore (lv' := [(4, .ref q9), (0, .ref h0), (1, .int x0), (2, .int x1), (3, .ref o3)]) hx hb dL_getPlace_13 hl (by decide) rfl (fun ls hl => ?_)
  refine lv_iconst (v := 1) hx hb dL_getPlace_15 (by decide) ?_
  exact kretI K hP hD hS [0] [(o3, .inl ((g.2.2.1 1), 1, .inr (.inl fo)))] rfl rfl (⟨rfl, rfl⟩) (by decide) (by decide) dL_getPlace_16

set_option maxHeartbeats 4000000 in
set_option maxRecDepth 100000 in
theorem m_L_getInside (l : Launch) (hl0 : l.stackTraces = false) (g : kG) (h0 : Nat) (a1 : Nat) (a2 : Nat) (a3 : Nat) (a4 : Nat) (a5 : Nat) (tt : Int32) (wf : Int32) (ww : Int32) (te : Int32) (tn : Int32) (mo : Int32) (x0 : Int32) (o3 : Nat) (fo : Nat → Int64)  : kcH l g yL_getInside method_12_code 4 (some .int) [(0, 9, 12, 21)] 9 145 1 6 [.ref h0, .int x0, .ref o3] [(h0, .inr (15, [.ref a1, .ref a2, .ref a3, .ref a4, .ref a5, .int tt, .int wf, .int ww, .int te, .int tn, .int mo])), (a3, .inr (3, [.int 0, .ref g.2.1, .int 0])), (o3, .inl ((g.2.2.1 1), 1, .inr (.inl fo)))] (fun v w => (v = some (.int 1) ∧ w = [(o3, .inl ((g.2.2.1 1), 1, .inr (.inl fo)))])) (fun _ _ => False) := by
  refine kbodyH (by decide) (Nat.le_of_ble_eq_true rfl) ?_
  intro p e s m args below meth c A H K ht G hP hD hA hS ls hl
  have K : KB p s m meth c RL "getInside" method_12_code 4 (some .int) := K
  obtain ⟨hx, hb, hml, hown, hlocks, hr, hin⟩ := id K
  have hl : lv_has ls 4 [(0, .ref h0), (1, .int x0), (2, .ref o3)] := hl
  refine lv_aload_n hx hb dL_getInside_0 rfl (lv_at hl 2 rfl) ?_
  refine lv_iconst (v := 0) hx hb dL_getInside_1 (by decide) ?_
  refine lv_aload_n hx hb dL_getInside_2 rfl (lv_at hl 0 rfl) ?_
  refine lv_iload_n hx hb dL_getInside_3 rfl (lv_at hl 1 rfl) ?_
  refine kcallV (wc := [(h0, .inr (15, [.ref a1, .ref a2, .ref a3, .ref a4, .ref a5, .int tt, .int wf, .int ww, .int te, .int tn, .int mo])), (a3, .inr (3, [.int 0, .ref g.2.1, .int 0]))]) (wr := [(o3, .inl ((g.2.2.1 1), 1, .inr (.inl fo)))]) (As := [.int x0]) (rest := [.int 0, .ref o3]) K G (m_X11_getInside l hl0 g h0 a1 a2 a3 a4 a5 tt wf ww te tn mo x0 ) hP hD hS hA hl kw_460 kw_461 kw_462 kw_463 kw_4 ydX11_getInside [0, 1] [2] rfl rfl rfl rfl (by decide) (ci := 15) (q0 := 0) rfl rfl rfl rfl rfl (Nat.le_of_ble_eq_true rfl) dL_getInside_4 ⟨Nat.le_of_ble_eq_true rfl, Nat.le_of_ble_eq_true rfl⟩ ⟨Nat.le_of_ble_eq_true rfl, Nat.le_of_ble_eq_true rfl⟩ (fun E w1 ce q9 H locs hX hP hD hS hce hcv hcl => ?_) (fun _ _ _ _ hQ _ _ _ => hQ.elim)
  obtain ⟨rfl, rfl⟩ := hX
  have hP : va_P g.1 vwCl [(o3, .inl ((g.2.2.1 1), 1, .inr (.inl fo)))] H := hP
  have hD : va_D A [(o3, .inl ((g.2.2.1 1), 1, .inr (.inl fo)))] := hD
  refine vx_widen (k := 1) (n := 6) (by decide) (by decide) ?_
  refine vx_catch (name := "java/lang/IndexOutOfBoundsException") hown [] { startPc := 0, endPc := 9, handlerPc := 12, catchType := 21 } [] (ht.trans rfl) (fun z hz => absurd hz List.not_mem_nil) rfl (by decide) (G.w kw_430) (G.w kw_431) hce hcv hcl ?_
  refine W.eq (g2 := F0 m 12 ls [.ref q9]) rfl ?_
  refine lv_astore_n (lv' := [(3, .ref q9), (0, .ref h0), (1, .int x0), (2, .ref o3)]) hx hb dL_getInside_12 rfl hl (by decide) rfl (fun ls hl => ?_)
  refine lv_iconst (v := 1) hx hb dL_getInside_13 (by decide) ?_
  exact kretI K hP hD hS [0] [(o3, .inl ((g.2.2.1 1), 1, .inr (.inl fo)))] rfl rfl (⟨rfl, rfl⟩) (by decide) (by decide) dL_getInside_14

set_option maxHeartbeats 4000000 in
set_option maxRecDepth 100000 in
theorem m_L_anchor (l : Launch) (hl0 : l.stackTraces = false) (g : kG) (h0 : Nat) (a1 : Nat) (a2 : Nat) (a3 : Nat) (a4 : Nat) (a5 : Nat) (tt : Int32) (wf : Int32) (ww : Int32) (te : Int32) (tn : Int32) (mo : Int32) (x0 : Int32) (x1 : Int32) (o3 : Nat) (fo : Nat → Int64)  : kcH l g yL_anchor method_13_code 5 (some .int) [(0, 10, 13, 21), (0, 10, 17, 13), (0, 10, 21, 54)] 9 148 1 6 [.ref h0, .int x0, .int x1, .ref o3] [(h0, .inr (15, [.ref a1, .ref a2, .ref a3, .ref a4, .ref a5, .int tt, .int wf, .int ww, .int te, .int tn, .int mo])), (a3, .inr (3, [.int 0, .ref g.2.1, .int 0])), (o3, .inl ((g.2.2.1 1), 1, .inr (.inl fo)))] (fun v w => (v = some (.int 1) ∧ w = [(o3, .inl ((g.2.2.1 1), 1, .inr (.inl fo)))])) (fun _ _ => False) := by
  refine kbodyH (by decide) (Nat.le_of_ble_eq_true rfl) ?_
  intro p e s m args below meth c A H K ht G hP hD hA hS ls hl
  have K : KB p s m meth c RL "anchor" method_13_code 5 (some .int) := K
  obtain ⟨hx, hb, hml, hown, hlocks, hr, hin⟩ := id K
  have hl : lv_has ls 5 [(0, .ref h0), (1, .int x0), (2, .int x1), (3, .ref o3)] := hl
  refine lv_aload_n hx hb dL_anchor_0 rfl (lv_at hl 3 rfl) ?_
  refine lv_iconst (v := 0) hx hb dL_anchor_1 (by decide) ?_
  refine lv_aload_n hx hb dL_anchor_2 rfl (lv_at hl 0 rfl) ?_
  refine lv_iload_n hx hb dL_anchor_3 rfl (lv_at hl 1 rfl) ?_
  refine lv_iload_n hx hb dL_anchor_4 rfl (lv_at hl 2 rfl) ?_
  refine kcallV (wc := [(h0, .inr (15, [.ref a1, .ref a2, .ref a3, .ref a4, .ref a5, .int tt, .int wf, .int ww, .int te, .int tn, .int mo])), (a3, .inr (3, [.int 0, .ref g.2.1, .int 0]))]) (wr := [(o3, .inl ((g.2.2.1 1), 1, .inr (.inl fo)))]) (As := [.int x0, .int x1]) (rest := [.int 0, .ref o3]) K G (m_X11_anchor l hl0 g h0 a1 a2 a3 a4 a5 tt wf ww te tn mo x0 x1 ) hP hD hS hA hl kw_464 kw_465 kw_466 kw_467 kw_4 ydX11_anchor [0, 1] [2] rfl rfl rfl rfl (by decide) (ci := 15) (q0 := 0) rfl rfl rfl rfl rfl (Nat.le_of_ble_eq_true rfl) dL_anchor_5 ⟨Nat.le_of_ble_eq_true rfl, Nat.le_of_ble_eq_true rfl⟩ ⟨Nat.le_of_ble_eq_true rfl, Nat.le_of_ble_eq_true rfl⟩ (fun E w1 ce q9 H locs hX hP hD hS hce hcv hcl => ?_) (fun _ _ _ _ hQ _ _ _ => hQ.elim)
  obtain ⟨rfl, rfl⟩ := hX
  have hP : va_P g.1 vwCl [(o3, .inl ((g.2.2.1 1), 1, .inr (.inl fo)))] H := hP
  have hD : va_D A [(o3, .inl ((g.2.2.1 1), 1, .inr (.inl fo)))] := hD
  refine vx_widen (k := 1) (n := 6) (by decide) (by decide) ?_
  refine vx_catch (name := "java/lang/IndexOutOfBoundsException") hown [] { startPc := 0, endPc := 10, handlerPc := 13, catchType := 21 } [{ startPc := 0, endPc := 10, handlerPc := 17, catchType := 13 }, { startPc := 0, endPc := 10, handlerPc := 21, catchType := 54 }] (ht.trans rfl) (fun z hz => absurd hz List.not_mem_nil) rfl (by decide) (G.w kw_430) (G.w kw_431) hce hcv hcl ?_
  refine W.eq (g2 := F0 m 13 ls [.ref q9]) rfl ?_
  refine lv_astore (lv' := [(4, .ref q9), (0, .ref h0), (1, .int x0), (2, .int x1), (3, .ref o3)]) hx hb dL_anchor_13 hl (by decide) rfl (fun ls hl => ?_)
  refine lv_iconst (v := 1) hx hb dL_anchor_15 (by decide) ?_
  exact kretI K hP hD hS [0] [(o3, .inl ((g.2.2.1 1), 1, .inr (.inl fo)))] rfl rfl (⟨rfl, rfl⟩) (by decide) (by decide) dL_anchor_16

set_option maxHeartbeats 4000000 in
set_option maxRecDepth 100000 in
theorem m_L_weigh (l : Launch) (hl0 : l.stackTraces = false) (g : kG) (h0 : Nat) (a1 : Nat) (a2 : Nat) (a3 : Nat) (a4 : Nat) (a5 : Nat) (tt : Int32) (wf : Int32) (ww : Int32) (te : Int32) (tn : Int32) (mo : Int32) (x0 : Int32) (o3 : Nat) (fo : Nat → Int64)  : kcH l g yL_weigh method_14_code 4 (some .int) [(0, 9, 12, 21), (0, 9, 15, 54)] 9 146 1 6 [.ref h0, .int x0, .ref o3] [(h0, .inr (15, [.ref a1, .ref a2, .ref a3, .ref a4, .ref a5, .int tt, .int wf, .int ww, .int te, .int tn, .int mo])), (a3, .inr (3, [.int 0, .ref g.2.1, .int 0])), (o3, .inl ((g.2.2.1 1), 1, .inr (.inl fo)))] (fun v w => (v = some (.int 1) ∧ w = [(o3, .inl ((g.2.2.1 1), 1, .inr (.inl fo)))])) (fun _ _ => False) := by
  refine kbodyH (by decide) (Nat.le_of_ble_eq_true rfl) ?_
  intro p e s m args below meth c A H K ht G hP hD hA hS ls hl
  have K : KB p s m meth c RL "weigh" method_14_code 4 (some .int) := K
  obtain ⟨hx, hb, hml, hown, hlocks, hr, hin⟩ := id K
  have hl : lv_has ls 4 [(0, .ref h0), (1, .int x0), (2, .ref o3)] := hl
  refine lv_aload_n hx hb dL_weigh_0 rfl (lv_at hl 2 rfl) ?_
  refine lv_iconst (v := 0) hx hb dL_weigh_1 (by decide) ?_
  refine lv_aload_n hx hb dL_weigh_2 rfl (lv_at hl 0 rfl) ?_
  refine lv_iload_n hx hb dL_weigh_3 rfl (lv_at hl 1 rfl) ?_
  refine kcallV (wc := [(h0, .inr (15, [.ref a1, .ref a2, .ref a3, .ref a4, .ref a5, .int tt, .int wf, .int ww, .int te, .int tn, .int mo])), (a3, .inr (3, [.int 0, .ref g.2.1, .int 0]))]) (wr := [(o3, .inl ((g.2.2.1 1), 1, .inr (.inl fo)))]) (As := [.int x0]) (rest := [.int 0, .ref o3]) K G (m_X11_weigh l hl0 g h0 a1 a2 a3 a4 a5 tt wf ww te tn mo x0 ) hP hD hS hA hl kw_468 kw_469 kw_470 kw_471 kw_4 ydX11_weigh [0, 1] [2] rfl rfl rfl rfl (by decide) (ci := 15) (q0 := 0) rfl rfl rfl rfl rfl (Nat.le_of_ble_eq_true rfl) dL_weigh_4 ⟨Nat.le_of_ble_eq_true rfl, Nat.le_of_ble_eq_true rfl⟩ ⟨Nat.le_of_ble_eq_true rfl, Nat.le_of_ble_eq_true rfl⟩ (fun E w1 ce q9 H locs hX hP hD hS hce hcv hcl => ?_) (fun _ _ _ _ hQ _ _ _ => hQ.elim)
  obtain ⟨rfl, rfl⟩ := hX
  have hP : va_P g.1 vwCl [(o3, .inl ((g.2.2.1 1), 1, .inr (.inl fo)))] H := hP
  have hD : va_D A [(o3, .inl ((g.2.2.1 1), 1, .inr (.inl fo)))] := hD
  refine vx_widen (k := 1) (n := 6) (by decide) (by decide) ?_
  refine vx_catch (name := "java/lang/IndexOutOfBoundsException") hown [] { startPc := 0, endPc := 9, handlerPc := 12, catchType := 21 } [{ startPc := 0, endPc := 9, handlerPc := 15, catchType := 54 }] (ht.trans rfl) (fun z hz => absurd hz List.not_mem_nil) rfl (by decide) (G.w kw_430) (G.w kw_431) hce hcv hcl ?_
  refine W.eq (g2 := F0 m 12 ls [.ref q9]) rfl ?_
  refine lv_astore_n (lv' := [(3, .ref q9), (0, .ref h0), (1, .int x0), (2, .ref o3)]) hx hb dL_weigh_12 rfl hl (by decide) rfl (fun ls hl => ?_)
  refine lv_iconst (v := 1) hx hb dL_weigh_13 (by decide) ?_
  exact kretI K hP hD hS [0] [(o3, .inl ((g.2.2.1 1), 1, .inr (.inl fo)))] rfl rfl (⟨rfl, rfl⟩) (by decide) (by decide) dL_weigh_14

set_option maxHeartbeats 4000000 in
set_option maxRecDepth 100000 in
theorem m_L_isAground (l : Launch) (hl0 : l.stackTraces = false) (g : kG) (h0 : Nat) (a1 : Nat) (a2 : Nat) (a3 : Nat) (a4 : Nat) (a5 : Nat) (tt : Int32) (wf : Int32) (ww : Int32) (te : Int32) (tn : Int32) (mo : Int32) (x0 : Int32) (o3 : Nat) (fo : Nat → Int64)  : kcH l g yL_isAground method_15_code 4 (some .int) [(0, 16, 19, 21)] 9 145 1 6 [.ref h0, .int x0, .ref o3] [(h0, .inr (15, [.ref a1, .ref a2, .ref a3, .ref a4, .ref a5, .int tt, .int wf, .int ww, .int te, .int tn, .int mo])), (a3, .inr (3, [.int 0, .ref g.2.1, .int 0])), (o3, .inl ((g.2.2.1 1), 1, .inr (.inl fo)))] (fun v w => (v = some (.int 1) ∧ w = [(o3, .inl ((g.2.2.1 1), 1, .inr (.inl fo)))])) (fun _ _ => False) := by
  refine kbodyH (by decide) (Nat.le_of_ble_eq_true rfl) ?_
  intro p e s m args below meth c A H K ht G hP hD hA hS ls hl
  have K : KB p s m meth c RL "isAground" method_15_code 4 (some .int) := K
  obtain ⟨hx, hb, hml, hown, hlocks, hr, hin⟩ := id K
  have hl : lv_has ls 4 [(0, .ref h0), (1, .int x0), (2, .ref o3)] := hl
  refine lv_aload_n hx hb dL_isAground_0 rfl (lv_at hl 2 rfl) ?_
  refine lv_iconst (v := 0) hx hb dL_isAground_1 (by decide) ?_
  refine lv_aload_n hx hb dL_isAground_2 rfl (lv_at hl 0 rfl) ?_
  refine lv_iload_n hx hb dL_isAground_3 rfl (lv_at hl 1 rfl) ?_
  refine kcallV (wc := [(h0, .inr (15, [.ref a1, .ref a2, .ref a3, .ref a4, .ref a5, .int tt, .int wf, .int ww, .int te, .int tn, .int mo])), (a3, .inr (3, [.int 0, .ref g.2.1, .int 0]))]) (wr := [(o3, .inl ((g.2.2.1 1), 1, .inr (.inl fo)))]) (As := [.int x0]) (rest := [.int 0, .ref o3]) K G (m_X11_isAground l hl0 g h0 a1 a2 a3 a4 a5 tt wf ww te tn mo x0 ) hP hD hS hA hl kw_472 kw_473 kw_474 kw_475 kw_4 ydX11_isAground [0, 1] [2] rfl rfl rfl rfl (by decide) (ci := 15) (q0 := 0) rfl rfl rfl rfl rfl (Nat.le_of_ble_eq_true rfl) dL_isAground_4 ⟨Nat.le_of_ble_eq_true rfl, Nat.le_of_ble_eq_true rfl⟩ ⟨Nat.le_of_ble_eq_true rfl, Nat.le_of_ble_eq_true rfl⟩ (fun E w1 ce q9 H locs hX hP hD hS hce hcv hcl => ?_) (fun _ _ _ _ hQ _ _ _ => hQ.elim)
  obtain ⟨rfl, rfl⟩ := hX
  have hP : va_P g.1 vwCl [(o3, .inl ((g.2.2.1 1), 1, .inr (.inl fo)))] H := hP
  have hD : va_D A [(o3, .inl ((g.2.2.1 1), 1, .inr (.inl fo)))] := hD
  refine vx_widen (k := 1) (n := 6) (by decide) (by decide) ?_
  refine vx_catch (name := "java/lang/IndexOutOfBoundsException") hown [] { startPc := 0, endPc := 16, handlerPc := 19, catchType := 21 } [] (ht.trans rfl) (fun z hz => absurd hz List.not_mem_nil) rfl (by decide) (G.w kw_430) (G.w kw_431) hce hcv hcl ?_
  refine W.eq (g2 := F0 m 19 ls [.ref q9]) rfl ?_
  refine lv_astore_n (lv' := [(3, .ref q9), (0, .ref h0), (1, .int x0), (2, .ref o3)]) hx hb dL_isAground_19 rfl hl (by decide) rfl (fun ls hl => ?_)
  refine lv_iconst (v := 1) hx hb dL_isAground_20 (by decide) ?_
  exact kretI K hP hD hS [0] [(o3, .inl ((g.2.2.1 1), 1, .inr (.inl fo)))] rfl rfl (⟨rfl, rfl⟩) (by decide) (by decide) dL_isAground_21

set_option maxHeartbeats 4000000 in
set_option maxRecDepth 100000 in
theorem m_L_pullOff (l : Launch) (hl0 : l.stackTraces = false) (g : kG) (h0 : Nat) (a1 : Nat) (a2 : Nat) (a3 : Nat) (a4 : Nat) (a5 : Nat) (tt : Int32) (wf : Int32) (ww : Int32) (te : Int32) (tn : Int32) (mo : Int32) (x0 : Int32) (o3 : Nat) (fo : Nat → Int64)  : kcH l g yL_pullOff method_16_code 4 (some .int) [(0, 9, 12, 21), (0, 9, 15, 54)] 9 146 1 6 [.ref h0, .int x0, .ref o3] [(h0, .inr (15, [.ref a1, .ref a2, .ref a3, .ref a4, .ref a5, .int tt, .int wf, .int ww, .int te, .int tn, .int mo])), (a3, .inr (3, [.int 0, .ref g.2.1, .int 0])), (o3, .inl ((g.2.2.1 1), 1, .inr (.inl fo)))] (fun v w => (v = some (.int 1) ∧ w = [(o3, .inl ((g.2.2.1 1), 1, .inr (.inl fo)))])) (fun _ _ => False) := by
  refine kbodyH (by decide) (Nat.le_of_ble_eq_true rfl) ?_
  intro p e s m args below meth c A H K ht G hP hD hA hS ls hl
  have K : KB p s m meth c RL "pullOff" method_16_code 4 (some .int) := K
  obtain ⟨hx, hb, hml, hown, hlocks, hr, hin⟩ := id K
  have hl : lv_has ls 4 [(0, .ref h0), (1, .int x0), (2, .ref o3)] := hl
  refine lv_aload_n hx hb dL_pullOff_0 rfl (lv_at hl 2 rfl) ?_
  refine lv_iconst (v := 0) hx hb dL_pullOff_1 (by decide) ?_
  refine lv_aload_n hx hb dL_pullOff_2 rfl (lv_at hl 0 rfl) ?_
  refine lv_iload_n hx hb dL_pullOff_3 rfl (lv_at hl 1 rfl) ?_
  refine kcallV (wc := [(h0, .inr (15, [.ref a1, .ref a2, .ref a3, .ref a4, .ref a5, .int tt, .int wf, .int ww, .int te, .int tn, .int mo])), (a3, .inr (3, [.int 0, .ref g.2.1, .int 0]))]) (wr := [(o3, .inl ((g.2.2.1 1), 1, .inr (.inl fo)))]) (As := [.int x0]) (rest := [.int 0, .ref o3]) K G (m_X11_pullOff l hl0 g h0 a1 a2 a3 a4 a5 tt wf ww te tn mo x0 ) hP hD hS hA hl kw_476 kw_477 kw_478 kw_479 kw_4 ydX11_pullOff [0, 1] [2] rfl rfl rfl rfl (by decide) (ci := 15) (q0 := 0) rfl rfl rfl rfl rfl (Nat.le_of_ble_eq_true rfl) dL_pullOff_4 ⟨Nat.le_of_ble_eq_true rfl, Nat.le_of_ble_eq_true rfl⟩ ⟨Nat.le_of_ble_eq_true rfl, Nat.le_of_ble_eq_true rfl⟩ (fun E w1 ce q9 H locs hX hP hD hS hce hcv hcl => ?_) (fun _ _ _ _ hQ _ _ _ => hQ.elim)
  obtain ⟨rfl, rfl⟩ := hX
  have hP : va_P g.1 vwCl [(o3, .inl ((g.2.2.1 1), 1, .inr (.inl fo)))] H := hP
  have hD : va_D A [(o3, .inl ((g.2.2.1 1), 1, .inr (.inl fo)))] := hD
  refine vx_widen (k := 1) (n := 6) (by decide) (by decide) ?_
  refine vx_catch (name := "java/lang/IndexOutOfBoundsException") hown [] { startPc := 0, endPc := 9, handlerPc := 12, catchType := 21 } [{ startPc := 0, endPc := 9, handlerPc := 15, catchType := 54 }] (ht.trans rfl) (fun z hz => absurd hz List.not_mem_nil) rfl (by decide) (G.w kw_430) (G.w kw_431) hce hcv hcl ?_
  refine W.eq (g2 := F0 m 12 ls [.ref q9]) rfl ?_
  refine lv_astore_n (lv' := [(3, .ref q9), (0, .ref h0), (1, .int x0), (2, .ref o3)]) hx hb dL_pullOff_12 rfl hl (by decide) rfl (fun ls hl => ?_)
  refine lv_iconst (v := 1) hx hb dL_pullOff_13 (by decide) ?_
  exact kretI K hP hD hS [0] [(o3, .inl ((g.2.2.1 1), 1, .inr (.inl fo)))] rfl rfl (⟨rfl, rfl⟩) (by decide) (by decide) dL_pullOff_14

set_option maxHeartbeats 4000000 in
set_option maxRecDepth 100000 in
theorem m_L_addGenerator (l : Launch) (hl0 : l.stackTraces = false) (g : kG) (h0 : Nat) (a1 : Nat) (a2 : Nat) (a3 : Nat) (a4 : Nat) (a5 : Nat) (tt : Int32) (wf : Int32) (ww : Int32) (te : Int32) (tn : Int32) (mo : Int32) (x0 : Int32) (x1 : Int32) (x2 : Int32) (o3 : Nat) (fo : Nat → Int64)  : kcH l g yL_addGenerator method_17_code 6 (some .int) [(0, 12, 15, 21), (0, 12, 19, 13), (0, 12, 23, 15)] 9 148 1 6 [.ref h0, .int x0, .int x1, .int x2, .ref o3] [(h0, .inr (15, [.ref a1, .ref a2, .ref a3, .ref a4, .ref a5, .int tt, .int wf, .int ww, .int te, .int tn, .int mo])), (a3, .inr (3, [.int 0, .ref g.2.1, .int 0])), (o3, .inl ((g.2.2.1 1), 1, .inr (.inl fo)))] (fun v w => (v = some (.int 1) ∧ w = [(o3, .inl ((g.2.2.1 1), 1, .inr (.inl fo)))])) (fun _ _ => False) := by
  refine kbodyH (by decide) (Nat.le_of_ble_eq_true rfl) ?_
  intro p e s m args below meth c A H K ht G hP hD hA hS ls hl
  have K : KB p s m meth c RL "addGenerator" method_17_code 6 (some .int) := K
  obtain ⟨hx, hb, hml, hown, hlocks, hr, hin⟩ := id K
  have hl : lv_has ls 6 [(0, .ref h0), (1, .int x0), (2, .int x1), (3, .int x2), (4, .ref o3)] := hl
  refine lv_aload hx hb dL_addGenerator_0 (lv_at hl 4 rfl) ?_
  refine lv_iconst (v := 0) hx hb dL_addGenerator_2 (by decide) ?_
  refine lv_aload_n hx hb dL_addGenerator_3 rfl (lv_at hl 0 rfl) ?_
  refine lv_iload_n hx hb dL_addGenerator_4 rfl (lv_at hl 1 rfl) ?_
  refine lv_iload_n hx hb dL_addGenerator_5 rfl (lv_at hl 2 rfl) ?_
  refine lv_iload_n hx hb dL_addGenerator_6 rfl (lv_at hl 3 rfl) ?_
  refine kcallV (wc := [(h0, .inr (15, [.ref a1, .ref a2, .ref a3, .ref a4, .ref a5, .int tt, .int wf, .int ww, .int te, .int tn, .int mo])), (a3, .inr (3, [.int 0, .ref g.2.1, .int 0]))]) (wr := [(o3, .inl ((g.2.2.1 1), 1, .inr (.inl fo)))]) (As := [.int x0, .int x1, .int x2]) (rest := [.int 0, .ref o3]) K G (m_X11_addGenerator l hl0 g h0 a1 a2 a3 a4 a5 tt wf ww te tn mo x0 x1 x2 ) hP hD hS hA hl kw_480 kw_481 kw_482 kw_483 kw_4 ydX11_addGenerator [0, 1] [2] rfl rfl rfl rfl (by decide) (ci := 15) (q0 := 0) rfl rfl rfl rfl rfl (Nat.le_of_ble_eq_true rfl) dL_addGenerator_7 ⟨Nat.le_of_ble_eq_true rfl, Nat.le_of_ble_eq_true rfl⟩ ⟨Nat.le_of_ble_eq_true rfl, Nat.le_of_ble_eq_true rfl⟩ (fun E w1 ce q9 H locs hX hP hD hS hce hcv hcl => ?_) (fun _ _ _ _ hQ _ _ _ => hQ.elim)
  obtain ⟨rfl, rfl⟩ := hX
  have hP : va_P g.1 vwCl [(o3, .inl ((g.2.2.1 1), 1, .inr (.inl fo)))] H := hP
  have hD : va_D A [(o3, .inl ((g.2.2.1 1), 1, .inr (.inl fo)))] := hD
  refine vx_widen (k := 1) (n := 6) (by decide) (by decide) ?_
  refine vx_catch (name := "java/lang/IndexOutOfBoundsException") hown [] { startPc := 0, endPc := 12, handlerPc := 15, catchType := 21 } [{ startPc := 0, endPc := 12, handlerPc := 19, catchType := 13 }, { startPc := 0, endPc := 12, handlerPc := 23, catchType := 15 }] (ht.trans rfl) (fun z hz => absurd hz List.not_mem_nil) rfl (by decide) (G.w kw_430) (G.w kw_431) hce hcv hcl ?_
  refine W.eq (g2 := F0 m 15 ls [.ref q9]) rfl ?_
  refine lv_astore (lv' := [(5, .ref q9), (0, .ref h0), (1, .int x0), (2, .int x1), (3, .int x2), (4, .ref o3)]) hx hb dL_addGenerator_15 hl (by decide) rfl (fun ls hl => ?_)
  refine lv_iconst (v := 1) hx hb dL_addGenerator_17 (by decide) ?_
  exact kretI K hP hD hS [0] [(o3, .inl ((g.2.2.1 1), 1, .inr (.inl fo)))] rfl rfl (⟨rfl, rfl⟩) (by decide) (by decide) dL_addGenerator_18

set_option maxHeartbeats 4000000 in
set_option maxRecDepth 100000 in
theorem m_L_setGenerator (l : Launch) (hl0 : l.stackTraces = false) (g : kG) (h0 : Nat) (a1 : Nat) (a2 : Nat) (a3 : Nat) (a4 : Nat) (a5 : Nat) (tt : Int32) (wf : Int32) (ww : Int32) (te : Int32) (tn : Int32) (mo : Int32) (x0 : Int32) (x1 : Int32) (x2 : Int32) (o3 : Nat) (fo : Nat → Int64)  : kcH l g yL_setGenerator method_18_code 6 (some .int) [(0, 12, 15, 21)] 9 149 1 6 [.ref h0, .int x0, .int x1, .int x2, .ref o3] [(h0, .inr (15, [.ref a1, .ref a2, .ref a3, .ref a4, .ref a5, .int tt, .int wf, .int ww, .int te, .int tn, .int mo])), (a3, .inr (3, [.int 0, .ref g.2.1, .int 0])), (o3, .inl ((g.2.2.1 1), 1, .inr (.inl fo)))] (fun v w => (v = some (.int 1) ∧ w = [(o3, .inl ((g.2.2.1 1), 1, .inr (.inl fo)))])) (fun _ _ => False) := by
  refine kbodyH (by decide) (Nat.le_of_ble_eq_true rfl) ?_
  intro p e s m args below meth c A H K ht G hP hD hA hS ls hl
  have K : KB p s m meth c RL "setGenerator" method_18_code 6 (some .int) := K
  obtain ⟨hx, hb, hml, hown, hlocks, hr, hin⟩ := id K
  have hl : lv_has ls 6 [(0, .ref h0), (1, .int x0), (2, .int x1), (3, .int x2), (4, .ref o3)] := hl
  refine lv_aload hx hb dL_setGenerator_0 (lv_at hl 4 rfl) ?_
  refine lv_iconst (v := 0) hx hb dL_setGenerator_2 (by decide) ?_
  refine lv_aload_n hx hb dL_setGenerator_3 rfl (lv_at hl 0 rfl) ?_
  refine lv_iload_n hx hb dL_setGenerator_4 rfl (lv_at hl 1 rfl) ?_
  refine lv_iload_n hx hb dL_setGenerator_5 rfl (lv_at hl 2 rfl) ?_
  refine lv_iload_n hx hb dL_setGenerator_6 rfl (lv_at hl 3 rfl) ?_
  refine kcallV (wc := [(h0, .inr (15, [.ref a1, .ref a2, .ref a3, .ref a4, .ref a5, .int tt, .int wf, .int ww, .int te, .int tn, .int mo])), (a3, .inr (3, [.int 0, .ref g.2.1, .int 0]))]) (wr := [(o3, .inl ((g.2.2.1 1), 1, .inr (.inl fo)))]) (As := [.int x0, .int x1, .int x2]) (rest := [.int 0, .ref o3]) K G (m_X11_setGenerator l hl0 g h0 a1 a2 a3 a4 a5 tt wf ww te tn mo x0 x1 x2 ) hP hD hS hA hl kw_484 kw_485 kw_486 kw_487 kw_4 ydX11_setGenerator [0, 1] [2] rfl rfl rfl rfl (by decide) (ci := 15) (q0 := 0) rfl rfl rfl rfl rfl (Nat.le_of_ble_eq_true rfl) dL_setGenerator_7 ⟨Nat.le_of_ble_eq_true rfl, Nat.le_of_ble_eq_true rfl⟩ ⟨Nat.le_of_ble_eq_true rfl, Nat.le_of_ble_eq_true rfl⟩ (fun E w1 ce q9 H locs hX hP hD hS hce hcv hcl => ?_) (fun _ _ _ _ hQ _ _ _ => hQ.elim)
  obtain ⟨rfl, rfl⟩ := hX
  have hP : va_P g.1 vwCl [(o3, .inl ((g.2.2.1 1), 1, .inr (.inl fo)))] H := hP
  have hD : va_D A [(o3, .inl ((g.2.2.1 1), 1, .inr (.inl fo)))] := hD
  refine vx_widen (k := 1) (n := 6) (by decide) (by decide) ?_
  refine vx_catch (name := "java/lang/IndexOutOfBoundsException") hown [] { startPc := 0, endPc := 12, handlerPc := 15, catchType := 21 } [] (ht.trans rfl) (fun z hz => absurd hz List.not_mem_nil) rfl (by decide) (G.w kw_430) (G.w kw_431) hce hcv hcl ?_
  refine W.eq (g2 := F0 m 15 ls [.ref q9]) rfl ?_
  refine lv_astore (lv' := [(5, .ref q9), (0, .ref h0), (1, .int x0), (2, .int x1), (3, .int x2), (4, .ref o3)]) hx hb dL_setGenerator_15 hl (by decide) rfl (fun ls hl => ?_)
  refine lv_iconst (v := 1) hx hb dL_setGenerator_17 (by decide) ?_
  exact kretI K hP hD hS [0] [(o3, .inl ((g.2.2.1 1), 1, .inr (.inl fo)))] rfl rfl (⟨rfl, rfl⟩) (by decide) (by decide) dL_setGenerator_18

