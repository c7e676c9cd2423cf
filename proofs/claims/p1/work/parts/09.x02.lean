set_option maxHeartbeats 4000000 in
set_option maxRecDepth 100000 in
theorem m_L_sell (l : Launch) (hl0 : l.stackTraces = false) (g : kG) (h0 : Nat) (a1 : Nat) (a2 : Nat) (a3 : Nat) (a4 : Nat) (a5 : Nat) (tt : Int32) (wf : Int32) (ww : Int32) (te : Int32) (tn : Int32) (mo : Int32) (x0 : Int32) (x1 : Int32) (o3 : Nat) (fo : Nat → Int64)  : kcH l g yL_sell method_38_code 5 (some .int) [(0, 10, 13, 21), (0, 10, 17, 13), (0, 10, 21, 54)] 9 148 1 6 [.ref h0, .int x0, .int x1, .ref o3] [(h0, .inr (15, [.ref a1, .ref a2, .ref a3, .ref a4, .ref a5, .int tt, .int wf, .int ww, .int te, .int tn, .int mo])), (a3, .inr (3, [.int 0, .ref g.2.1, .int 0])), (o3, .inl ((g.2.2.1 1), 1, .inr (.inl fo)))] (fun v w => (v = some (.int 1) ∧ w = [(o3, .inl ((g.2.2.1 1), 1, .inr (.inl fo)))])) (fun _ _ => False) := by
  refine kbodyH (by decide) (Nat.le_of_ble_eq_true rfl) ?_
  intro p e s m args below meth c A H K ht G hP hD hA hS ls hl
  have K : KB p s m meth c RL "sell" method_38_code 5 (some .int) := K
  obtain ⟨hx, hb, hml, hown, hlocks, hr, hin⟩ := id K
  have hl : lv_has ls 5 [(0, .ref h0), (1, .int x0), (2, .int x1), (3, .ref o3)] := hl
  refine lv_aload_n hx hb dL_sell_0 rfl (lv_at hl 3 rfl) ?_
  refine lv_iconst (v := 0) hx hb dL_sell_1 (by decide) ?_
  refine lv_aload_n hx hb dL_sell_2 rfl (lv_at hl 0 rfl) ?_
  refine lv_iload_n hx hb dL_sell_3 rfl (lv_at hl 1 rfl) ?_
  refine lv_iload_n hx hb dL_sell_4 rfl (lv_at hl 2 rfl) ?_
  refine kcallV (wc := [(h0, .inr (15, [.ref a1, .ref a2, .ref a3, .ref a4, .ref a5, .int tt, .int wf, .int ww, .int te, .int tn, .int mo])), (a3, .inr (3, [.int 0, .ref g.2.1, .int 0]))]) (wr := [(o3, .inl ((g.2.2.1 1), 1, .inr (.inl fo)))]) (As := [.int x0, .int x1]) (rest := [.int 0, .ref o3]) K G (m_X11_sell l hl0 g h0 a1 a2 a3 a4 a5 tt wf ww te tn mo x0 x1 ) hP hD hS hA hl kw_564 kw_565 kw_566 kw_567 kw_4 ydX11_sell [0, 1] [2] rfl rfl rfl rfl (by decide) (ci := 15) (q0 := 0) rfl rfl rfl rfl rfl (Nat.le_of_ble_eq_true rfl) dL_sell_5 ⟨Nat.le_of_ble_eq_true rfl, Nat.le_of_ble_eq_true rfl⟩ ⟨Nat.le_of_ble_eq_true rfl, Nat.le_of_ble_eq_true rfl⟩ (fun E w1 ce q9 H locs hX hP hD hS hce hcv hcl => ?_) (fun _ _ _ _ hQ _ _ _ => hQ.elim)
  obtain ⟨rfl, rfl⟩ := hX
  have hP : va_P g.1 vwCl [(o3, .inl ((g.2.2.1 1), 1, .inr (.inl fo)))] H := hP
  have hD : va_D A [(o3, .inl ((g.2.2.1 1), 1, .inr (.inl fo)))] := hD
  refine vx_widen (k := 1) (n := 6) (by decide) (by decide) ?_
  refine vx_catch (name := "java/lang/IndexOutOfBoundsException") hown [] { startPc := 0, endPc := 10, handlerPc := 13, catchType := 21 } [{ startPc := 0, endPc := 10, handlerPc := 17, catchType := 13 }, { startPc := 0, endPc := 10, handlerPc := 21, catchType := 54 }] (ht.trans rfl) (fun z hz => absurd hz List.not_mem_nil) rfl (by decide) (G.w kw_430) (G.w kw_431) hce hcv hcl ?_
  refine W.eq (g2 := F0 m 13 ls [.ref q9]) rfl ?_
  refine lv_astore (lv' := [(4, .ref q9), (0, .ref h0), (1, .int x0), (2, .int x1), (3, .ref o3)]) hx hb dL_sell_13 hl (by decide) rfl (fun ls hl => ?_)
  refine lv_iconst (v := 1) hx hb dL_sell_15 (by decide) ?_
  exact kretI K hP hD hS [0] [(o3, .inl ((g.2.2.1 1), 1, .inr (.inl fo)))] rfl rfl (⟨rfl, rfl⟩) (by decide) (by decide) dL_sell_16

set_option maxHeartbeats 4000000 in
set_option maxRecDepth 100000 in
theorem m_L_bank (l : Launch) (hl0 : l.stackTraces = false) (g : kG) (h0 : Nat) (a1 : Nat) (a2 : Nat) (a3 : Nat) (a4 : Nat) (a5 : Nat) (tt : Int32) (wf : Int32) (ww : Int32) (te : Int32) (tn : Int32) (mo : Int32) (x0 : Int32) (o3 : Nat) (fo : Nat → Int64)  : kcH l g yL_bank method_39_code 4 (some .int) [(0, 9, 12, 21)] 9 145 1 6 [.ref h0, .int x0, .ref o3] [(h0, .inr (15, [.ref a1, .ref a2, .ref a3, .ref a4, .ref a5, .int tt, .int wf, .int ww, .int te, .int tn, .int mo])), (a3, .inr (3, [.int 0, .ref g.2.1, .int 0])), (o3, .inl ((g.2.2.1 1), 1, .inr (.inl fo)))] (fun v w => (v = some (.int 1) ∧ w = [(o3, .inl ((g.2.2.1 1), 1, .inr (.inl fo)))])) (fun _ _ => False) := by
  refine kbodyH (by decide) (Nat.le_of_ble_eq_true rfl) ?_
  intro p e s m args below meth c A H K ht G hP hD hA hS ls hl
  have K : KB p s m meth c RL "bank" method_39_code 4 (some .int) := K
  obtain ⟨hx, hb, hml, hown, hlocks, hr, hin⟩ := id K
  have hl : lv_has ls 4 [(0, .ref h0), (1, .int x0), (2, .ref o3)] := hl
  refine lv_aload_n hx hb dL_bank_0 rfl (lv_at hl 2 rfl) ?_
  refine lv_iconst (v := 0) hx hb dL_bank_1 (by decide) ?_
  refine lv_aload_n hx hb dL_bank_2 rfl (lv_at hl 0 rfl) ?_
  refine lv_iload_n hx hb dL_bank_3 rfl (lv_at hl 1 rfl) ?_
  refine kcallV (wc := [(h0, .inr (15, [.ref a1, .ref a2, .ref a3, .ref a4, .ref a5, .int tt, .int wf, .int ww, .int te, .int tn, .int mo])), (a3, .inr (3, [.int 0, .ref g.2.1, .int 0]))]) (wr := [(o3, .inl ((g.2.2.1 1), 1, .inr (.inl fo)))]) (As := [.int x0]) (rest := [.int 0, .ref o3]) K G (m_X11_bank l hl0 g h0 a1 a2 a3 a4 a5 tt wf ww te tn mo x0 ) hP hD hS hA hl kw_568 kw_569 kw_570 kw_571 kw_4 ydX11_bank [0, 1] [2] rfl rfl rfl rfl (by decide) (ci := 15) (q0 := 0) rfl rfl rfl rfl rfl (Nat.le_of_ble_eq_true rfl) dL_bank_4 ⟨Nat.le_of_ble_eq_true rfl, Nat.le_of_ble_eq_true rfl⟩ ⟨Nat.le_of_ble_eq_true rfl, Nat.le_of_ble_eq_true rfl⟩ (fun E w1 ce q9 H locs hX hP hD hS hce hcv hcl => ?_) (fun _ _ _ _ hQ _ _ _ => hQ.elim)
  obtain ⟨rfl, rfl⟩ := hX
  have hP : va_P g.1 vwCl [(o3, .inl ((g.2.2.1 1), 1, .inr (.inl fo)))] H := hP
  have hD : va_D A [(o3, .inl ((g.2.2.1 1), 1, .inr (.inl fo)))] := hD
  refine vx_widen (k := 1) (n := 6) (by decide) (by decide) ?_
  refine vx_catch (name := "java/lang/IndexOutOfBoundsException") hown [] { startPc := 0, endPc := 9, handlerPc := 12, catchType := 21 } [] (ht.trans rfl) (fun z hz => absurd hz List.not_mem_nil) rfl (by decide) (G.w kw_430) (G.w kw_431) hce hcv hcl ?_
  refine W.eq (g2 := F0 m 12 ls [.ref q9]) rfl ?_
  refine lv_astore_n (lv' := [(3, .ref q9), (0, .ref h0), (1, .int x0), (2, .ref o3)]) hx hb dL_bank_12 rfl hl (by decide) rfl (fun ls hl => ?_)
  refine lv_iconst (v := 1) hx hb dL_bank_13 (by decide) ?_
  exact kretI K hP hD hS [0] [(o3, .inl ((g.2.2.1 1), 1, .inr (.inl fo)))] rfl rfl (⟨rfl, rfl⟩) (by decide) (by decide) dL_bank_14

set_option maxHeartbeats 4000000 in
set_option maxRecDepth 100000 in
theorem m_L_getEarned (l : Launch) (hl0 : l.stackTraces = false) (g : kG) (h0 : Nat) (a1 : Nat) (a2 : Nat) (a3 : Nat) (a4 : Nat) (a5 : Nat) (tt : Int32) (wf : Int32) (ww : Int32) (te : Int32) (tn : Int32) (mo : Int32) (x0 : Int32) (o3 : Nat) (fo : Nat → Int64)  : kcH l g yL_getEarned method_40_code 4 (some .int) [(0, 9, 12, 21)] 9 145 1 6 [.ref h0, .int x0, .ref o3] [(h0, .inr (15, [.ref a1, .ref a2, .ref a3, .ref a4, .ref a5, .int tt, .int wf, .int ww, .int te, .int tn, .int mo])), (a3, .inr (3, [.int 0, .ref g.2.1, .int 0])), (o3, .inl ((g.2.2.1 1), 1, .inr (.inl fo)))] (fun v w => (v = some (.int 1) ∧ w = [(o3, .inl ((g.2.2.1 1), 1, .inr (.inl fo)))])) (fun _ _ => False) := by
  refine kbodyH (by decide) (Nat.le_of_ble_eq_true rfl) ?_
  intro p e s m args below meth c A H K ht G hP hD hA hS ls hl
  have K : KB p s m meth c RL "getEarned" method_40_code 4 (some .int) := K
  obtain ⟨hx, hb, hml, hown, hlocks, hr, hin⟩ := id K
  have hl : lv_has ls 4 [(0, .ref h0), (1, .int x0), (2, .ref o3)] := hl
  refine lv_aload_n hx hb dL_getEarned_0 rfl (lv_at hl 2 rfl) ?_
  refine lv_iconst (v := 0) hx hb dL_getEarned_1 (by decide) ?_
  refine lv_aload_n hx hb dL_getEarned_2 rfl (lv_at hl 0 rfl) ?_
  refine lv_iload_n hx hb dL_getEarned_3 rfl (lv_at hl 1 rfl) ?_
  refine kcallV (wc := [(h0, .inr (15, [.ref a1, .ref a2, .ref a3, .ref a4, .ref a5, .int tt, .int wf, .int ww, .int te, .int tn, .int mo])), (a3, .inr (3, [.int 0, .ref g.2.1, .int 0]))]) (wr := [(o3, .inl ((g.2.2.1 1), 1, .inr (.inl fo)))]) (As := [.int x0]) (rest := [.int 0, .ref o3]) K G (m_X11_getEarned l hl0 g h0 a1 a2 a3 a4 a5 tt wf ww te tn mo x0 ) hP hD hS hA hl kw_572 kw_573 kw_574 kw_575 kw_4 ydX11_getEarned [0, 1] [2] rfl rfl rfl rfl (by decide) (ci := 15) (q0 := 0) rfl rfl rfl rfl rfl (Nat.le_of_ble_eq_true rfl) dL_getEarned_4 ⟨Nat.le_of_ble_eq_true rfl, Nat.le_of_ble_eq_true rfl⟩ ⟨Nat.le_of_ble_eq_true rfl, Nat.le_of_ble_eq_true rfl⟩ (fun E w1 ce q9 H locs hX hP hD hS hce hcv hcl => ?_) (fun _ _ _ _ hQ _ _ _ => hQ.elim)
  obtain ⟨rfl, rfl⟩ := hX
  have hP : va_P g.1 vwCl [(o3, .inl ((g.2.2.1 1), 1, .inr (.inl fo)))] H := hP
  have hD : va_D A [(o3, .inl ((g.2.2.1 1), 1, .inr (.inl fo)))] := hD
  refine vx_widen (k := 1) (n := 6) (by decide) (by decide) ?_
  refine vx_catch (name := "java/lang/IndexOutOfBoundsException") hown [] { startPc := 0, endPc := 9, handlerPc := 12, catchType := 21 } [] (ht.trans rfl) (fun z hz => absurd hz List.not_mem_nil) rfl (by decide) (G.w kw_430) (G.w kw_431) hce hcv hcl ?_
  refine W.eq (g2 := F0 m 12 ls [.ref q9]) rfl ?_
  refine lv_astore_n (lv' := [(3, .ref q9), (0, .ref h0), (1, .int x0), (2, .ref o3)]) hx hb dL_getEarned_12 rfl hl (by decide) rfl (fun ls hl => ?_)
  refine lv_iconst (v := 1) hx hb dL_getEarned_13 (by decide) ?_
  exact kretI K hP hD hS [0] [(o3, .inl ((g.2.2.1 1), 1, .inr (.inl fo)))] rfl rfl (⟨rfl, rfl⟩) (by decide) (by decide) dL_getEarned_14

set_option maxHeartbeats 4000000 in
set_option maxRecDepth 100000 in
theorem m_L_getEvidence (l : Launch) (hl0 : l.stackTraces = false) (g : kG) (h0 : Nat) (a1 : Nat) (a2 : Nat) (a3 : Nat) (a4 : Nat) (a5 : Nat) (tt : Int32) (wf : Int32) (ww : Int32) (te : Int32) (tn : Int32) (mo : Int32) (x0 : Int32) (o3 : Nat) (fo : Nat → Int64)  : kcH l g yL_getEvidence method_41_code 4 (some .int) [(0, 9, 12, 21)] 9 145 1 6 [.ref h0, .int x0, .ref o3] [(h0, .inr (15, [.ref a1, .ref a2, .ref a3, .ref a4, .ref a5, .int tt, .int wf, .int ww, .int te, .int tn, .int mo])), (a1, .inr (3, [.int 0, .ref g.2.1, .int 0])), (o3, .inl ((g.2.2.1 1), 1, .inr (.inl fo)))] (fun v w => (v = some (.int 1) ∧ w = [(o3, .inl ((g.2.2.1 1), 1, .inr (.inl fo)))])) (fun _ _ => False) := by
  refine kbodyH (by decide) (Nat.le_of_ble_eq_true rfl) ?_
  intro p e s m args below meth c A H K ht G hP hD hA hS ls hl
  have K : KB p s m meth c RL "getEvidence" method_41_code 4 (some .int) := K
  obtain ⟨hx, hb, hml, hown, hlocks, hr, hin⟩ := id K
  have hl : lv_has ls 4 [(0, .ref h0), (1, .int x0), (2, .ref o3)] := hl
  refine lv_aload_n hx hb dL_getEvidence_0 rfl (lv_at hl 2 rfl) ?_
  refine lv_iconst (v := 0) hx hb dL_getEvidence_1 (by decide) ?_
  refine lv_aload_n hx hb dL_getEvidence_2 rfl (lv_at hl 0 rfl) ?_
  refine lv_iload_n hx hb dL_getEvidence_3 rfl (lv_at hl 1 rfl) ?_
  refine kcallV (wc := [(h0, .inr (15, [.ref a1, .ref a2, .ref a3, .ref a4, .ref a5, .int tt, .int wf, .int ww, .int te, .int tn, .int mo])), (a1, .inr (3, [.int 0, .ref g.2.1, .int 0]))]) (wr := [(o3, .inl ((g.2.2.1 1), 1, .inr (.inl fo)))]) (As := [.int x0]) (rest := [.int 0, .ref o3]) K G (m_X11_getEvidence l hl0 g h0 a1 a2 a3 a4 a5 tt wf ww te tn mo x0 ) hP hD hS hA hl kw_576 kw_577 kw_578 kw_579 kw_4 ydX11_getEvidence [0, 1] [2] rfl rfl rfl rfl (by decide) (ci := 15) (q0 := 0) rfl rfl rfl rfl rfl (Nat.le_of_ble_eq_true rfl) dL_getEvidence_4 ⟨Nat.le_of_ble_eq_true rfl, Nat.le_of_ble_eq_true rfl⟩ ⟨Nat.le_of_ble_eq_true rfl, Nat.le_of_ble_eq_true rfl⟩ (fun E w1 ce q9 H locs hX hP hD hS hce hcv hcl => ?_) (fun _ _ _ _ hQ _ _ _ => hQ.elim)
  obtain ⟨rfl, rfl⟩ := hX
  have hP : va_P g.1 vwCl [(o3, .inl ((g.2.2.1 1), 1, .inr (.inl fo)))] H := hP
  have hD : va_D A [(o3, .inl ((g.2.2.1 1), 1, .inr (.inl fo)))] := hD
  refine vx_widen (k := 1) (n := 6) (by decide) (by decide) ?_
  refine vx_catch (name := "java/lang/IndexOutOfBoundsException") hown [] { startPc := 0, endPc := 9, handlerPc := 12, catchType := 21 } [] (ht.trans rfl) (fun z hz => absurd hz List.not_mem_nil) rfl (by decide) (G.w kw_430) (G.w kw_431) hce hcv hcl ?_
  refine W.eq (g2 := F0 m 12 ls [.ref q9]) rfl ?_
  refine lv_astore_n (lv' := [(3, .ref q9), (0, .ref h0), (1, .int x0), (2, .ref o3)]) hx hb dL_getEvidence_12 rfl hl (by decide) rfl (fun ls hl => ?_)
  refine lv_iconst (v := 1) hx hb dL_getEvidence_13 (by decide) ?_
  exact kretI K hP hD hS [0] [(o3, .inl ((g.2.2.1 1), 1, .inr (.inl fo)))] rfl rfl (⟨rfl, rfl⟩) (by decide) (by decide) dL_getEvidence_14

set_option maxHeartbeats 4000000 in
set_option maxRecDepth 100000 in
theorem m_L_raid (l : Launch) (hl0 : l.stackTraces = false) (g : kG) (h0 : Nat) (a1 : Nat) (a2 : Nat) (a3 : Nat) (a4 : Nat) (a5 : Nat) (tt : Int32) (wf : Int32) (ww : Int32) (te : Int32) (tn : Int32) (mo : Int32) (x0 : Int32) (x1 : Int32) (o3 : Nat) (fo : Nat → Int64)  : kcH l g yL_raid method_42_code 5 (some .int) [(0, 10, 13, 21), (0, 10, 17, 54)] 9 148 1 6 [.ref h0, .int x0, .int x1, .ref o3] [(h0, .inr (15, [.ref a1, .ref a2, .ref a3, .ref a4, .ref a5, .int tt, .int wf, .int ww, .int te, .int tn, .int mo])), (a1, .inr (3, [.int 0, .ref g.2.1, .int 0])), (o3, .inl ((g.2.2.1 1), 1, .inr (.inl fo)))] (fun v w => (v = some (.int 1) ∧ w = [(o3, .inl ((g.2.2.1 1), 1, .inr (.inl fo)))])) (fun _ _ => False) := by
  refine kbodyH (by decide) (Nat.le_of_ble_eq_true rfl) ?_
  intro p e s m args below meth c A H K ht G hP hD hA hS ls hl
  have K : KB p s m meth c RL "raid" method_42_code 5 (some .int) := K
  obtain ⟨hx, hb, hml, hown, hlocks, hr, hin⟩ := id K
  have hl : lv_has ls 5 [(0, .ref h0), (1, .int x0), (2, .int x1), (3, .ref o3)] := hl
  refine lv_aload_n hx hb dL_raid_0 rfl (lv_at hl 3 rfl) ?_
  refine lv_iconst (v := 0) hx hb dL_raid_1 (by decide) ?_
  refine lv_aload_n hx hb dL_raid_2 rfl (lv_at hl 0 rfl) ?_
  refine lv_iload_n hx hb dL_raid_3 rfl (lv_at hl 1 rfl) ?_
  refine lv_iload_n hx hb dL_raid_4 rfl (lv_at hl 2 rfl) ?_
  refine kcallV (wc := [(h0, .inr (15, [.ref a1, .ref a2, .ref a3, .ref a4, .ref a5, .int tt, .int wf, .int ww, .int te, .int tn, .int mo])), (a1, .inr (3, [.int 0, .ref g.2.1, .int 0]))]) (wr := [(o3, .inl ((g.2.2.1 1), 1, .inr (.inl fo)))]) (As := [.int x0, .int x1]) (rest := [.int 0, .ref o3]) K G (m_X11_raid l hl0 g h0 a1 a2 a3 a4 a5 tt wf ww te tn mo x0 x1 ) hP hD hS hA hl kw_580 kw_581 kw_582 kw_583 kw_4 ydX11_raid [0, 1] [2] rfl rfl rfl rfl (by decide) (ci := 15) (q0 := 0) rfl rfl rfl rfl rfl (Nat.le_of_ble_eq_true rfl) dL_raid_5 ⟨Nat.le_of_ble_eq_true rfl, Nat.le_of_ble_eq_true rfl⟩ ⟨Nat.le_of_ble_eq_true rfl, Nat.le_of_ble_eq_true rfl⟩ (fun E w1 ce q9 H locs hX hP hD hS hce hcv hcl => ?_) (fun _ _ _ _ hQ _ _ _ => hQ.elim)
  obtain ⟨rfl, rfl⟩ := hX
  have hP : va_P g.1 vwCl [(o3, .inl ((g.2.2.1 1), 1, .inr (.inl fo)))] H := hP
  have hD : va_D A [(o3, .inl ((g.2.2.1 1), 1, .inr (.inl fo)))] := hD
  refine vx_widen (k := 1) (n := 6) (by decide) (by decide) ?_
  refine vx_catch (name := "java/lang/IndexOutOfBoundsException") hown [] { startPc := 0, endPc := 10, handlerPc := 13, catchType := 21 } [{ startPc := 0, endPc := 10, handlerPc := 17, catchType := 54 }] (ht.trans rfl) (fun z hz => absurd hz List.not_mem_nil) rfl (by decide) (G.w kw_430) (G.w kw_431) hce hcv hcl ?_
  refine W.eq (g2 := F0 m 13 ls [.ref q9]) rfl ?_
  refine lv_astore (lv' := [(4, .ref q9), (0, .ref h0), (1, .int x0), (2, .int x1), (3, .ref o3)]) hx hb dL_raid_13 hl (by decide) rfl (fun ls hl => ?_)
  refine lv_iconst (v := 1) hx hb dL_raid_15 (by decide) ?_
  exact kretI K hP hD hS [0] [(o3, .inl ((g.2.2.1 1), 1, .inr (.inl fo)))] rfl rfl (⟨rfl, rfl⟩) (by decide) (by decide) dL_raid_16

set_option maxHeartbeats 4000000 in
set_option maxRecDepth 100000 in
theorem m_L_board (l : Launch) (hl0 : l.stackTraces = false) (g : kG) (h0 : Nat) (a1 : Nat) (a2 : Nat) (a3 : Nat) (a4 : Nat) (a5 : Nat) (tt : Int32) (wf : Int32) (ww : Int32) (te : Int32) (tn : Int32) (mo : Int32) (x0 : Int32) (x1 : Int32) (o3 : Nat) (fo : Nat → Int64)  : kcH l g yL_board method_43_code 5 (some .int) [(0, 17, 20, 21), (0, 17, 24, 13), (0, 17, 28, 54)] 9 148 1 6 [.ref h0, .int x0, .int x1, .ref o3] [(h0, .inr (15, [.ref a1, .ref a2, .ref a3, .ref a4, .ref a5, .int tt, .int wf, .int ww, .int te, .int tn, .int mo])), (a3, .inr (3, [.int 0, .ref g.2.1, .int 0])), (o3, .inl ((g.2.2.1 1), 1, .inr (.inl fo)))] (fun v w => (v = some (.int 1) ∧ w = [(o3, .inl ((g.2.2.1 1), 1, .inr (.inl fo)))])) (fun _ _ => False) := by
  refine kbodyH (by decide) (Nat.le_of_ble_eq_true rfl) ?_
  intro p e s m args below meth c A H K ht G hP hD hA hS ls hl
  have K : KB p s m meth c RL "board" method_43_code 5 (some .int) := K
  obtain ⟨hx, hb, hml, hown, hlocks, hr, hin⟩ := id K
  have hl : lv_has ls 5 [(0, .ref h0), (1, .int x0), (2, .int x1), (3, .ref o3)] := hl
  refine lv_aload_n hx hb dL_board_0 rfl (lv_at hl 3 rfl) ?_
  refine lv_iconst (v := 0) hx hb dL_board_1 (by decide) ?_
  refine lv_aload_n hx hb dL_board_2 rfl (lv_at hl 0 rfl) ?_
  refine lv_iload_n hx hb dL_board_3 rfl (lv_at hl 1 rfl) ?_
  refine lv_iload_n hx hb dL_board_4 rfl (lv_at hl 2 rfl) ?_
  refine kcallV (wc := [(h0, .inr (15, [.ref a1, .ref a2, .ref a3, .ref a4, .ref a5, .int tt, .int wf, .int ww, .int te, .int tn, .int mo])), (a3, .inr (3, [.int 0, .ref g.2.1, .int 0]))]) (wr := [(o3, .inl ((g.2.2.1 1), 1, .inr (.inl fo)))]) (As := [.int x0, .int x1]) (rest := [.int 0, .ref o3]) K G (m_X11_board l hl0 g h0 a1 a2 a3 a4 a5 tt wf ww te tn mo x0 x1 ) hP hD hS hA hl kw_584 kw_585 kw_586 kw_587 kw_4 ydX11_board [0, 1] [2] rfl rfl rfl rfl (by decide) (ci := 15) (q0 := 0) rfl rfl rfl rfl rfl (Nat.le_of_ble_eq_true rfl) dL_board_5 ⟨Nat.le_of_ble_eq_true rfl, Nat.le_of_ble_eq_true rfl⟩ ⟨Nat.le_of_ble_eq_true rfl, Nat.le_of_ble_eq_true rfl⟩ (fun E w1 ce q9 H locs hX hP hD hS hce hcv hcl => ?_) (fun _ _ _ _ hQ _ _ _ => hQ.elim)
  obtain ⟨rfl, rfl⟩ := hX
  have hP : va_P g.1 vwCl [(o3, .inl ((g.2.2.1 1), 1, .inr (.inl fo)))] H := hP
  have hD : va_D A [(o3, .inl ((g.2.2.1 1), 1, .inr (.inl fo)))] := hD
  refine vx_widen (k := 1) (n := 6) (by decide) (by decide) ?_
  refine vx_catch (name := "java/lang/IndexOutOfBoundsException") hown [] { startPc := 0, endPc := 17, handlerPc := 20, catchType := 21 } [{ startPc := 0, endPc := 17, handlerPc := 24, catchType := 13 }, { startPc := 0, endPc := 17, handlerPc := 28, catchType := 54 }] (ht.trans rfl) (fun z hz => absurd hz List.not_mem_nil) rfl (by decide) (G.w kw_430) (G.w kw_431) hce hcv hcl ?_
  refine W.eq (g2 := F0 m 20 ls [.ref q9]) rfl ?_
  refine lv_astore (lv' := [(4, .ref q9), (0, .ref h0), (1, .int x0), (2, .int x1), (3, .ref o3)]) hx hb dL_board_20 hl (by decide) rfl (fun ls hl => ?_)
  refine lv_iconst (v := 1) hx hb dL_board_22 (by decide) ?_
  exact kretI K hP hD hS [0] [(o3, .inl ((g.2.2.1 1), 1, .inr (.inl fo)))] rfl rfl (⟨rfl, rfl⟩) (by decide) (by decide) dL_board_23

set_option maxHeartbeats 4000000 in
set_option maxRecDepth 100000 in
theorem m_L_addRecording (l : Launch) (hl0 : l.stackTraces = false) (g : kG) (h0 : Nat) (a1 : Nat) (a2 : Nat) (a3 : Nat) (a4 : Nat) (a5 : Nat) (k0 : Nat) (r0 : Nat) (b1 : Nat) (b2 : Nat) (b3 : Nat) (b4 : Nat) (b5 : Nat) (b6 : Nat) (b7 : Nat) (b8 : Nat) (b9 : Nat) (b10 : Nat) (x0 : Int32) (x1 : Int32) (x2 : Int32) (o3 : Nat) (fo : Nat → Int64)  : kcH l g yL_addRecording method_44_code 6 (some .int) [(0, 12, 15, 13), (0, 12, 19, 15)] 8 131 4 26 [.ref h0, .int x0, .int x1, .int x2, .ref o3] [(h0, .inr (15, [.ref a1, .ref a2, .ref a3, .ref a4, .ref a5, .int 0, .int 0, .int 110, .int 0, .int 0, .int 0])), (a1, .inr (3, [.int 0, .ref g.2.1, .int 0])), (a2, .inr (3, [.int 0, .ref g.2.1, .int 0])), (a3, .inr (3, [.int 0, .ref g.2.1, .int 0])), (a4, .inr (3, [.int 0, .ref g.2.1, .int 0])), (a5, .inr (5, [.ref k0, .ref r0, .ref b1, .ref b2, .ref b3, .ref b4, .ref b5, .int 0])), (k0, .inr (7, [.ref b6, .ref b7, .ref b8, .ref b9, .ref b10, .int 0, .int 0])), (r0, .inr (3, [.int 0, .ref g.2.1, .int 0])), (o3, .inl ((g.2.2.1 1), 1, .inr (.inl fo)))] (fun v w => (v = some (.int 0) ∧ w = [(o3, .inl ((g.2.2.1 1), 1, .inr (.inl (vp_updL fo 0 0))))] ∧ (inR x0 (-1) 9 && inR x1 (-1) 3 && (decide (x2 = -1) || decide (x2 = 200) || inR x2 100 199)) = true) ∨ (v = some (.int 1) ∧ w = [(o3, .inl ((g.2.2.1 1), 1, .inr (.inl fo)))] ∧ (inR x0 (-1) 9 && inR x1 (-1) 3 && (decide (x2 = -1) || decide (x2 = 200) || inR x2 100 199)) = false)) (fun _ _ => False) := by
  refine kbodyH (by decide) (Nat.le_of_ble_eq_true rfl) ?_
  intro p e s m args below meth c A H K ht G hP hD hA hS ls hl
  have K : KB p s m meth c RL "addRecording" method_44_code 6 (some .int) := K
  obtain ⟨hx, hb, hml, hown, hlocks, hr, hin⟩ := id K
  have hl : lv_has ls 6 [(0, .ref h0), (1, .int x0), (2, .int x1), (3, .int x2), (4, .ref o3)] := hl
  refine lv_aload hx hb dL_addRecording_0 (lv_at hl 4 rfl) ?_
  refine lv_iconst (v := 0) hx hb dL_addRecording_2 (by decide) ?_
  refine lv_aload_n hx hb dL_addRecording_3 rfl (lv_at hl 0 rfl) ?_
  refine lv_iload_n hx hb dL_addRecording_4 rfl (lv_at hl 1 rfl) ?_
  refine lv_iload_n hx hb dL_addRecording_5 rfl (lv_at hl 2 rfl) ?_
  refine lv_iload_n hx hb dL_addRecording_6 rfl (lv_at hl 3 rfl) ?_
  refine kcallV (wc := [(h0, .inr (15, [.ref a1, .ref a2, .ref a3, .ref a4, .ref a5, .int 0, .int 0, .int 110, .int 0, .int 0, .int 0])), (a1, .inr (3, [.int 0, .ref g.2.1, .int 0])), (a2, .inr (3, [.int 0, .ref g.2.1, .int 0])), (a3, .inr (3, [.int 0, .ref g.2.1, .int 0])), (a4, .inr (3, [.int 0, .ref g.2.1, .int 0])), (a5, .inr (5, [.ref k0, .ref r0, .ref b1, .ref b2, .ref b3, .ref b4, .ref b5, .int 0])), (k0, .inr (7, [.ref b6, .ref b7, .ref b8, .ref b9, .ref b10, .int 0, .int 0])), (r0, .inr (3, [.int 0, .ref g.2.1, .int 0]))]) (wr := [(o3, .inl ((g.2.2.1 1), 1, .inr (.inl fo)))]) (As := [.int x0, .int x1, .int x2]) (rest := [.int 0, .ref o3]) K G (m_X11_addRecording l hl0 g h0 a1 a2 a3 a4 a5 k0 r0 b1 b2 b3 b4 b5 b6 b7 b8 b9 b10 x0 x1 x2 ) hP hD hS hA hl kw_588 kw_589 kw_590 kw_591 kw_4 ydX11_addRecording [0, 1, 2, 3, 4, 5, 6, 7] [8] rfl rfl rfl rfl (by decide) (ci := 15) (q0 := 0) rfl rfl rfl rfl rfl (Nat.le_of_ble_eq_true rfl) dL_addRecording_7 ⟨Nat.le_of_ble_eq_true rfl, Nat.le_of_ble_eq_true rfl⟩ ⟨Nat.le_of_ble_eq_true rfl, Nat.le_of_ble_eq_true rfl⟩ (fun E w1 ce q9 H locs hX hP hD hS hce hcv hcl => ?_) (fun v w1 H locs hQ hP hD hS => ?_)
  · obtain ⟨rfl, rfl, f_2⟩ := hX
    have hP : va_P g.1 vwCl [(o3, .inl ((g.2.2.1 1), 1, .inr (.inl fo)))] H := hP
    have hD : va_D A [(o3, .inl ((g.2.2.1 1), 1, .inr (.inl fo)))] := hD
    refine vx_widen (k := 4) (n := 26) (by decide) (by decide) ?_
    refine vx_catch (name := "java/lang/IllegalArgumentException") hown [] { startPc := 0, endPc := 12, handlerPc := 15, catchType := 13 } [{ startPc := 0, endPc := 12, handlerPc := 19, catchType := 15 }] (ht.trans rfl) (fun z hz => absurd hz List.not_mem_nil) rfl (by decide) (G.w kw_424) (G.w kw_425) hce hcv hcl ?_
    refine W.eq (g2 := F0 m 15 ls [.ref q9]) rfl ?_
    refine lv_astore (lv' := [(5, .ref q9), (0, .ref h0), (1, .int x0), (2, .int x1), (3, .int x2), (4, .ref o3)]) hx hb dL_addRecording_15 hl (by decide) rfl (fun ls hl => ?_)
    refine lv_iconst (v := 1) hx hb dL_addRecording_17 (by decide) ?_
    exact kretI K hP hD hS [0] [(o3, .inl ((g.2.2.1 1), 1, .inr (.inl fo)))] rfl rfl (Or.inr (⟨rfl, rfl, (by exact f_2)⟩)) (by decide) (by decide) dL_addRecording_18
  · obtain ⟨rfl, rfl, f_3⟩ := hQ
    have hP : va_P g.1 vwCl [(o3, .inl ((g.2.2.1 1), 1, .inr (.inl fo)))] H := hP
    have hD : va_D A [(o3, .inl ((g.2.2.1 1), 1, .inr (.inl fo)))] := hD
    refine W.widen (k := 4) (n := 26) (by decide) (by decide) ?_
    refine W.eq (g2 := F0 m 10 ls [.int 0, .int 0, .ref o3]) rfl ?_
    refine lv_i2l (v := 0) hx hb dL_addRecording_10 (by decide) ?_
    refine va_last hx hb G.K hP hD hS 0 1 rfl rfl (i := 0) (vp_in_iff.mpr ⟨by decide, by decide⟩) dL_addRecording_11 (fun H locs hP hD hS => ?_)
    have hP : va_P g.1 vwCl [(o3, .inl ((g.2.2.1 1), 1, .inr (.inl (vp_updL fo 0 0))))] H := hP
    have hD : va_D A [(o3, .inl ((g.2.2.1 1), 1, .inr (.inl (vp_updL fo 0 0))))] := hD
    refine lv_goto (tgt := 23) hx hb dL_addRecording_12 (by decide) ?_
    refine lv_iconst (v := 0) hx hb dL_addRecording_23 (by decide) ?_
    exact kretI K hP hD hS [0] [(o3, .inl ((g.2.2.1 1), 1, .inr (.inl (vp_updL fo 0 0))))] rfl rfl (Or.inl ⟨rfl, rfl, (by exact f_3)⟩) (by decide) (by decide) dL_addRecording_24

set_option maxHeartbeats 4000000 in
set_option maxRecDepth 100000 in
theorem m_L_addAhead (l : Launch) (hl0 : l.stackTraces = false) (g : kG) (h0 : Nat) (a1 : Nat) (a2 : Nat) (a3 : Nat) (a4 : Nat) (a5 : Nat) (tt : Int32) (wf : Int32) (ww : Int32) (te : Int32) (tn : Int32) (mo : Int32) (k0 : Nat) (r0 : Nat) (b1 : Nat) (b2 : Nat) (b3 : Nat) (b4 : Nat) (b5 : Nat) (x0 : Int32) (x1 : Int32) (o3 : Nat) (fo : Nat → Int64)  : kcH l g yL_addAhead method_45_code 5 (some .int) [(0, 10, 13, 21), (0, 10, 17, 13), (0, 10, 21, 54)] 9 146 1 6 [.ref h0, .int x0, .int x1, .ref o3] [(h0, .inr (15, [.ref a1, .ref a2, .ref a3, .ref a4, .ref a5, .int tt, .int wf, .int ww, .int te, .int tn, .int mo])), (a5, .inr (5, [.ref k0, .ref r0, .ref b1, .ref b2, .ref b3, .ref b4, .ref b5, .int 0])), (r0, .inr (3, [.int 0, .ref g.2.1, .int 0])), (o3, .inl ((g.2.2.1 1), 1, .inr (.inl fo)))] (fun v w => (v = some (.int 1) ∧ w = [(o3, .inl ((g.2.2.1 1), 1, .inr (.inl fo)))])) (fun _ _ => False) := by
  refine kbodyH (by decide) (Nat.le_of_ble_eq_true rfl) ?_
  intro p e s m args below meth c A H K ht G hP hD hA hS ls hl
  have K : KB p s m meth c RL "addAhead" method_45_code 5 (some .int) := K
  obtain ⟨hx, hb, hml, hown, hlocks, hr, hin⟩ := id K
  have hl : lv_has ls 5 [(0, .ref h0), (1, .int x0), (2, .int x1), (3, .ref o3)] := hl
  refine lv_aload_n hx hb dL_addAhead_0 rfl (lv_at hl 3 rfl) ?_
  refine lv_iconst (v := 0) hx hb dL_addAhead_1 (by decide) ?_
  refine lv_aload_n hx hb dL_addAhead_2 rfl (lv_at hl 0 rfl) ?_
  refine lv_iload_n hx hb dL_addAhead_3 rfl (lv_at hl 1 rfl) ?_
  refine lv_iload_n hx hb dL_addAhead_4 rfl (lv_at hl 2 rfl) ?_
  refine kcallV (wc := [(h0, .inr (15, [.ref a1, .ref a2, .ref a3, .ref a4, .ref a5, .int tt, .int wf, .int ww, .int te, .int tn, .int mo])), (a5, .inr (5, [.ref k0, .ref r0, .ref b1, .ref b2, .ref b3, .ref b4, .ref b5, .int 0])), (r0, .inr (3, [.int 0, .ref g.2.1, .int 0]))]) (wr := [(o3, .inl ((g.2.2.1 1), 1, .inr (.inl fo)))]) (As := [.int x0, .int x1]) (rest := [.int 0, .ref o3]) K G (m_X11_addAhead l hl0 g h0 a1 a2 a3 a4 a5 tt wf ww te tn mo k0 r0 b1 b2 b3 b4 b5 x0 x1 ) hP hD hS hA hl kw_592 kw_593 kw_594 kw_595 kw_4 ydX11_addAhead [0, 1, 2] [3] rfl rfl rfl rfl (by decide) (ci := 15) (q0 := 0) rfl rfl rfl rfl rfl (Nat.le_of_ble_eq_true rfl) dL_addAhead_5 ⟨Nat.le_of_ble_eq_true rfl, Nat.le_of_ble_eq_true rfl⟩ ⟨Nat.le_of_ble_eq_true rfl, Nat.le_of_ble_eq_true rfl⟩ (fun E w1 ce q9 H locs hX hP hD hS hce hcv hcl => ?_) (fun _ _ _ _ hQ _ _ _ => hQ.elim)
  obtain ⟨rfl, rfl⟩ := hX
  have hP : va_P g.1 vwCl [(o3, .inl ((g.2.2.1 1), 1, .inr (.inl fo)))] H := hP
  have hD : va_D A [(o3, .inl ((g.2.2.1 1), 1, .inr (.inl fo)))] := hD
  refine vx_widen (k := 1) (n := 6) (by decide) (by decide) ?_
  refine vx_catch (name := "java/lang/IndexOutOfBoundsException") hown [] { startPc := 0, endPc := 10, handlerPc := 13, catchType := 21 } [{ startPc := 0, endPc := 10, handlerPc := 17, catchType := 13 }, { startPc := 0, endPc := 10, handlerPc := 21, catchType := 54 }] (ht.trans rfl) (fun z hz => absurd hz List.not_mem_nil) rfl (by decide) (G.w kw_430) (G.w kw_431) hce hcv hcl ?_
  refine W.eq (g2 := F0 m 13 ls [.ref q9]) rfl ?_
  refine lv_astore (lv' := [(4, .ref q9), (0, .ref h0), (1, .int x0), (2, .int x1), (3, .ref o3)]) hx hb dL_addAhead_13 hl (by decide) rfl (fun ls hl => ?_)
  refine lv_iconst (v := 1) hx hb dL_addAhead_15 (by decide) ?_
  exact kretI K hP hD hS [0] [(o3, .inl ((g.2.2.1 1), 1, .inr (.inl fo)))] rfl rfl (⟨rfl, rfl⟩) (by decide) (by decide) dL_addAhead_16

set_option maxHeartbeats 4000000 in
set_option maxRecDepth 100000 in
theorem m_L_getChoices (l : Launch) (hl0 : l.stackTraces = false) (g : kG) (h0 : Nat) (a1 : Nat) (a2 : Nat) (a3 : Nat) (a4 : Nat) (a5 : Nat) (tt : Int32) (wf : Int32) (ww : Int32) (te : Int32) (tn : Int32) (mo : Int32) (k0 : Nat) (r0 : Nat) (b1 : Nat) (b2 : Nat) (b3 : Nat) (b4 : Nat) (b5 : Nat) (x0 : Int32) (o3 : Nat) (fo : Nat → Int64)  : kcH l g yL_getChoices method_46_code 4 (some .int) [(0, 9, 12, 21)] 9 145 1 6 [.ref h0, .int x0, .ref o3] [(h0, .inr (15, [.ref a1, .ref a2, .ref a3, .ref a4, .ref a5, .int tt, .int wf, .int ww, .int te, .int tn, .int mo])), (a5, .inr (5, [.ref k0, .ref r0, .ref b1, .ref b2, .ref b3, .ref b4, .ref b5, .int 0])), (r0, .inr (3, [.int 0, .ref g.2.1, .int 0])), (o3, .inl ((g.2.2.1 1), 1, .inr (.inl fo)))] (fun v w => (v = some (.int 1) ∧ w = [(o3, .inl ((g.2.2.1 1), 1, .inr (.inl fo)))])) (fun _ _ => False) := by
  refine kbodyH (by decide) (Nat.le_of_ble_eq_true rfl) ?_
  intro p e s m args below meth c A H K ht G hP hD hA hS ls hl
  have K : KB p s m meth c RL "getChoices" method_46_code 4 (some .int) := K
  obtain ⟨hx, hb, hml, hown, hlocks, hr, hin⟩ := id K
  have hl : lv_has ls 4 [(0, .ref h0), (1, .int x0), (2, .ref o3)] := hl
  refine lv_aload_n hx hb dL_getChoices_0 rfl (lv_at hl 2 rfl) ?_
  refine lv_iconst (v := 0) hx hb dL_getChoices_1 (by decide) ?_
  refine lv_aload_n hx hb dL_getChoices_2 rfl (lv_at hl 0 rfl) ?_
  refine lv_iload_n hx hb dL_getChoices_3 rfl (lv_at hl 1 rfl) ?_
  refine kcallV (wc := [(h0, .inr (15, [.ref a1, .ref a2, .ref a3, .ref a4, .ref a5, .int tt, .int wf, .int ww, .int te, .int tn, .int mo])), (a5, .inr (5, [.ref k0, .ref r0, .ref b1, .ref b2, .ref b3, .ref b4, .ref b5, .int 0])), (r0, .inr (3, [.int 0, .ref g.2.1, .int 0]))]) (wr := [(o3, .inl ((g.2.2.1 1), 1, .inr (.inl fo)))]) (As := [.int x0]) (rest := [.int 0, .ref o3]) K G (m_X11_getChoices l hl0 g h0 a1 a2 a3 a4 a5 tt wf ww te tn mo k0 r0 b1 b2 b3 b4 b5 x0 ) hP hD hS hA hl kw_596 kw_597 kw_598 kw_599 kw_4 ydX11_getChoices [0, 1, 2] [3] rfl rfl rfl rfl (by decide) (ci := 15) (q0 := 0) rfl rfl rfl rfl rfl (Nat.le_of_ble_eq_true rfl) dL_getChoices_4 ⟨Nat.le_of_ble_eq_true rfl, Nat.le_of_ble_eq_true rfl⟩ ⟨Nat.le_of_ble_eq_true rfl, Nat.le_of_ble_eq_true rfl⟩ (fun E w1 ce q9 H locs hX hP hD hS hce hcv hcl => ?_) (fun _ _ _ _ hQ _ _ _ => hQ.elim)
  obtain ⟨rfl, rfl⟩ := hX
  have hP : va_P g.1 vwCl [(o3, .inl ((g.2.2.1 1), 1, .inr (.inl fo)))] H := hP
  have hD : va_D A [(o3, .inl ((g.2.2.1 1), 1, .inr (.inl fo)))] := hD
  refine vx_widen (k := 1) (n := 6) (by decide) (by decide) ?_
  refine vx_catch (name := "java/lang/IndexOutOfBoundsException") hown [] { startPc := 0, endPc := 9, handlerPc := 12, catchType := 21 } [] (ht.trans rfl) (fun z hz => absurd hz List.not_mem_nil) rfl (by decide) (G.w kw_430) (G.w kw_431) hce hcv hcl ?_
  refine W.eq (g2 := F0 m 12 ls [.ref q9]) rfl ?_
  refine lv_astore_n (lv' := [(3, .ref q9), (0, .ref h0), (1, .int x0), (2, .ref o3)]) hx hb dL_getChoices_12 rfl hl (by decide) rfl (fun ls hl => ?_)
  refine lv_iconst (v := 1) hx hb dL_getChoices_13 (by decide) ?_
  exact kretI K hP hD hS [0] [(o3, .inl ((g.2.2.1 1), 1, .inr (.inl fo)))] rfl rfl (⟨rfl, rfl⟩) (by decide) (by decide) dL_getChoices_14

set_option maxHeartbeats 4000000 in
set_option maxRecDepth 100000 in
theorem m_L_getDate (l : Launch) (hl0 : l.stackTraces = false) (g : kG) (h0 : Nat) (a1 : Nat) (a2 : Nat) (a3 : Nat) (a4 : Nat) (a5 : Nat) (tt : Int32) (wf : Int32) (ww : Int32) (te : Int32) (tn : Int32) (mo : Int32) (k0 : Nat) (r0 : Nat) (b1 : Nat) (b2 : Nat) (b3 : Nat) (b4 : Nat) (b5 : Nat) (x0 : Int32) (x1 : Int32) (o3 : Nat) (fo : Nat → Int64)  : kcH l g yL_getDate method_47_code 5 (some .int) [(0, 10, 13, 21), (0, 10, 17, 127)] 9 147 1 6 [.ref h0, .int x0, .int x1, .ref o3] [(h0, .inr (15, [.ref a1, .ref a2, .ref a3, .ref a4, .ref a5, .int tt, .int wf, .int ww, .int te, .int tn, .int mo])), (a5, .inr (5, [.ref k0, .ref r0, .ref b1, .ref b2, .ref b3, .ref b4, .ref b5, .int 0])), (r0, .inr (3, [.int 0, .ref g.2.1, .int 0])), (o3, .inl ((g.2.2.1 1), 1, .inr (.inl fo)))] (fun v w => (v = some (.int 1) ∧ w = [(o3, .inl ((g.2.2.1 1), 1, .inr (.inl fo)))])) (fun _ _ => False) := by
  refine kbodyH (by decide) (Nat.le_of_ble_eq_true rfl) ?_
  intro p e s m args below meth c A H K ht G hP hD hA hS ls hl
  have K : KB p s m meth c RL "getDate" method_47_code 5 (some .int) := K
  obtain ⟨hx, hb, hml, hown, hlocks, hr, hin⟩ := id K
  have hl : lv_has ls 5 [(0, .ref h0), (1, .int x0), (2, .int x1), (3, .ref o3)] := hl
  refine lv_aload_n hx hb dL_getDate_0 rfl (lv_at hl 3 rfl) ?_
  refine lv_iconst (v := 0) hx hb dL_getDate_1 (by decide) ?_
  refine lv_aload_n hx hb dL_getDate_2 rfl (lv_at hl 0 rfl) ?_
  refine lv_iload_n hx hb dL_getDate_3 rfl (lv_at hl 1 rfl) ?_
  refine lv_iload_n hx hb dL_getDate_4 rfl (lv_at hl 2 rfl) ?_
  refine kcallV (wc := [(h0, .inr (15, [.ref a1, .ref a2, .ref a3, .ref a4, .ref a5, .int tt, .int wf, .int ww, .int te, .int tn, .int mo])), (a5, .inr (5, [.ref k0, .ref r0, .ref b1, .ref b2, .ref b3, .ref b4, .ref b5, .int 0])), (r0, .inr (3, [.int 0, .ref g.2.1, .int 0]))]) (wr := [(o3, .inl ((g.2.2.1 1), 1, .inr (.inl fo)))]) (As := [.int x0, .int x1]) (rest := [.int 0, .ref o3]) K G (m_X11_getDate l hl0 g h0 a1 a2 a3 a4 a5 tt wf ww te tn mo k0 r0 b1 b2 b3 b4 b5 x0 x1 ) hP hD hS hA hl kw_600 kw_601 kw_602 kw_603 kw_4 ydX11_getDate [0, 1, 2] [3] rfl rfl rfl rfl (by decide) (ci := 15) (q0 := 0) rfl rfl rfl rfl rfl (Nat.le_of_ble_eq_true rfl) dL_getDate_5 ⟨Nat.le_of_ble_eq_true rfl, Nat.le_of_ble_eq_true rfl⟩ ⟨Nat.le_of_ble_eq_true rfl, Nat.le_of_ble_eq_true rfl⟩ (fun E w1 ce q9 H locs hX hP hD hS hce hcv hcl => ?_) (fun _ _ _ _ hQ _ _ _ => hQ.elim)
  obtain ⟨rfl, rfl⟩ := hX
  have hP : va_P g.1 vwCl [(o3, .inl ((g.2.2.1 1), 1, .inr (.inl fo)))] H := hP
  have hD : va_D A [(o3, .inl ((g.2.2.1 1), 1, .inr (.inl fo)))] := hD
  refine vx_widen (k := 1) (n := 6) (by decide) (by decide) ?_
  refine vx_catch (name := "java/lang/IndexOutOfBoundsException") hown [] { startPc := 0, endPc := 10, handlerPc := 13, catchType := 21 } [{ startPc := 0, endPc := 10, handlerPc := 17, catchType := 127 }] (ht.trans rfl) (fun z hz => absurd hz List.not_mem_nil) rfl (by decide) (G.w kw_430) (G.w kw_431) hce hcv hcl ?_
  refine W.eq (g2 := F0 m 13 ls [.ref q9]) rfl ?_
  refine lv_astore (lv' := [(4, .ref q9), (0, .ref h0), (1, .int x0), (2, .int x1), (3, .ref o3)]) hx hb dL_getDate_13 hl (by decide) rfl (fun ls hl => ?_)
  refine lv_iconst (v := 1) hx hb dL_getDate_15 (by decide) ?_
  exact kretI K hP hD hS [0] [(o3, .inl ((g.2.2.1 1), 1, .inr (.inl fo)))] rfl rfl (⟨rfl, rfl⟩) (by decide) (by decide) dL_getDate_16

set_option maxHeartbeats 4000000 in
set_option maxRecDepth 100000 in
theorem m_L_getNightShare (l : Launch) (hl0 : l.stackTraces = false) (g : kG) (h0 : Nat) (a1 : Nat) (a2 : Nat) (a3 : Nat) (a4 : Nat) (a5 : Nat) (k0 : Nat) (r0 : Nat) (b1 : Nat) (b2 : Nat) (b3 : Nat) (b4 : Nat) (b5 : Nat) (b6 : Nat) (b7 : Nat) (b8 : Nat) (b9 : Nat) (b10 : Nat) (o3 : Nat) (fo : Nat → UInt64)  : kcH l g yL_getNightShare method_48_code 3 (some .int) [(0, 8, 11, 167)] 7 103 1 6 [.ref h0, .ref o3] [(h0, .inr (15, [.ref a1, .ref a2, .ref a3, .ref a4, .ref a5, .int 0, .int 0, .int 110, .int 0, .int 0, .int 0])), (a1, .inr (3, [.int 0, .ref g.2.1, .int 0])), (a2, .inr (3, [.int 0, .ref g.2.1, .int 0])), (a3, .inr (3, [.int 0, .ref g.2.1, .int 0])), (a4, .inr (3, [.int 0, .ref g.2.1, .int 0])), (a5, .inr (5, [.ref k0, .ref r0, .ref b1, .ref b2, .ref b3, .ref b4, .ref b5, .int 0])), (k0, .inr (7, [.ref b6, .ref b7, .ref b8, .ref b9, .ref b10, .int 0, .int 0])), (r0, .inr (3, [.int 0, .ref g.2.1, .int 0])), (o3, .inl ((g.2.2.1 3), 1, .inr (.inr (.inr (.inl fo)))))] (fun v w => (v = some (.int 1) ∧ w = [(o3, .inl ((g.2.2.1 3), 1, .inr (.inr (.inr (.inl fo)))))])) (fun _ _ => False) := by
  refine kbodyH (by decide) (Nat.le_of_ble_eq_true rfl) ?_
  intro p e s m args below meth c A H K ht G hP hD hA hS ls hl
  have K : KB p s m meth c RL "getNightShare" method_48_code 3 (some .int) := K
  obtain ⟨hx, hb, hml, hown, hlocks, hr, hin⟩ := id K
  have hl : lv_has ls 3 [(0, .ref h0), (1, .ref o3)] := hl
  refine lv_aload_n hx hb dL_getNightShare_0 rfl (lv_at hl 1 rfl) ?_
  refine lv_iconst (v := 0) hx hb dL_getNightShare_1 (by decide) ?_
  refine lv_aload_n hx hb dL_getNightShare_2 rfl (lv_at hl 0 rfl) ?_
  refine kcallV (wc := [(h0, .inr (15, [.ref a1, .ref a2, .ref a3, .ref a4, .ref a5, .int 0, .int 0, .int 110, .int 0, .int 0, .int 0])), (a1, .inr (3, [.int 0, .ref g.2.1, .int 0])), (a2, .inr (3, [.int 0, .ref g.2.1, .int 0])), (a3, .inr (3, [.int 0, .ref g.2.1, .int 0])), (a4, .inr (3, [.int 0, .ref g.2.1, .int 0])), (a5, .inr (5, [.ref k0, .ref r0, .ref b1, .ref b2, .ref b3, .ref b4, .ref b5, .int 0])), (k0, .inr (7, [.ref b6, .ref b7, .ref b8, .ref b9, .ref b10, .int 0, .int 0])), (r0, .inr (3, [.int 0, .ref g.2.1, .int 0]))]) (wr := [(o3, .inl ((g.2.2.1 3), 1, .inr (.inr (.inr (.inl fo)))))]) (As := []) (rest := [.int 0, .ref o3]) K G (m_X11_getNightShare l hl0 g h0 a1 a2 a3 a4 a5 k0 r0 b1 b2 b3 b4 b5 b6 b7 b8 b9 b10 ) hP hD hS hA hl kw_604 kw_605 kw_606 kw_607 kw_4 ydX11_getNightShare [0, 1, 2, 3, 4, 5, 6, 7] [8] rfl rfl rfl rfl (by decide) (ci := 15) (q0 := 0) rfl rfl rfl rfl rfl (Nat.le_of_ble_eq_true rfl) dL_getNightShare_3 ⟨Nat.le_of_ble_eq_true rfl, Nat.le_of_ble_eq_true rfl⟩ ⟨Nat.le_of_ble_eq_true rfl, Nat.le_of_ble_eq_true rfl⟩ (fun E w1 ce q9 H locs hX hP hD hS hce hcv hcl => ?_) (fun _ _ _ _ hQ _ _ _ => hQ.elim)
  obtain ⟨rfl, rfl⟩ := hX
  have hP : va_P g.1 vwCl [(o3, .inl ((g.2.2.1 3), 1, .inr (.inr (.inr (.inl fo)))))] H := hP
  have hD : va_D A [(o3, .inl ((g.2.2.1 3), 1, .inr (.inr (.inr (.inl fo)))))] := hD
  refine vx_widen (k := 1) (n := 6) (by decide) (by decide) ?_
  refine vx_catch (name := "java/lang/ArithmeticException") hown [] { startPc := 0, endPc := 8, handlerPc := 11, catchType := 167 } [] (ht.trans rfl) (fun z hz => absurd hz List.not_mem_nil) rfl (by decide) (G.w kw_608) (G.w kw_609) hce hcv hcl ?_
  refine W.eq (g2 := F0 m 11 ls [.ref q9]) rfl ?_
  refine lv_astore_n (lv' := [(2, .ref q9), (0, .ref h0), (1, .ref o3)]) hx hb dL_getNightShare_11 rfl hl (by decide) rfl (fun ls hl => ?_)
  refine lv_iconst (v := 1) hx hb dL_getNightShare_12 (by decide) ?_
  exact kretI K hP hD hS [0] [(o3, .inl ((g.2.2.1 3), 1, .inr (.inr (.inr (.inl fo)))))] rfl rfl (⟨rfl, rfl⟩) (by decide) (by decide) dL_getNightShare_13

set_option maxHeartbeats 4000000 in
set_option maxRecDepth 100000 in
theorem m_L_getMeanCrew (l : Launch) (hl0 : l.stackTraces = false) (g : kG) (h0 : Nat) (a1 : Nat) (a2 : Nat) (a3 : Nat) (a4 : Nat) (a5 : Nat) (k0 : Nat) (r0 : Nat) (b1 : Nat) (b2 : Nat) (b3 : Nat) (b4 : Nat) (b5 : Nat) (b6 : Nat) (b7 : Nat) (b8 : Nat) (b9 : Nat) (b10 : Nat) (o3 : Nat) (fo : Nat → UInt64)  : kcH l g yL_getMeanCrew method_49_code 3 (some .int) [(0, 7, 10, 167)] 7 103 1 6 [.ref h0, .ref o3] [(h0, .inr (15, [.ref a1, .ref a2, .ref a3, .ref a4, .ref a5, .int 0, .int 0, .int 110, .int 0, .int 0, .int 0])), (a1, .inr (3, [.int 0, .ref g.2.1, .int 0])), (a2, .inr (3, [.int 0, .ref g.2.1, .int 0])), (a3, .inr (3, [.int 0, .ref g.2.1, .int 0])), (a4, .inr (3, [.int 0, .ref g.2.1, .int 0])), (a5, .inr (5, [.ref k0, .ref r0, .ref b1, .ref b2, .ref b3, .ref b4, .ref b5, .int 0])), (k0, .inr (7, [.ref b6, .ref b7, .ref b8, .ref b9, .ref b10, .int 0, .int 0])), (r0, .inr (3, [.int 0, .ref g.2.1, .int 0])), (o3, .inl ((g.2.2.1 3), 1, .inr (.inr (.inr (.inl fo)))))] (fun v w => (v = some (.int 1) ∧ w = [(o3, .inl ((g.2.2.1 3), 1, .inr (.inr (.inr (.inl fo)))))])) (fun _ _ => False) := by
  refine kbodyH (by decide) (Nat.le_of_ble_eq_true rfl) ?_
  intro p e s m args below meth c A H K ht G hP hD hA hS ls hl
  have K : KB p s m meth c RL "getMeanCrew" method_49_code 3 (some .int) := K
  obtain ⟨hx, hb, hml, hown, hlocks, hr, hin⟩ := id K
  have hl : lv_has ls 3 [(0, .ref h0), (1, .ref o3)] := hl
  refine lv_aload_n hx hb dL_getMeanCrew_0 rfl (lv_at hl 1 rfl) ?_
  refine lv_iconst (v := 0) hx hb dL_getMeanCrew_1 (by decide) ?_
  refine lv_aload_n hx hb dL_getMeanCrew_2 rfl (lv_at hl 0 rfl) ?_
  refine kcallV (wc := [(h0, .inr (15, [.ref a1, .ref a2, .ref a3, .ref a4, .ref a5, .int 0, .int 0, .int 110, .int 0, .int 0, .int 0])), (a1, .inr (3, [.int 0, .ref g.2.1, .int 0])), (a2, .inr (3, [.int 0, .ref g.2.1, .int 0])), (a3, .inr (3, [.int 0, .ref g.2.1, .int 0])), (a4, .inr (3, [.int 0, .ref g.2.1, .int 0])), (a5, .inr (5, [.ref k0, .ref r0, .ref b1, .ref b2, .ref b3, .ref b4, .ref b5, .int 0])), (k0, .inr (7, [.ref b6, .ref b7, .ref b8, .ref b9, .ref b10, .int 0, .int 0])), (r0, .inr (3, [.int 0, .ref g.2.1, .int 0]))]) (wr := [(o3, .inl ((g.2.2.1 3), 1, .inr (.inr (.inr (.inl fo)))))]) (As := []) (rest := [.int 0, .ref o3]) K G (m_X11_getMeanCrew l hl0 g h0 a1 a2 a3 a4 a5 k0 r0 b1 b2 b3 b4 b5 b6 b7 b8 b9 b10 ) hP hD hS hA hl kw_610 kw_611 kw_612 kw_613 kw_4 ydX11_getMeanCrew [0, 1, 2, 3, 4, 5, 6, 7] [8] rfl rfl rfl rfl (by decide) (ci := 15) (q0 := 0) rfl rfl rfl rfl rfl (Nat.le_of_ble_eq_true rfl) dL_getMeanCrew_3 ⟨Nat.le_of_ble_eq_true rfl, Nat.le_of_ble_eq_true rfl⟩ ⟨Nat.le_of_ble_eq_true rfl, Nat.le_of_ble_eq_true rfl⟩ (fun E w1 ce q9 H locs hX hP hD hS hce hcv hcl => ?_) (fun _ _ _ _ hQ _ _ _ => hQ.elim)
  obtain ⟨rfl, rfl⟩ := hX
  have hP : va_P g.1 vwCl [(o3, .inl ((g.2.2.1 3), 1, .inr (.inr (.inr (.inl fo)))))] H := hP
  have hD : va_D A [(o3, .inl ((g.2.2.1 3), 1, .inr (.inr (.inr (.inl fo)))))] := hD
  refine vx_widen (k := 1) (n := 6) (by decide) (by decide) ?_
  refine vx_catch (name := "java/lang/ArithmeticException") hown [] { startPc := 0, endPc := 7, handlerPc := 10, catchType := 167 } [] (ht.trans rfl) (fun z hz => absurd hz List.not_mem_nil) rfl (by decide) (G.w kw_608) (G.w kw_609) hce hcv hcl ?_
  refine W.eq (g2 := F0 m 10 ls [.ref q9]) rfl ?_
  refine lv_astore_n (lv' := [(2, .ref q9), (0, .ref h0), (1, .ref o3)]) hx hb dL_getMeanCrew_10 rfl hl (by decide) rfl (fun ls hl => ?_)
  refine lv_iconst (v := 1) hx hb dL_getMeanCrew_11 (by decide) ?_
  exact kretI K hP hD hS [0] [(o3, .inl ((g.2.2.1 3), 1, .inr (.inr (.inr (.inl fo)))))] rfl rfl (⟨rfl, rfl⟩) (by decide) (by decide) dL_getMeanCrew_12

