set_option maxHeartbeats 4000000 in
set_option maxRecDepth 100000 in
theorem m_X11_requireRangex1 (l : Launch) (hl0 : l.stackTraces = false) (g : kG)   : kc l g yX11_requireRange prog_1_method_53_code 3 none 6 82 1 6 [.int 1000, .int (-999), .int 999] [] (fun _ _ => False) (fun E w => (E = "java/lang/IllegalArgumentException" ∧ w = [])) := by
  refine kbody (by decide) (Nat.le_of_ble_eq_true rfl) ?_
  intro p e s m args below meth c A H K ht G hP hD hA hS ls hl
  have K : KB p s m meth c RX11 "requireRange" prog_1_method_53_code 3 none := K
  obtain ⟨hx, hb, hml, hown, hlocks, hr, hin⟩ := id K
  have hl : lv_has ls 3 [(0, .int 1000), (1, .int (-999)), (2, .int 999)] := hl
  refine lv_iload_n hx hb dX11_requireRange_0 rfl (lv_at hl 0 rfl) ?_
  refine lv_iload_n hx hb dX11_requireRange_1 rfl (lv_at hl 1 rfl) ?_
  refine lv_icmp_lt (tgt := 10) hx hb dX11_requireRange_2 (by decide) (fun c2_1 => absurd c2_1 (by decide)) (fun _ => ?_)
  refine lv_iload_n hx hb dX11_requireRange_5 rfl (lv_at hl 0 rfl) ?_
  refine lv_iload_n hx hb dX11_requireRange_6 rfl (lv_at hl 2 rfl) ?_
  refine lv_icmp_le (tgt := 21) hx hb dX11_requireRange_7 (by decide) (fun c7_2 => absurd c7_2 (by decide)) (fun _ => ?_)
  refine kthrowNewW (cls := "java/lang/IllegalArgumentException") (text := "a number is out of range") (names := ["java/lang/RuntimeException", "java/lang/Exception"]) (ik := 78) (ic := 82) (is := 403) hl0 K ht G hP hD hS hl (by decide +kernel) (by decide +kernel) kw_395 kw_396 (G.str (by decide +kernel)) at_X11_82 at_X11_82g dX11_requireRange_10 dX11_requireRange_13 dX11_requireRange_14 dX11_requireRange_17 dX11_requireRange_20 (Nat.le_of_ble_eq_true rfl) (Nat.le_of_ble_eq_true rfl) (Nat.le_of_ble_eq_true rfl) (Nat.le_of_ble_eq_true rfl) [] [] rfl rfl (⟨rfl, rfl⟩) (by decide) (by decide)

set_option maxHeartbeats 4000000 in
set_option maxRecDepth 100000 in
theorem m_X11_requireRangex2 (l : Launch) (hl0 : l.stackTraces = false) (g : kG)   : kc l g yX11_requireRange prog_1_method_53_code 3 none 6 82 1 6 [.int 51, .int 1, .int 50] [] (fun _ _ => False) (fun E w => (E = "java/lang/IllegalArgumentException" ∧ w = [])) := by
  refine kbody (by decide) (Nat.le_of_ble_eq_true rfl) ?_
  intro p e s m args below meth c A H K ht G hP hD hA hS ls hl
  have K : KB p s m meth c RX11 "requireRange" prog_1_method_53_code 3 none := K
  obtain ⟨hx, hb, hml, hown, hlocks, hr, hin⟩ := id K
  have hl : lv_has ls 3 [(0, .int 51), (1, .int 1), (2, .int 50)] := hl
  refine lv_iload_n hx hb dX11_requireRange_0 rfl (lv_at hl 0 rfl) ?_
  refine lv_iload_n hx hb dX11_requireRange_1 rfl (lv_at hl 1 rfl) ?_
  refine lv_icmp_lt (tgt := 10) hx hb dX11_requireRange_2 (by decide) (fun c2_1 => absurd c2_1 (by decide)) (fun _ => ?_)
  refine lv_iload_n hx hb dX11_requireRange_5 rfl (lv_at hl 0 rfl) ?_
  refine lv_iload_n hx hb dX11_requireRange_6 rfl (lv_at hl 2 rfl) ?_
  refine lv_icmp_le (tgt := 21) hx hb dX11_requireRange_7 (by decide) (fun c7_2 => absurd c7_2 (by decide)) (fun _ => ?_)
  refine kthrowNewW (cls := "java/lang/IllegalArgumentException") (text := "a number is out of range") (names := ["java/lang/RuntimeException", "java/lang/Exception"]) (ik := 78) (ic := 82) (is := 403) hl0 K ht G hP hD hS hl (by decide +kernel) (by decide +kernel) kw_395 kw_396 (G.str (by decide +kernel)) at_X11_82 at_X11_82g dX11_requireRange_10 dX11_requireRange_13 dX11_requireRange_14 dX11_requireRange_17 dX11_requireRange_20 (Nat.le_of_ble_eq_true rfl) (Nat.le_of_ble_eq_true rfl) (Nat.le_of_ble_eq_true rfl) (Nat.le_of_ble_eq_true rfl) [] [] rfl rfl (⟨rfl, rfl⟩) (by decide) (by decide)

set_option maxHeartbeats 4000000 in
set_option maxRecDepth 100000 in
theorem m_X11_requireRangex3 (l : Launch) (hl0 : l.stackTraces = false) (g : kG)   : kc l g yX11_requireRange prog_1_method_53_code 3 none 6 82 1 6 [.int 13, .int 0, .int 12] [] (fun _ _ => False) (fun E w => (E = "java/lang/IllegalArgumentException" ∧ w = [])) := by
  refine kbody (by decide) (Nat.le_of_ble_eq_true rfl) ?_
  intro p e s m args below meth c A H K ht G hP hD hA hS ls hl
  have K : KB p s m meth c RX11 "requireRange" prog_1_method_53_code 3 none := K
  obtain ⟨hx, hb, hml, hown, hlocks, hr, hin⟩ := id K
  have hl : lv_has ls 3 [(0, .int 13), (1, .int 0), (2, .int 12)] := hl
  refine lv_iload_n hx hb dX11_requireRange_0 rfl (lv_at hl 0 rfl) ?_
  refine lv_iload_n hx hb dX11_requireRange_1 rfl (lv_at hl 1 rfl) ?_
  refine lv_icmp_lt (tgt := 10) hx hb dX11_requireRange_2 (by decide) (fun c2_1 => absurd c2_1 (by decide)) (fun _ => ?_)
  refine lv_iload_n hx hb dX11_requireRange_5 rfl (lv_at hl 0 rfl) ?_
  refine lv_iload_n hx hb dX11_requireRange_6 rfl (lv_at hl 2 rfl) ?_
  refine lv_icmp_le (tgt := 21) hx hb dX11_requireRange_7 (by decide) (fun c7_2 => absurd c7_2 (by decide)) (fun _ => ?_)
  refine kthrowNewW (cls := "java/lang/IllegalArgumentException") (text := "a number is out of range") (names := ["java/lang/RuntimeException", "java/lang/Exception"]) (ik := 78) (ic := 82) (is := 403) hl0 K ht G hP hD hS hl (by decide +kernel) (by decide +kernel) kw_395 kw_396 (G.str (by decide +kernel)) at_X11_82 at_X11_82g dX11_requireRange_10 dX11_requireRange_13 dX11_requireRange_14 dX11_requireRange_17 dX11_requireRange_20 (Nat.le_of_ble_eq_true rfl) (Nat.le_of_ble_eq_true rfl) (Nat.le_of_ble_eq_true rfl) (Nat.le_of_ble_eq_true rfl) [] [] rfl rfl (⟨rfl, rfl⟩) (by decide) (by decide)

set_option maxHeartbeats 4000000 in
set_option maxRecDepth 100000 in
theorem m_X11_requireRangex4 (l : Launch) (hl0 : l.stackTraces = false) (g : kG)   : kc l g yX11_requireRange prog_1_method_53_code 3 none 6 82 1 6 [.int 97, .int 1, .int 96] [] (fun _ _ => False) (fun E w => (E = "java/lang/IllegalArgumentException" ∧ w = [])) := by
  refine kbody (by decide) (Nat.le_of_ble_eq_true rfl) ?_
  intro p e s m args below meth c A H K ht G hP hD hA hS ls hl
  have K : KB p s m meth c RX11 "requireRange" prog_1_method_53_code 3 none := K
  obtain ⟨hx, hb, hml, hown, hlocks, hr, hin⟩ := id K
  have hl : lv_has ls 3 [(0, .int 97), (1, .int 1), (2, .int 96)] := hl
  refine lv_iload_n hx hb dX11_requireRange_0 rfl (lv_at hl 0 rfl) ?_
  refine lv_iload_n hx hb dX11_requireRange_1 rfl (lv_at hl 1 rfl) ?_
  refine lv_icmp_lt (tgt := 10) hx hb dX11_requireRange_2 (by decide) (fun c2_1 => absurd c2_1 (by decide)) (fun _ => ?_)
  refine lv_iload_n hx hb dX11_requireRange_5 rfl (lv_at hl 0 rfl) ?_
  refine lv_iload_n hx hb dX11_requireRange_6 rfl (lv_at hl 2 rfl) ?_
  refine lv_icmp_le (tgt := 21) hx hb dX11_requireRange_7 (by decide) (fun c7_2 => absurd c7_2 (by decide)) (fun _ => ?_)
  refine kthrowNewW (cls := "java/lang/IllegalArgumentException") (text := "a number is out of range") (names := ["java/lang/RuntimeException", "java/lang/Exception"]) (ik := 78) (ic := 82) (is := 403) hl0 K ht G hP hD hS hl (by decide +kernel) (by decide +kernel) kw_395 kw_396 (G.str (by decide +kernel)) at_X11_82 at_X11_82g dX11_requireRange_10 dX11_requireRange_13 dX11_requireRange_14 dX11_requireRange_17 dX11_requireRange_20 (Nat.le_of_ble_eq_true rfl) (Nat.le_of_ble_eq_true rfl) (Nat.le_of_ble_eq_true rfl) (Nat.le_of_ble_eq_true rfl) [] [] rfl rfl (⟨rfl, rfl⟩) (by decide) (by decide)

set_option maxHeartbeats 4000000 in
set_option maxRecDepth 100000 in
theorem m_X11_requirePlacex (l : Launch) (hl0 : l.stackTraces = false) (g : kG)   : kc l g yX11_requirePlace prog_1_method_54_code 2 none 7 104 1 6 [.int 1000, .int 0] [] (fun _ _ => False) (fun E w => (E = "java/lang/IllegalArgumentException" ∧ w = [])) := by
  refine kbody (by decide) (Nat.le_of_ble_eq_true rfl) ?_
  intro p e s m args below meth c A H K ht G hP hD hA hS ls hl
  have K : KB p s m meth c RX11 "requirePlace" prog_1_method_54_code 2 none := K
  obtain ⟨hx, hb, hml, hown, hlocks, hr, hin⟩ := id K
  have hl : lv_has ls 2 [(0, .int 1000), (1, .int 0)] := hl
  refine lv_iload_n hx hb dX11_requirePlace_0 rfl (lv_at hl 0 rfl) ?_
  refine lv_sipush (v := (-999)) hx hb dX11_requirePlace_1 (by decide) ?_
  refine lv_sipush (v := 999) hx hb dX11_requirePlace_4 (by decide) ?_
  refine kcallS (wc := []) (wr := []) (As := [.int 1000, .int (-999), .int 999]) (rest := []) K G (m_X11_requireRangex1 l hl0 g  ) hP hD hS hA hl kw_280 kw_281 kw_282 kw_63 ydX11_requireRange [] [] rfl rfl rfl rfl (by decide) rfl rfl (Nat.le_of_ble_eq_true rfl) dX11_requirePlace_7 ⟨Nat.le_of_ble_eq_true rfl, Nat.le_of_ble_eq_true rfl⟩ ⟨Nat.le_of_ble_eq_true rfl, Nat.le_of_ble_eq_true rfl⟩ (fun E w1 ce q9 H locs hX hP hD hS hce hcv hcl => ?_) (fun _ _ _ _ hQ _ _ _ => hQ.elim)
  obtain ⟨rfl, rfl⟩ := hX
  have hP : va_P g.1 vwCl [] H := hP
  have hD : va_D A [] := hD
  refine vx_widen (k := 1) (n := 6) (by decide) (by decide) ?_
  exact kthrow K ht hP hD hS hce hcv hcl [] [] rfl rfl (⟨rfl, rfl⟩) (by decide) (by decide)

set_option maxHeartbeats 4000000 in
set_option maxRecDepth 100000 in
theorem m_X11_addShipx (l : Launch) (hl0 : l.stackTraces = false) (g : kG) (h0 : Nat) (a1 : Nat) (a2 : Nat) (a3 : Nat) (a4 : Nat) (a5 : Nat) (zh : Int32) (zf : Int32) (zw : Int32) (ze : Int32) (zn : Int32) (zm : Int32)  : kc l g yX11_addShip prog_1_method_9_code 3 (some .int) 8 125 1 6 [.ref h0, .int 1000, .int 0] [(h0, .inr (13, [.ref a1, .ref a2, .ref a3, .ref a4, .ref a5, .int zh, .int zf, .int zw, .int ze, .int zn, .int zm]))] (fun _ _ => False) (fun E w => (E = "java/lang/IllegalArgumentException" ∧ w = [(h0, .inr (13, [.ref a1, .ref a2, .ref a3, .ref a4, .ref a5, .int zh, .int zf, .int zw, .int ze, .int zn, .int zm]))])) := by
  refine kbody (by decide) (Nat.le_of_ble_eq_true rfl) ?_
  intro p e s m args below meth c A H K ht G hP hD hA hS ls hl
  have K : KB p s m meth c RX11 "addShip" prog_1_method_9_code 3 (some .int) := K
  obtain ⟨hx, hb, hml, hown, hlocks, hr, hin⟩ := id K
  have hl : lv_has ls 3 [(0, .ref h0), (1, .int 1000), (2, .int 0)] := hl
  refine lv_iload_n hx hb dX11_addShip_0 rfl (lv_at hl 1 rfl) ?_
  refine lv_iload_n hx hb dX11_addShip_1 rfl (lv_at hl 2 rfl) ?_
  refine kcallS (wc := []) (wr := [(h0, .inr (13, [.ref a1, .ref a2, .ref a3, .ref a4, .ref a5, .int zh, .int zf, .int zw, .int ze, .int zn, .int zm]))]) (As := [.int 1000, .int 0]) (rest := []) K G (m_X11_requirePlacex l hl0 g  ) hP hD hS hA hl kw_397 kw_398 kw_399 kw_63 ydX11_requirePlace [] [0] rfl rfl rfl rfl (by decide) rfl rfl (Nat.le_of_ble_eq_true rfl) dX11_addShip_2 ⟨Nat.le_of_ble_eq_true rfl, Nat.le_of_ble_eq_true rfl⟩ ⟨Nat.le_of_ble_eq_true rfl, Nat.le_of_ble_eq_true rfl⟩ (fun E w1 ce q9 H locs hX hP hD hS hce hcv hcl => ?_) (fun _ _ _ _ hQ _ _ _ => hQ.elim)
  obtain ⟨rfl, rfl⟩ := hX
  have hP : va_P g.1 vwCl [(h0, .inr (13, [.ref a1, .ref a2, .ref a3, .ref a4, .ref a5, .int zh, .int zf, .int zw, .int ze, .int zn, .int zm]))] H := hP
  have hD : va_D A [(h0, .inr (13, [.ref a1, .ref a2, .ref a3, .ref a4, .ref a5, .int zh, .int zf, .int zw, .int ze, .int zn, .int zm]))] := hD
  refine vx_widen (k := 1) (n := 6) (by decide) (by decide) ?_
  exact kthrow K ht hP hD hS hce hcv hcl [0] [(h0, .inr (13, [.ref a1, .ref a2, .ref a3, .ref a4, .ref a5, .int zh, .int zf, .int zw, .int ze, .int zn, .int zm]))] rfl rfl (⟨rfl, rfl⟩) (by decide) (by decide)

set_option maxHeartbeats 4000000 in
set_option maxRecDepth 100000 in
theorem m_X11_requireNumberx0 (l : Launch) (hl0 : l.stackTraces = false) (g : kG)   : kc l g yX11_requireNumber prog_1_method_56_code 2 none 6 82 1 6 [.int 0, .int 0] [] (fun _ _ => False) (fun E w => (E = "java/lang/IndexOutOfBoundsException" ∧ w = [])) := by
  refine kbody (by decide) (Nat.le_of_ble_eq_true rfl) ?_
  intro p e s m args below meth c A H K ht G hP hD hA hS ls hl
  have K : KB p s m meth c RX11 "requireNumber" prog_1_method_56_code 2 none := K
  obtain ⟨hx, hb, hml, hown, hlocks, hr, hin⟩ := id K
  have hl : lv_has ls 2 [(0, .int 0), (1, .int 0)] := hl
  refine lv_iload_n hx hb dX11_requireNumber_0 rfl (lv_at hl 0 rfl) ?_
  refine lv_if_lt (tgt := 9) hx hb dX11_requireNumber_1 (by decide) (fun c1_1 => absurd c1_1 (by decide)) (fun _ => ?_)
  refine lv_iload_n hx hb dX11_requireNumber_4 rfl (lv_at hl 0 rfl) ?_
  refine lv_iload_n hx hb dX11_requireNumber_5 rfl (lv_at hl 1 rfl) ?_
  refine lv_icmp_lt (tgt := 20) hx hb dX11_requireNumber_6 (by decide) (fun c6_2 => absurd c6_2 (by decide)) (fun _ => ?_)
  refine kthrowNewW (cls := "java/lang/IndexOutOfBoundsException") (text := "there is nothing of that number") (names := ["java/lang/RuntimeException", "java/lang/Exception"]) (ik := 410) (ic := 414) (is := 412) hl0 K ht G hP hD hS hl (by decide +kernel) (by decide +kernel) kw_400 kw_401 (G.str (by decide +kernel)) at_X11_414 at_X11_414g dX11_requireNumber_9 dX11_requireNumber_12 dX11_requireNumber_13 dX11_requireNumber_16 dX11_requireNumber_19 (Nat.le_of_ble_eq_true rfl) (Nat.le_of_ble_eq_true rfl) (Nat.le_of_ble_eq_true rfl) (Nat.le_of_ble_eq_true rfl) [] [] rfl rfl (⟨rfl, rfl⟩) (by decide) (by decide)

set_option maxHeartbeats 4000000 in
set_option maxRecDepth 100000 in
theorem m_X11_requireNumberx1 (l : Launch) (hl0 : l.stackTraces = false) (g : kG)   : kc l g yX11_requireNumber prog_1_method_56_code 2 none 6 82 1 6 [.int 1, .int 1] [] (fun _ _ => False) (fun E w => (E = "java/lang/IndexOutOfBoundsException" ∧ w = [])) := by
  refine kbody (by decide) (Nat.le_of_ble_eq_true rfl) ?_
  intro p e s m args below meth c A H K ht G hP hD hA hS ls hl
  have K : KB p s m meth c RX11 "requireNumber" prog_1_method_56_code 2 none := K
  obtain ⟨hx, hb, hml, hown, hlocks, hr, hin⟩ := id K
  have hl : lv_has ls 2 [(0, .int 1), (1, .int 1)] := hl
  refine lv_iload_n hx hb dX11_requireNumber_0 rfl (lv_at hl 0 rfl) ?_
  refine lv_if_lt (tgt := 9) hx hb dX11_requireNumber_1 (by decide) (fun c1_1 => absurd c1_1 (by decide)) (fun _ => ?_)
  refine lv_iload_n hx hb dX11_requireNumber_4 rfl (lv_at hl 0 rfl) ?_
  refine lv_iload_n hx hb dX11_requireNumber_5 rfl (lv_at hl 1 rfl) ?_
  refine lv_icmp_lt (tgt := 20) hx hb dX11_requireNumber_6 (by decide) (fun c6_2 => absurd c6_2 (by decide)) (fun _ => ?_)
  refine kthrowNewW (cls := "java/lang/IndexOutOfBoundsException") (text := "there is nothing of that number") (names := ["java/lang/RuntimeException", "java/lang/Exception"]) (ik := 410) (ic := 414) (is := 412) hl0 K ht G hP hD hS hl (by decide +kernel) (by decide +kernel) kw_400 kw_401 (G.str (by decide +kernel)) at_X11_414 at_X11_414g dX11_requireNumber_9 dX11_requireNumber_12 dX11_requireNumber_13 dX11_requireNumber_16 dX11_requireNumber_19 (Nat.le_of_ble_eq_true rfl) (Nat.le_of_ble_eq_true rfl) (Nat.le_of_ble_eq_true rfl) (Nat.le_of_ble_eq_true rfl) [] [] rfl rfl (⟨rfl, rfl⟩) (by decide) (by decide)

set_option maxHeartbeats 4000000 in
set_option maxRecDepth 100000 in
theorem m_X11_landAtx (l : Launch) (hl0 : l.stackTraces = false) (g : kG) (h0 : Nat) (a1 : Nat) (a2 : Nat) (a3 : Nat) (a4 : Nat) (a5 : Nat) (zh : Int32) (zf : Int32) (zw : Int32) (ze : Int32) (zn : Int32) (zm : Int32)  : kc l g yX11_landAt prog_1_method_58_code 2 (some (.object "GalleonWave$Land")) 7 103 1 6 [.ref h0, .int 0] [(h0, .inr (13, [.ref a1, .ref a2, .ref a3, .ref a4, .ref a5, .int zh, .int zf, .int zw, .int ze, .int zn, .int zm])), (a1, .inr (2, [.int 0, .ref g.2.1, .int 0]))] (fun _ _ => False) (fun E w => (E = "java/lang/IndexOutOfBoundsException" ∧ w = [(h0, .inr (13, [.ref a1, .ref a2, .ref a3, .ref a4, .ref a5, .int zh, .int zf, .int zw, .int ze, .int zn, .int zm])), (a1, .inr (2, [.int 0, .ref g.2.1, .int 0]))])) := by
  refine kbody (by decide) (Nat.le_of_ble_eq_true rfl) ?_
  intro p e s m args below meth c A H K ht G hP hD hA hS ls hl
  have K : KB p s m meth c RX11 "landAt" prog_1_method_58_code 2 (some (.object "GalleonWave$Land")) := K
  obtain ⟨hx, hb, hml, hown, hlocks, hr, hin⟩ := id K
  have hl : lv_has ls 2 [(0, .ref h0), (1, .int 0)] := hl
  refine lv_iload_n hx hb dX11_landAt_0 rfl (lv_at hl 1 rfl) ?_
  refine lv_aload_n hx hb dX11_landAt_1 rfl (lv_at hl 0 rfl) ?_
  refine va_get (D := g.1) (ci := 13) (v := .ref a1) (C := RX11) (T := TX11) (N := 11) hx hb G.ws inX11 hown G.K hP 0 rfl rfl 0 (by decide) (G.w kw_103) (fun _ h9 => h9) rfl dX11_landAt_2 ?_
  refine kcallV (wc := [(a1, .inr (2, [.int 0, .ref g.2.1, .int 0]))]) (wr := [(h0, .inr (13, [.ref a1, .ref a2, .ref a3, .ref a4, .ref a5, .int zh, .int zf, .int zw, .int ze, .int zn, .int zm]))]) (As := []) (rest := [.int 0]) K G (m_Jx4a65c_size_8abf5 l hl0 g a1 g.2.1 0 0 ) hP hD hS hA hl kw_31 kw_82 kw_33 kw_34 kw_22 ydJx4a65c_size_8abf5 [1] [0] rfl rfl rfl rfl (by decide) (ci := 2) (q0 := 1) rfl rfl rfl rfl rfl (Nat.le_of_ble_eq_true rfl) dX11_landAt_5 ⟨Nat.le_of_ble_eq_true rfl, Nat.le_of_ble_eq_true rfl⟩ ⟨Nat.le_of_ble_eq_true rfl, Nat.le_of_ble_eq_true rfl⟩ (fun _ _ _ _ _ _ hX _ _ _ _ _ _ => hX.elim) (fun v w1 H locs hQ hP hD hS => ?_)
  obtain ⟨rfl, rfl⟩ := hQ
  have hP : va_P g.1 vwCl [(h0, .inr (13, [.ref a1, .ref a2, .ref a3, .ref a4, .ref a5, .int zh, .int zf, .int zw, .int ze, .int zn, .int zm])), (a1, .inr (2, [.int 0, .ref g.2.1, .int 0]))] H := hP
  have hD : va_D A [(h0, .inr (13, [.ref a1, .ref a2, .ref a3, .ref a4, .ref a5, .int zh, .int zf, .int zw, .int ze, .int zn, .int zm])), (a1, .inr (2, [.int 0, .ref g.2.1, .int 0]))] := hD
  refine W.widen (k := 0) (n := 0) (by decide) (by decide) ?_
  refine W.eq (g2 := F0 m 8 ls [.int 0, .int 0]) rfl ?_
  refine kcallS (wc := []) (wr := [(h0, .inr (13, [.ref a1, .ref a2, .ref a3, .ref a4, .ref a5, .int zh, .int zf, .int zw, .int ze, .int zn, .int zm])), (a1, .inr (2, [.int 0, .ref g.2.1, .int 0]))]) (As := [.int 0, .int 0]) (rest := []) K G (m_X11_requireNumberx0 l hl0 g  ) hP hD hS hA hl kw_402 kw_403 kw_404 kw_63 ydX11_requireNumber [] [0, 1] rfl rfl rfl rfl (by decide) rfl rfl (Nat.le_of_ble_eq_true rfl) dX11_landAt_8 ⟨Nat.le_of_ble_eq_true rfl, Nat.le_of_ble_eq_true rfl⟩ ⟨Nat.le_of_ble_eq_true rfl, Nat.le_of_ble_eq_true rfl⟩ (fun E w1 ce q9 H locs hX hP hD hS hce hcv hcl => ?_) (fun _ _ _ _ hQ _ _ _ => hQ.elim)
  obtain ⟨rfl, rfl⟩ := hX
  have hP : va_P g.1 vwCl [(h0, .inr (13, [.ref a1, .ref a2, .ref a3, .ref a4, .ref a5, .int zh, .int zf, .int zw, .int ze, .int zn, .int zm])), (a1, .inr (2, [.int 0, .ref g.2.1, .int 0]))] H := hP
  have hD : va_D A [(h0, .inr (13, [.ref a1, .ref a2, .ref a3, .ref a4, .ref a5, .int zh, .int zf, .int zw, .int ze, .int zn, .int zm])), (a1, .inr (2, [.int 0, .ref g.2.1, .int 0]))] := hD
  refine vx_widen (k := 1) (n := 6) (by decide) (by decide) ?_
  exact kthrow K ht hP hD hS hce hcv hcl [0, 1] [(h0, .inr (13, [.ref a1, .ref a2, .ref a3, .ref a4, .ref a5, .int zh, .int zf, .int zw, .int ze, .int zn, .int zm])), (a1, .inr (2, [.int 0, .ref g.2.1, .int 0]))] rfl rfl (⟨rfl, rfl⟩) (by decide) (by decide)

set_option maxHeartbeats 4000000 in
set_option maxRecDepth 100000 in
theorem m_X11_addTownx (l : Launch) (hl0 : l.stackTraces = false) (g : kG) (h0 : Nat) (a1 : Nat) (a2 : Nat) (a3 : Nat) (a4 : Nat) (a5 : Nat) (zh : Int32) (zf : Int32) (zw : Int32) (ze : Int32) (zn : Int32) (zm : Int32)  : kc l g yX11_addTown prog_1_method_7_code 5 (some .int) 8 124 1 6 [.ref h0, .int 0, .int 0, .int 0, .int 5] [(h0, .inr (13, [.ref a1, .ref a2, .ref a3, .ref a4, .ref a5, .int zh, .int zf, .int zw, .int ze, .int zn, .int zm])), (a1, .inr (2, [.int 0, .ref g.2.1, .int 0]))] (fun _ _ => False) (fun E w => (E = "java/lang/IndexOutOfBoundsException" ∧ w = [(h0, .inr (13, [.ref a1, .ref a2, .ref a3, .ref a4, .ref a5, .int zh, .int zf, .int zw, .int ze, .int zn, .int zm])), (a1, .inr (2, [.int 0, .ref g.2.1, .int 0]))])) := by
  refine kbody (by decide) (Nat.le_of_ble_eq_true rfl) ?_
  intro p e s m args below meth c A H K ht G hP hD hA hS ls hl
  have K : KB p s m meth c RX11 "addTown" prog_1_method_7_code 5 (some .int) := K
  obtain ⟨hx, hb, hml, hown, hlocks, hr, hin⟩ := id K
  have hl : lv_has ls 5 [(0, .ref h0), (1, .int 0), (2, .int 0), (3, .int 0), (4, .int 5)] := hl
  refine lv_aload_n hx hb dX11_addTown_0 rfl (lv_at hl 0 rfl) ?_
  refine lv_iload_n hx hb dX11_addTown_1 rfl (lv_at hl 1 rfl) ?_
  refine kcallV (wc := [(h0, .inr (13, [.ref a1, .ref a2, .ref a3, .ref a4, .ref a5, .int zh, .int zf, .int zw, .int ze, .int zn, .int zm])), (a1, .inr (2, [.int 0, .ref g.2.1, .int 0]))]) (wr := []) (As := [.int 0]) (rest := []) K G (m_X11_landAtx l hl0 g h0 a1 a2 a3 a4 a5 zh zf zw ze zn zm ) hP hD hS hA hl kw_405 kw_406 kw_407 kw_408 kw_63 ydX11_landAt [0, 1] [] rfl rfl rfl rfl (by decide) (ci := 13) (q0 := 0) rfl rfl rfl rfl rfl (Nat.le_of_ble_eq_true rfl) dX11_addTown_2 ⟨Nat.le_of_ble_eq_true rfl, Nat.le_of_ble_eq_true rfl⟩ ⟨Nat.le_of_ble_eq_true rfl, Nat.le_of_ble_eq_true rfl⟩ (fun E w1 ce q9 H locs hX hP hD hS hce hcv hcl => ?_) (fun _ _ _ _ hQ _ _ _ => hQ.elim)
  obtain ⟨rfl, rfl⟩ := hX
  have hP : va_P g.1 vwCl [(h0, .inr (13, [.ref a1, .ref a2, .ref a3, .ref a4, .ref a5, .int zh, .int zf, .int zw, .int ze, .int zn, .int zm])), (a1, .inr (2, [.int 0, .ref g.2.1, .int 0]))] H := hP
  have hD : va_D A [(h0, .inr (13, [.ref a1, .ref a2, .ref a3, .ref a4, .ref a5, .int zh, .int zf, .int zw, .int ze, .int zn, .int zm])), (a1, .inr (2, [.int 0, .ref g.2.1, .int 0]))] := hD
  refine vx_widen (k := 1) (n := 6) (by decide) (by decide) ?_
  exact kthrow K ht hP hD hS hce hcv hcl [0, 1] [(h0, .inr (13, [.ref a1, .ref a2, .ref a3, .ref a4, .ref a5, .int zh, .int zf, .int zw, .int ze, .int zn, .int zm])), (a1, .inr (2, [.int 0, .ref g.2.1, .int 0]))] rfl rfl (⟨rfl, rfl⟩) (by decide) (by decide)

set_option maxHeartbeats 4000000 in
set_option maxRecDepth 100000 in
theorem m_X11_requirePlace (l : Launch) (hl0 : l.stackTraces = false) (g : kG) (x : Int32) (y : Int32) (p1 : ¬ x < (-999)) (p2 : x ≤ 999) (p3 : ¬ y < (-999)) (p4 : y ≤ 999) : kc l g yX11_requirePlace prog_1_method_54_code 2 none 1 22 0 0 [.int x, .int y] [] (fun v w => (v = none ∧ w = [])) (fun _ _ => False) := by
  refine kbody (by decide) (Nat.le_of_ble_eq_true rfl) ?_
  intro p e s m args below meth c A H K ht G hP hD hA hS ls hl
  have K : KB p s m meth c RX11 "requirePlace" prog_1_method_54_code 2 none := K
  obtain ⟨hx, hb, hml, hown, hlocks, hr, hin⟩ := id K
  have hl : lv_has ls 2 [(0, .int x), (1, .int y)] := hl
  refine lv_iload_n hx hb dX11_requirePlace_0 rfl (lv_at hl 0 rfl) ?_
  refine lv_sipush (v := (-999)) hx hb dX11_requirePlace_1 (by decide) ?_
  refine lv_sipush (v := 999) hx hb dX11_requirePlace_4 (by decide) ?_
  refine kcallS (wc := []) (wr := []) (As := [.int x, .int (-999), .int 999]) (rest := []) K G (m_X11_requireRange l hl0 g x (-999) 999 p1 p2) hP hD hS hA hl kw_280 kw_281 kw_282 kw_63 ydX11_requireRange [] [] rfl rfl rfl rfl (by decide) rfl rfl (Nat.le_of_ble_eq_true rfl) dX11_requirePlace_7 ⟨Nat.le_of_ble_eq_true rfl, Nat.le_of_ble_eq_true rfl⟩ ⟨Nat.le_of_ble_eq_true rfl, Nat.le_of_ble_eq_true rfl⟩ (fun _ _ _ _ _ _ hX _ _ _ _ _ _ => hX.elim) (fun v w1 H locs hQ hP hD hS => ?_)
  obtain ⟨rfl, rfl⟩ := hQ
  have hP : va_P g.1 vwCl [] H := hP
  have hD : va_D A [] := hD
  refine W.widen (k := 0) (n := 0) (by decide) (by decide) ?_
  refine W.eq (g2 := F0 m 10 ls []) rfl ?_
  refine lv_iload_n hx hb dX11_requirePlace_10 rfl (lv_at hl 1 rfl) ?_
  refine lv_sipush (v := (-999)) hx hb dX11_requirePlace_11 (by decide) ?_
  refine lv_sipush (v := 999) hx hb dX11_requirePlace_14 (by decide) ?_
  refine kcallS (wc := []) (wr := []) (As := [.int y, .int (-999), .int 999]) (rest := []) K G (m_X11_requireRange l hl0 g y (-999) 999 p3 p4) hP hD hS hA hl kw_280 kw_281 kw_282 kw_63 ydX11_requireRange [] [] rfl rfl rfl rfl (by decide) rfl rfl (Nat.le_of_ble_eq_true rfl) dX11_requirePlace_17 ⟨Nat.le_of_ble_eq_true rfl, Nat.le_of_ble_eq_true rfl⟩ ⟨Nat.le_of_ble_eq_true rfl, Nat.le_of_ble_eq_true rfl⟩ (fun _ _ _ _ _ _ hX _ _ _ _ _ _ => hX.elim) (fun v w1 H locs hQ hP hD hS => ?_)
  obtain ⟨rfl, rfl⟩ := hQ
  have hP : va_P g.1 vwCl [] H := hP
  have hD : va_D A [] := hD
  refine W.widen (k := 0) (n := 0) (by decide) (by decide) ?_
  refine W.eq (g2 := F0 m 20 ls []) rfl ?_
  exact kretV K hP hD hS [] [] rfl rfl ⟨rfl, rfl⟩ (by decide) (by decide) dX11_requirePlace_20

set_option maxHeartbeats 4000000 in
set_option maxRecDepth 100000 in
theorem m_X11_addLandx (l : Launch) (hl0 : l.stackTraces = false) (g : kG) (h0 : Nat) (a1 : Nat) (a2 : Nat) (a3 : Nat) (a4 : Nat) (a5 : Nat) (zh : Int32) (zf : Int32) (zw : Int32) (ze : Int32) (zn : Int32) (zm : Int32)  : kc l g yX11_addLand prog_1_method_2_code 4 (some .int) 7 104 1 6 [.ref h0, .int 0, .int 0, .int 51] [(h0, .inr (13, [.ref a1, .ref a2, .ref a3, .ref a4, .ref a5, .int zh, .int zf, .int zw, .int ze, .int zn, .int zm]))] (fun _ _ => False) (fun E w => (E = "java/lang/IllegalArgumentException" ∧ w = [(h0, .inr (13, [.ref a1, .ref a2, .ref a3, .ref a4, .ref a5, .int zh, .int zf, .int zw, .int ze, .int zn, .int zm]))])) := by
  refine kbody (by decide) (Nat.le_of_ble_eq_true rfl) ?_
  intro p e s m args below meth c A H K ht G hP hD hA hS ls hl
  have K : KB p s m meth c RX11 "addLand" prog_1_method_2_code 4 (some .int) := K
  obtain ⟨hx, hb, hml, hown, hlocks, hr, hin⟩ := id K
  have hl : lv_has ls 4 [(0, .ref h0), (1, .int 0), (2, .int 0), (3, .int 51)] := hl
  refine lv_iload_n hx hb dX11_addLand_0 rfl (lv_at hl 1 rfl) ?_
  refine lv_iload_n hx hb dX11_addLand_1 rfl (lv_at hl 2 rfl) ?_
  refine kcallS (wc := []) (wr := [(h0, .inr (13, [.ref a1, .ref a2, .ref a3, .ref a4, .ref a5, .int zh, .int zf, .int zw, .int ze, .int zn, .int zm]))]) (As := [.int 0, .int 0]) (rest := []) K G (m_X11_requirePlace l hl0 g 0 0 (by first | assumption | decide) (by first | assumption | decide) (by first | assumption | decide) (by first | assumption | decide)) hP hD hS hA hl kw_397 kw_398 kw_399 kw_63 ydX11_requirePlace [] [0] rfl rfl rfl rfl (by decide) rfl rfl (Nat.le_of_ble_eq_true rfl) dX11_addLand_2 ⟨Nat.le_of_ble_eq_true rfl, Nat.le_of_ble_eq_true rfl⟩ ⟨Nat.le_of_ble_eq_true rfl, Nat.le_of_ble_eq_true rfl⟩ (fun _ _ _ _ _ _ hX _ _ _ _ _ _ => hX.elim) (fun v w1 H locs hQ hP hD hS => ?_)
  obtain ⟨rfl, rfl⟩ := hQ
  have hP : va_P g.1 vwCl [(h0, .inr (13, [.ref a1, .ref a2, .ref a3, .ref a4, .ref a5, .int zh, .int zf, .int zw, .int ze, .int zn, .int zm]))] H := hP
  have hD : va_D A [(h0, .inr (13, [.ref a1, .ref a2, .ref a3, .ref a4, .ref a5, .int zh, .int zf, .int zw, .int ze, .int zn, .int zm]))] := hD
  refine W.widen (k := 0) (n := 0) (by decide) (by decide) ?_
  refine W.eq (g2 := F0 m 5 ls []) rfl ?_
  refine lv_iload_n hx hb dX11_addLand_5 rfl (lv_at hl 3 rfl) ?_
  refine lv_iconst (v := 1) hx hb dX11_addLand_6 (by decide) ?_
  refine lv_bipush (v := 50) hx hb dX11_addLand_7 (by decide) ?_
  refine kcallS (wc := []) (wr := [(h0, .inr (13, [.ref a1, .ref a2, .ref a3, .ref a4, .ref a5, .int zh, .int zf, .int zw, .int ze, .int zn, .int zm]))]) (As := [.int 51, .int 1, .int 50]) (rest := []) K G (m_X11_requireRangex2 l hl0 g  ) hP hD hS hA hl kw_280 kw_281 kw_282 kw_63 ydX11_requireRange [] [0] rfl rfl rfl rfl (by decide) rfl rfl (Nat.le_of_ble_eq_true rfl) dX11_addLand_9 ⟨Nat.le_of_ble_eq_true rfl, Nat.le_of_ble_eq_true rfl⟩ ⟨Nat.le_of_ble_eq_true rfl, Nat.le_of_ble_eq_true rfl⟩ (fun E w1 ce q9 H locs hX hP hD hS hce hcv hcl => ?_) (fun _ _ _ _ hQ _ _ _ => hQ.elim)
  obtain ⟨rfl, rfl⟩ := hX
  have hP : va_P g.1 vwCl [(h0, .inr (13, [.ref a1, .ref a2, .ref a3, .ref a4, .ref a5, .int zh, .int zf, .int zw, .int ze, .int zn, .int zm]))] H := hP
  have hD : va_D A [(h0, .inr (13, [.ref a1, .ref a2, .ref a3, .ref a4, .ref a5, .int zh, .int zf, .int zw, .int ze, .int zn, .int zm]))] := hD
  refine vx_widen (k := 1) (n := 6) (by decide) (by decide) ?_
  exact kthrow K ht hP hD hS hce hcv hcl [0] [(h0, .inr (13, [.ref a1, .ref a2, .ref a3, .ref a4, .ref a5, .int zh, .int zf, .int zw, .int ze, .int zn, .int zm]))] rfl rfl (⟨rfl, rfl⟩) (by decide) (by decide)

set_option maxHeartbeats 4000000 in
set_option maxRecDepth 100000 in
theorem m_X11_setWindx (l : Launch) (hl0 : l.stackTraces = false) (g : kG) (h0 : Nat) (a1 : Nat) (a2 : Nat) (a3 : Nat) (a4 : Nat) (a5 : Nat) (zh : Int32) (zf : Int32) (zw : Int32) (ze : Int32) (zn : Int32) (zm : Int32)  : kc l g yX11_setWind prog_1_method_5_code 4 (some .int) 7 104 1 6 [.ref h0, .int 13, .int 110] [(h0, .inr (13, [.ref a1, .ref a2, .ref a3, .ref a4, .ref a5, .int zh, .int zf, .int zw, .int ze, .int zn, .int zm]))] (fun _ _ => False) (fun E w => (E = "java/lang/IllegalArgumentException" ∧ w = [(h0, .inr (13, [.ref a1, .ref a2, .ref a3, .ref a4, .ref a5, .int zh, .int zf, .int zw, .int ze, .int zn, .int zm]))])) := by
  refine kbody (by decide) (Nat.le_of_ble_eq_true rfl) ?_
  intro p e s m args below meth c A H K ht G hP hD hA hS ls hl
  have K : KB p s m meth c RX11 "setWind" prog_1_method_5_code 4 (some .int) := K
  obtain ⟨hx, hb, hml, hown, hlocks, hr, hin⟩ := id K
  have hl : lv_has ls 4 [(0, .ref h0), (1, .int 13), (2, .int 110)] := hl
  refine lv_iload_n hx hb dX11_setWind_0 rfl (lv_at hl 1 rfl) ?_
  refine lv_iconst (v := 0) hx hb dX11_setWind_1 (by decide) ?_
  refine lv_bipush (v := 12) hx hb dX11_setWind_2 (by decide) ?_
  refine kcallS (wc := []) (wr := [(h0, .inr (13, [.ref a1, .ref a2, .ref a3, .ref a4, .ref a5, .int zh, .int zf, .int zw, .int ze, .int zn, .int zm]))]) (As := [.int 13, .int 0, .int 12]) (rest := []) K G (m_X11_requireRangex3 l hl0 g  ) hP hD hS hA hl kw_280 kw_281 kw_282 kw_63 ydX11_requireRange [] [0] rfl rfl rfl rfl (by decide) rfl rfl (Nat.le_of_ble_eq_true rfl) dX11_setWind_4 ⟨Nat.le_of_ble_eq_true rfl, Nat.le_of_ble_eq_true rfl⟩ ⟨Nat.le_of_ble_eq_true rfl, Nat.le_of_ble_eq_true rfl⟩ (fun E w1 ce q9 H locs hX hP hD hS hce hcv hcl => ?_) (fun _ _ _ _ hQ _ _ _ => hQ.elim)
  obtain ⟨rfl, rfl⟩ := hX
  have hP : va_P g.1 vwCl [(h0, .inr (13, [.ref a1, .ref a2, .ref a3, .ref a4, .ref a5, .int zh, .int zf, .int zw, .int ze, .int zn, .int zm]))] H := hP
  have hD : va_D A [(h0, .inr (13, [.ref a1, .ref a2, .ref a3, .ref a4, .ref a5, .int zh, .int zf, .int zw, .int ze, .int zn, .int zm]))] := hD
  refine vx_widen (k := 1) (n := 6) (by decide) (by decide) ?_
  exact kthrow K ht hP hD hS hce hcv hcl [0] [(h0, .inr (13, [.ref a1, .ref a2, .ref a3, .ref a4, .ref a5, .int zh, .int zf, .int zw, .int ze, .int zn, .int zm]))] rfl rfl (⟨rfl, rfl⟩) (by decide) (by decide)

set_option maxHeartbeats 4000000 in
set_option maxRecDepth 100000 in
theorem m_X11_passx (l : Launch) (hl0 : l.stackTraces = false) (g : kG) (h0 : Nat) (a1 : Nat) (a2 : Nat) (a3 : Nat) (a4 : Nat) (a5 : Nat) (zh : Int32) (zf : Int32) (zw : Int32) (ze : Int32) (zn : Int32) (zm : Int32)  : kc l g yX11_pass prog_1_method_8_code 3 (some .int) 7 104 1 6 [.ref h0, .int 97] [(h0, .inr (13, [.ref a1, .ref a2, .ref a3, .ref a4, .ref a5, .int zh, .int zf, .int zw, .int ze, .int zn, .int zm]))] (fun _ _ => False) (fun E w => (E = "java/lang/IllegalArgumentException" ∧ w = [(h0, .inr (13, [.ref a1, .ref a2, .ref a3, .ref a4, .ref a5, .int zh, .int zf, .int zw, .int ze, .int zn, .int zm]))])) := by
  refine kbody (by decide) (Nat.le_of_ble_eq_true rfl) ?_
  intro p e s m args below meth c A H K ht G hP hD hA hS ls hl
  have K : KB p s m meth c RX11 "pass" prog_1_method_8_code 3 (some .int) := K
  obtain ⟨hx, hb, hml, hown, hlocks, hr, hin⟩ := id K
  have hl : lv_has ls 3 [(0, .ref h0), (1, .int 97)] := hl
  refine lv_iload_n hx hb dX11_pass_0 rfl (lv_at hl 1 rfl) ?_
  refine lv_iconst (v := 1) hx hb dX11_pass_1 (by decide) ?_
  refine lv_bipush (v := 96) hx hb dX11_pass_2 (by decide) ?_
  refine kcallS (wc := []) (wr := [(h0, .inr (13, [.ref a1, .ref a2, .ref a3, .ref a4, .ref a5, .int zh, .int zf, .int zw, .int ze, .int zn, .int zm]))]) (As := [.int 97, .int 1, .int 96]) (rest := []) K G (m_X11_requireRangex4 l hl0 g  ) hP hD hS hA hl kw_280 kw_281 kw_282 kw_63 ydX11_requireRange [] [0] rfl rfl rfl rfl (by decide) rfl rfl (Nat.le_of_ble_eq_true rfl) dX11_pass_4 ⟨Nat.le_of_ble_eq_true rfl, Nat.le_of_ble_eq_true rfl⟩ ⟨Nat.le_of_ble_eq_true rfl, Nat.le_of_ble_eq_true rfl⟩ (fun E w1 ce q9 H locs hX hP hD hS hce hcv hcl => ?_) (fun _ _ _ _ hQ _ _ _ => hQ.elim)
  obtain ⟨rfl, rfl⟩ := hX
  have hP : va_P g.1 vwCl [(h0, .inr (13, [.ref a1, .ref a2, .ref a3, .ref a4, .ref a5, .int zh, .int zf, .int zw, .int ze, .int zn, .int zm]))] H := hP
  have hD : va_D A [(h0, .inr (13, [.ref a1, .ref a2, .ref a3, .ref a4, .ref a5, .int zh, .int zf, .int zw, .int ze, .int zn, .int zm]))] := hD
  refine vx_widen (k := 1) (n := 6) (by decide) (by decide) ?_
  exact kthrow K ht hP hD hS hce hcv hcl [0] [(h0, .inr (13, [.ref a1, .ref a2, .ref a3, .ref a4, .ref a5, .int zh, .int zf, .int zw, .int ze, .int zn, .int zm]))] rfl rfl (⟨rfl, rfl⟩) (by decide) (by decide)

set_option maxHeartbeats 4000000 in
set_option maxRecDepth 100000 in
theorem m_X11_requireRoom (l : Launch) (hl0 : l.stackTraces = false) (g : kG) (x : Int32) (y : Int32) (h1 : x < y) : kc l g yX11_requireRoom prog_1_method_55_code 2 none 0 0 0 0 [.int x, .int y] [] (fun v w => (v = none ∧ w = [])) (fun _ _ => False) := by
  refine kbody (by decide) (Nat.le_of_ble_eq_true rfl) ?_
  intro p e s m args below meth c A H K ht G hP hD hA hS ls hl
  have K : KB p s m meth c RX11 "requireRoom" prog_1_method_55_code 2 none := K
  obtain ⟨hx, hb, hml, hown, hlocks, hr, hin⟩ := id K
  have hl : lv_has ls 2 [(0, .int x), (1, .int y)] := hl
  refine lv_iload_n hx hb dX11_requireRoom_0 rfl (lv_at hl 0 rfl) ?_
  refine lv_iload_n hx hb dX11_requireRoom_1 rfl (lv_at hl 1 rfl) ?_
  refine lv_icmp_lt (tgt := 16) hx hb dX11_requireRoom_2 (by decide) (fun c2_1 => ?_) (fun c2_1 => ?_)
  · exact kretV K hP hD hS [] [] rfl rfl ⟨(by first | simp only [if_pos c2_1] | rfl | simp [if_pos c2_1]), (by first | simp only [if_pos c2_1] | rfl | simp [if_pos c2_1])⟩ (by decide) (by decide) dX11_requireRoom_16
  · exact absurd c2_1 (by exact fun h => h h1)

set_option maxHeartbeats 4000000 in
set_option maxRecDepth 100000 in
theorem m_X11_requireNumber (l : Launch) (hl0 : l.stackTraces = false) (g : kG) (x : Int32) (y : Int32) (h1 : ¬ x < 0) (h2 : x < y) : kc l g yX11_requireNumber prog_1_method_56_code 2 none 0 0 0 0 [.int x, .int y] [] (fun v w => (v = none ∧ w = [])) (fun _ _ => False) := by
  refine kbody (by decide) (Nat.le_of_ble_eq_true rfl) ?_
  intro p e s m args below meth c A H K ht G hP hD hA hS ls hl
  have K : KB p s m meth c RX11 "requireNumber" prog_1_method_56_code 2 none := K
  obtain ⟨hx, hb, hml, hown, hlocks, hr, hin⟩ := id K
  have hl : lv_has ls 2 [(0, .int x), (1, .int y)] := hl
  refine lv_iload_n hx hb dX11_requireNumber_0 rfl (lv_at hl 0 rfl) ?_
  refine lv_if_lt (tgt := 9) hx hb dX11_requireNumber_1 (by decide) (fun c1_1 => ?_) (fun c1_1 => ?_)
  · exact absurd c1_1 (by exact h1)
  · refine lv_iload_n hx hb dX11_requireNumber_4 rfl (lv_at hl 0 rfl) ?_
    refine lv_iload_n hx hb dX11_requireNumber_5 rfl (lv_at hl 1 rfl) ?_
    refine lv_icmp_lt (tgt := 20) hx hb dX11_requireNumber_6 (by decide) (fun c6_2 => ?_) (fun c6_2 => ?_)
    · exact kretV K hP hD hS [] [] rfl rfl ⟨(by first | simp only [if_neg c1_1, if_pos c6_2] | rfl | simp [if_neg c1_1, if_pos c6_2]), (by first | simp only [if_neg c1_1, if_pos c6_2] | rfl | simp [if_neg c1_1, if_pos c6_2])⟩ (by decide) (by decide) dX11_requireNumber_20
    · exact absurd c6_2 (by exact fun h => h h2)

set_option maxHeartbeats 4000000 in
set_option maxRecDepth 100000 in
theorem m_X11_landAt (l : Launch) (hl0 : l.stackTraces = false) (g : kG) (h0 : Nat) (a1 : Nat) (a2 : Nat) (a3 : Nat) (a4 : Nat) (a5 : Nat) (zh : Int32) (zf : Int32) (zw : Int32) (ze : Int32) (zn : Int32) (zm : Int32) (q1 : Nat) (mc1 : Int32) (f1 : Nat → Option Nat) (l0 : Nat) (d1 : Nat) (d2 : Nat) (d3 : Nat) (lx : Int32) (ly : Int32) (lz : Int32) (lv : Int32) (lf : Int32) (lo : Int32) (lc : Int32)  : kc l g yX11_landAt prog_1_method_58_code 2 (some (.object "GalleonWave$Land")) 3 64 0 0 [.ref h0, .int 0] [(h0, .inr (13, [.ref a1, .ref a2, .ref a3, .ref a4, .ref a5, .int zh, .int zf, .int zw, .int ze, .int zn, .int zm])), (a1, .inr (2, [.int mc1, .ref q1, .int 1])), (q1, .inl ((g.2.2.1 4), 10, .inr (.inr (.inr (.inr (va_up f1 0 (some l0))))))), (l0, .inr (7, [.int lx, .int ly, .int lz, .ref d1, .ref d2, .ref d3, .int 0, .int lv, .int lf, .int lo, .int lc]))] (fun v w => (v = some (.ref l0) ∧ w = [(h0, .inr (13, [.ref a1, .ref a2, .ref a3, .ref a4, .ref a5, .int zh, .int zf, .int zw, .int ze, .int zn, .int zm])), (a1, .inr (2, [.int mc1, .ref q1, .int 1])), (q1, .inl ((g.2.2.1 4), 10, .inr (.inr (.inr (.inr (va_up f1 0 (some l0))))))), (l0, .inr (7, [.int lx, .int ly, .int lz, .ref d1, .ref d2, .ref d3, .int 0, .int lv, .int lf, .int lo, .int lc]))])) (fun _ _ => False) := by
  refine kbody (by decide) (Nat.le_of_ble_eq_true rfl) ?_
  intro p e s m args below meth c A H K ht G hP hD hA hS ls hl
  have K : KB p s m meth c RX11 "landAt" prog_1_method_58_code 2 (some (.object "GalleonWave$Land")) := K
  obtain ⟨hx, hb, hml, hown, hlocks, hr, hin⟩ := id K
  have hl : lv_has ls 2 [(0, .ref h0), (1, .int 0)] := hl
  refine lv_iload_n hx hb dX11_landAt_0 rfl (lv_at hl 1 rfl) ?_
  refine lv_aload_n hx hb dX11_landAt_1 rfl (lv_at hl 0 rfl) ?_
  refine va_get (D := g.1) (ci := 13) (v := .ref a1) (C := RX11) (T := TX11) (N := 11) hx hb G.ws inX11 hown G.K hP 0 rfl rfl 0 (by decide) (G.w kw_103) (fun _ h9 => h9) rfl dX11_landAt_2 ?_
  refine kcallV (wc := [(a1, .inr (2, [.int mc1, .ref q1, .int 1]))]) (wr := [(h0, .inr (13, [.ref a1, .ref a2, .ref a3, .ref a4, .ref a5, .int zh, .int zf, .int zw, .int ze, .int zn, .int zm])), (q1, .inl ((g.2.2.1 4), 10, .inr (.inr (.inr (.inr (va_up f1 0 (some l0))))))), (l0, .inr (7, [.int lx, .int ly, .int lz, .ref d1, .ref d2, .ref d3, .int 0, .int lv, .int lf, .int lo, .int lc]))]) (As := []) (rest := [.int 0]) K G (m_Jx4a65c_size_8abf5 l hl0 g a1 q1 mc1 1 ) hP hD hS hA hl kw_31 kw_82 kw_33 kw_34 kw_22 ydJx4a65c_size_8abf5 [1] [0, 2, 3] rfl rfl rfl rfl (by decide) (ci := 2) (q0 := 1) rfl rfl rfl rfl rfl (Nat.le_of_ble_eq_true rfl) dX11_landAt_5 ⟨Nat.le_of_ble_eq_true rfl, Nat.le_of_ble_eq_true rfl⟩ ⟨Nat.le_of_ble_eq_true rfl, Nat.le_of_ble_eq_true rfl⟩ (fun _ _ _ _ _ _ hX _ _ _ _ _ _ => hX.elim) (fun v w1 H locs hQ hP hD hS => ?_)
  obtain ⟨rfl, rfl⟩ := hQ
  have hP : va_P g.1 vwCl [(h0, .inr (13, [.ref a1, .ref a2, .ref a3, .ref a4, .ref a5, .int zh, .int zf, .int zw, .int ze, .int zn, .int zm])), (q1, .inl ((g.2.2.1 4), 10, .inr (.inr (.inr (.inr (va_up f1 0 (some l0))))))), (l0, .inr (7, [.int lx, .int ly, .int lz, .ref d1, .ref d2, .ref d3, .int 0, .int lv, .int lf, .int lo, .int lc])), (a1, .inr (2, [.int mc1, .ref q1, .int 1]))] H := hP
  have hD : va_D A [(h0, .inr (13, [.ref a1, .ref a2, .ref a3, .ref a4, .ref a5, .int zh, .int zf, .int zw, .int ze, .int zn, .int zm])), (q1, .inl ((g.2.2.1 4), 10, .inr (.inr (.inr (.inr (va_up f1 0 (some l0))))))), (l0, .inr (7, [.int lx, .int ly, .int lz, .ref d1, .ref d2, .ref d3, .int 0, .int lv, .int lf, .int lo, .int lc])), (a1, .inr (2, [.int mc1, .ref q1, .int 1]))] := hD
  refine W.widen (k := 0) (n := 0) (by decide) (by decide) ?_
  refine W.eq (g2 := F0 m 8 ls [.int 1, .int 0]) rfl ?_
  refine kcallS (wc := []) (wr := [(h0, .inr (13, [.ref a1, .ref a2, .ref a3, .ref a4, .ref a5, .int zh, .int zf, .int zw, .int ze, .int zn, .int zm])), (q1, .inl ((g.2.2.1 4), 10, .inr (.inr (.inr (.inr (va_up f1 0 (some l0))))))), (l0, .inr (7, [.int lx, .int ly, .int lz, .ref d1, .ref d2, .ref d3, .int 0, .int lv, .int lf, .int lo, .int lc])), (a1, .inr (2, [.int mc1, .ref q1, .int 1]))]) (As := [.int 0, .int 1]) (rest := []) K G (m_X11_requireNumber l hl0 g 0 1 (by decide) (by decide)) hP hD hS hA hl kw_402 kw_403 kw_404 kw_63 ydX11_requireNumber [] [0, 1, 2, 3] rfl rfl rfl rfl (by decide) rfl rfl (Nat.le_of_ble_eq_true rfl) dX11_landAt_8 ⟨Nat.le_of_ble_eq_true rfl, Nat.le_of_ble_eq_true rfl⟩ ⟨Nat.le_of_ble_eq_true rfl, Nat.le_of_ble_eq_true rfl⟩ (fun _ _ _ _ _ _ hX _ _ _ _ _ _ => hX.elim) (fun v w1 H locs hQ hP hD hS => ?_)
  obtain ⟨rfl, rfl⟩ := hQ
  have hP : va_P g.1 vwCl [(h0, .inr (13, [.ref a1, .ref a2, .ref a3, .ref a4, .ref a5, .int zh, .int zf, .int zw, .int ze, .int zn, .int zm])), (q1, .inl ((g.2.2.1 4), 10, .inr (.inr (.inr (.inr (va_up f1 0 (some l0))))))), (l0, .inr (7, [.int lx, .int ly, .int lz, .ref d1, .ref d2, .ref d3, .int 0, .int lv, .int lf, .int lo, .int lc])), (a1, .inr (2, [.int mc1, .ref q1, .int 1]))] H := hP
  have hD : va_D A [(h0, .inr (13, [.ref a1, .ref a2, .ref a3, .ref a4, .ref a5, .int zh, .int zf, .int zw, .int ze, .int zn, .int zm])), (q1, .inl ((g.2.2.1 4), 10, .inr (.inr (.inr (.inr (va_up f1 0 (some l0))))))), (l0, .inr (7, [.int lx, .int ly, .int lz, .ref d1, .ref d2, .ref d3, .int 0, .int lv, .int lf, .int lo, .int lc])), (a1, .inr (2, [.int mc1, .ref q1, .int 1]))] := hD
  refine W.widen (k := 0) (n := 0) (by decide) (by decide) ?_
  refine W.eq (g2 := F0 m 11 ls []) rfl ?_
  refine lv_aload_n hx hb dX11_landAt_11 rfl (lv_at hl 0 rfl) ?_
  refine va_get (D := g.1) (ci := 13) (v := .ref a1) (C := RX11) (T := TX11) (N := 11) hx hb G.ws inX11 hown G.K hP 0 rfl rfl 0 (by decide) (G.w kw_103) (fun _ h9 => h9) rfl dX11_landAt_12 ?_
  refine lv_iload_n hx hb dX11_landAt_15 rfl (lv_at hl 1 rfl) ?_
  refine kcallV (wc := [(a1, .inr (2, [.int mc1, .ref q1, .int 1])), (q1, .inl ((g.2.2.1 4), 10, .inr (.inr (.inr (.inr (va_up f1 0 (some l0)))))))]) (wr := [(h0, .inr (13, [.ref a1, .ref a2, .ref a3, .ref a4, .ref a5, .int zh, .int zf, .int zw, .int ze, .int zn, .int zm])), (l0, .inr (7, [.int lx, .int ly, .int lz, .ref d1, .ref d2, .ref d3, .int 0, .int lv, .int lf, .int lo, .int lc]))]) (As := [.int 0]) (rest := []) K G (m_Jx4a65c_get_915e3 l hl0 g a1 q1 10 l0 mc1 1 0 (va_up f1 0 (some l0)) (by decide) (by decide) rfl (vp_in_iff.mpr ⟨by decide, by decide⟩)) hP hD hS hA hl kw_35 kw_83 kw_37 kw_38 kw_22 ydJx4a65c_get_915e3 [3, 1] [0, 2] rfl rfl rfl rfl (by decide) (ci := 2) (q0 := 3) rfl rfl rfl rfl rfl (Nat.le_of_ble_eq_true rfl) dX11_landAt_16 ⟨Nat.le_of_ble_eq_true rfl, Nat.le_of_ble_eq_true rfl⟩ ⟨Nat.le_of_ble_eq_true rfl, Nat.le_of_ble_eq_true rfl⟩ (fun _ _ _ _ _ _ hX _ _ _ _ _ _ => hX.elim) (fun v w1 H locs hQ hP hD hS => ?_)
  obtain ⟨rfl, rfl⟩ := hQ
  have hP : va_P g.1 vwCl [(h0, .inr (13, [.ref a1, .ref a2, .ref a3, .ref a4, .ref a5, .int zh, .int zf, .int zw, .int ze, .int zn, .int zm])), (l0, .inr (7, [.int lx, .int ly, .int lz, .ref d1, .ref d2, .ref d3, .int 0, .int lv, .int lf, .int lo, .int lc])), (a1, .inr (2, [.int mc1, .ref q1, .int 1])), (q1, .inl ((g.2.2.1 4), 10, .inr (.inr (.inr (.inr (va_up f1 0 (some l0)))))))] H := hP
  have hD : va_D A [(h0, .inr (13, [.ref a1, .ref a2, .ref a3, .ref a4, .ref a5, .int zh, .int zf, .int zw, .int ze, .int zn, .int zm])), (l0, .inr (7, [.int lx, .int ly, .int lz, .ref d1, .ref d2, .ref d3, .int 0, .int lv, .int lf, .int lo, .int lc])), (a1, .inr (2, [.int mc1, .ref q1, .int 1])), (q1, .inl ((g.2.2.1 4), 10, .inr (.inr (.inr (.inr (va_up f1 0 (some l0)))))))] := hD
  refine W.widen (k := 0) (n := 0) (by decide) (by decide) ?_
  refine W.eq (g2 := F0 m 19 ls [.ref l0]) rfl ?_
  refine va_castE hx hb hown (G.w kw_104) (va_recv (q := (RX4, TX4, 11)) (ci := 7) (q0 := 1) G.K hP rfl rfl) dX11_landAt_19 ?_
  exact kretA K hP hD hS [0, 2, 3, 1] [(h0, .inr (13, [.ref a1, .ref a2, .ref a3, .ref a4, .ref a5, .int zh, .int zf, .int zw, .int ze, .int zn, .int zm])), (a1, .inr (2, [.int mc1, .ref q1, .int 1])), (q1, .inl ((g.2.2.1 4), 10, .inr (.inr (.inr (.inr (va_up f1 0 (some l0))))))), (l0, .inr (7, [.int lx, .int ly, .int lz, .ref d1, .ref d2, .ref d3, .int 0, .int lv, .int lf, .int lo, .int lc]))] rfl rfl ⟨rfl, rfl⟩ (by decide) (by decide) dX11_landAt_22

set_option maxHeartbeats 4000000 in
set_option maxRecDepth 100000 in
theorem m_X11_shipAt10 (l : Launch) (hl0 : l.stackTraces = false) (g : kG) (h0 : Nat) (a1 : Nat) (a2 : Nat) (a3 : Nat) (a4 : Nat) (a5 : Nat) (zh : Int32) (zf : Int32) (zw : Int32) (ze : Int32) (zn : Int32) (zm : Int32) (q3 : Nat) (mc3 : Int32) (f3 : Nat → Option Nat) (s0 : Nat) (sA : Nat) (sL : Nat) (sP : Nat) (sS : Nat) (ea : Int32) (no : Int32) (fu : Int32) (fo : Int32) (sa : Int32) (po : Int32) (ch : Int32) (rb : Int32) (on : Int32) (li : Int32) (sp : Int32) (hu : Int32) (mu : Int32)  : kc l g yX11_shipAt prog_1_method_60_code 2 (some (.object "GalleonWave$Ship")) 3 64 0 0 [.ref h0, .int 0] [(h0, .inr (13, [.ref a1, .ref a2, .ref a3, .ref a4, .ref a5, .int zh, .int zf, .int zw, .int ze, .int zn, .int zm])), (a3, .inr (2, [.int mc3, .ref q3, .int 1])), (q3, .inl ((g.2.2.1 4), 10, .inr (.inr (.inr (.inr (va_up f3 0 (some s0))))))), (s0, .inr (10, [.ref sA, .ref sL, .ref sP, .ref sS, .int ea, .int no, .int fu, .int fo, .int sa, .int po, .int ch, .int rb, .int on, .int li, .int sp, .int hu, .int mu]))] (fun v w => (v = some (.ref s0) ∧ w = [(h0, .inr (13, [.ref a1, .ref a2, .ref a3, .ref a4, .ref a5, .int zh, .int zf, .int zw, .int ze, .int zn, .int zm])), (a3, .inr (2, [.int mc3, .ref q3, .int 1])), (q3, .inl ((g.2.2.1 4), 10, .inr (.inr (.inr (.inr (va_up f3 0 (some s0))))))), (s0, .inr (10, [.ref sA, .ref sL, .ref sP, .ref sS, .int ea, .int no, .int fu, .int fo, .int sa, .int po, .int ch, .int rb, .int on, .int li, .int sp, .int hu, .int mu]))])) (fun _ _ => False) := by
  refine kbody (by decide) (Nat.le_of_ble_eq_true rfl) ?_
  intro p e s m args below meth c A H K ht G hP hD hA hS ls hl
  have K : KB p s m meth c RX11 "shipAt" prog_1_method_60_code 2 (some (.object "GalleonWave$Ship")) := K
  obtain ⟨hx, hb, hml, hown, hlocks, hr, hin⟩ := id K
  have hl : lv_has ls 2 [(0, .ref h0), (1, .int 0)] := hl
  refine lv_iload_n hx hb dX11_shipAt_0 rfl (lv_at hl 1 rfl) ?_
  refine lv_aload_n hx hb dX11_shipAt_1 rfl (lv_at hl 0 rfl) ?_
  refine va_get (D := g.1) (ci := 13) (v := .ref a3) (C := RX11) (T := TX11) (N := 11) hx hb G.ws inX11 hown G.K hP 0 rfl rfl 2 (by decide) (G.w kw_81) (fun _ h9 => h9) rfl dX11_shipAt_2 ?_
  refine kcallV (wc := [(a3, .inr (2, [.int mc3, .ref q3, .int 1]))]) (wr := [(h0, .inr (13, [.ref a1, .ref a2, .ref a3, .ref a4, .ref a5, .int zh, .int zf, .int zw, .int ze, .int zn, .int zm])), (q3, .inl ((g.2.2.1 4), 10, .inr (.inr (.inr (.inr (va_up f3 0 (some s0))))))), (s0, .inr (10, [.ref sA, .ref sL, .ref sP, .ref sS, .int ea, .int no, .int fu, .int fo, .int sa, .int po, .int ch, .int rb, .int on, .int li, .int sp, .int hu, .int mu]))]) (As := []) (rest := [.int 0]) K G (m_Jx4a65c_size_8abf5 l hl0 g a3 q3 mc3 1 ) hP hD hS hA hl kw_31 kw_82 kw_33 kw_34 kw_22 ydJx4a65c_size_8abf5 [1] [0, 2, 3] rfl rfl rfl rfl (by decide) (ci := 2) (q0 := 1) rfl rfl rfl rfl rfl (Nat.le_of_ble_eq_true rfl) dX11_shipAt_5 ⟨Nat.le_of_ble_eq_true rfl, Nat.le_of_ble_eq_true rfl⟩ ⟨Nat.le_of_ble_eq_true rfl, Nat.le_of_ble_eq_true rfl⟩ (fun _ _ _ _ _ _ hX _ _ _ _ _ _ => hX.elim) (fun v w1 H locs hQ hP hD hS => ?_)
  obtain ⟨rfl, rfl⟩ := hQ
  have hP : va_P g.1 vwCl [(h0, .inr (13, [.ref a1, .ref a2, .ref a3, .ref a4, .ref a5, .int zh, .int zf, .int zw, .int ze, .int zn, .int zm])), (q3, .inl ((g.2.2.1 4), 10, .inr (.inr (.inr (.inr (va_up f3 0 (some s0))))))), (s0, .inr (10, [.ref sA, .ref sL, .ref sP, .ref sS, .int ea, .int no, .int fu, .int fo, .int sa, .int po, .int ch, .int rb, .int on, .int li, .int sp, .int hu, .int mu])), (a3, .inr (2, [.int mc3, .ref q3, .int 1]))] H := hP
  have hD : va_D A [(h0, .inr (13, [.ref a1, .ref a2, .ref a3, .ref a4, .ref a5, .int zh, .int zf, .int zw, .int ze, .int zn, .int zm])), (q3, .inl ((g.2.2.1 4), 10, .inr (.inr (.inr (.inr (va_up f3 0 (some s0))))))), (s0, .inr (10, [.ref sA, .ref sL, .ref sP, .ref sS, .int ea, .int no, .int fu, .int fo, .int sa, .int po, .int ch, .int rb, .int on, .int li, .int sp, .int hu, .int mu])), (a3, .inr (2, [.int mc3, .ref q3, .int 1]))] := hD
  refine W.widen (k := 0) (n := 0) (by decide) (by decide) ?_
  refine W.eq (g2 := F0 m 8 ls [.int 1, .int 0]) rfl ?_
  refine kcallS (wc := []) (wr := [(h0, .inr (13, [.ref a1, .ref a2, .ref a3, .ref a4, .ref a5, .int zh, .int zf, .int zw, .int ze, .int zn, .int zm])), (q3, .inl ((g.2.2.1 4), 10, .inr (.inr (.inr (.inr (va_up f3 0 (some s0))))))), (s0, .inr (10, [.ref sA, .ref sL, .ref sP, .ref sS, .int ea, .int no, .int fu, .int fo, .int sa, .int po, .int ch, .int rb, .int on, .int li, .int sp, .int hu, .int mu])), (a3, .inr (2, [.int mc3, .ref q3, .int 1]))]) (As := [.int 0, .int 1]) (rest := []) K G (m_X11_requireNumber l hl0 g 0 1 (by decide) (by decide)) hP hD hS hA hl kw_402 kw_403 kw_404 kw_63 ydX11_requireNumber [] [0, 1, 2, 3] rfl rfl rfl rfl (by decide) rfl rfl (Nat.le_of_ble_eq_true rfl) dX11_shipAt_8 ⟨Nat.le_of_ble_eq_true rfl, Nat.le_of_ble_eq_true rfl⟩ ⟨Nat.le_of_ble_eq_true rfl, Nat.le_of_ble_eq_true rfl⟩ (fun _ _ _ _ _ _ hX _ _ _ _ _ _ => hX.elim) (fun v w1 H locs hQ hP hD hS => ?_)
  obtain ⟨rfl, rfl⟩ := hQ
  have hP : va_P g.1 vwCl [(h0, .inr (13, [.ref a1, .ref a2, .ref a3, .ref a4, .ref a5, .int zh, .int zf, .int zw, .int ze, .int zn, .int zm])), (q3, .inl ((g.2.2.1 4), 10, .inr (.inr (.inr (.inr (va_up f3 0 (some s0))))))), (s0, .inr (10, [.ref sA, .ref sL, .ref sP, .ref sS, .int ea, .int no, .int fu, .int fo, .int sa, .int po, .int ch, .int rb, .int on, .int li, .int sp, .int hu, .int mu])), (a3, .inr (2, [.int mc3, .ref q3, .int 1]))] H := hP
  have hD : va_D A [(h0, .inr (13, [.ref a1, .ref a2, .ref a3, .ref a4, .ref a5, .int zh, .int zf, .int zw, .int ze, .int zn, .int zm])), (q3, .inl ((g.2.2.1 4), 10, .inr (.inr (.inr (.inr (va_up f3 0 (some s0))))))), (s0, .inr (10, [.ref sA, .ref sL, .ref sP, .ref sS, .int ea, .int no, .int fu, .int fo, .int sa, .int po, .int ch, .int rb, .int on, .int li, .int sp, .int hu, .int mu])), (a3, .inr (2, [.int mc3, .ref q3, .int 1]))] := hD
  refine W.widen (k := 0) (n := 0) (by decide) (by decide) ?_
  refine W.eq (g2 := F0 m 11 ls []) rfl ?_
  refine lv_aload_n hx hb dX11_shipAt_11 rfl (lv_at hl 0 rfl) ?_
  refine va_get (D := g.1) (ci := 13) (v := .ref a3) (C := RX11) (T := TX11) (N := 11) hx hb G.ws inX11 hown G.K hP 0 rfl rfl 2 (by decide) (G.w kw_81) (fun _ h9 => h9) rfl dX11_shipAt_12 ?_
  refine lv_iload_n hx hb dX11_shipAt_15 rfl (lv_at hl 1 rfl) ?_
  refine kcallV (wc := [(a3, .inr (2, [.int mc3, .ref q3, .int 1])), (q3, .inl ((g.2.2.1 4), 10, .inr (.inr (.inr (.inr (va_up f3 0 (some s0)))))))]) (wr := [(h0, .inr (13, [.ref a1, .ref a2, .ref a3, .ref a4, .ref a5, .int zh, .int zf, .int zw, .int ze, .int zn, .int zm])), (s0, .inr (10, [.ref sA, .ref sL, .ref sP, .ref sS, .int ea, .int no, .int fu, .int fo, .int sa, .int po, .int ch, .int rb, .int on, .int li, .int sp, .int hu, .int mu]))]) (As := [.int 0]) (rest := []) K G (m_Jx4a65c_get_915e3 l hl0 g a3 q3 10 s0 mc3 1 0 (va_up f3 0 (some s0)) (by decide) (by decide) rfl (vp_in_iff.mpr ⟨by decide, by decide⟩)) hP hD hS hA hl kw_35 kw_83 kw_37 kw_38 kw_22 ydJx4a65c_get_915e3 [3, 1] [0, 2] rfl rfl rfl rfl (by decide) (ci := 2) (q0 := 3) rfl rfl rfl rfl rfl (Nat.le_of_ble_eq_true rfl) dX11_shipAt_16 ⟨Nat.le_of_ble_eq_true rfl, Nat.le_of_ble_eq_true rfl⟩ ⟨Nat.le_of_ble_eq_true rfl, Nat.le_of_ble_eq_true rfl⟩ (fun _ _ _ _ _ _ hX _ _ _ _ _ _ => hX.elim) (fun v w1 H locs hQ hP hD hS => ?_)
  obtain ⟨rfl, rfl⟩ := hQ
  have hP : va_P g.1 vwCl [(h0, .inr (13, [.ref a1, .ref a2, .ref a3, .ref a4, .ref a5, .int zh, .int zf, .int zw, .int ze, .int zn, .int zm])), (s0, .inr (10, [.ref sA, .ref sL, .ref sP, .ref sS, .int ea, .int no, .int fu, .int fo, .int sa, .int po, .int ch, .int rb, .int on, .int li, .int sp, .int hu, .int mu])), (a3, .inr (2, [.int mc3, .ref q3, .int 1])), (q3, .inl ((g.2.2.1 4), 10, .inr (.inr (.inr (.inr (va_up f3 0 (some s0)))))))] H := hP
  have hD : va_D A [(h0, .inr (13, [.ref a1, .ref a2, .ref a3, .ref a4, .ref a5, .int zh, .int zf, .int zw, .int ze, .int zn, .int zm])), (s0, .inr (10, [.ref sA, .ref sL, .ref sP, .ref sS, .int ea, .int no, .int fu, .int fo, .int sa, .int po, .int ch, .int rb, .int on, .int li, .int sp, .int hu, .int mu])), (a3, .inr (2, [.int mc3, .ref q3, .int 1])), (q3, .inl ((g.2.2.1 4), 10, .inr (.inr (.inr (.inr (va_up f3 0 (some s0)))))))] := hD
  refine W.widen (k := 0) (n := 0) (by decide) (by decide) ?_
  refine W.eq (g2 := F0 m 19 ls [.ref s0]) rfl ?_
  refine va_castE hx hb hown (G.w kw_84) (va_recv (q := (RX8, TX8, 17)) (ci := 10) (q0 := 1) G.K hP rfl rfl) dX11_shipAt_19 ?_
  exact kretA K hP hD hS [0, 2, 3, 1] [(h0, .inr (13, [.ref a1, .ref a2, .ref a3, .ref a4, .ref a5, .int zh, .int zf, .int zw, .int ze, .int zn, .int zm])), (a3, .inr (2, [.int mc3, .ref q3, .int 1])), (q3, .inl ((g.2.2.1 4), 10, .inr (.inr (.inr (.inr (va_up f3 0 (some s0))))))), (s0, .inr (10, [.ref sA, .ref sL, .ref sP, .ref sS, .int ea, .int no, .int fu, .int fo, .int sa, .int po, .int ch, .int rb, .int on, .int li, .int sp, .int hu, .int mu]))] rfl rfl ⟨rfl, rfl⟩ (by decide) (by decide) dX11_shipAt_22

