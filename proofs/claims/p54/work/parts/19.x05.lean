set_option maxHeartbeats 4000000 in
set_option maxRecDepth 100000 in
theorem m_X11_countAboard (l : Launch) (hl0 : l.stackTraces = false) (g : kG) (h0 : Nat) (a1 : Nat) (a2 : Nat) (a3 : Nat) (a4 : Nat) (a5 : Nat) (zh : Int32) (zf : Int32) (zw : Int32) (ze : Int32) (zn : Int32) (zm : Int32) (e0 : Nat) (e0b : Nat) (q4 : Nat) (eh : Int32) (ehb : Int32) (mc4 : Int32) (f4 : Nat → Option Nat)  : kc l g yX11_countAboard prog_1_method_95_code 3 (some .int) 3 64 0 0 [.ref h0] [(h0, .inr (13, [.ref a1, .ref a2, .ref a3, .ref a4, .ref a5, .int zh, .int zf, .int zw, .int ze, .int zn, .int zm])), (a4, .inr (2, [.int mc4, .ref q4, .int 2])), (q4, .inl ((g.2.2.1 4), 10, .inr (.inr (.inr (.inr (va_up (va_up f4 0 (some e0)) 1 (some e0b))))))), (e0, .inr (8, [.int 0, .int 0, .int 0, .int eh, .int (-1)])), (e0b, .inr (8, [.int 0, .int 0, .int 1, .int ehb, .int (-1)]))] (fun v w => (v = some (.int 2) ∧ w = [(h0, .inr (13, [.ref a1, .ref a2, .ref a3, .ref a4, .ref a5, .int zh, .int zf, .int zw, .int ze, .int zn, .int zm])), (a4, .inr (2, [.int mc4, .ref q4, .int 2])), (q4, .inl ((g.2.2.1 4), 10, .inr (.inr (.inr (.inr (va_up (va_up f4 0 (some e0)) 1 (some e0b))))))), (e0, .inr (8, [.int 0, .int 0, .int 0, .int eh, .int (-1)])), (e0b, .inr (8, [.int 0, .int 0, .int 1, .int ehb, .int (-1)]))])) (fun _ _ => False) := by
  refine kbody (by decide) (Nat.le_of_ble_eq_true rfl) ?_
  intro p e s m args below meth c A H K ht G hP hD hA hS ls hl
  have K : KB p s m meth c RX11 "countAboard" prog_1_method_95_code 3 (some .int) := K
  obtain ⟨hx, hb, hml, hown, hlocks, hr, hin⟩ := id K
  have hl : lv_has ls 3 [(0, .ref h0)] := hl
  refine lv_iconst (v := 0) hx hb dX11_countAboard_0 (by decide) ?_
  refine lv_istore_n (lv' := [(1, .int 0), (0, .ref h0)]) hx hb dX11_countAboard_1 rfl hl (by decide) rfl (fun ls hl => ?_)
  refine lv_iconst (v := 0) hx hb dX11_countAboard_2 (by decide) ?_
  refine lv_istore_n (lv' := [(2, .int 0), (1, .int 0), (0, .ref h0)]) hx hb dX11_countAboard_3 rfl hl (by decide) rfl (fun ls hl => ?_)
  refine lv_iload_n hx hb dX11_countAboard_4 rfl (lv_at hl 0 rfl) ?_
  refine lv_aload_n hx hb dX11_countAboard_5 rfl (lv_at hl 2 rfl) ?_
  refine va_get (D := g.1) (ci := 13) (v := .ref a4) (C := RX11) (T := TX11) (N := 11) hx hb G.ws inX11 hown G.K hP 0 rfl rfl 3 (by decide) (G.w kw_122) (fun _ h9 => h9) rfl dX11_countAboard_6 ?_
  refine kcallV (wc := [(a4, .inr (2, [.int mc4, .ref q4, .int 2]))]) (wr := [(h0, .inr (13, [.ref a1, .ref a2, .ref a3, .ref a4, .ref a5, .int zh, .int zf, .int zw, .int ze, .int zn, .int zm])), (q4, .inl ((g.2.2.1 4), 10, .inr (.inr (.inr (.inr (va_up (va_up f4 0 (some e0)) 1 (some e0b))))))), (e0, .inr (8, [.int 0, .int 0, .int 0, .int eh, .int (-1)])), (e0b, .inr (8, [.int 0, .int 0, .int 1, .int ehb, .int (-1)]))]) (As := []) (rest := [.int 0]) K G (m_Jx4a65c_size_8abf5 l hl0 g a4 q4 mc4 2 ) hP hD hS hA hl kw_31 kw_82 kw_33 kw_34 kw_22 ydJx4a65c_size_8abf5 [1] [0, 2, 3, 4] rfl rfl rfl rfl (by decide) (ci := 2) (q0 := 1) rfl rfl rfl rfl rfl (Nat.le_of_ble_eq_true rfl) dX11_countAboard_9 ⟨Nat.le_of_ble_eq_true rfl, Nat.le_of_ble_eq_true rfl⟩ ⟨Nat.le_of_ble_eq_true rfl, Nat.le_of_ble_eq_true rfl⟩ (fun _ _ _ _ _ _ hX _ _ _ _ _ _ => hX.elim) (fun v w1 H locs hQ hP hD hS => ?_)
  obtain ⟨rfl, rfl⟩ := hQ
  have hP : va_P g.1 vwCl [(h0, .inr (13, [.ref a1, .ref a2, .ref a3, .ref a4, .ref a5, .int zh, .int zf, .int zw, .int ze, .int zn, .int zm])), (q4, .inl ((g.2.2.1 4), 10, .inr (.inr (.inr (.inr (va_up (va_up f4 0 (some e0)) 1 (some e0b))))))), (e0, .inr (8, [.int 0, .int 0, .int 0, .int eh, .int (-1)])), (e0b, .inr (8, [.int 0, .int 0, .int 1, .int ehb, .int (-1)])), (a4, .inr (2, [.int mc4, .ref q4, .int 2]))] H := hP
  have hD : va_D A [(h0, .inr (13, [.ref a1, .ref a2, .ref a3, .ref a4, .ref a5, .int zh, .int zf, .int zw, .int ze, .int zn, .int zm])), (q4, .inl ((g.2.2.1 4), 10, .inr (.inr (.inr (.inr (va_up (va_up f4 0 (some e0)) 1 (some e0b))))))), (e0, .inr (8, [.int 0, .int 0, .int 0, .int eh, .int (-1)])), (e0b, .inr (8, [.int 0, .int 0, .int 1, .int ehb, .int (-1)])), (a4, .inr (2, [.int mc4, .ref q4, .int 2]))] := hD
  refine W.widen (k := 0) (n := 0) (by decide) (by decide) ?_
  refine W.eq (g2 := F0 m 12 ls [.int 2, .int 0]) rfl ?_
  refine lv_icmp_ge (tgt := 42) hx hb dX11_countAboard_12 (by decide) (fun c12_2 => absurd c12_2 (by decide)) (fun _ => ?_)
  refine lv_aload_n hx hb dX11_countAboard_15 rfl (lv_at hl 2 rfl) ?_
  refine va_get (D := g.1) (ci := 13) (v := .ref a4) (C := RX11) (T := TX11) (N := 11) hx hb G.ws inX11 hown G.K hP 0 rfl rfl 3 (by decide) (G.w kw_122) (fun _ h9 => h9) rfl dX11_countAboard_16 ?_
  refine lv_iload_n hx hb dX11_countAboard_19 rfl (lv_at hl 0 rfl) ?_
  refine kcallV (wc := [(a4, .inr (2, [.int mc4, .ref q4, .int 2])), (q4, .inl ((g.2.2.1 4), 10, .inr (.inr (.inr (.inr (va_up (va_up f4 0 (some e0)) 1 (some e0b)))))))]) (wr := [(h0, .inr (13, [.ref a1, .ref a2, .ref a3, .ref a4, .ref a5, .int zh, .int zf, .int zw, .int ze, .int zn, .int zm])), (e0, .inr (8, [.int 0, .int 0, .int 0, .int eh, .int (-1)])), (e0b, .inr (8, [.int 0, .int 0, .int 1, .int ehb, .int (-1)]))]) (As := [.int 0]) (rest := []) K G (m_Jx4a65c_get_915e3 l hl0 g a4 q4 10 e0 mc4 2 0 (va_up (va_up f4 0 (some e0)) 1 (some e0b)) (by decide) (by decide) rfl (vp_in_iff.mpr ⟨by decide, by decide⟩)) hP hD hS hA hl kw_35 kw_83 kw_37 kw_38 kw_22 ydJx4a65c_get_915e3 [4, 1] [0, 2, 3] rfl rfl rfl rfl (by decide) (ci := 2) (q0 := 4) rfl rfl rfl rfl rfl (Nat.le_of_ble_eq_true rfl) dX11_countAboard_20 ⟨Nat.le_of_ble_eq_true rfl, Nat.le_of_ble_eq_true rfl⟩ ⟨Nat.le_of_ble_eq_true rfl, Nat.le_of_ble_eq_true rfl⟩ (fun _ _ _ _ _ _ hX _ _ _ _ _ _ => hX.elim) (fun v w1 H locs hQ hP hD hS => ?_)
  obtain ⟨rfl, rfl⟩ := hQ
  have hP : va_P g.1 vwCl [(h0, .inr (13, [.ref a1, .ref a2, .ref a3, .ref a4, .ref a5, .int zh, .int zf, .int zw, .int ze, .int zn, .int zm])), (e0, .inr (8, [.int 0, .int 0, .int 0, .int eh, .int (-1)])), (e0b, .inr (8, [.int 0, .int 0, .int 1, .int ehb, .int (-1)])), (a4, .inr (2, [.int mc4, .ref q4, .int 2])), (q4, .inl ((g.2.2.1 4), 10, .inr (.inr (.inr (.inr (va_up (va_up f4 0 (some e0)) 1 (some e0b)))))))] H := hP
  have hD : va_D A [(h0, .inr (13, [.ref a1, .ref a2, .ref a3, .ref a4, .ref a5, .int zh, .int zf, .int zw, .int ze, .int zn, .int zm])), (e0, .inr (8, [.int 0, .int 0, .int 0, .int eh, .int (-1)])), (e0b, .inr (8, [.int 0, .int 0, .int 1, .int ehb, .int (-1)])), (a4, .inr (2, [.int mc4, .ref q4, .int 2])), (q4, .inl ((g.2.2.1 4), 10, .inr (.inr (.inr (.inr (va_up (va_up f4 0 (some e0)) 1 (some e0b)))))))] := hD
  refine W.widen (k := 0) (n := 0) (by decide) (by decide) ?_
  refine W.eq (g2 := F0 m 23 ls [.ref e0]) rfl ?_
  refine va_castE hx hb hown (G.w kw_123) (va_recv (q := (RX5, TX5, 5)) (ci := 8) (q0 := 1) G.K hP rfl rfl) dX11_countAboard_23 ?_
  refine va_get (D := g.1) (ci := 8) (v := .int 0) (C := RX5) (T := TX5) (N := 5) hx hb G.ws inX5 hown G.K hP 1 rfl rfl 2 (by decide) (G.w kw_124) (fun _ h9 => h9) rfl dX11_countAboard_26 ?_
  refine lv_iconst (v := (-1)) hx hb dX11_countAboard_29 (by decide) ?_
  refine lv_icmp_eq (tgt := 36) hx hb dX11_countAboard_30 (by decide) (fun c30_4 => absurd c30_4 (by decide)) (fun _ => ?_)
  refine lv_iinc (v := 1) (lv' := [(1, .int 1), (2, .int 0), (0, .ref h0)]) hx hb dX11_countAboard_33 hl (k := 1) rfl (by decide) (by decide) rfl (fun ls hl => ?_)
  refine lv_iinc (v := 1) (lv' := [(2, .int 1), (1, .int 1), (0, .ref h0)]) hx hb dX11_countAboard_36 hl (k := 1) rfl (by decide) (by decide) rfl (fun ls hl => ?_)
  refine lv_goto (tgt := 4) hx hb dX11_countAboard_39 (by decide) ?_
  refine lv_iload_n hx hb dX11_countAboard_4 rfl (lv_at hl 0 rfl) ?_
  refine lv_aload_n hx hb dX11_countAboard_5 rfl (lv_at hl 2 rfl) ?_
  refine va_get (D := g.1) (ci := 13) (v := .ref a4) (C := RX11) (T := TX11) (N := 11) hx hb G.ws inX11 hown G.K hP 0 rfl rfl 3 (by decide) (G.w kw_122) (fun _ h9 => h9) rfl dX11_countAboard_6 ?_
  refine kcallV (wc := [(a4, .inr (2, [.int mc4, .ref q4, .int 2]))]) (wr := [(h0, .inr (13, [.ref a1, .ref a2, .ref a3, .ref a4, .ref a5, .int zh, .int zf, .int zw, .int ze, .int zn, .int zm])), (e0, .inr (8, [.int 0, .int 0, .int 0, .int eh, .int (-1)])), (e0b, .inr (8, [.int 0, .int 0, .int 1, .int ehb, .int (-1)])), (q4, .inl ((g.2.2.1 4), 10, .inr (.inr (.inr (.inr (va_up (va_up f4 0 (some e0)) 1 (some e0b)))))))]) (As := []) (rest := [.int 1]) K G (m_Jx4a65c_size_8abf5 l hl0 g a4 q4 mc4 2 ) hP hD hS hA hl kw_31 kw_82 kw_33 kw_34 kw_22 ydJx4a65c_size_8abf5 [3] [0, 1, 2, 4] rfl rfl rfl rfl (by decide) (ci := 2) (q0 := 3) rfl rfl rfl rfl rfl (Nat.le_of_ble_eq_true rfl) dX11_countAboard_9 ⟨Nat.le_of_ble_eq_true rfl, Nat.le_of_ble_eq_true rfl⟩ ⟨Nat.le_of_ble_eq_true rfl, Nat.le_of_ble_eq_true rfl⟩ (fun _ _ _ _ _ _ hX _ _ _ _ _ _ => hX.elim) (fun v w1 H locs hQ hP hD hS => ?_)
  obtain ⟨rfl, rfl⟩ := hQ
  have hP : va_P g.1 vwCl [(h0, .inr (13, [.ref a1, .ref a2, .ref a3, .ref a4, .ref a5, .int zh, .int zf, .int zw, .int ze, .int zn, .int zm])), (e0, .inr (8, [.int 0, .int 0, .int 0, .int eh, .int (-1)])), (e0b, .inr (8, [.int 0, .int 0, .int 1, .int ehb, .int (-1)])), (q4, .inl ((g.2.2.1 4), 10, .inr (.inr (.inr (.inr (va_up (va_up f4 0 (some e0)) 1 (some e0b))))))), (a4, .inr (2, [.int mc4, .ref q4, .int 2]))] H := hP
  have hD : va_D A [(h0, .inr (13, [.ref a1, .ref a2, .ref a3, .ref a4, .ref a5, .int zh, .int zf, .int zw, .int ze, .int zn, .int zm])), (e0, .inr (8, [.int 0, .int 0, .int 0, .int eh, .int (-1)])), (e0b, .inr (8, [.int 0, .int 0, .int 1, .int ehb, .int (-1)])), (q4, .inl ((g.2.2.1 4), 10, .inr (.inr (.inr (.inr (va_up (va_up f4 0 (some e0)) 1 (some e0b))))))), (a4, .inr (2, [.int mc4, .ref q4, .int 2]))] := hD
  refine W.widen (k := 0) (n := 0) (by decide) (by decide) ?_
  refine W.eq (g2 := F0 m 12 ls [.int 2, .int 1]) rfl ?_
  refine lv_icmp_ge (tgt := 42) hx hb dX11_countAboard_12 (by decide) (fun c12_6 => absurd c12_6 (by decide)) (fun _ => ?_)
  refine lv_aload_n hx hb dX11_countAboard_15 rfl (lv_at hl 2 rfl) ?_
  refine va_get (D := g.1) (ci := 13) (v := .ref a4) (C := RX11) (T := TX11) (N := 11) hx hb G.ws inX11 hown G.K hP 0 rfl rfl 3 (by decide) (G.w kw_122) (fun _ h9 => h9) rfl dX11_countAboard_16 ?_
  refine lv_iload_n hx hb dX11_countAboard_19 rfl (lv_at hl 0 rfl) ?_
  refine kcallV (wc := [(a4, .inr (2, [.int mc4, .ref q4, .int 2])), (q4, .inl ((g.2.2.1 4), 10, .inr (.inr (.inr (.inr (va_up (va_up f4 0 (some e0)) 1 (some e0b)))))))]) (wr := [(h0, .inr (13, [.ref a1, .ref a2, .ref a3, .ref a4, .ref a5, .int zh, .int zf, .int zw, .int ze, .int zn, .int zm])), (e0, .inr (8, [.int 0, .int 0, .int 0, .int eh, .int (-1)])), (e0b, .inr (8, [.int 0, .int 0, .int 1, .int ehb, .int (-1)]))]) (As := [.int 1]) (rest := []) K G (m_Jx4a65c_get_915e3 l hl0 g a4 q4 10 e0b mc4 2 1 (va_up (va_up f4 0 (some e0)) 1 (some e0b)) (by decide) (by decide) rfl (vp_in_iff.mpr ⟨by decide, by decide⟩)) hP hD hS hA hl kw_35 kw_83 kw_37 kw_38 kw_22 ydJx4a65c_get_915e3 [4, 3] [0, 1, 2] rfl rfl rfl rfl (by decide) (ci := 2) (q0 := 4) rfl rfl rfl rfl rfl (Nat.le_of_ble_eq_true rfl) dX11_countAboard_20 ⟨Nat.le_of_ble_eq_true rfl, Nat.le_of_ble_eq_true rfl⟩ ⟨Nat.le_of_ble_eq_true rfl, Nat.le_of_ble_eq_true rfl⟩ (fun _ _ _ _ _ _ hX _ _ _ _ _ _ => hX.elim) (fun v w1 H locs hQ hP hD hS => ?_)
  obtain ⟨rfl, rfl⟩ := hQ
  have hP : va_P g.1 vwCl [(h0, .inr (13, [.ref a1, .ref a2, .ref a3, .ref a4, .ref a5, .int zh, .int zf, .int zw, .int ze, .int zn, .int zm])), (e0, .inr (8, [.int 0, .int 0, .int 0, .int eh, .int (-1)])), (e0b, .inr (8, [.int 0, .int 0, .int 1, .int ehb, .int (-1)])), (a4, .inr (2, [.int mc4, .ref q4, .int 2])), (q4, .inl ((g.2.2.1 4), 10, .inr (.inr (.inr (.inr (va_up (va_up f4 0 (some e0)) 1 (some e0b)))))))] H := hP
  have hD : va_D A [(h0, .inr (13, [.ref a1, .ref a2, .ref a3, .ref a4, .ref a5, .int zh, .int zf, .int zw, .int ze, .int zn, .int zm])), (e0, .inr (8, [.int 0, .int 0, .int 0, .int eh, .int (-1)])), (e0b, .inr (8, [.int 0, .int 0, .int 1, .int ehb, .int (-1)])), (a4, .inr (2, [.int mc4, .ref q4, .int 2])), (q4, .inl ((g.2.2.1 4), 10, .inr (.inr (.inr (.inr (va_up (va_up f4 0 (some e0)) 1 (some e0b)))))))] := hD
  refine W.widen (k := 0) (n := 0) (by decide) (by decide) ?_
  refine W.eq (g2 := F0 m 23 ls [.ref e0b]) rfl ?_
  refine va_castE hx hb hown (G.w kw_123) (va_recv (q := (RX5, TX5, 5)) (ci := 8) (q0 := 2) G.K hP rfl rfl) dX11_countAboard_23 ?_
  refine va_get (D := g.1) (ci := 8) (v := .int 1) (C := RX5) (T := TX5) (N := 5) hx hb G.ws inX5 hown G.K hP 2 rfl rfl 2 (by decide) (G.w kw_124) (fun _ h9 => h9) rfl dX11_countAboard_26 ?_
  refine lv_iconst (v := (-1)) hx hb dX11_countAboard_29 (by decide) ?_
  refine lv_icmp_eq (tgt := 36) hx hb dX11_countAboard_30 (by decide) (fun c30_8 => absurd c30_8 (by decide)) (fun _ => ?_)
  refine lv_iinc (v := 2) (lv' := [(1, .int 2), (2, .int 1), (0, .ref h0)]) hx hb dX11_countAboard_33 hl (k := 1) rfl (by decide) (by decide) rfl (fun ls hl => ?_)
  refine lv_iinc (v := 2) (lv' := [(2, .int 2), (1, .int 2), (0, .ref h0)]) hx hb dX11_countAboard_36 hl (k := 1) rfl (by decide) (by decide) rfl (fun ls hl => ?_)
  refine lv_goto (tgt := 4) hx hb dX11_countAboard_39 (by decide) ?_
  refine lv_iload_n hx hb dX11_countAboard_4 rfl (lv_at hl 0 rfl) ?_
  refine lv_aload_n hx hb dX11_countAboard_5 rfl (lv_at hl 2 rfl) ?_
  refine va_get (D := g.1) (ci := 13) (v := .ref a4) (C := RX11) (T := TX11) (N := 11) hx hb G.ws inX11 hown G.K hP 0 rfl rfl 3 (by decide) (G.w kw_122) (fun _ h9 => h9) rfl dX11_countAboard_6 ?_
  refine kcallV (wc := [(a4, .inr (2, [.int mc4, .ref q4, .int 2]))]) (wr := [(h0, .inr (13, [.ref a1, .ref a2, .ref a3, .ref a4, .ref a5, .int zh, .int zf, .int zw, .int ze, .int zn, .int zm])), (e0, .inr (8, [.int 0, .int 0, .int 0, .int eh, .int (-1)])), (e0b, .inr (8, [.int 0, .int 0, .int 1, .int ehb, .int (-1)])), (q4, .inl ((g.2.2.1 4), 10, .inr (.inr (.inr (.inr (va_up (va_up f4 0 (some e0)) 1 (some e0b)))))))]) (As := []) (rest := [.int 2]) K G (m_Jx4a65c_size_8abf5 l hl0 g a4 q4 mc4 2 ) hP hD hS hA hl kw_31 kw_82 kw_33 kw_34 kw_22 ydJx4a65c_size_8abf5 [3] [0, 1, 2, 4] rfl rfl rfl rfl (by decide) (ci := 2) (q0 := 3) rfl rfl rfl rfl rfl (Nat.le_of_ble_eq_true rfl) dX11_countAboard_9 ⟨Nat.le_of_ble_eq_true rfl, Nat.le_of_ble_eq_true rfl⟩ ⟨Nat.le_of_ble_eq_true rfl, Nat.le_of_ble_eq_true rfl⟩ (fun _ _ _ _ _ _ hX _ _ _ _ _ _ => hX.elim) (fun v w1 H locs hQ hP hD hS => ?_)
  obtain ⟨rfl, rfl⟩ := hQ
  have hP : va_P g.1 vwCl [(h0, .inr (13, [.ref a1, .ref a2, .ref a3, .ref a4, .ref a5, .int zh, .int zf, .int zw, .int ze, .int zn, .int zm])), (e0, .inr (8, [.int 0, .int 0, .int 0, .int eh, .int (-1)])), (e0b, .inr (8, [.int 0, .int 0, .int 1, .int ehb, .int (-1)])), (q4, .inl ((g.2.2.1 4), 10, .inr (.inr (.inr (.inr (va_up (va_up f4 0 (some e0)) 1 (some e0b))))))), (a4, .inr (2, [.int mc4, .ref q4, .int 2]))] H := hP
  have hD : va_D A [(h0, .inr (13, [.ref a1, .ref a2, .ref a3, .ref a4, .ref a5, .int zh, .int zf, .int zw, .int ze, .int zn, .int zm])), (e0, .inr (8, [.int 0, .int 0, .int 0, .int eh, .int (-1)])), (e0b, .inr (8, [.int 0, .int 0, .int 1, .int ehb, .int (-1)])), (q4, .inl ((g.2.2.1 4), 10, .inr (.inr (.inr (.inr (va_up (va_up f4 0 (some e0)) 1 (some e0b))))))), (a4, .inr (2, [.int mc4, .ref q4, .int 2]))] := hD
  refine W.widen (k := 0) (n := 0) (by decide) (by decide) ?_
  refine W.eq (g2 := F0 m 12 ls [.int 2, .int 2]) rfl ?_
  refine lv_icmp_ge (tgt := 42) hx hb dX11_countAboard_12 (by decide) (fun _ => ?_) (fun c12_10 => absurd c12_10 (by decide))
  refine lv_iload_n hx hb dX11_countAboard_42 rfl (lv_at hl 1 rfl) ?_
  exact kretI K hP hD hS [0, 4, 3, 1, 2] [(h0, .inr (13, [.ref a1, .ref a2, .ref a3, .ref a4, .ref a5, .int zh, .int zf, .int zw, .int ze, .int zn, .int zm])), (a4, .inr (2, [.int mc4, .ref q4, .int 2])), (q4, .inl ((g.2.2.1 4), 10, .inr (.inr (.inr (.inr (va_up (va_up f4 0 (some e0)) 1 (some e0b))))))), (e0, .inr (8, [.int 0, .int 0, .int 0, .int eh, .int (-1)])), (e0b, .inr (8, [.int 0, .int 0, .int 1, .int ehb, .int (-1)]))] rfl rfl ⟨rfl, rfl⟩ (by decide) (by decide) dX11_countAboard_43

set_option maxHeartbeats 4000000 in
set_option maxRecDepth 100000 in
theorem m_X11_getMeanCrew (l : Launch) (hl0 : l.stackTraces = false) (g : kG) (h0 : Nat) (a1 : Nat) (a2 : Nat) (a3 : Nat) (a4 : Nat) (a5 : Nat) (zh : Int32) (zf : Int32) (zw : Int32) (ze : Int32) (zn : Int32) (zm : Int32) (q3 : Nat) (mc3 : Int32) (f3 : Nat → Option Nat) (s0 : Nat) (s0b : Nat) (e0 : Nat) (e0b : Nat) (q4 : Nat) (eh : Int32) (ehb : Int32) (mc4 : Int32) (f4 : Nat → Option Nat)  : kc l g yX11_getMeanCrew prog_1_method_50_code 2 (some .double) 4 86 0 0 [.ref h0] [(h0, .inr (13, [.ref a1, .ref a2, .ref a3, .ref a4, .ref a5, .int zh, .int zf, .int zw, .int ze, .int zn, .int zm])), (a3, .inr (2, [.int mc3, .ref q3, .int 2])), (q3, .inl ((g.2.2.1 4), 10, .inr (.inr (.inr (.inr (va_up (va_up f3 0 (some s0)) 1 (some s0b))))))), (a4, .inr (2, [.int mc4, .ref q4, .int 2])), (q4, .inl ((g.2.2.1 4), 10, .inr (.inr (.inr (.inr (va_up (va_up f4 0 (some e0)) 1 (some e0b))))))), (e0, .inr (8, [.int 0, .int 0, .int 0, .int eh, .int (-1)])), (e0b, .inr (8, [.int 0, .int 0, .int 1, .int ehb, .int (-1)]))] (fun v w => (v = some (.double (FP.ddiv (FP.i2d 2) (FP.i2d 2))) ∧ w = [(h0, .inr (13, [.ref a1, .ref a2, .ref a3, .ref a4, .ref a5, .int zh, .int zf, .int zw, .int ze, .int zn, .int zm])), (a3, .inr (2, [.int mc3, .ref q3, .int 2])), (q3, .inl ((g.2.2.1 4), 10, .inr (.inr (.inr (.inr (va_up (va_up f3 0 (some s0)) 1 (some s0b))))))), (a4, .inr (2, [.int mc4, .ref q4, .int 2])), (q4, .inl ((g.2.2.1 4), 10, .inr (.inr (.inr (.inr (va_up (va_up f4 0 (some e0)) 1 (some e0b))))))), (e0, .inr (8, [.int 0, .int 0, .int 0, .int eh, .int (-1)])), (e0b, .inr (8, [.int 0, .int 0, .int 1, .int ehb, .int (-1)]))])) (fun _ _ => False) := by
  refine kbody (by decide) (Nat.le_of_ble_eq_true rfl) ?_
  intro p e s m args below meth c A H K ht G hP hD hA hS ls hl
  have K : KB p s m meth c RX11 "getMeanCrew" prog_1_method_50_code 2 (some .double) := K
  obtain ⟨hx, hb, hml, hown, hlocks, hr, hin⟩ := id K
  have hl : lv_has ls 2 [(0, .ref h0)] := hl
  refine lv_aload_n hx hb dX11_getMeanCrew_0 rfl (lv_at hl 0 rfl) ?_
  refine va_get (D := g.1) (ci := 13) (v := .ref a3) (C := RX11) (T := TX11) (N := 11) hx hb G.ws inX11 hown G.K hP 0 rfl rfl 2 (by decide) (G.w kw_81) (fun _ h9 => h9) rfl dX11_getMeanCrew_1 ?_
  refine kcallV (wc := [(a3, .inr (2, [.int mc3, .ref q3, .int 2]))]) (wr := [(h0, .inr (13, [.ref a1, .ref a2, .ref a3, .ref a4, .ref a5, .int zh, .int zf, .int zw, .int ze, .int zn, .int zm])), (q3, .inl ((g.2.2.1 4), 10, .inr (.inr (.inr (.inr (va_up (va_up f3 0 (some s0)) 1 (some s0b))))))), (a4, .inr (2, [.int mc4, .ref q4, .int 2])), (q4, .inl ((g.2.2.1 4), 10, .inr (.inr (.inr (.inr (va_up (va_up f4 0 (some e0)) 1 (some e0b))))))), (e0, .inr (8, [.int 0, .int 0, .int 0, .int eh, .int (-1)])), (e0b, .inr (8, [.int 0, .int 0, .int 1, .int ehb, .int (-1)]))]) (As := []) (rest := []) K G (m_Jx4a65c_size_8abf5 l hl0 g a3 q3 mc3 2 ) hP hD hS hA hl kw_31 kw_82 kw_33 kw_34 kw_22 ydJx4a65c_size_8abf5 [1] [0, 2, 3, 4, 5, 6] rfl rfl rfl rfl (by decide) (ci := 2) (q0 := 1) rfl rfl rfl rfl rfl (Nat.le_of_ble_eq_true rfl) dX11_getMeanCrew_4 ⟨Nat.le_of_ble_eq_true rfl, Nat.le_of_ble_eq_true rfl⟩ ⟨Nat.le_of_ble_eq_true rfl, Nat.le_of_ble_eq_true rfl⟩ (fun _ _ _ _ _ _ hX _ _ _ _ _ _ => hX.elim) (fun v w1 H locs hQ hP hD hS => ?_)
  obtain ⟨rfl, rfl⟩ := hQ
  have hP : va_P g.1 vwCl [(h0, .inr (13, [.ref a1, .ref a2, .ref a3, .ref a4, .ref a5, .int zh, .int zf, .int zw, .int ze, .int zn, .int zm])), (q3, .inl ((g.2.2.1 4), 10, .inr (.inr (.inr (.inr (va_up (va_up f3 0 (some s0)) 1 (some s0b))))))), (a4, .inr (2, [.int mc4, .ref q4, .int 2])), (q4, .inl ((g.2.2.1 4), 10, .inr (.inr (.inr (.inr (va_up (va_up f4 0 (some e0)) 1 (some e0b))))))), (e0, .inr (8, [.int 0, .int 0, .int 0, .int eh, .int (-1)])), (e0b, .inr (8, [.int 0, .int 0, .int 1, .int ehb, .int (-1)])), (a3, .inr (2, [.int mc3, .ref q3, .int 2]))] H := hP
  have hD : va_D A [(h0, .inr (13, [.ref a1, .ref a2, .ref a3, .ref a4, .ref a5, .int zh, .int zf, .int zw, .int ze, .int zn, .int zm])), (q3, .inl ((g.2.2.1 4), 10, .inr (.inr (.inr (.inr (va_up (va_up f3 0 (some s0)) 1 (some s0b))))))), (a4, .inr (2, [.int mc4, .ref q4, .int 2])), (q4, .inl ((g.2.2.1 4), 10, .inr (.inr (.inr (.inr (va_up (va_up f4 0 (some e0)) 1 (some e0b))))))), (e0, .inr (8, [.int 0, .int 0, .int 0, .int eh, .int (-1)])), (e0b, .inr (8, [.int 0, .int 0, .int 1, .int ehb, .int (-1)])), (a3, .inr (2, [.int mc3, .ref q3, .int 2]))] := hD
  refine W.widen (k := 0) (n := 0) (by decide) (by decide) ?_
  refine W.eq (g2 := F0 m 7 ls [.int 2]) rfl ?_
  refine lv_istore_n (lv' := [(1, .int 2), (0, .ref h0)]) hx hb dX11_getMeanCrew_7 rfl hl (by decide) rfl (fun ls hl => ?_)
  refine lv_iload_n hx hb dX11_getMeanCrew_8 rfl (lv_at hl 0 rfl) ?_
  refine lv_if_ne (tgt := 23) hx hb dX11_getMeanCrew_9 (by decide) (fun _ => ?_) (fun c9_2 => absurd c9_2 (by decide))
  refine lv_aload_n hx hb dX11_getMeanCrew_23 rfl (lv_at hl 1 rfl) ?_
  refine kcallV (wc := [(h0, .inr (13, [.ref a1, .ref a2, .ref a3, .ref a4, .ref a5, .int zh, .int zf, .int zw, .int ze, .int zn, .int zm])), (a4, .inr (2, [.int mc4, .ref q4, .int 2])), (q4, .inl ((g.2.2.1 4), 10, .inr (.inr (.inr (.inr (va_up (va_up f4 0 (some e0)) 1 (some e0b))))))), (e0, .inr (8, [.int 0, .int 0, .int 0, .int eh, .int (-1)])), (e0b, .inr (8, [.int 0, .int 0, .int 1, .int ehb, .int (-1)]))]) (wr := [(q3, .inl ((g.2.2.1 4), 10, .inr (.inr (.inr (.inr (va_up (va_up f3 0 (some s0)) 1 (some s0b))))))), (a3, .inr (2, [.int mc3, .ref q3, .int 2]))]) (As := []) (rest := []) K G (m_X11_countAboard l hl0 g h0 a1 a2 a3 a4 a5 zh zf zw ze zn zm e0 e0b q4 eh ehb mc4 f4 ) hP hD hS hA hl kw_551 kw_552 kw_553 kw_554 kw_63 ydX11_countAboard [0, 2, 3, 4, 5] [1, 6] rfl rfl rfl rfl (by decide) (ci := 13) (q0 := 0) rfl rfl rfl rfl rfl (Nat.le_of_ble_eq_true rfl) dX11_getMeanCrew_24 ⟨Nat.le_of_ble_eq_true rfl, Nat.le_of_ble_eq_true rfl⟩ ⟨Nat.le_of_ble_eq_true rfl, Nat.le_of_ble_eq_true rfl⟩ (fun _ _ _ _ _ _ hX _ _ _ _ _ _ => hX.elim) (fun v w1 H locs hQ hP hD hS => ?_)
  obtain ⟨rfl, rfl⟩ := hQ
  have hP : va_P g.1 vwCl [(q3, .inl ((g.2.2.1 4), 10, .inr (.inr (.inr (.inr (va_up (va_up f3 0 (some s0)) 1 (some s0b))))))), (a3, .inr (2, [.int mc3, .ref q3, .int 2])), (h0, .inr (13, [.ref a1, .ref a2, .ref a3, .ref a4, .ref a5, .int zh, .int zf, .int zw, .int ze, .int zn, .int zm])), (a4, .inr (2, [.int mc4, .ref q4, .int 2])), (q4, .inl ((g.2.2.1 4), 10, .inr (.inr (.inr (.inr (va_up (va_up f4 0 (some e0)) 1 (some e0b))))))), (e0, .inr (8, [.int 0, .int 0, .int 0, .int eh, .int (-1)])), (e0b, .inr (8, [.int 0, .int 0, .int 1, .int ehb, .int (-1)]))] H := hP
  have hD : va_D A [(q3, .inl ((g.2.2.1 4), 10, .inr (.inr (.inr (.inr (va_up (va_up f3 0 (some s0)) 1 (some s0b))))))), (a3, .inr (2, [.int mc3, .ref q3, .int 2])), (h0, .inr (13, [.ref a1, .ref a2, .ref a3, .ref a4, .ref a5, .int zh, .int zf, .int zw, .int ze, .int zn, .int zm])), (a4, .inr (2, [.int mc4, .ref q4, .int 2])), (q4, .inl ((g.2.2.1 4), 10, .inr (.inr (.inr (.inr (va_up (va_up f4 0 (some e0)) 1 (some e0b))))))), (e0, .inr (8, [.int 0, .int 0, .int 0, .int eh, .int (-1)])), (e0b, .inr (8, [.int 0, .int 0, .int 1, .int ehb, .int (-1)]))] := hD
  refine W.widen (k := 0) (n := 0) (by decide) (by decide) ?_
  refine W.eq (g2 := F0 m 27 ls [.int 2]) rfl ?_
  refine lv_i2d hx hb dX11_getMeanCrew_27 ?_
  refine lv_iload_n hx hb dX11_getMeanCrew_28 rfl (lv_at hl 0 rfl) ?_
  refine lv_i2d hx hb dX11_getMeanCrew_29 ?_
  refine lv_ddiv hx hb dX11_getMeanCrew_30 (by unfold vf_n64; decide +kernel) ?_
  exact kretD K hP hD hS [2, 1, 0, 3, 4, 5, 6] [(h0, .inr (13, [.ref a1, .ref a2, .ref a3, .ref a4, .ref a5, .int zh, .int zf, .int zw, .int ze, .int zn, .int zm])), (a3, .inr (2, [.int mc3, .ref q3, .int 2])), (q3, .inl ((g.2.2.1 4), 10, .inr (.inr (.inr (.inr (va_up (va_up f3 0 (some s0)) 1 (some s0b))))))), (a4, .inr (2, [.int mc4, .ref q4, .int 2])), (q4, .inl ((g.2.2.1 4), 10, .inr (.inr (.inr (.inr (va_up (va_up f4 0 (some e0)) 1 (some e0b))))))), (e0, .inr (8, [.int 0, .int 0, .int 0, .int eh, .int (-1)])), (e0b, .inr (8, [.int 0, .int 0, .int 1, .int ehb, .int (-1)]))] rfl rfl (⟨rfl, rfl⟩) (by decide) (by decide) dX11_getMeanCrew_31

set_option maxHeartbeats 4000000 in
set_option maxRecDepth 100000 in
theorem m_X11_areCrewsSound (l : Launch) (hl0 : l.stackTraces = false) (g : kG) (h0 : Nat) (a1 : Nat) (a2 : Nat) (a3 : Nat) (a4 : Nat) (a5 : Nat) (zh : Int32) (zf : Int32) (zw : Int32) (ze : Int32) (zn : Int32) (zm : Int32) (q3 : Nat) (mc3 : Int32) (f3 : Nat → Option Nat) (s0 : Nat) (s0b : Nat) (e0 : Nat) (e0b : Nat) (q4 : Nat) (eh : Int32) (ehb : Int32) (mc4 : Int32) (f4 : Nat → Option Nat)  : kc l g yX11_areCrewsSound prog_1_method_101_code 3 (some .boolean) 4 87 0 0 [.ref h0] [(h0, .inr (13, [.ref a1, .ref a2, .ref a3, .ref a4, .ref a5, .int zh, .int zf, .int zw, .int ze, .int zn, .int zm])), (a3, .inr (2, [.int mc3, .ref q3, .int 2])), (q3, .inl ((g.2.2.1 4), 10, .inr (.inr (.inr (.inr (va_up (va_up f3 0 (some s0)) 1 (some s0b))))))), (a4, .inr (2, [.int mc4, .ref q4, .int 2])), (q4, .inl ((g.2.2.1 4), 10, .inr (.inr (.inr (.inr (va_up (va_up f4 0 (some e0)) 1 (some e0b))))))), (e0, .inr (8, [.int 0, .int 0, .int 0, .int eh, .int (-1)])), (e0b, .inr (8, [.int 0, .int 0, .int 1, .int ehb, .int (-1)]))] (fun v w => (v = some (.int 1) ∧ w = [(h0, .inr (13, [.ref a1, .ref a2, .ref a3, .ref a4, .ref a5, .int zh, .int zf, .int zw, .int ze, .int zn, .int zm])), (a3, .inr (2, [.int mc3, .ref q3, .int 2])), (q3, .inl ((g.2.2.1 4), 10, .inr (.inr (.inr (.inr (va_up (va_up f3 0 (some s0)) 1 (some s0b))))))), (a4, .inr (2, [.int mc4, .ref q4, .int 2])), (q4, .inl ((g.2.2.1 4), 10, .inr (.inr (.inr (.inr (va_up (va_up f4 0 (some e0)) 1 (some e0b))))))), (e0, .inr (8, [.int 0, .int 0, .int 0, .int eh, .int (-1)])), (e0b, .inr (8, [.int 0, .int 0, .int 1, .int ehb, .int (-1)]))])) (fun _ _ => False) := by
  refine kbody (by decide) (Nat.le_of_ble_eq_true rfl) ?_
  intro p e s m args below meth c A H K ht G hP hD hA hS ls hl
  have K : KB p s m meth c RX11 "areCrewsSound" prog_1_method_101_code 3 (some .boolean) := K
  obtain ⟨hx, hb, hml, hown, hlocks, hr, hin⟩ := id K
  have hl : lv_has ls 3 [(0, .ref h0)] := hl
  refine lv_iconst (v := 0) hx hb dX11_areCrewsSound_0 (by decide) ?_
  refine lv_istore_n (lv' := [(1, .int 0), (0, .ref h0)]) hx hb dX11_areCrewsSound_1 rfl hl (by decide) rfl (fun ls hl => ?_)
  refine lv_iconst (v := 0) hx hb dX11_areCrewsSound_2 (by decide) ?_
  refine lv_istore_n (lv' := [(2, .int 0), (1, .int 0), (0, .ref h0)]) hx hb dX11_areCrewsSound_3 rfl hl (by decide) rfl (fun ls hl => ?_)
  refine lv_iload_n hx hb dX11_areCrewsSound_4 rfl (lv_at hl 0 rfl) ?_
  refine lv_aload_n hx hb dX11_areCrewsSound_5 rfl (lv_at hl 2 rfl) ?_
  refine va_get (D := g.1) (ci := 13) (v := .ref a3) (C := RX11) (T := TX11) (N := 11) hx hb G.ws inX11 hown G.K hP 0 rfl rfl 2 (by decide) (G.w kw_81) (fun _ h9 => h9) rfl dX11_areCrewsSound_6 ?_
  refine kcallV (wc := [(a3, .inr (2, [.int mc3, .ref q3, .int 2]))]) (wr := [(h0, .inr (13, [.ref a1, .ref a2, .ref a3, .ref a4, .ref a5, .int zh, .int zf, .int zw, .int ze, .int zn, .int zm])), (q3, .inl ((g.2.2.1 4), 10, .inr (.inr (.inr (.inr (va_up (va_up f3 0 (some s0)) 1 (some s0b))))))), (a4, .inr (2, [.int mc4, .ref q4, .int 2])), (q4, .inl ((g.2.2.1 4), 10, .inr (.inr (.inr (.inr (va_up (va_up f4 0 (some e0)) 1 (some e0b))))))), (e0, .inr (8, [.int 0, .int 0, .int 0, .int eh, .int (-1)])), (e0b, .inr (8, [.int 0, .int 0, .int 1, .int ehb, .int (-1)]))]) (As := []) (rest := [.int 0]) K G (m_Jx4a65c_size_8abf5 l hl0 g a3 q3 mc3 2 ) hP hD hS hA hl kw_31 kw_82 kw_33 kw_34 kw_22 ydJx4a65c_size_8abf5 [1] [0, 2, 3, 4, 5, 6] rfl rfl rfl rfl (by decide) (ci := 2) (q0 := 1) rfl rfl rfl rfl rfl (Nat.le_of_ble_eq_true rfl) dX11_areCrewsSound_9 ⟨Nat.le_of_ble_eq_true rfl, Nat.le_of_ble_eq_true rfl⟩ ⟨Nat.le_of_ble_eq_true rfl, Nat.le_of_ble_eq_true rfl⟩ (fun _ _ _ _ _ _ hX _ _ _ _ _ _ => hX.elim) (fun v w1 H locs hQ hP hD hS => ?_)
  obtain ⟨rfl, rfl⟩ := hQ
  have hP : va_P g.1 vwCl [(h0, .inr (13, [.ref a1, .ref a2, .ref a3, .ref a4, .ref a5, .int zh, .int zf, .int zw, .int ze, .int zn, .int zm])), (q3, .inl ((g.2.2.1 4), 10, .inr (.inr (.inr (.inr (va_up (va_up f3 0 (some s0)) 1 (some s0b))))))), (a4, .inr (2, [.int mc4, .ref q4, .int 2])), (q4, .inl ((g.2.2.1 4), 10, .inr (.inr (.inr (.inr (va_up (va_up f4 0 (some e0)) 1 (some e0b))))))), (e0, .inr (8, [.int 0, .int 0, .int 0, .int eh, .int (-1)])), (e0b, .inr (8, [.int 0, .int 0, .int 1, .int ehb, .int (-1)])), (a3, .inr (2, [.int mc3, .ref q3, .int 2]))] H := hP
  have hD : va_D A [(h0, .inr (13, [.ref a1, .ref a2, .ref a3, .ref a4, .ref a5, .int zh, .int zf, .int zw, .int ze, .int zn, .int zm])), (q3, .inl ((g.2.2.1 4), 10, .inr (.inr (.inr (.inr (va_up (va_up f3 0 (some s0)) 1 (some s0b))))))), (a4, .inr (2, [.int mc4, .ref q4, .int 2])), (q4, .inl ((g.2.2.1 4), 10, .inr (.inr (.inr (.inr (va_up (va_up f4 0 (some e0)) 1 (some e0b))))))), (e0, .inr (8, [.int 0, .int 0, .int 0, .int eh, .int (-1)])), (e0b, .inr (8, [.int 0, .int 0, .int 1, .int ehb, .int (-1)])), (a3, .inr (2, [.int mc3, .ref q3, .int 2]))] := hD
  refine W.widen (k := 0) (n := 0) (by decide) (by decide) ?_
  refine W.eq (g2 := F0 m 12 ls [.int 2, .int 0]) rfl ?_
  refine lv_icmp_ge (tgt := 29) hx hb dX11_areCrewsSound_12 (by decide) (fun c12_2 => absurd c12_2 (by decide)) (fun _ => ?_)
  refine lv_iload_n hx hb dX11_areCrewsSound_15 rfl (lv_at hl 1 rfl) ?_
  refine lv_aload_n hx hb dX11_areCrewsSound_16 rfl (lv_at hl 2 rfl) ?_
  refine lv_iload_n hx hb dX11_areCrewsSound_17 rfl (lv_at hl 0 rfl) ?_
  refine kcallV (wc := [(h0, .inr (13, [.ref a1, .ref a2, .ref a3, .ref a4, .ref a5, .int zh, .int zf, .int zw, .int ze, .int zn, .int zm])), (a4, .inr (2, [.int mc4, .ref q4, .int 2])), (q4, .inl ((g.2.2.1 4), 10, .inr (.inr (.inr (.inr (va_up (va_up f4 0 (some e0)) 1 (some e0b))))))), (e0, .inr (8, [.int 0, .int 0, .int 0, .int eh, .int (-1)])), (e0b, .inr (8, [.int 0, .int 0, .int 1, .int ehb, .int (-1)]))]) (wr := [(q3, .inl ((g.2.2.1 4), 10, .inr (.inr (.inr (.inr (va_up (va_up f3 0 (some s0)) 1 (some s0b))))))), (a3, .inr (2, [.int mc3, .ref q3, .int 2]))]) (As := [.int 0]) (rest := [.int 0]) K G (m_X11_countCrew0 l hl0 g h0 a1 a2 a3 a4 a5 zh zf zw ze zn zm e0 e0b q4 eh ehb mc4 f4 ) hP hD hS hA hl kw_144 kw_145 kw_146 kw_147 kw_63 ydX11_countCrew [0, 2, 3, 4, 5] [1, 6] rfl rfl rfl rfl (by decide) (ci := 13) (q0 := 0) rfl rfl rfl rfl rfl (Nat.le_of_ble_eq_true rfl) dX11_areCrewsSound_18 ⟨Nat.le_of_ble_eq_true rfl, Nat.le_of_ble_eq_true rfl⟩ ⟨Nat.le_of_ble_eq_true rfl, Nat.le_of_ble_eq_true rfl⟩ (fun _ _ _ _ _ _ hX _ _ _ _ _ _ => hX.elim) (fun v w1 H locs hQ hP hD hS => ?_)
  obtain ⟨rfl, rfl⟩ := hQ
  have hP : va_P g.1 vwCl [(q3, .inl ((g.2.2.1 4), 10, .inr (.inr (.inr (.inr (va_up (va_up f3 0 (some s0)) 1 (some s0b))))))), (a3, .inr (2, [.int mc3, .ref q3, .int 2])), (h0, .inr (13, [.ref a1, .ref a2, .ref a3, .ref a4, .ref a5, .int zh, .int zf, .int zw, .int ze, .int zn, .int zm])), (a4, .inr (2, [.int mc4, .ref q4, .int 2])), (q4, .inl ((g.2.2.1 4), 10, .inr (.inr (.inr (.inr (va_up (va_up f4 0 (some e0)) 1 (some e0b))))))), (e0, .inr (8, [.int 0, .int 0, .int 0, .int eh, .int (-1)])), (e0b, .inr (8, [.int 0, .int 0, .int 1, .int ehb, .int (-1)]))] H := hP
  have hD : va_D A [(q3, .inl ((g.2.2.1 4), 10, .inr (.inr (.inr (.inr (va_up (va_up f3 0 (some s0)) 1 (some s0b))))))), (a3, .inr (2, [.int mc3, .ref q3, .int 2])), (h0, .inr (13, [.ref a1, .ref a2, .ref a3, .ref a4, .ref a5, .int zh, .int zf, .int zw, .int ze, .int zn, .int zm])), (a4, .inr (2, [.int mc4, .ref q4, .int 2])), (q4, .inl ((g.2.2.1 4), 10, .inr (.inr (.inr (.inr (va_up (va_up f4 0 (some e0)) 1 (some e0b))))))), (e0, .inr (8, [.int 0, .int 0, .int 0, .int eh, .int (-1)])), (e0b, .inr (8, [.int 0, .int 0, .int 1, .int ehb, .int (-1)]))] := hD
  refine W.widen (k := 0) (n := 0) (by decide) (by decide) ?_
  refine W.eq (g2 := F0 m 21 ls [.int 1, .int 0]) rfl ?_
  refine lv_iadd hx hb dX11_areCrewsSound_21 ?_
  refine lv_topi (fun y_4 ey_4 => ?_)
  obtain rfl : y_4 = 1 := ey_4.trans (by decide)
  refine lv_istore_n (lv' := [(1, .int 1), (2, .int 0), (0, .ref h0)]) hx hb dX11_areCrewsSound_22 rfl hl (by decide) rfl (fun ls hl => ?_)
  refine lv_iinc (v := 1) (lv' := [(2, .int 1), (1, .int 1), (0, .ref h0)]) hx hb dX11_areCrewsSound_23 hl (k := 1) rfl (by decide) (by decide) rfl (fun ls hl => ?_)
  refine lv_goto (tgt := 4) hx hb dX11_areCrewsSound_26 (by decide) ?_
  refine lv_iload_n hx hb dX11_areCrewsSound_4 rfl (lv_at hl 0 rfl) ?_
  refine lv_aload_n hx hb dX11_areCrewsSound_5 rfl (lv_at hl 2 rfl) ?_
  refine va_get (D := g.1) (ci := 13) (v := .ref a3) (C := RX11) (T := TX11) (N := 11) hx hb G.ws inX11 hown G.K hP 2 rfl rfl 2 (by decide) (G.w kw_81) (fun _ h9 => h9) rfl dX11_areCrewsSound_6 ?_
  refine kcallV (wc := [(a3, .inr (2, [.int mc3, .ref q3, .int 2]))]) (wr := [(q3, .inl ((g.2.2.1 4), 10, .inr (.inr (.inr (.inr (va_up (va_up f3 0 (some s0)) 1 (some s0b))))))), (h0, .inr (13, [.ref a1, .ref a2, .ref a3, .ref a4, .ref a5, .int zh, .int zf, .int zw, .int ze, .int zn, .int zm])), (a4, .inr (2, [.int mc4, .ref q4, .int 2])), (q4, .inl ((g.2.2.1 4), 10, .inr (.inr (.inr (.inr (va_up (va_up f4 0 (some e0)) 1 (some e0b))))))), (e0, .inr (8, [.int 0, .int 0, .int 0, .int eh, .int (-1)])), (e0b, .inr (8, [.int 0, .int 0, .int 1, .int ehb, .int (-1)]))]) (As := []) (rest := [.int 1]) K G (m_Jx4a65c_size_8abf5 l hl0 g a3 q3 mc3 2 ) hP hD hS hA hl kw_31 kw_82 kw_33 kw_34 kw_22 ydJx4a65c_size_8abf5 [1] [0, 2, 3, 4, 5, 6] rfl rfl rfl rfl (by decide) (ci := 2) (q0 := 1) rfl rfl rfl rfl rfl (Nat.le_of_ble_eq_true rfl) dX11_areCrewsSound_9 ⟨Nat.le_of_ble_eq_true rfl, Nat.le_of_ble_eq_true rfl⟩ ⟨Nat.le_of_ble_eq_true rfl, Nat.le_of_ble_eq_true rfl⟩ (fun _ _ _ _ _ _ hX _ _ _ _ _ _ => hX.elim) (fun v w1 H locs hQ hP hD hS => ?_)
  obtain ⟨rfl, rfl⟩ := hQ
  have hP : va_P g.1 vwCl [(q3, .inl ((g.2.2.1 4), 10, .inr (.inr (.inr (.inr (va_up (va_up f3 0 (some s0)) 1 (some s0b))))))), (h0, .inr (13, [.ref a1, .ref a2, .ref a3, .ref a4, .ref a5, .int zh, .int zf, .int zw, .int ze, .int zn, .int zm])), (a4, .inr (2, [.int mc4, .ref q4, .int 2])), (q4, .inl ((g.2.2.1 4), 10, .inr (.inr (.inr (.inr (va_up (va_up f4 0 (some e0)) 1 (some e0b))))))), (e0, .inr (8, [.int 0, .int 0, .int 0, .int eh, .int (-1)])), (e0b, .inr (8, [.int 0, .int 0, .int 1, .int ehb, .int (-1)])), (a3, .inr (2, [.int mc3, .ref q3, .int 2]))] H := hP
  have hD : va_D A [(q3, .inl ((g.2.2.1 4), 10, .inr (.inr (.inr (.inr (va_up (va_up f3 0 (some s0)) 1 (some s0b))))))), (h0, .inr (13, [.ref a1, .ref a2, .ref a3, .ref a4, .ref a5, .int zh, .int zf, .int zw, .int ze, .int zn, .int zm])), (a4, .inr (2, [.int mc4, .ref q4, .int 2])), (q4, .inl ((g.2.2.1 4), 10, .inr (.inr (.inr (.inr (va_up (va_up f4 0 (some e0)) 1 (some e0b))))))), (e0, .inr (8, [.int 0, .int 0, .int 0, .int eh, .int (-1)])), (e0b, .inr (8, [.int 0, .int 0, .int 1, .int ehb, .int (-1)])), (a3, .inr (2, [.int mc3, .ref q3, .int 2]))] := hD
  refine W.widen (k := 0) (n := 0) (by decide) (by decide) ?_
  refine W.eq (g2 := F0 m 12 ls [.int 2, .int 1]) rfl ?_
  refine lv_icmp_ge (tgt := 29) hx hb dX11_areCrewsSound_12 (by decide) (fun c12_6 => absurd c12_6 (by decide)) (fun _ => ?_)
  refine lv_iload_n hx hb dX11_areCrewsSound_15 rfl (lv_at hl 1 rfl) ?_
  refine lv_aload_n hx hb dX11_areCrewsSound_16 rfl (lv_at hl 2 rfl) ?_
  refine lv_iload_n hx hb dX11_areCrewsSound_17 rfl (lv_at hl 0 rfl) ?_
  refine kcallV (wc := [(h0, .inr (13, [.ref a1, .ref a2, .ref a3, .ref a4, .ref a5, .int zh, .int zf, .int zw, .int ze, .int zn, .int zm])), (a4, .inr (2, [.int mc4, .ref q4, .int 2])), (q4, .inl ((g.2.2.1 4), 10, .inr (.inr (.inr (.inr (va_up (va_up f4 0 (some e0)) 1 (some e0b))))))), (e0, .inr (8, [.int 0, .int 0, .int 0, .int eh, .int (-1)])), (e0b, .inr (8, [.int 0, .int 0, .int 1, .int ehb, .int (-1)]))]) (wr := [(q3, .inl ((g.2.2.1 4), 10, .inr (.inr (.inr (.inr (va_up (va_up f3 0 (some s0)) 1 (some s0b))))))), (a3, .inr (2, [.int mc3, .ref q3, .int 2]))]) (As := [.int 1]) (rest := [.int 1]) K G (m_X11_countCrew1 l hl0 g h0 a1 a2 a3 a4 a5 zh zf zw ze zn zm e0 e0b q4 eh ehb mc4 f4 ) hP hD hS hA hl kw_144 kw_145 kw_146 kw_147 kw_63 ydX11_countCrew [1, 2, 3, 4, 5] [0, 6] rfl rfl rfl rfl (by decide) (ci := 13) (q0 := 1) rfl rfl rfl rfl rfl (Nat.le_of_ble_eq_true rfl) dX11_areCrewsSound_18 ⟨Nat.le_of_ble_eq_true rfl, Nat.le_of_ble_eq_true rfl⟩ ⟨Nat.le_of_ble_eq_true rfl, Nat.le_of_ble_eq_true rfl⟩ (fun _ _ _ _ _ _ hX _ _ _ _ _ _ => hX.elim) (fun v w1 H locs hQ hP hD hS => ?_)
  obtain ⟨rfl, rfl⟩ := hQ
  have hP : va_P g.1 vwCl [(q3, .inl ((g.2.2.1 4), 10, .inr (.inr (.inr (.inr (va_up (va_up f3 0 (some s0)) 1 (some s0b))))))), (a3, .inr (2, [.int mc3, .ref q3, .int 2])), (h0, .inr (13, [.ref a1, .ref a2, .ref a3, .ref a4, .ref a5, .int zh, .int zf, .int zw, .int ze, .int zn, .int zm])), (a4, .inr (2, [.int mc4, .ref q4, .int 2])), (q4, .inl ((g.2.2.1 4), 10, .inr (.inr (.inr (.inr (va_up (va_up f4 0 (some e0)) 1 (some e0b))))))), (e0, .inr (8, [.int 0, .int 0, .int 0, .int eh, .int (-1)])), (e0b, .inr (8, [.int 0, .int 0, .int 1, .int ehb, .int (-1)]))] H := hP
  have hD : va_D A [(q3, .inl ((g.2.2.1 4), 10, .inr (.inr (.inr (.inr (va_up (va_up f3 0 (some s0)) 1 (some s0b))))))), (a3, .inr (2, [.int mc3, .ref q3, .int 2])), (h0, .inr (13, [.ref a1, .ref a2, .ref a3, .ref a4, .ref a5, .int zh, .int zf, .int zw, .int ze, .int zn, .int zm])), (a4, .inr (2, [.int mc4, .ref q4, .int 2])), (q4, .inl ((g.2.2.1 4), 10, .inr (.inr (.inr (.inr (va_up (va_up f4 0 (some e0)) 1 (some e0b))))))), (e0, .inr (8, [.int 0, .int 0, .int 0, .int eh, .int (-1)])), (e0b, .inr (8, [.int 0, .int 0, .int 1, .int ehb, .int (-1)]))] := hD
  refine W.widen (k := 0) (n := 0) (by decide) (by decide) ?_
  refine W.eq (g2 := F0 m 21 ls [.int 1, .int 1]) rfl ?_
  refine lv_iadd hx hb dX11_areCrewsSound_21 ?_
  refine lv_topi (fun y_8 ey_8 => ?_)
  obtain rfl : y_8 = 2 := ey_8.trans (by decide)
  refine lv_istore_n (lv' := [(1, .int 2), (2, .int 1), (0, .ref h0)]) hx hb dX11_areCrewsSound_22 rfl hl (by decide) rfl (fun ls hl => ?_)
  refine lv_iinc (v := 2) (lv' := [(2, .int 2), (1, .int 2), (0, .ref h0)]) hx hb dX11_areCrewsSound_23 hl (k := 1) rfl (by decide) (by decide) rfl (fun ls hl => ?_)
  refine lv_goto (tgt := 4) hx hb dX11_areCrewsSound_26 (by decide) ?_
  refine lv_iload_n hx hb dX11_areCrewsSound_4 rfl (lv_at hl 0 rfl) ?_
  refine lv_aload_n hx hb dX11_areCrewsSound_5 rfl (lv_at hl 2 rfl) ?_
  refine va_get (D := g.1) (ci := 13) (v := .ref a3) (C := RX11) (T := TX11) (N := 11) hx hb G.ws inX11 hown G.K hP 2 rfl rfl 2 (by decide) (G.w kw_81) (fun _ h9 => h9) rfl dX11_areCrewsSound_6 ?_
  refine kcallV (wc := [(a3, .inr (2, [.int mc3, .ref q3, .int 2]))]) (wr := [(q3, .inl ((g.2.2.1 4), 10, .inr (.inr (.inr (.inr (va_up (va_up f3 0 (some s0)) 1 (some s0b))))))), (h0, .inr (13, [.ref a1, .ref a2, .ref a3, .ref a4, .ref a5, .int zh, .int zf, .int zw, .int ze, .int zn, .int zm])), (a4, .inr (2, [.int mc4, .ref q4, .int 2])), (q4, .inl ((g.2.2.1 4), 10, .inr (.inr (.inr (.inr (va_up (va_up f4 0 (some e0)) 1 (some e0b))))))), (e0, .inr (8, [.int 0, .int 0, .int 0, .int eh, .int (-1)])), (e0b, .inr (8, [.int 0, .int 0, .int 1, .int ehb, .int (-1)]))]) (As := []) (rest := [.int 2]) K G (m_Jx4a65c_size_8abf5 l hl0 g a3 q3 mc3 2 ) hP hD hS hA hl kw_31 kw_82 kw_33 kw_34 kw_22 ydJx4a65c_size_8abf5 [1] [0, 2, 3, 4, 5, 6] rfl rfl rfl rfl (by decide) (ci := 2) (q0 := 1) rfl rfl rfl rfl rfl (Nat.le_of_ble_eq_true rfl) dX11_areCrewsSound_9 ⟨Nat.le_of_ble_eq_true rfl, Nat.le_of_ble_eq_true rfl⟩ ⟨Nat.le_of_ble_eq_true rfl, Nat.le_of_ble_eq_true rfl⟩ (fun _ _ _ _ _ _ hX _ _ _ _ _ _ => hX.elim) (fun v w1 H locs hQ hP hD hS => ?_)
  obtain ⟨rfl, rfl⟩ := hQ
  have hP : va_P g.1 vwCl [(q3, .inl ((g.2.2.1 4), 10, .inr (.inr (.inr (.inr (va_up (va_up f3 0 (some s0)) 1 (some s0b))))))), (h0, .inr (13, [.ref a1, .ref a2, .ref a3, .ref a4, .ref a5, .int zh, .int zf, .int zw, .int ze, .int zn, .int zm])), (a4, .inr (2, [.int mc4, .ref q4, .int 2])), (q4, .inl ((g.2.2.1 4), 10, .inr (.inr (.inr (.inr (va_up (va_up f4 0 (some e0)) 1 (some e0b))))))), (e0, .inr (8, [.int 0, .int 0, .int 0, .int eh, .int (-1)])), (e0b, .inr (8, [.int 0, .int 0, .int 1, .int ehb, .int (-1)])), (a3, .inr (2, [.int mc3, .ref q3, .int 2]))] H := hP
  have hD : va_D A [(q3, .inl ((g.2.2.1 4), 10, .inr (.inr (.inr (.inr (va_up (va_up f3 0 (some s0)) 1 (some s0b))))))), (h0, .inr (13, [.ref a1, .ref a2, .ref a3, .ref a4, .ref a5, .int zh, .int zf, .int zw, .int ze, .int zn, .int zm])), (a4, .inr (2, [.int mc4, .ref q4, .int 2])), (q4, .inl ((g.2.2.1 4), 10, .inr (.inr (.inr (.inr (va_up (va_up f4 0 (some e0)) 1 (some e0b))))))), (e0, .inr (8, [.int 0, .int 0, .int 0, .int eh, .int (-1)])), (e0b, .inr (8, [.int 0, .int 0, .int 1, .int ehb, .int (-1)])), (a3, .inr (2, [.int mc3, .ref q3, .int 2]))] := hD
  refine W.widen (k := 0) (n := 0) (by decide) (by decide) ?_
  refine W.eq (g2 := F0 m 12 ls [.int 2, .int 2]) rfl ?_
  refine lv_icmp_ge (tgt := 29) hx hb dX11_areCrewsSound_12 (by decide) (fun _ => ?_) (fun c12_10 => absurd c12_10 (by decide))
  refine lv_iload_n hx hb dX11_areCrewsSound_29 rfl (lv_at hl 1 rfl) ?_
  refine lv_aload_n hx hb dX11_areCrewsSound_30 rfl (lv_at hl 2 rfl) ?_
  refine kcallV (wc := [(h0, .inr (13, [.ref a1, .ref a2, .ref a3, .ref a4, .ref a5, .int zh, .int zf, .int zw, .int ze, .int zn, .int zm])), (a4, .inr (2, [.int mc4, .ref q4, .int 2])), (q4, .inl ((g.2.2.1 4), 10, .inr (.inr (.inr (.inr (va_up (va_up f4 0 (some e0)) 1 (some e0b))))))), (e0, .inr (8, [.int 0, .int 0, .int 0, .int eh, .int (-1)])), (e0b, .inr (8, [.int 0, .int 0, .int 1, .int ehb, .int (-1)]))]) (wr := [(q3, .inl ((g.2.2.1 4), 10, .inr (.inr (.inr (.inr (va_up (va_up f3 0 (some s0)) 1 (some s0b))))))), (a3, .inr (2, [.int mc3, .ref q3, .int 2]))]) (As := []) (rest := [.int 2]) K G (m_X11_countAboard l hl0 g h0 a1 a2 a3 a4 a5 zh zf zw ze zn zm e0 e0b q4 eh ehb mc4 f4 ) hP hD hS hA hl kw_551 kw_552 kw_553 kw_554 kw_63 ydX11_countAboard [1, 2, 3, 4, 5] [0, 6] rfl rfl rfl rfl (by decide) (ci := 13) (q0 := 1) rfl rfl rfl rfl rfl (Nat.le_of_ble_eq_true rfl) dX11_areCrewsSound_31 ⟨Nat.le_of_ble_eq_true rfl, Nat.le_of_ble_eq_true rfl⟩ ⟨Nat.le_of_ble_eq_true rfl, Nat.le_of_ble_eq_true rfl⟩ (fun _ _ _ _ _ _ hX _ _ _ _ _ _ => hX.elim) (fun v w1 H locs hQ hP hD hS => ?_)
  obtain ⟨rfl, rfl⟩ := hQ
  have hP : va_P g.1 vwCl [(q3, .inl ((g.2.2.1 4), 10, .inr (.inr (.inr (.inr (va_up (va_up f3 0 (some s0)) 1 (some s0b))))))), (a3, .inr (2, [.int mc3, .ref q3, .int 2])), (h0, .inr (13, [.ref a1, .ref a2, .ref a3, .ref a4, .ref a5, .int zh, .int zf, .int zw, .int ze, .int zn, .int zm])), (a4, .inr (2, [.int mc4, .ref q4, .int 2])), (q4, .inl ((g.2.2.1 4), 10, .inr (.inr (.inr (.inr (va_up (va_up f4 0 (some e0)) 1 (some e0b))))))), (e0, .inr (8, [.int 0, .int 0, .int 0, .int eh, .int (-1)])), (e0b, .inr (8, [.int 0, .int 0, .int 1, .int ehb, .int (-1)]))] H := hP
  have hD : va_D A [(q3, .inl ((g.2.2.1 4), 10, .inr (.inr (.inr (.inr (va_up (va_up f3 0 (some s0)) 1 (some s0b))))))), (a3, .inr (2, [.int mc3, .ref q3, .int 2])), (h0, .inr (13, [.ref a1, .ref a2, .ref a3, .ref a4, .ref a5, .int zh, .int zf, .int zw, .int ze, .int zn, .int zm])), (a4, .inr (2, [.int mc4, .ref q4, .int 2])), (q4, .inl ((g.2.2.1 4), 10, .inr (.inr (.inr (.inr (va_up (va_up f4 0 (some e0)) 1 (some e0b))))))), (e0, .inr (8, [.int 0, .int 0, .int 0, .int eh, .int (-1)])), (e0b, .inr (8, [.int 0, .int 0, .int 1, .int ehb, .int (-1)]))] := hD
  refine W.widen (k := 0) (n := 0) (by decide) (by decide) ?_
  refine W.eq (g2 := F0 m 34 ls [.int 2, .int 2]) rfl ?_
  refine lv_icmp_ne (tgt := 41) hx hb dX11_areCrewsSound_34 (by decide) (fun c34_12 => absurd c34_12 (by decide)) (fun _ => ?_)
  refine lv_iconst (v := 1) hx hb dX11_areCrewsSound_37 (by decide) ?_
  refine lv_goto (tgt := 42) hx hb dX11_areCrewsSound_38 (by decide) ?_
  exact kretZ K hP hD hS [2, 1, 0, 3, 4, 5, 6] [(h0, .inr (13, [.ref a1, .ref a2, .ref a3, .ref a4, .ref a5, .int zh, .int zf, .int zw, .int ze, .int zn, .int zm])), (a3, .inr (2, [.int mc3, .ref q3, .int 2])), (q3, .inl ((g.2.2.1 4), 10, .inr (.inr (.inr (.inr (va_up (va_up f3 0 (some s0)) 1 (some s0b))))))), (a4, .inr (2, [.int mc4, .ref q4, .int 2])), (q4, .inl ((g.2.2.1 4), 10, .inr (.inr (.inr (.inr (va_up (va_up f4 0 (some e0)) 1 (some e0b))))))), (e0, .inr (8, [.int 0, .int 0, .int 0, .int eh, .int (-1)])), (e0b, .inr (8, [.int 0, .int 0, .int 1, .int ehb, .int (-1)]))] rfl rfl ⟨rfl, rfl⟩ (by decide) (by decide) dX11_areCrewsSound_42

set_option maxHeartbeats 4000000 in
set_option maxRecDepth 100000 in
theorem m_X1_areDatesAsOrdersTell (l : Launch) (hl0 : l.stackTraces = false) (g : kG) (a5 : Nat) (k0 : Nat) (r0 : Nat) (r1 : Nat) (r2 : Nat) (r3 : Nat) (r4 : Nat) (r5 : Nat)  : kc l g yX1_areDatesAsOrdersTell prog_3_method_16_code 2 (some .boolean) 1 20 0 0 [.ref a5] [(a5, .inr (4, [.ref k0, .ref r0, .ref r1, .ref r2, .ref r3, .ref r4, .ref r5, .int 0])), (r0, .inr (2, [.int 0, .ref g.2.1, .int 0]))] (fun v w => (v = some (.int 1) ∧ w = [(a5, .inr (4, [.ref k0, .ref r0, .ref r1, .ref r2, .ref r3, .ref r4, .ref r5, .int 0])), (r0, .inr (2, [.int 0, .ref g.2.1, .int 0]))])) (fun _ _ => False) := by
  refine kbody (by decide) (Nat.le_of_ble_eq_true rfl) ?_
  intro p e s m args below meth c A H K ht G hP hD hA hS ls hl
  have K : KB p s m meth c RX1 "areDatesAsOrdersTell" prog_3_method_16_code 2 (some .boolean) := K
  obtain ⟨hx, hb, hml, hown, hlocks, hr, hin⟩ := id K
  have hl : lv_has ls 2 [(0, .ref a5)] := hl
  refine lv_aload_n hx hb dX1_areDatesAsOrdersTell_0 rfl (lv_at hl 0 rfl) ?_
  refine va_get (D := g.1) (ci := 4) (v := .ref r0) (C := RX1) (T := TX1) (N := 8) hx hb G.ws inX1 hown G.K hP 0 rfl rfl 1 (by decide) (G.w kw_379) (fun _ h9 => h9) rfl dX1_areDatesAsOrdersTell_1 ?_
  refine kcallV (wc := [(r0, .inr (2, [.int 0, .ref g.2.1, .int 0]))]) (wr := [(a5, .inr (4, [.ref k0, .ref r0, .ref r1, .ref r2, .ref r3, .ref r4, .ref r5, .int 0]))]) (As := []) (rest := []) K G (m_Jx4a65c_size_8abf5 l hl0 g r0 g.2.1 0 0 ) hP hD hS hA hl kw_31 kw_555 kw_33 kw_34 kw_22 ydJx4a65c_size_8abf5 [1] [0] rfl rfl rfl rfl (by decide) (ci := 2) (q0 := 1) rfl rfl rfl rfl rfl (Nat.le_of_ble_eq_true rfl) dX1_areDatesAsOrdersTell_4 ⟨Nat.le_of_ble_eq_true rfl, Nat.le_of_ble_eq_true rfl⟩ ⟨Nat.le_of_ble_eq_true rfl, Nat.le_of_ble_eq_true rfl⟩ (fun _ _ _ _ _ _ hX _ _ _ _ _ _ => hX.elim) (fun v w1 H locs hQ hP hD hS => ?_)
  obtain ⟨rfl, rfl⟩ := hQ
  have hP : va_P g.1 vwCl [(a5, .inr (4, [.ref k0, .ref r0, .ref r1, .ref r2, .ref r3, .ref r4, .ref r5, .int 0])), (r0, .inr (2, [.int 0, .ref g.2.1, .int 0]))] H := hP
  have hD : va_D A [(a5, .inr (4, [.ref k0, .ref r0, .ref r1, .ref r2, .ref r3, .ref r4, .ref r5, .int 0])), (r0, .inr (2, [.int 0, .ref g.2.1, .int 0]))] := hD
  refine W.widen (k := 0) (n := 0) (by decide) (by decide) ?_
  refine W.eq (g2 := F0 m 7 ls [.int 0]) rfl ?_
  refine lv_iconst (v := 4) hx hb dX1_areDatesAsOrdersTell_7 (by decide) ?_
  refine lv_icmp_le (tgt := 13) hx hb dX1_areDatesAsOrdersTell_8 (by decide) (fun _ => ?_) (fun c8_2 => absurd c8_2 (by decide))
  refine lv_iconst (v := 0) hx hb dX1_areDatesAsOrdersTell_13 (by decide) ?_
  refine lv_istore_n (lv' := [(1, .int 0), (0, .ref a5)]) hx hb dX1_areDatesAsOrdersTell_14 rfl hl (by decide) rfl (fun ls hl => ?_)
  refine lv_iload_n hx hb dX1_areDatesAsOrdersTell_15 rfl (lv_at hl 0 rfl) ?_
  refine lv_aload_n hx hb dX1_areDatesAsOrdersTell_16 rfl (lv_at hl 1 rfl) ?_
  refine va_get (D := g.1) (ci := 4) (v := .ref r0) (C := RX1) (T := TX1) (N := 8) hx hb G.ws inX1 hown G.K hP 0 rfl rfl 1 (by decide) (G.w kw_379) (fun _ h9 => h9) rfl dX1_areDatesAsOrdersTell_17 ?_
  refine kcallV (wc := [(r0, .inr (2, [.int 0, .ref g.2.1, .int 0]))]) (wr := [(a5, .inr (4, [.ref k0, .ref r0, .ref r1, .ref r2, .ref r3, .ref r4, .ref r5, .int 0]))]) (As := []) (rest := [.int 0]) K G (m_Jx4a65c_size_8abf5 l hl0 g r0 g.2.1 0 0 ) hP hD hS hA hl kw_31 kw_555 kw_33 kw_34 kw_22 ydJx4a65c_size_8abf5 [1] [0] rfl rfl rfl rfl (by decide) (ci := 2) (q0 := 1) rfl rfl rfl rfl rfl (Nat.le_of_ble_eq_true rfl) dX1_areDatesAsOrdersTell_20 ⟨Nat.le_of_ble_eq_true rfl, Nat.le_of_ble_eq_true rfl⟩ ⟨Nat.le_of_ble_eq_true rfl, Nat.le_of_ble_eq_true rfl⟩ (fun _ _ _ _ _ _ hX _ _ _ _ _ _ => hX.elim) (fun v w1 H locs hQ hP hD hS => ?_)
  obtain ⟨rfl, rfl⟩ := hQ
  have hP : va_P g.1 vwCl [(a5, .inr (4, [.ref k0, .ref r0, .ref r1, .ref r2, .ref r3, .ref r4, .ref r5, .int 0])), (r0, .inr (2, [.int 0, .ref g.2.1, .int 0]))] H := hP
  have hD : va_D A [(a5, .inr (4, [.ref k0, .ref r0, .ref r1, .ref r2, .ref r3, .ref r4, .ref r5, .int 0])), (r0, .inr (2, [.int 0, .ref g.2.1, .int 0]))] := hD
  refine W.widen (k := 0) (n := 0) (by decide) (by decide) ?_
  refine W.eq (g2 := F0 m 23 ls [.int 0, .int 0]) rfl ?_
  refine lv_icmp_ge (tgt := 64) hx hb dX1_areDatesAsOrdersTell_23 (by decide) (fun _ => ?_) (fun c23_4 => absurd c23_4 (by decide))
  refine lv_iconst (v := 1) hx hb dX1_areDatesAsOrdersTell_64 (by decide) ?_
  exact kretZ K hP hD hS [0, 1] [(a5, .inr (4, [.ref k0, .ref r0, .ref r1, .ref r2, .ref r3, .ref r4, .ref r5, .int 0])), (r0, .inr (2, [.int 0, .ref g.2.1, .int 0]))] rfl rfl (⟨rfl, rfl⟩) (by decide) (by decide) dX1_areDatesAsOrdersTell_65

set_option maxHeartbeats 4000000 in
set_option maxRecDepth 100000 in
theorem m_X11_isTapet (l : Launch) (hl0 : l.stackTraces = false) (g : kG)   : kc l g yX11_isTape prog_1_method_64_code 1 (some .boolean) 0 0 0 0 [.int 200] [] (fun v w => (v = some (.int 0) ∧ w = [])) (fun _ _ => False) := by
  refine kbody (by decide) (Nat.le_of_ble_eq_true rfl) ?_
  intro p e s m args below meth c A H K ht G hP hD hA hS ls hl
  have K : KB p s m meth c RX11 "isTape" prog_1_method_64_code 1 (some .boolean) := K
  obtain ⟨hx, hb, hml, hown, hlocks, hr, hin⟩ := id K
  have hl : lv_has ls 1 [(0, .int 200)] := hl
  refine lv_iload_n hx hb dX11_isTape_0 rfl (lv_at hl 0 rfl) ?_
  refine lv_bipush (v := 100) hx hb dX11_isTape_1 (by decide) ?_
  refine lv_icmp_lt (tgt := 17) hx hb dX11_isTape_3 (by decide) (fun c3_1 => absurd c3_1 (by decide)) (fun _ => ?_)
  refine lv_iload_n hx hb dX11_isTape_6 rfl (lv_at hl 0 rfl) ?_
  refine lv_sipush (v := 199) hx hb dX11_isTape_7 (by decide) ?_
  refine lv_icmp_gt (tgt := 17) hx hb dX11_isTape_10 (by decide) (fun _ => ?_) (fun c10_2 => absurd c10_2 (by decide))
  refine lv_iconst (v := 0) hx hb dX11_isTape_17 (by decide) ?_
  exact kretZ K hP hD hS [] [] rfl rfl ⟨rfl, rfl⟩ (by decide) (by decide) dX11_isTape_18

theorem kpw {gp : Int32} (h : ¬ gp < 2) : ¬ r_X8_powerOf gp 1 < 2 := by
  unfold r_X8_powerOf
  have e0 : ¬ (1 : Int32) &&& 1 = 0 := by decide
  rw [if_neg e0, Int32.zero_add]
  exact h
theorem knlt {t n : Nat} (h : t < n) (hn : n ≤ 50) : ¬ nI n ≤ nI t := by
  intro q
  have := Int32.le_iff_toInt_le.mp q
  rw [nI_toInt (by omega), nI_toInt (by omega)] at this
  omega

set_option maxHeartbeats 4000000 in
set_option maxRecDepth 100000 in
theorem m_X3_slotOfj (l : Launch) (hl0 : l.stackTraces = false) (g : kG) (k0 : Nat) (b6 : Nat) (b7 : Nat) (b8 : Nat) (b9 : Nat) (b10 : Nat) (kn : Nat) (jj : Nat) (hj : jj < 200) : kc l g yX3_slotOf prog_5_method_2_code 2 (some .int) 0 0 0 0 [.ref k0, .int (nI jj)] [(k0, .inr (6, [.ref b6, .ref b7, .ref b8, .ref b9, .ref b10, .int 0, .int (nI kn)]))] (fun v w => (v = some (.int (nI jj)) ∧ w = [(k0, .inr (6, [.ref b6, .ref b7, .ref b8, .ref b9, .ref b10, .int 0, .int (nI kn)]))])) (fun _ _ => False) := by
  refine kbody (by decide) (Nat.le_of_ble_eq_true rfl) ?_
  intro p e s m args below meth c A H K ht G hP hD hA hS ls hl
  have K : KB p s m meth c RX3 "slotOf" prog_5_method_2_code 2 (some .int) := K
  obtain ⟨hx, hb, hml, hown, hlocks, hr, hin⟩ := id K
  have hl : lv_has ls 2 [(0, .ref k0), (1, .int (nI jj))] := hl
  refine lv_aload_n hx hb dX3_slotOf_0 rfl (lv_at hl 0 rfl) ?_
  refine va_get (D := g.1) (ci := 6) (v := .int 0) (C := RX3) (T := TX3) (N := 7) hx hb G.ws inX3 hown G.K hP 0 rfl rfl 5 (by decide) (G.w kw_187) (fun _ h9 => h9) rfl dX3_slotOf_1 ?_
  refine lv_iload_n hx hb dX3_slotOf_4 rfl (lv_at hl 1 rfl) ?_
  refine lv_iadd hx hb dX3_slotOf_5 ?_
  refine lv_sipush (v := 200) hx hb dX3_slotOf_6 (by decide) ?_
  refine lv_irem hx hb dX3_slotOf_9 (by decide) ?_
  exact kretI K hP hD hS [0] [(k0, .inr (6, [.ref b6, .ref b7, .ref b8, .ref b9, .ref b10, .int 0, .int (nI kn)]))] rfl rfl (⟨(congrArg (fun z => some (Value.int z)) (kslot hj)), rfl⟩) (by decide) (by decide) dX3_slotOf_10

