set_option maxHeartbeats 4000000 in
set_option maxRecDepth 100000 in
theorem m_X11_countCrew1 (l : Launch) (hl0 : l.stackTraces = false) (g : kG) (h0 : Nat) (a1 : Nat) (a2 : Nat) (a3 : Nat) (a4 : Nat) (a5 : Nat) (zh : Int32) (zf : Int32) (zw : Int32) (ze : Int32) (zn : Int32) (zm : Int32) (e0 : Nat) (e0b : Nat) (q4 : Nat) (eh : Int32) (ehb : Int32) (mc4 : Int32) (f4 : Nat → Option Nat)  : kc l g yX11_countCrew prog_1_method_94_code 4 (some .int) 3 64 0 0 [.ref h0, .int 1] [(h0, .inr (13, [.ref a1, .ref a2, .ref a3, .ref a4, .ref a5, .int zh, .int zf, .int zw, .int ze, .int zn, .int zm])), (a4, .inr (2, [.int mc4, .ref q4, .int 2])), (q4, .inl ((g.2.2.1 4), 10, .inr (.inr (.inr (.inr (va_up (va_up f4 0 (some e0)) 1 (some e0b))))))), (e0, .inr (8, [.int 0, .int 0, .int 0, .int eh, .int (-1)])), (e0b, .inr (8, [.int 0, .int 0, .int 1, .int ehb, .int (-1)]))] (fun v w => (v = some (.int 1) ∧ w = [(h0, .inr (13, [.ref a1, .ref a2, .ref a3, .ref a4, .ref a5, .int zh, .int zf, .int zw, .int ze, .int zn, .int zm])), (a4, .inr (2, [.int mc4, .ref q4, .int 2])), (q4, .inl ((g.2.2.1 4), 10, .inr (.inr (.inr (.inr (va_up (va_up f4 0 (some e0)) 1 (some e0b))))))), (e0, .inr (8, [.int 0, .int 0, .int 0, .int eh, .int (-1)])), (e0b, .inr (8, [.int 0, .int 0, .int 1, .int ehb, .int (-1)]))])) (fun _ _ => False) := by
  refine kbody (by decide) (Nat.le_of_ble_eq_true rfl) ?_
  intro p e s m args below meth c A H K ht G hP hD hA hS ls hl
  have K : KB p s m meth c RX11 "countCrew" prog_1_method_94_code 4 (some .int) := K
  obtain ⟨hx, hb, hml, hown, hlocks, hr, hin⟩ := id K
  have hl : lv_has ls 4 [(0, .ref h0), (1, .int 1)] := hl
  refine lv_iconst (v := 0) hx hb dX11_countCrew_0 (by decide) ?_
  refine lv_istore_n (lv' := [(2, .int 0), (0, .ref h0), (1, .int 1)]) hx hb dX11_countCrew_1 rfl hl (by decide) rfl (fun ls hl => ?_)
  refine lv_iconst (v := 0) hx hb dX11_countCrew_2 (by decide) ?_
  refine lv_istore_n (lv' := [(3, .int 0), (2, .int 0), (0, .ref h0), (1, .int 1)]) hx hb dX11_countCrew_3 rfl hl (by decide) rfl (fun ls hl => ?_)
  refine lv_iload_n hx hb dX11_countCrew_4 rfl (lv_at hl 0 rfl) ?_
  refine lv_aload_n hx hb dX11_countCrew_5 rfl (lv_at hl 2 rfl) ?_
  refine va_get (D := g.1) (ci := 13) (v := .ref a4) (C := RX11) (T := TX11) (N := 11) hx hb G.ws inX11 hown G.K hP 0 rfl rfl 3 (by decide) (G.w kw_122) (fun _ h9 => h9) rfl dX11_countCrew_6 ?_
  refine kcallV (wc := [(a4, .inr (2, [.int mc4, .ref q4, .int 2]))]) (wr := [(h0, .inr (13, [.ref a1, .ref a2, .ref a3, .ref a4, .ref a5, .int zh, .int zf, .int zw, .int ze, .int zn, .int zm])), (q4, .inl ((g.2.2.1 4), 10, .inr (.inr (.inr (.inr (va_up (va_up f4 0 (some e0)) 1 (some e0b))))))), (e0, .inr (8, [.int 0, .int 0, .int 0, .int eh, .int (-1)])), (e0b, .inr (8, [.int 0, .int 0, .int 1, .int ehb, .int (-1)]))]) (As := []) (rest := [.int 0]) K G (m_Jx4a65c_size_8abf5 l hl0 g a4 q4 mc4 2 ) hP hD hS hA hl kw_31 kw_82 kw_33 kw_34 kw_22 ydJx4a65c_size_8abf5 [1] [0, 2, 3, 4] rfl rfl rfl rfl (by decide) (ci := 2) (q0 := 1) rfl rfl rfl rfl rfl (Nat.le_of_ble_eq_true rfl) dX11_countCrew_9 ⟨Nat.le_of_ble_eq_true rfl, Nat.le_of_ble_eq_true rfl⟩ ⟨Nat.le_of_ble_eq_true rfl, Nat.le_of_ble_eq_true rfl⟩ (fun _ _ _ _ _ _ hX _ _ _ _ _ _ => hX.elim) (fun v w1 H locs hQ hP hD hS => ?_)
  obtain ⟨rfl, rfl⟩ := hQ
  have hP : va_P g.1 vwCl [(h0, .inr (13, [.ref a1, .ref a2, .ref a3, .ref a4, .ref a5, .int zh, .int zf, .int zw, .int ze, .int zn, .int zm])), (q4, .inl ((g.2.2.1 4), 10, .inr (.inr (.inr (.inr (va_up (va_up f4 0 (some e0)) 1 (some e0b))))))), (e0, .inr (8, [.int 0, .int 0, .int 0, .int eh, .int (-1)])), (e0b, .inr (8, [.int 0, .int 0, .int 1, .int ehb, .int (-1)])), (a4, .inr (2, [.int mc4, .ref q4, .int 2]))] H := hP
  have hD : va_D A [(h0, .inr (13, [.ref a1, .ref a2, .ref a3, .ref a4, .ref a5, .int zh, .int zf, .int zw, .int ze, .int zn, .int zm])), (q4, .inl ((g.2.2.1 4), 10, .inr (.inr (.inr (.inr (va_up (va_up f4 0 (some e0)) 1 (some e0b))))))), (e0, .inr (8, [.int 0, .int 0, .int 0, .int eh, .int (-1)])), (e0b, .inr (8, [.int 0, .int 0, .int 1, .int ehb, .int (-1)])), (a4, .inr (2, [.int mc4, .ref q4, .int 2]))] := hD
  refine W.widen (k := 0) (n := 0) (by decide) (by decide) ?_
  refine W.eq (g2 := F0 m 12 ls [.int 2, .int 0]) rfl ?_
  refine lv_icmp_ge (tgt := 42) hx hb dX11_countCrew_12 (by decide) (fun c12_2 => absurd c12_2 (by decide)) (fun _ => ?_)
  refine lv_aload_n hx hb dX11_countCrew_15 rfl (lv_at hl 2 rfl) ?_
  refine va_get (D := g.1) (ci := 13) (v := .ref a4) (C := RX11) (T := TX11) (N := 11) hx hb G.ws inX11 hown G.K hP 0 rfl rfl 3 (by decide) (G.w kw_122) (fun _ h9 => h9) rfl dX11_countCrew_16 ?_
  refine lv_iload_n hx hb dX11_countCrew_19 rfl (lv_at hl 0 rfl) ?_
  refine kcallV (wc := [(a4, .inr (2, [.int mc4, .ref q4, .int 2])), (q4, .inl ((g.2.2.1 4), 10, .inr (.inr (.inr (.inr (va_up (va_up f4 0 (some e0)) 1 (some e0b)))))))]) (wr := [(h0, .inr (13, [.ref a1, .ref a2, .ref a3, .ref a4, .ref a5, .int zh, .int zf, .int zw, .int ze, .int zn, .int zm])), (e0, .inr (8, [.int 0, .int 0, .int 0, .int eh, .int (-1)])), (e0b, .inr (8, [.int 0, .int 0, .int 1, .int ehb, .int (-1)]))]) (As := [.int 0]) (rest := []) K G (m_Jx4a65c_get_915e3 l hl0 g a4 q4 10 e0 mc4 2 0 (va_up (va_up f4 0 (some e0)) 1 (some e0b)) (by decide) (by decide) rfl (vp_in_iff.mpr ⟨by decide, by decide⟩)) hP hD hS hA hl kw_35 kw_83 kw_37 kw_38 kw_22 ydJx4a65c_get_915e3 [4, 1] [0, 2, 3] rfl rfl rfl rfl (by decide) (ci := 2) (q0 := 4) rfl rfl rfl rfl rfl (Nat.le_of_ble_eq_true rfl) dX11_countCrew_20 ⟨Nat.le_of_ble_eq_true rfl, Nat.le_of_ble_eq_true rfl⟩ ⟨Nat.le_of_ble_eq_true rfl, Nat.le_of_ble_eq_true rfl⟩ (fun _ _ _ _ _ _ hX _ _ _ _ _ _ => hX.elim) (fun v w1 H locs hQ hP hD hS => ?_)
  obtain ⟨rfl, rfl⟩ := hQ
  have hP : va_P g.1 vwCl [(h0, .inr (13, [.ref a1, .ref a2, .ref a3, .ref a4, .ref a5, .int zh, .int zf, .int zw, .int ze, .int zn, .int zm])), (e0, .inr (8, [.int 0, .int 0, .int 0, .int eh, .int (-1)])), (e0b, .inr (8, [.int 0, .int 0, .int 1, .int ehb, .int (-1)])), (a4, .inr (2, [.int mc4, .ref q4, .int 2])), (q4, .inl ((g.2.2.1 4), 10, .inr (.inr (.inr (.inr (va_up (va_up f4 0 (some e0)) 1 (some e0b)))))))] H := hP
  have hD : va_D A [(h0, .inr (13, [.ref a1, .ref a2, .ref a3, .ref a4, .ref a5, .int zh, .int zf, .int zw, .int ze, .int zn, .int zm])), (e0, .inr (8, [.int 0, .int 0, .int 0, .int eh, .int (-1)])), (e0b, .inr (8, [.int 0, .int 0, .int 1, .int ehb, .int (-1)])), (a4, .inr (2, [.int mc4, .ref q4, .int 2])), (q4, .inl ((g.2.2.1 4), 10, .inr (.inr (.inr (.inr (va_up (va_up f4 0 (some e0)) 1 (some e0b)))))))] := hD
  refine W.widen (k := 0) (n := 0) (by decide) (by decide) ?_
  refine W.eq (g2 := F0 m 23 ls [.ref e0]) rfl ?_
  refine va_castE hx hb hown (G.w kw_123) (va_recv (q := (RX5, TX5, 5)) (ci := 8) (q0 := 1) G.K hP rfl rfl) dX11_countCrew_23 ?_
  refine va_get (D := g.1) (ci := 8) (v := .int 0) (C := RX5) (T := TX5) (N := 5) hx hb G.ws inX5 hown G.K hP 1 rfl rfl 2 (by decide) (G.w kw_124) (fun _ h9 => h9) rfl dX11_countCrew_26 ?_
  refine lv_iload_n hx hb dX11_countCrew_29 rfl (lv_at hl 3 rfl) ?_
  refine lv_icmp_ne (tgt := 36) hx hb dX11_countCrew_30 (by decide) (fun _ => ?_) (fun c30_4 => absurd c30_4 (by decide))
  refine lv_iinc (v := 1) (lv' := [(3, .int 1), (2, .int 0), (0, .ref h0), (1, .int 1)]) hx hb dX11_countCrew_36 hl (k := 0) rfl (by decide) (by decide) rfl (fun ls hl => ?_)
  refine lv_goto (tgt := 4) hx hb dX11_countCrew_39 (by decide) ?_
  refine lv_iload_n hx hb dX11_countCrew_4 rfl (lv_at hl 0 rfl) ?_
  refine lv_aload_n hx hb dX11_countCrew_5 rfl (lv_at hl 2 rfl) ?_
  refine va_get (D := g.1) (ci := 13) (v := .ref a4) (C := RX11) (T := TX11) (N := 11) hx hb G.ws inX11 hown G.K hP 0 rfl rfl 3 (by decide) (G.w kw_122) (fun _ h9 => h9) rfl dX11_countCrew_6 ?_
  refine kcallV (wc := [(a4, .inr (2, [.int mc4, .ref q4, .int 2]))]) (wr := [(h0, .inr (13, [.ref a1, .ref a2, .ref a3, .ref a4, .ref a5, .int zh, .int zf, .int zw, .int ze, .int zn, .int zm])), (e0, .inr (8, [.int 0, .int 0, .int 0, .int eh, .int (-1)])), (e0b, .inr (8, [.int 0, .int 0, .int 1, .int ehb, .int (-1)])), (q4, .inl ((g.2.2.1 4), 10, .inr (.inr (.inr (.inr (va_up (va_up f4 0 (some e0)) 1 (some e0b)))))))]) (As := []) (rest := [.int 1]) K G (m_Jx4a65c_size_8abf5 l hl0 g a4 q4 mc4 2 ) hP hD hS hA hl kw_31 kw_82 kw_33 kw_34 kw_22 ydJx4a65c_size_8abf5 [3] [0, 1, 2, 4] rfl rfl rfl rfl (by decide) (ci := 2) (q0 := 3) rfl rfl rfl rfl rfl (Nat.le_of_ble_eq_true rfl) dX11_countCrew_9 ⟨Nat.le_of_ble_eq_true rfl, Nat.le_of_ble_eq_true rfl⟩ ⟨Nat.le_of_ble_eq_true rfl, Nat.le_of_ble_eq_true rfl⟩ (fun _ _ _ _ _ _ hX _ _ _ _ _ _ => hX.elim) (fun v w1 H locs hQ hP hD hS => ?_)
  obtain ⟨rfl, rfl⟩ := hQ
  have hP : va_P g.1 vwCl [(h0, .inr (13, [.ref a1, .ref a2, .ref a3, .ref a4, .ref a5, .int zh, .int zf, .int zw, .int ze, .int zn, .int zm])), (e0, .inr (8, [.int 0, .int 0, .int 0, .int eh, .int (-1)])), (e0b, .inr (8, [.int 0, .int 0, .int 1, .int ehb, .int (-1)])), (q4, .inl ((g.2.2.1 4), 10, .inr (.inr (.inr (.inr (va_up (va_up f4 0 (some e0)) 1 (some e0b))))))), (a4, .inr (2, [.int mc4, .ref q4, .int 2]))] H := hP
  have hD : va_D A [(h0, .inr (13, [.ref a1, .ref a2, .ref a3, .ref a4, .ref a5, .int zh, .int zf, .int zw, .int ze, .int zn, .int zm])), (e0, .inr (8, [.int 0, .int 0, .int 0, .int eh, .int (-1)])), (e0b, .inr (8, [.int 0, .int 0, .int 1, .int ehb, .int (-1)])), (q4, .inl ((g.2.2.1 4), 10, .inr (.inr (.inr (.inr (va_up (va_up f4 0 (some e0)) 1 (some e0b))))))), (a4, .inr (2, [.int mc4, .ref q4, .int 2]))] := hD
  refine W.widen (k := 0) (n := 0) (by decide) (by decide) ?_
  refine W.eq (g2 := F0 m 12 ls [.int 2, .int 1]) rfl ?_
  refine lv_icmp_ge (tgt := 42) hx hb dX11_countCrew_12 (by decide) (fun c12_6 => absurd c12_6 (by decide)) (fun _ => ?_)
  refine lv_aload_n hx hb dX11_countCrew_15 rfl (lv_at hl 2 rfl) ?_
  refine va_get (D := g.1) (ci := 13) (v := .ref a4) (C := RX11) (T := TX11) (N := 11) hx hb G.ws inX11 hown G.K hP 0 rfl rfl 3 (by decide) (G.w kw_122) (fun _ h9 => h9) rfl dX11_countCrew_16 ?_
  refine lv_iload_n hx hb dX11_countCrew_19 rfl (lv_at hl 0 rfl) ?_
  refine kcallV (wc := [(a4, .inr (2, [.int mc4, .ref q4, .int 2])), (q4, .inl ((g.2.2.1 4), 10, .inr (.inr (.inr (.inr (va_up (va_up f4 0 (some e0)) 1 (some e0b)))))))]) (wr := [(h0, .inr (13, [.ref a1, .ref a2, .ref a3, .ref a4, .ref a5, .int zh, .int zf, .int zw, .int ze, .int zn, .int zm])), (e0, .inr (8, [.int 0, .int 0, .int 0, .int eh, .int (-1)])), (e0b, .inr (8, [.int 0, .int 0, .int 1, .int ehb, .int (-1)]))]) (As := [.int 1]) (rest := []) K G (m_Jx4a65c_get_915e3 l hl0 g a4 q4 10 e0b mc4 2 1 (va_up (va_up f4 0 (some e0)) 1 (some e0b)) (by decide) (by decide) rfl (vp_in_iff.mpr ⟨by decide, by decide⟩)) hP hD hS hA hl kw_35 kw_83 kw_37 kw_38 kw_22 ydJx4a65c_get_915e3 [4, 3] [0, 1, 2] rfl rfl rfl rfl (by decide) (ci := 2) (q0 := 4) rfl rfl rfl rfl rfl (Nat.le_of_ble_eq_true rfl) dX11_countCrew_20 ⟨Nat.le_of_ble_eq_true rfl, Nat.le_of_ble_eq_true rfl⟩ ⟨Nat.le_of_ble_eq_true rfl, Nat.le_of_ble_eq_true rfl⟩ (fun _ _ _ _ _ _ hX _ _ _ _ _ _ => hX.elim) (fun v w1 H locs hQ hP hD hS => ?_)
  obtain ⟨rfl, rfl⟩ := hQ
  have hP : va_P g.1 vwCl [(h0, .inr (13, [.ref a1, .ref a2, .ref a3, .ref a4, .ref a5, .int zh, .int zf, .int zw, .int ze, .int zn, .int zm])), (e0, .inr (8, [.int 0, .int 0, .int 0, .int eh, .int (-1)])), (e0b, .inr (8, [.int 0, .int 0, .int 1, .int ehb, .int (-1)])), (a4, .inr (2, [.int mc4, .ref q4, .int 2])), (q4, .inl ((g.2.2.1 4), 10, .inr (.inr (.inr (.inr (va_up (va_up f4 0 (some e0)) 1 (some e0b)))))))] H := hP
  have hD : va_D A [(h0, .inr (13, [.ref a1, .ref a2, .ref a3, .ref a4, .ref a5, .int zh, .int zf, .int zw, .int ze, .int zn, .int zm])), (e0, .inr (8, [.int 0, .int 0, .int 0, .int eh, .int (-1)])), (e0b, .inr (8, [.int 0, .int 0, .int 1, .int ehb, .int (-1)])), (a4, .inr (2, [.int mc4, .ref q4, .int 2])), (q4, .inl ((g.2.2.1 4), 10, .inr (.inr (.inr (.inr (va_up (va_up f4 0 (some e0)) 1 (some e0b)))))))] := hD
  refine W.widen (k := 0) (n := 0) (by decide) (by decide) ?_
  refine W.eq (g2 := F0 m 23 ls [.ref e0b]) rfl ?_
  refine va_castE hx hb hown (G.w kw_123) (va_recv (q := (RX5, TX5, 5)) (ci := 8) (q0 := 2) G.K hP rfl rfl) dX11_countCrew_23 ?_
  refine va_get (D := g.1) (ci := 8) (v := .int 1) (C := RX5) (T := TX5) (N := 5) hx hb G.ws inX5 hown G.K hP 2 rfl rfl 2 (by decide) (G.w kw_124) (fun _ h9 => h9) rfl dX11_countCrew_26 ?_
  refine lv_iload_n hx hb dX11_countCrew_29 rfl (lv_at hl 3 rfl) ?_
  refine lv_icmp_ne (tgt := 36) hx hb dX11_countCrew_30 (by decide) (fun c30_8 => absurd c30_8 (by decide)) (fun _ => ?_)
  refine lv_iinc (v := 1) (lv' := [(2, .int 1), (3, .int 1), (0, .ref h0), (1, .int 1)]) hx hb dX11_countCrew_33 hl (k := 1) rfl (by decide) (by decide) rfl (fun ls hl => ?_)
  refine lv_iinc (v := 2) (lv' := [(3, .int 2), (2, .int 1), (0, .ref h0), (1, .int 1)]) hx hb dX11_countCrew_36 hl (k := 1) rfl (by decide) (by decide) rfl (fun ls hl => ?_)
  refine lv_goto (tgt := 4) hx hb dX11_countCrew_39 (by decide) ?_
  refine lv_iload_n hx hb dX11_countCrew_4 rfl (lv_at hl 0 rfl) ?_
  refine lv_aload_n hx hb dX11_countCrew_5 rfl (lv_at hl 2 rfl) ?_
  refine va_get (D := g.1) (ci := 13) (v := .ref a4) (C := RX11) (T := TX11) (N := 11) hx hb G.ws inX11 hown G.K hP 0 rfl rfl 3 (by decide) (G.w kw_122) (fun _ h9 => h9) rfl dX11_countCrew_6 ?_
  refine kcallV (wc := [(a4, .inr (2, [.int mc4, .ref q4, .int 2]))]) (wr := [(h0, .inr (13, [.ref a1, .ref a2, .ref a3, .ref a4, .ref a5, .int zh, .int zf, .int zw, .int ze, .int zn, .int zm])), (e0, .inr (8, [.int 0, .int 0, .int 0, .int eh, .int (-1)])), (e0b, .inr (8, [.int 0, .int 0, .int 1, .int ehb, .int (-1)])), (q4, .inl ((g.2.2.1 4), 10, .inr (.inr (.inr (.inr (va_up (va_up f4 0 (some e0)) 1 (some e0b)))))))]) (As := []) (rest := [.int 2]) K G (m_Jx4a65c_size_8abf5 l hl0 g a4 q4 mc4 2 ) hP hD hS hA hl kw_31 kw_82 kw_33 kw_34 kw_22 ydJx4a65c_size_8abf5 [3] [0, 1, 2, 4] rfl rfl rfl rfl (by decide) (ci := 2) (q0 := 3) rfl rfl rfl rfl rfl (Nat.le_of_ble_eq_true rfl) dX11_countCrew_9 ⟨Nat.le_of_ble_eq_true rfl, Nat.le_of_ble_eq_true rfl⟩ ⟨Nat.le_of_ble_eq_true rfl, Nat.le_of_ble_eq_true rfl⟩ (fun _ _ _ _ _ _ hX _ _ _ _ _ _ => hX.elim) (fun v w1 H locs hQ hP hD hS => ?_)
  obtain ⟨rfl, rfl⟩ := hQ
  have hP : va_P g.1 vwCl [(h0, .inr (13, [.ref a1, .ref a2, .ref a3, .ref a4, .ref a5, .int zh, .int zf, .int zw, .int ze, .int zn, .int zm])), (e0, .inr (8, [.int 0, .int 0, .int 0, .int eh, .int (-1)])), (e0b, .inr (8, [.int 0, .int 0, .int 1, .int ehb, .int (-1)])), (q4, .inl ((g.2.2.1 4), 10, .inr (.inr (.inr (.inr (va_up (va_up f4 0 (some e0)) 1 (some e0b))))))), (a4, .inr (2, [.int mc4, .ref q4, .int 2]))] H := hP
  have hD : va_D A [(h0, .inr (13, [.ref a1, .ref a2, .ref a3, .ref a4, .ref a5, .int zh, .int zf, .int zw, .int ze, .int zn, .int zm])), (e0, .inr (8, [.int 0, .int 0, .int 0, .int eh, .int (-1)])), (e0b, .inr (8, [.int 0, .int 0, .int 1, .int ehb, .int (-1)])), (q4, .inl ((g.2.2.1 4), 10, .inr (.inr (.inr (.inr (va_up (va_up f4 0 (some e0)) 1 (some e0b))))))), (a4, .inr (2, [.int mc4, .ref q4, .int 2]))] := hD
  refine W.widen (k := 0) (n := 0) (by decide) (by decide) ?_
  refine W.eq (g2 := F0 m 12 ls [.int 2, .int 2]) rfl ?_
  refine lv_icmp_ge (tgt := 42) hx hb dX11_countCrew_12 (by decide) (fun _ => ?_) (fun c12_10 => absurd c12_10 (by decide))
  refine lv_iload_n hx hb dX11_countCrew_42 rfl (lv_at hl 1 rfl) ?_
  exact kretI K hP hD hS [0, 4, 3, 1, 2] [(h0, .inr (13, [.ref a1, .ref a2, .ref a3, .ref a4, .ref a5, .int zh, .int zf, .int zw, .int ze, .int zn, .int zm])), (a4, .inr (2, [.int mc4, .ref q4, .int 2])), (q4, .inl ((g.2.2.1 4), 10, .inr (.inr (.inr (.inr (va_up (va_up f4 0 (some e0)) 1 (some e0b))))))), (e0, .inr (8, [.int 0, .int 0, .int 0, .int eh, .int (-1)])), (e0b, .inr (8, [.int 0, .int 0, .int 1, .int ehb, .int (-1)]))] rfl rfl ⟨rfl, rfl⟩ (by decide) (by decide) dX11_countCrew_43

set_option maxHeartbeats 4000000 in
set_option maxRecDepth 100000 in
theorem m_X11_isTapem (l : Launch) (hl0 : l.stackTraces = false) (g : kG)   : kc l g yX11_isTape prog_1_method_64_code 1 (some .boolean) 0 0 0 0 [.int (-1)] [] (fun v w => (v = some (.int 0) ∧ w = [])) (fun _ _ => False) := by
  refine kbody (by decide) (Nat.le_of_ble_eq_true rfl) ?_
  intro p e s m args below meth c A H K ht G hP hD hA hS ls hl
  have K : KB p s m meth c RX11 "isTape" prog_1_method_64_code 1 (some .boolean) := K
  obtain ⟨hx, hb, hml, hown, hlocks, hr, hin⟩ := id K
  have hl : lv_has ls 1 [(0, .int (-1))] := hl
  refine lv_iload_n hx hb dX11_isTape_0 rfl (lv_at hl 0 rfl) ?_
  refine lv_bipush (v := 100) hx hb dX11_isTape_1 (by decide) ?_
  refine lv_icmp_lt (tgt := 17) hx hb dX11_isTape_3 (by decide) (fun _ => ?_) (fun c3_1 => absurd c3_1 (by decide))
  refine lv_iconst (v := 0) hx hb dX11_isTape_17 (by decide) ?_
  exact kretZ K hP hD hS [] [] rfl rfl ⟨rfl, rfl⟩ (by decide) (by decide) dX11_isTape_18

set_option maxHeartbeats 4000000 in
set_option maxRecDepth 100000 in
theorem m_X11_canSpeakm (l : Launch) (hl0 : l.stackTraces = false) (g : kG) (h0 : Nat) (a1 : Nat) (a2 : Nat) (a3 : Nat) (a4 : Nat) (a5 : Nat) (zh : Int32) (zf : Int32) (zw : Int32) (ze : Int32) (zn : Int32) (zm : Int32) (e0 : Nat) (e0b : Nat) (q4 : Nat) (eh : Int32) (ehb : Int32) (mc4 : Int32) (f4 : Nat → Option Nat) (y : Int32)  : kc l g yX11_canSpeak prog_1_method_83_code 4 (some .boolean) 1 21 0 0 [.ref h0, .int (-1), .int y] [(h0, .inr (13, [.ref a1, .ref a2, .ref a3, .ref a4, .ref a5, .int zh, .int zf, .int zw, .int ze, .int zn, .int zm])), (a4, .inr (2, [.int mc4, .ref q4, .int 2])), (q4, .inl ((g.2.2.1 4), 10, .inr (.inr (.inr (.inr (va_up (va_up f4 0 (some e0)) 1 (some e0b))))))), (e0, .inr (8, [.int 0, .int 0, .int 0, .int eh, .int (-1)])), (e0b, .inr (8, [.int 0, .int 0, .int 1, .int ehb, .int (-1)]))] (fun v w => (v = some (.int 0) ∧ w = [(h0, .inr (13, [.ref a1, .ref a2, .ref a3, .ref a4, .ref a5, .int zh, .int zf, .int zw, .int ze, .int zn, .int zm])), (a4, .inr (2, [.int mc4, .ref q4, .int 2])), (q4, .inl ((g.2.2.1 4), 10, .inr (.inr (.inr (.inr (va_up (va_up f4 0 (some e0)) 1 (some e0b))))))), (e0, .inr (8, [.int 0, .int 0, .int 0, .int eh, .int (-1)])), (e0b, .inr (8, [.int 0, .int 0, .int 1, .int ehb, .int (-1)]))])) (fun _ _ => False) := by
  refine kbody (by decide) (Nat.le_of_ble_eq_true rfl) ?_
  intro p e s m args below meth c A H K ht G hP hD hA hS ls hl
  have K : KB p s m meth c RX11 "canSpeak" prog_1_method_83_code 4 (some .boolean) := K
  obtain ⟨hx, hb, hml, hown, hlocks, hr, hin⟩ := id K
  have hl : lv_has ls 4 [(0, .ref h0), (1, .int (-1)), (2, .int y)] := hl
  refine lv_aload_n hx hb dX11_canSpeak_0 rfl (lv_at hl 0 rfl) ?_
  refine lv_iload_n hx hb dX11_canSpeak_1 rfl (lv_at hl 1 rfl) ?_
  refine kcallV (wc := [(h0, .inr (13, [.ref a1, .ref a2, .ref a3, .ref a4, .ref a5, .int zh, .int zf, .int zw, .int ze, .int zn, .int zm])), (a4, .inr (2, [.int mc4, .ref q4, .int 2])), (q4, .inl ((g.2.2.1 4), 10, .inr (.inr (.inr (.inr (va_up (va_up f4 0 (some e0)) 1 (some e0b))))))), (e0, .inr (8, [.int 0, .int 0, .int 0, .int eh, .int (-1)])), (e0b, .inr (8, [.int 0, .int 0, .int 1, .int ehb, .int (-1)]))]) (wr := []) (As := [.int (-1)]) (rest := []) K G (m_X11_isPersonm l hl0 g h0 a1 a2 a3 a4 a5 zh zf zw ze zn zm e0 e0b q4 eh ehb mc4 f4 ) hP hD hS hA hl kw_125 kw_126 kw_127 kw_128 kw_63 ydX11_isPerson [0, 1, 2, 3, 4] [] rfl rfl rfl rfl (by decide) (ci := 13) (q0 := 0) rfl rfl rfl rfl rfl (Nat.le_of_ble_eq_true rfl) dX11_canSpeak_2 ⟨Nat.le_of_ble_eq_true rfl, Nat.le_of_ble_eq_true rfl⟩ ⟨Nat.le_of_ble_eq_true rfl, Nat.le_of_ble_eq_true rfl⟩ (fun _ _ _ _ _ _ hX _ _ _ _ _ _ => hX.elim) (fun v w1 H locs hQ hP hD hS => ?_)
  obtain ⟨rfl, rfl⟩ := hQ
  have hP : va_P g.1 vwCl [(h0, .inr (13, [.ref a1, .ref a2, .ref a3, .ref a4, .ref a5, .int zh, .int zf, .int zw, .int ze, .int zn, .int zm])), (a4, .inr (2, [.int mc4, .ref q4, .int 2])), (q4, .inl ((g.2.2.1 4), 10, .inr (.inr (.inr (.inr (va_up (va_up f4 0 (some e0)) 1 (some e0b))))))), (e0, .inr (8, [.int 0, .int 0, .int 0, .int eh, .int (-1)])), (e0b, .inr (8, [.int 0, .int 0, .int 1, .int ehb, .int (-1)]))] H := hP
  have hD : va_D A [(h0, .inr (13, [.ref a1, .ref a2, .ref a3, .ref a4, .ref a5, .int zh, .int zf, .int zw, .int ze, .int zn, .int zm])), (a4, .inr (2, [.int mc4, .ref q4, .int 2])), (q4, .inl ((g.2.2.1 4), 10, .inr (.inr (.inr (.inr (va_up (va_up f4 0 (some e0)) 1 (some e0b))))))), (e0, .inr (8, [.int 0, .int 0, .int 0, .int eh, .int (-1)])), (e0b, .inr (8, [.int 0, .int 0, .int 1, .int ehb, .int (-1)]))] := hD
  refine W.widen (k := 0) (n := 0) (by decide) (by decide) ?_
  refine W.eq (g2 := F0 m 5 ls [.int 0]) rfl ?_
  refine lv_if_ne (tgt := 10) hx hb dX11_canSpeak_5 (by decide) (fun c5_2 => absurd c5_2 (by decide)) (fun _ => ?_)
  refine lv_iconst (v := 0) hx hb dX11_canSpeak_8 (by decide) ?_
  exact kretZ K hP hD hS [0, 1, 2, 3, 4] [(h0, .inr (13, [.ref a1, .ref a2, .ref a3, .ref a4, .ref a5, .int zh, .int zf, .int zw, .int ze, .int zn, .int zm])), (a4, .inr (2, [.int mc4, .ref q4, .int 2])), (q4, .inl ((g.2.2.1 4), 10, .inr (.inr (.inr (.inr (va_up (va_up f4 0 (some e0)) 1 (some e0b))))))), (e0, .inr (8, [.int 0, .int 0, .int 0, .int eh, .int (-1)])), (e0b, .inr (8, [.int 0, .int 0, .int 1, .int ehb, .int (-1)]))] rfl rfl ⟨rfl, rfl⟩ (by decide) (by decide) dX11_canSpeak_9

set_option maxHeartbeats 4000000 in
set_option maxRecDepth 100000 in
theorem m_X11_canSpeak0 (l : Launch) (hl0 : l.stackTraces = false) (g : kG) (h0 : Nat) (a1 : Nat) (a2 : Nat) (a3 : Nat) (a4 : Nat) (a5 : Nat) (zh : Int32) (zf : Int32) (zw : Int32) (ze : Int32) (zn : Int32) (zm : Int32) (e0 : Nat) (e0b : Nat) (q4 : Nat) (eh : Int32) (ehb : Int32) (mc4 : Int32) (f4 : Nat → Option Nat) (y : Int32)  : kc l g yX11_canSpeak prog_1_method_83_code 4 (some .boolean) 3 64 0 0 [.ref h0, .int 0, .int y] [(h0, .inr (13, [.ref a1, .ref a2, .ref a3, .ref a4, .ref a5, .int zh, .int zf, .int zw, .int ze, .int zn, .int zm])), (a4, .inr (2, [.int mc4, .ref q4, .int 2])), (q4, .inl ((g.2.2.1 4), 10, .inr (.inr (.inr (.inr (va_up (va_up f4 0 (some e0)) 1 (some e0b))))))), (e0, .inr (8, [.int 0, .int 0, .int 0, .int eh, .int (-1)])), (e0b, .inr (8, [.int 0, .int 0, .int 1, .int ehb, .int (-1)]))] (fun v w => (v = some (.int 0) ∧ w = [(h0, .inr (13, [.ref a1, .ref a2, .ref a3, .ref a4, .ref a5, .int zh, .int zf, .int zw, .int ze, .int zn, .int zm])), (a4, .inr (2, [.int mc4, .ref q4, .int 2])), (q4, .inl ((g.2.2.1 4), 10, .inr (.inr (.inr (.inr (va_up (va_up f4 0 (some e0)) 1 (some e0b))))))), (e0, .inr (8, [.int 0, .int 0, .int 0, .int eh, .int (-1)])), (e0b, .inr (8, [.int 0, .int 0, .int 1, .int ehb, .int (-1)]))])) (fun _ _ => False) := by
  refine kbody (by decide) (Nat.le_of_ble_eq_true rfl) ?_
  intro p e s m args below meth c A H K ht G hP hD hA hS ls hl
  have K : KB p s m meth c RX11 "canSpeak" prog_1_method_83_code 4 (some .boolean) := K
  obtain ⟨hx, hb, hml, hown, hlocks, hr, hin⟩ := id K
  have hl : lv_has ls 4 [(0, .ref h0), (1, .int 0), (2, .int y)] := hl
  refine lv_aload_n hx hb dX11_canSpeak_0 rfl (lv_at hl 0 rfl) ?_
  refine lv_iload_n hx hb dX11_canSpeak_1 rfl (lv_at hl 1 rfl) ?_
  refine kcallV (wc := [(h0, .inr (13, [.ref a1, .ref a2, .ref a3, .ref a4, .ref a5, .int zh, .int zf, .int zw, .int ze, .int zn, .int zm])), (a4, .inr (2, [.int mc4, .ref q4, .int 2])), (q4, .inl ((g.2.2.1 4), 10, .inr (.inr (.inr (.inr (va_up (va_up f4 0 (some e0)) 1 (some e0b))))))), (e0, .inr (8, [.int 0, .int 0, .int 0, .int eh, .int (-1)])), (e0b, .inr (8, [.int 0, .int 0, .int 1, .int ehb, .int (-1)]))]) (wr := []) (As := [.int 0]) (rest := []) K G (m_X11_isPerson0 l hl0 g h0 a1 a2 a3 a4 a5 zh zf zw ze zn zm e0 e0b q4 eh ehb mc4 f4 ) hP hD hS hA hl kw_125 kw_126 kw_127 kw_128 kw_63 ydX11_isPerson [0, 1, 2, 3, 4] [] rfl rfl rfl rfl (by decide) (ci := 13) (q0 := 0) rfl rfl rfl rfl rfl (Nat.le_of_ble_eq_true rfl) dX11_canSpeak_2 ⟨Nat.le_of_ble_eq_true rfl, Nat.le_of_ble_eq_true rfl⟩ ⟨Nat.le_of_ble_eq_true rfl, Nat.le_of_ble_eq_true rfl⟩ (fun _ _ _ _ _ _ hX _ _ _ _ _ _ => hX.elim) (fun v w1 H locs hQ hP hD hS => ?_)
  obtain ⟨rfl, rfl⟩ := hQ
  have hP : va_P g.1 vwCl [(h0, .inr (13, [.ref a1, .ref a2, .ref a3, .ref a4, .ref a5, .int zh, .int zf, .int zw, .int ze, .int zn, .int zm])), (a4, .inr (2, [.int mc4, .ref q4, .int 2])), (q4, .inl ((g.2.2.1 4), 10, .inr (.inr (.inr (.inr (va_up (va_up f4 0 (some e0)) 1 (some e0b))))))), (e0, .inr (8, [.int 0, .int 0, .int 0, .int eh, .int (-1)])), (e0b, .inr (8, [.int 0, .int 0, .int 1, .int ehb, .int (-1)]))] H := hP
  have hD : va_D A [(h0, .inr (13, [.ref a1, .ref a2, .ref a3, .ref a4, .ref a5, .int zh, .int zf, .int zw, .int ze, .int zn, .int zm])), (a4, .inr (2, [.int mc4, .ref q4, .int 2])), (q4, .inl ((g.2.2.1 4), 10, .inr (.inr (.inr (.inr (va_up (va_up f4 0 (some e0)) 1 (some e0b))))))), (e0, .inr (8, [.int 0, .int 0, .int 0, .int eh, .int (-1)])), (e0b, .inr (8, [.int 0, .int 0, .int 1, .int ehb, .int (-1)]))] := hD
  refine W.widen (k := 0) (n := 0) (by decide) (by decide) ?_
  refine W.eq (g2 := F0 m 5 ls [.int 1]) rfl ?_
  refine lv_if_ne (tgt := 10) hx hb dX11_canSpeak_5 (by decide) (fun _ => ?_) (fun c5_2 => absurd c5_2 (by decide))
  refine lv_aload_n hx hb dX11_canSpeak_10 rfl (lv_at hl 0 rfl) ?_
  refine va_get (D := g.1) (ci := 13) (v := .ref a4) (C := RX11) (T := TX11) (N := 11) hx hb G.ws inX11 hown G.K hP 0 rfl rfl 3 (by decide) (G.w kw_122) (fun _ h9 => h9) rfl dX11_canSpeak_11 ?_
  refine lv_iload_n hx hb dX11_canSpeak_14 rfl (lv_at hl 1 rfl) ?_
  refine kcallV (wc := [(a4, .inr (2, [.int mc4, .ref q4, .int 2])), (q4, .inl ((g.2.2.1 4), 10, .inr (.inr (.inr (.inr (va_up (va_up f4 0 (some e0)) 1 (some e0b)))))))]) (wr := [(h0, .inr (13, [.ref a1, .ref a2, .ref a3, .ref a4, .ref a5, .int zh, .int zf, .int zw, .int ze, .int zn, .int zm])), (e0, .inr (8, [.int 0, .int 0, .int 0, .int eh, .int (-1)])), (e0b, .inr (8, [.int 0, .int 0, .int 1, .int ehb, .int (-1)]))]) (As := [.int 0]) (rest := []) K G (m_Jx4a65c_get_915e3 l hl0 g a4 q4 10 e0 mc4 2 0 (va_up (va_up f4 0 (some e0)) 1 (some e0b)) (by decide) (by decide) rfl (vp_in_iff.mpr ⟨by decide, by decide⟩)) hP hD hS hA hl kw_35 kw_83 kw_37 kw_38 kw_22 ydJx4a65c_get_915e3 [1, 2] [0, 3, 4] rfl rfl rfl rfl (by decide) (ci := 2) (q0 := 1) rfl rfl rfl rfl rfl (Nat.le_of_ble_eq_true rfl) dX11_canSpeak_15 ⟨Nat.le_of_ble_eq_true rfl, Nat.le_of_ble_eq_true rfl⟩ ⟨Nat.le_of_ble_eq_true rfl, Nat.le_of_ble_eq_true rfl⟩ (fun _ _ _ _ _ _ hX _ _ _ _ _ _ => hX.elim) (fun v w1 H locs hQ hP hD hS => ?_)
  obtain ⟨rfl, rfl⟩ := hQ
  have hP : va_P g.1 vwCl [(h0, .inr (13, [.ref a1, .ref a2, .ref a3, .ref a4, .ref a5, .int zh, .int zf, .int zw, .int ze, .int zn, .int zm])), (e0, .inr (8, [.int 0, .int 0, .int 0, .int eh, .int (-1)])), (e0b, .inr (8, [.int 0, .int 0, .int 1, .int ehb, .int (-1)])), (a4, .inr (2, [.int mc4, .ref q4, .int 2])), (q4, .inl ((g.2.2.1 4), 10, .inr (.inr (.inr (.inr (va_up (va_up f4 0 (some e0)) 1 (some e0b)))))))] H := hP
  have hD : va_D A [(h0, .inr (13, [.ref a1, .ref a2, .ref a3, .ref a4, .ref a5, .int zh, .int zf, .int zw, .int ze, .int zn, .int zm])), (e0, .inr (8, [.int 0, .int 0, .int 0, .int eh, .int (-1)])), (e0b, .inr (8, [.int 0, .int 0, .int 1, .int ehb, .int (-1)])), (a4, .inr (2, [.int mc4, .ref q4, .int 2])), (q4, .inl ((g.2.2.1 4), 10, .inr (.inr (.inr (.inr (va_up (va_up f4 0 (some e0)) 1 (some e0b)))))))] := hD
  refine W.widen (k := 0) (n := 0) (by decide) (by decide) ?_
  refine W.eq (g2 := F0 m 18 ls [.ref e0]) rfl ?_
  refine va_castE hx hb hown (G.w kw_123) (va_recv (q := (RX5, TX5, 5)) (ci := 8) (q0 := 1) G.K hP rfl rfl) dX11_canSpeak_18 ?_
  refine lv_astore_n (lv' := [(3, .ref e0), (0, .ref h0), (1, .int 0), (2, .int y)]) hx hb dX11_canSpeak_21 rfl hl (by decide) rfl (fun ls hl => ?_)
  refine lv_aload_n hx hb dX11_canSpeak_22 rfl (lv_at hl 0 rfl) ?_
  refine va_get (D := g.1) (ci := 8) (v := .int 0) (C := RX5) (T := TX5) (N := 5) hx hb G.ws inX5 hown G.K hP 1 rfl rfl 1 (by decide) (G.w kw_129) (fun _ h9 => h9) rfl dX11_canSpeak_23 ?_
  refine lv_if_eq (tgt := 48) hx hb dX11_canSpeak_26 (by decide) (fun _ => ?_) (fun c26_4 => absurd c26_4 (by decide))
  refine lv_iconst (v := 0) hx hb dX11_canSpeak_48 (by decide) ?_
  exact kretZ K hP hD hS [0, 3, 4, 1, 2] [(h0, .inr (13, [.ref a1, .ref a2, .ref a3, .ref a4, .ref a5, .int zh, .int zf, .int zw, .int ze, .int zn, .int zm])), (a4, .inr (2, [.int mc4, .ref q4, .int 2])), (q4, .inl ((g.2.2.1 4), 10, .inr (.inr (.inr (.inr (va_up (va_up f4 0 (some e0)) 1 (some e0b))))))), (e0, .inr (8, [.int 0, .int 0, .int 0, .int eh, .int (-1)])), (e0b, .inr (8, [.int 0, .int 0, .int 1, .int ehb, .int (-1)]))] rfl rfl ⟨rfl, rfl⟩ (by decide) (by decide) dX11_canSpeak_49

set_option maxHeartbeats 4000000 in
set_option maxRecDepth 100000 in
theorem m_X11_canSpeak1 (l : Launch) (hl0 : l.stackTraces = false) (g : kG) (h0 : Nat) (a1 : Nat) (a2 : Nat) (a3 : Nat) (a4 : Nat) (a5 : Nat) (zh : Int32) (zf : Int32) (zw : Int32) (ze : Int32) (zn : Int32) (zm : Int32) (e0 : Nat) (e0b : Nat) (q4 : Nat) (eh : Int32) (ehb : Int32) (mc4 : Int32) (f4 : Nat → Option Nat) (y : Int32)  : kc l g yX11_canSpeak prog_1_method_83_code 4 (some .boolean) 3 64 0 0 [.ref h0, .int 1, .int y] [(h0, .inr (13, [.ref a1, .ref a2, .ref a3, .ref a4, .ref a5, .int zh, .int zf, .int zw, .int ze, .int zn, .int zm])), (a4, .inr (2, [.int mc4, .ref q4, .int 2])), (q4, .inl ((g.2.2.1 4), 10, .inr (.inr (.inr (.inr (va_up (va_up f4 0 (some e0)) 1 (some e0b))))))), (e0, .inr (8, [.int 0, .int 0, .int 0, .int eh, .int (-1)])), (e0b, .inr (8, [.int 0, .int 0, .int 1, .int ehb, .int (-1)]))] (fun v w => (v = some (.int 0) ∧ w = [(h0, .inr (13, [.ref a1, .ref a2, .ref a3, .ref a4, .ref a5, .int zh, .int zf, .int zw, .int ze, .int zn, .int zm])), (a4, .inr (2, [.int mc4, .ref q4, .int 2])), (q4, .inl ((g.2.2.1 4), 10, .inr (.inr (.inr (.inr (va_up (va_up f4 0 (some e0)) 1 (some e0b))))))), (e0, .inr (8, [.int 0, .int 0, .int 0, .int eh, .int (-1)])), (e0b, .inr (8, [.int 0, .int 0, .int 1, .int ehb, .int (-1)]))])) (fun _ _ => False) := by
  refine kbody (by decide) (Nat.le_of_ble_eq_true rfl) ?_
  intro p e s m args below meth c A H K ht G hP hD hA hS ls hl
  have K : KB p s m meth c RX11 "canSpeak" prog_1_method_83_code 4 (some .boolean) := K
  obtain ⟨hx, hb, hml, hown, hlocks, hr, hin⟩ := id K
  have hl : lv_has ls 4 [(0, .ref h0), (1, .int 1), (2, .int y)] := hl
  refine lv_aload_n hx hb dX11_canSpeak_0 rfl (lv_at hl 0 rfl) ?_
  refine lv_iload_n hx hb dX11_canSpeak_1 rfl (lv_at hl 1 rfl) ?_
  refine kcallV (wc := [(h0, .inr (13, [.ref a1, .ref a2, .ref a3, .ref a4, .ref a5, .int zh, .int zf, .int zw, .int ze, .int zn, .int zm])), (a4, .inr (2, [.int mc4, .ref q4, .int 2])), (q4, .inl ((g.2.2.1 4), 10, .inr (.inr (.inr (.inr (va_up (va_up f4 0 (some e0)) 1 (some e0b))))))), (e0, .inr (8, [.int 0, .int 0, .int 0, .int eh, .int (-1)])), (e0b, .inr (8, [.int 0, .int 0, .int 1, .int ehb, .int (-1)]))]) (wr := []) (As := [.int 1]) (rest := []) K G (m_X11_isPerson1 l hl0 g h0 a1 a2 a3 a4 a5 zh zf zw ze zn zm e0 e0b q4 eh ehb mc4 f4 ) hP hD hS hA hl kw_125 kw_126 kw_127 kw_128 kw_63 ydX11_isPerson [0, 1, 2, 3, 4] [] rfl rfl rfl rfl (by decide) (ci := 13) (q0 := 0) rfl rfl rfl rfl rfl (Nat.le_of_ble_eq_true rfl) dX11_canSpeak_2 ⟨Nat.le_of_ble_eq_true rfl, Nat.le_of_ble_eq_true rfl⟩ ⟨Nat.le_of_ble_eq_true rfl, Nat.le_of_ble_eq_true rfl⟩ (fun _ _ _ _ _ _ hX _ _ _ _ _ _ => hX.elim) (fun v w1 H locs hQ hP hD hS => ?_)
  obtain ⟨rfl, rfl⟩ := hQ
  have hP : va_P g.1 vwCl [(h0, .inr (13, [.ref a1, .ref a2, .ref a3, .ref a4, .ref a5, .int zh, .int zf, .int zw, .int ze, .int zn, .int zm])), (a4, .inr (2, [.int mc4, .ref q4, .int 2])), (q4, .inl ((g.2.2.1 4), 10, .inr (.inr (.inr (.inr (va_up (va_up f4 0 (some e0)) 1 (some e0b))))))), (e0, .inr (8, [.int 0, .int 0, .int 0, .int eh, .int (-1)])), (e0b, .inr (8, [.int 0, .int 0, .int 1, .int ehb, .int (-1)]))] H := hP
  have hD : va_D A [(h0, .inr (13, [.ref a1, .ref a2, .ref a3, .ref a4, .ref a5, .int zh, .int zf, .int zw, .int ze, .int zn, .int zm])), (a4, .inr (2, [.int mc4, .ref q4, .int 2])), (q4, .inl ((g.2.2.1 4), 10, .inr (.inr (.inr (.inr (va_up (va_up f4 0 (some e0)) 1 (some e0b))))))), (e0, .inr (8, [.int 0, .int 0, .int 0, .int eh, .int (-1)])), (e0b, .inr (8, [.int 0, .int 0, .int 1, .int ehb, .int (-1)]))] := hD
  refine W.widen (k := 0) (n := 0) (by decide) (by decide) ?_
  refine W.eq (g2 := F0 m 5 ls [.int 1]) rfl ?_
  refine lv_if_ne (tgt := 10) hx hb dX11_canSpeak_5 (by decide) (fun _ => ?_) (fun c5_2 => absurd c5_2 (by decide))
  refine lv_aload_n hx hb dX11_canSpeak_10 rfl (lv_at hl 0 rfl) ?_
  refine va_get (D := g.1) (ci := 13) (v := .ref a4) (C := RX11) (T := TX11) (N := 11) hx hb G.ws inX11 hown G.K hP 0 rfl rfl 3 (by decide) (G.w kw_122) (fun _ h9 => h9) rfl dX11_canSpeak_11 ?_
  refine lv_iload_n hx hb dX11_canSpeak_14 rfl (lv_at hl 1 rfl) ?_
  refine kcallV (wc := [(a4, .inr (2, [.int mc4, .ref q4, .int 2])), (q4, .inl ((g.2.2.1 4), 10, .inr (.inr (.inr (.inr (va_up (va_up f4 0 (some e0)) 1 (some e0b)))))))]) (wr := [(h0, .inr (13, [.ref a1, .ref a2, .ref a3, .ref a4, .ref a5, .int zh, .int zf, .int zw, .int ze, .int zn, .int zm])), (e0, .inr (8, [.int 0, .int 0, .int 0, .int eh, .int (-1)])), (e0b, .inr (8, [.int 0, .int 0, .int 1, .int ehb, .int (-1)]))]) (As := [.int 1]) (rest := []) K G (m_Jx4a65c_get_915e3 l hl0 g a4 q4 10 e0b mc4 2 1 (va_up (va_up f4 0 (some e0)) 1 (some e0b)) (by decide) (by decide) rfl (vp_in_iff.mpr ⟨by decide, by decide⟩)) hP hD hS hA hl kw_35 kw_83 kw_37 kw_38 kw_22 ydJx4a65c_get_915e3 [1, 2] [0, 3, 4] rfl rfl rfl rfl (by decide) (ci := 2) (q0 := 1) rfl rfl rfl rfl rfl (Nat.le_of_ble_eq_true rfl) dX11_canSpeak_15 ⟨Nat.le_of_ble_eq_true rfl, Nat.le_of_ble_eq_true rfl⟩ ⟨Nat.le_of_ble_eq_true rfl, Nat.le_of_ble_eq_true rfl⟩ (fun _ _ _ _ _ _ hX _ _ _ _ _ _ => hX.elim) (fun v w1 H locs hQ hP hD hS => ?_)
  obtain ⟨rfl, rfl⟩ := hQ
  have hP : va_P g.1 vwCl [(h0, .inr (13, [.ref a1, .ref a2, .ref a3, .ref a4, .ref a5, .int zh, .int zf, .int zw, .int ze, .int zn, .int zm])), (e0, .inr (8, [.int 0, .int 0, .int 0, .int eh, .int (-1)])), (e0b, .inr (8, [.int 0, .int 0, .int 1, .int ehb, .int (-1)])), (a4, .inr (2, [.int mc4, .ref q4, .int 2])), (q4, .inl ((g.2.2.1 4), 10, .inr (.inr (.inr (.inr (va_up (va_up f4 0 (some e0)) 1 (some e0b)))))))] H := hP
  have hD : va_D A [(h0, .inr (13, [.ref a1, .ref a2, .ref a3, .ref a4, .ref a5, .int zh, .int zf, .int zw, .int ze, .int zn, .int zm])), (e0, .inr (8, [.int 0, .int 0, .int 0, .int eh, .int (-1)])), (e0b, .inr (8, [.int 0, .int 0, .int 1, .int ehb, .int (-1)])), (a4, .inr (2, [.int mc4, .ref q4, .int 2])), (q4, .inl ((g.2.2.1 4), 10, .inr (.inr (.inr (.inr (va_up (va_up f4 0 (some e0)) 1 (some e0b)))))))] := hD
  refine W.widen (k := 0) (n := 0) (by decide) (by decide) ?_
  refine W.eq (g2 := F0 m 18 ls [.ref e0b]) rfl ?_
  refine va_castE hx hb hown (G.w kw_123) (va_recv (q := (RX5, TX5, 5)) (ci := 8) (q0 := 2) G.K hP rfl rfl) dX11_canSpeak_18 ?_
  refine lv_astore_n (lv' := [(3, .ref e0b), (0, .ref h0), (1, .int 1), (2, .int y)]) hx hb dX11_canSpeak_21 rfl hl (by decide) rfl (fun ls hl => ?_)
  refine lv_aload_n hx hb dX11_canSpeak_22 rfl (lv_at hl 0 rfl) ?_
  refine va_get (D := g.1) (ci := 8) (v := .int 0) (C := RX5) (T := TX5) (N := 5) hx hb G.ws inX5 hown G.K hP 2 rfl rfl 1 (by decide) (G.w kw_129) (fun _ h9 => h9) rfl dX11_canSpeak_23 ?_
  refine lv_if_eq (tgt := 48) hx hb dX11_canSpeak_26 (by decide) (fun _ => ?_) (fun c26_4 => absurd c26_4 (by decide))
  refine lv_iconst (v := 0) hx hb dX11_canSpeak_48 (by decide) ?_
  exact kretZ K hP hD hS [0, 3, 4, 1, 2] [(h0, .inr (13, [.ref a1, .ref a2, .ref a3, .ref a4, .ref a5, .int zh, .int zf, .int zw, .int ze, .int zn, .int zm])), (a4, .inr (2, [.int mc4, .ref q4, .int 2])), (q4, .inl ((g.2.2.1 4), 10, .inr (.inr (.inr (.inr (va_up (va_up f4 0 (some e0)) 1 (some e0b))))))), (e0, .inr (8, [.int 0, .int 0, .int 0, .int eh, .int (-1)])), (e0b, .inr (8, [.int 0, .int 0, .int 1, .int ehb, .int (-1)]))] rfl rfl ⟨rfl, rfl⟩ (by decide) (by decide) dX11_canSpeak_49

def r_X9_playOne_b0_0 (bl : Int32) : Int32 := (if bl ≤ 0 then bl else (bl - 1))
def r_X9_playOne_b0_3 (bl : Int32) (be : Int32) (x : Int32) : Int32 := (if bl ≤ 0 then be else (be + x))
set_option maxHeartbeats 4000000 in
set_option maxRecDepth 100000 in
theorem m_X9_playOne (l : Launch) (hl0 : l.stackTraces = false) (g : kG) (b0 : Nat) (bl : Int32) (bd : Int32) (bs : Int32) (be : Int32) (x : Int32)  : kc l g yX9_playOne prog_11_method_4_code 2 none 0 0 0 0 [.ref b0, .int x] [(b0, .inr (11, [.int bl, .int bd, .int bs, .int be]))] (fun v w => (v = none ∧ w = [(b0, .inr (11, [.int (r_X9_playOne_b0_0 bl), .int bd, .int bs, .int (r_X9_playOne_b0_3 bl be x)]))])) (fun _ _ => False) := by
  refine kbody (by decide) (Nat.le_of_ble_eq_true rfl) ?_
  intro p e s m args below meth c A H K ht G hP hD hA hS ls hl
  have K : KB p s m meth c RX9 "playOne" prog_11_method_4_code 2 none := K
  obtain ⟨hx, hb, hml, hown, hlocks, hr, hin⟩ := id K
  have hl : lv_has ls 2 [(0, .ref b0), (1, .int x)] := hl
  refine lv_aload_n hx hb dX9_playOne_0 rfl (lv_at hl 0 rfl) ?_
  refine va_get (D := g.1) (ci := 11) (v := .int bl) (C := RX9) (T := TX9) (N := 4) hx hb G.ws inX9 hown G.K hP 0 rfl rfl 0 (by decide) (G.w kw_130) (fun _ h9 => h9) rfl dX9_playOne_1 ?_
  have KJ_4 : ∀ (mv_2 : Int32) (mv_3 : Int32) (hmv_2 : mv_2 = if bl ≤ 0 then bl else (bl - 1)) (hmv_3 : mv_3 = if bl ≤ 0 then be else (be + x)) (H : Heap) (locs : List Loc), va_P g.1 vwCl [(b0, .inr (11, [.int mv_2, .int bd, .int bs, .int mv_3]))] H → va_D A [(b0, .inr (11, [.int mv_2, .int bd, .int bs, .int mv_3]))] → va_S A s.heap H locs → ∀ ls : Array Slot, lv_has ls 2 [(0, .ref b0), (1, .int x)] → W p l e (kR 0 0 0 0) s m args below meth c H locs 0 0 (vx_MQ below (kQ g (fun v w => (v = none ∧ w = [(b0, .inr (11, [.int (r_X9_playOne_b0_0 bl), .int bd, .int bs, .int (r_X9_playOne_b0_3 bl be x)]))])) A) (kX g (fun _ _ => False) A) args s 0 0 A) (F0 m 27 ls []) := by
    intro mv_2 mv_3 hmv_2 hmv_3 H locs hP hD hS ls hl
    exact kretV K hP hD hS [0] [(b0, .inr (11, [.int mv_2, .int bd, .int bs, .int mv_3]))] rfl rfl ⟨(by first | simp only [r_X9_playOne_b0_0, r_X9_playOne_b0_3, hmv_3, hmv_2] | rfl | simp [r_X9_playOne_b0_0, r_X9_playOne_b0_3, hmv_3, hmv_2]), (by first | simp only [r_X9_playOne_b0_0, r_X9_playOne_b0_3, hmv_3, hmv_2] | rfl | simp [r_X9_playOne_b0_0, r_X9_playOne_b0_3, hmv_3, hmv_2])⟩ (by decide) (by decide) dX9_playOne_27
  refine lv_if_le (tgt := 27) hx hb dX9_playOne_4 (by decide) (fun c4_1 => ?_) (fun c4_1 => ?_)
  · exact KJ_4 bl be (by first | exact (if_pos c4_1).symm | simp only [if_pos c4_1]) (by first | exact (if_pos c4_1).symm | simp only [if_pos c4_1]) _ _ (ksubP hP [0] rfl) (hD.sub [0] rfl rfl) hS _ (lv_sub hl [0, 1] rfl)
  · refine lv_aload_n hx hb dX9_playOne_7 rfl (lv_at hl 0 rfl) ?_
    refine lv_dup hx hb dX9_playOne_8 rfl ?_
    refine va_get (D := g.1) (ci := 11) (v := .int bl) (C := RX9) (T := TX9) (N := 4) hx hb G.ws inX9 hown G.K hP 0 rfl rfl 0 (by decide) (G.w kw_130) (fun _ h9 => h9) rfl dX9_playOne_9 ?_
    refine lv_iconst (v := 1) hx hb dX9_playOne_12 (by decide) ?_
    refine lv_isub hx hb dX9_playOne_13 ?_
    refine va_put (D := g.1) (ci := 11) (v := .int (bl - 1)) (ty := .int) (C := RX9) (T := TX9) (N := 4) hx hb G.ws inX9 tyX9 tyX9_ok nmX9 hown G.K hP hD hS 0 rfl rfl 0 (by decide) (G.w kw_130) (fun _ h9 => h9) (by decide +kernel) (by decide +kernel) rfl rfl (Nat.le_of_ble_eq_true rfl) dX9_playOne_14 (fun H locs hP hD hS => ?_)
    have hP : va_P g.1 vwCl [(b0, .inr (11, [.int (bl - 1), .int bd, .int bs, .int be]))] H := hP
    have hD : va_D A [(b0, .inr (11, [.int (bl - 1), .int bd, .int bs, .int be]))] := hD
    refine lv_aload_n hx hb dX9_playOne_17 rfl (lv_at hl 0 rfl) ?_
    refine lv_dup hx hb dX9_playOne_18 rfl ?_
    refine va_get (D := g.1) (ci := 11) (v := .int be) (C := RX9) (T := TX9) (N := 4) hx hb G.ws inX9 hown G.K hP 0 rfl rfl 3 (by decide) (G.w kw_131) (fun _ h9 => h9) rfl dX9_playOne_19 ?_
    refine lv_iload_n hx hb dX9_playOne_22 rfl (lv_at hl 1 rfl) ?_
    refine lv_iadd hx hb dX9_playOne_23 ?_
    refine va_put (D := g.1) (ci := 11) (v := .int (be + x)) (ty := .int) (C := RX9) (T := TX9) (N := 4) hx hb G.ws inX9 tyX9 tyX9_ok nmX9 hown G.K hP hD hS 0 rfl rfl 3 (by decide) (G.w kw_131) (fun _ h9 => h9) (by decide +kernel) (by decide +kernel) rfl rfl (Nat.le_of_ble_eq_true rfl) dX9_playOne_24 (fun H locs hP hD hS => ?_)
    have hP : va_P g.1 vwCl [(b0, .inr (11, [.int (bl - 1), .int bd, .int bs, .int (be + x)]))] H := hP
    have hD : va_D A [(b0, .inr (11, [.int (bl - 1), .int bd, .int bs, .int (be + x)]))] := hD
    exact KJ_4 (bl - 1) (be + x) (by first | exact (if_neg c4_1).symm | simp only [if_neg c4_1]) (by first | exact (if_neg c4_1).symm | simp only [if_neg c4_1]) _ _ (ksubP hP [0] rfl) (hD.sub [0] rfl rfl) hS _ (lv_sub hl [0, 1] rfl)

