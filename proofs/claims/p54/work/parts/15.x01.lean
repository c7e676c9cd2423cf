set_option maxHeartbeats 4000000 in
set_option maxRecDepth 100000 in
theorem m_X11_setGenerator0 (l : Launch) (hl0 : l.stackTraces = false) (g : kG) (h0 : Nat) (a1 : Nat) (a2 : Nat) (a3 : Nat) (a4 : Nat) (a5 : Nat) (zh : Int32) (zf : Int32) (zw : Int32) (ze : Int32) (zn : Int32) (zm : Int32) (q3 : Nat) (mc3 : Int32) (f3 : Nat → Option Nat) (s0 : Nat) (sA : Nat) (sL : Nat) (sP : Nat) (sS : Nat) (ea : Int32) (no : Int32) (fu : Int32) (fo : Int32) (sa : Int32) (po : Int32) (ch : Int32) (rb : Int32) (on : Int32) (li : Int32) (sp : Int32) (hu : Int32) (mu : Int32) (g0 : Nat) (gp : Int32) (gl : Int32) (go : Int32) (gr : Int32) (gq : Nat) (gmc : Int32) (gf : Nat → Option Nat)  : kc l g yX11_setGenerator prog_1_method_17_code 6 (some .int) 4 85 0 0 [.ref h0, .int 0, .int 0, .int 1] [(h0, .inr (13, [.ref a1, .ref a2, .ref a3, .ref a4, .ref a5, .int zh, .int zf, .int zw, .int ze, .int zn, .int zm])), (a3, .inr (2, [.int mc3, .ref q3, .int 1])), (q3, .inl ((g.2.2.1 4), 10, .inr (.inr (.inr (.inr (va_up f3 0 (some s0))))))), (s0, .inr (10, [.ref sA, .ref sL, .ref sP, .ref sS, .int ea, .int no, .int fu, .int fo, .int sa, .int po, .int ch, .int rb, .int on, .int li, .int sp, .int hu, .int mu])), (g0, .inr (5, [.int gp, .int gl, .int go, .int gr])), (sL, .inr (2, [.int gmc, .ref gq, .int 1])), (gq, .inl ((g.2.2.1 4), 10, .inr (.inr (.inr (.inr (va_up gf 0 (some g0)))))))] (fun v w => (v = some (.int gr) ∧ w = [(h0, .inr (13, [.ref a1, .ref a2, .ref a3, .ref a4, .ref a5, .int zh, .int zf, .int zw, .int ze, .int zn, .int zm])), (a3, .inr (2, [.int mc3, .ref q3, .int 1])), (q3, .inl ((g.2.2.1 4), 10, .inr (.inr (.inr (.inr (va_up f3 0 (some s0))))))), (s0, .inr (10, [.ref sA, .ref sL, .ref sP, .ref sS, .int ea, .int no, .int fu, .int fo, .int sa, .int po, .int ch, .int rb, .int on, .int li, .int sp, .int hu, .int mu])), (g0, .inr (5, [.int gp, .int gl, .int 1, .int gr])), (sL, .inr (2, [.int gmc, .ref gq, .int 1])), (gq, .inl ((g.2.2.1 4), 10, .inr (.inr (.inr (.inr (va_up gf 0 (some g0)))))))])) (fun _ _ => False) := by
  refine kbody (by decide) (Nat.le_of_ble_eq_true rfl) ?_
  intro p e s m args below meth c A H K ht G hP hD hA hS ls hl
  have K : KB p s m meth c RX11 "setGenerator" prog_1_method_17_code 6 (some .int) := K
  obtain ⟨hx, hb, hml, hown, hlocks, hr, hin⟩ := id K
  have hl : lv_has ls 6 [(0, .ref h0), (1, .int 0), (2, .int 0), (3, .int 1)] := hl
  refine lv_aload_n hx hb dX11_setGenerator_0 rfl (lv_at hl 0 rfl) ?_
  refine lv_iload_n hx hb dX11_setGenerator_1 rfl (lv_at hl 1 rfl) ?_
  refine kcallV (wc := [(h0, .inr (13, [.ref a1, .ref a2, .ref a3, .ref a4, .ref a5, .int zh, .int zf, .int zw, .int ze, .int zn, .int zm])), (a3, .inr (2, [.int mc3, .ref q3, .int 1])), (q3, .inl ((g.2.2.1 4), 10, .inr (.inr (.inr (.inr (va_up f3 0 (some s0))))))), (s0, .inr (10, [.ref sA, .ref sL, .ref sP, .ref sS, .int ea, .int no, .int fu, .int fo, .int sa, .int po, .int ch, .int rb, .int on, .int li, .int sp, .int hu, .int mu]))]) (wr := [(g0, .inr (5, [.int gp, .int gl, .int go, .int gr])), (sL, .inr (2, [.int gmc, .ref gq, .int 1])), (gq, .inl ((g.2.2.1 4), 10, .inr (.inr (.inr (.inr (va_up gf 0 (some g0)))))))]) (As := [.int 0]) (rest := []) K G (m_X11_shipAt10 l hl0 g h0 a1 a2 a3 a4 a5 zh zf zw ze zn zm q3 mc3 f3 s0 sA sL sP sS ea no fu fo sa po ch rb on li sp hu mu ) hP hD hS hA hl kw_426 kw_427 kw_428 kw_429 kw_63 ydX11_shipAt [0, 1, 2, 3] [4, 5, 6] rfl rfl rfl rfl (by decide) (ci := 13) (q0 := 0) rfl rfl rfl rfl rfl (Nat.le_of_ble_eq_true rfl) dX11_setGenerator_2 ⟨Nat.le_of_ble_eq_true rfl, Nat.le_of_ble_eq_true rfl⟩ ⟨Nat.le_of_ble_eq_true rfl, Nat.le_of_ble_eq_true rfl⟩ (fun _ _ _ _ _ _ hX _ _ _ _ _ _ => hX.elim) (fun v w1 H locs hQ hP hD hS => ?_)
  obtain ⟨rfl, rfl⟩ := hQ
  have hP : va_P g.1 vwCl [(g0, .inr (5, [.int gp, .int gl, .int go, .int gr])), (sL, .inr (2, [.int gmc, .ref gq, .int 1])), (gq, .inl ((g.2.2.1 4), 10, .inr (.inr (.inr (.inr (va_up gf 0 (some g0))))))), (h0, .inr (13, [.ref a1, .ref a2, .ref a3, .ref a4, .ref a5, .int zh, .int zf, .int zw, .int ze, .int zn, .int zm])), (a3, .inr (2, [.int mc3, .ref q3, .int 1])), (q3, .inl ((g.2.2.1 4), 10, .inr (.inr (.inr (.inr (va_up f3 0 (some s0))))))), (s0, .inr (10, [.ref sA, .ref sL, .ref sP, .ref sS, .int ea, .int no, .int fu, .int fo, .int sa, .int po, .int ch, .int rb, .int on, .int li, .int sp, .int hu, .int mu]))] H := hP
  have hD : va_D A [(g0, .inr (5, [.int gp, .int gl, .int go, .int gr])), (sL, .inr (2, [.int gmc, .ref gq, .int 1])), (gq, .inl ((g.2.2.1 4), 10, .inr (.inr (.inr (.inr (va_up gf 0 (some g0))))))), (h0, .inr (13, [.ref a1, .ref a2, .ref a3, .ref a4, .ref a5, .int zh, .int zf, .int zw, .int ze, .int zn, .int zm])), (a3, .inr (2, [.int mc3, .ref q3, .int 1])), (q3, .inl ((g.2.2.1 4), 10, .inr (.inr (.inr (.inr (va_up f3 0 (some s0))))))), (s0, .inr (10, [.ref sA, .ref sL, .ref sP, .ref sS, .int ea, .int no, .int fu, .int fo, .int sa, .int po, .int ch, .int rb, .int on, .int li, .int sp, .int hu, .int mu]))] := hD
  refine W.widen (k := 0) (n := 0) (by decide) (by decide) ?_
  refine W.eq (g2 := F0 m 5 ls [.ref s0]) rfl ?_
  refine lv_astore (lv' := [(4, .ref s0), (0, .ref h0), (1, .int 0), (2, .int 0), (3, .int 1)]) hx hb dX11_setGenerator_5 hl (by decide) rfl (fun ls hl => ?_)
  refine lv_iload_n hx hb dX11_setGenerator_7 rfl (lv_at hl 3 rfl) ?_
  refine lv_aload hx hb dX11_setGenerator_8 (lv_at hl 0 rfl) ?_
  refine va_get (D := g.1) (ci := 10) (v := .ref sL) (C := RX8) (T := TX8) (N := 17) hx hb G.ws inX8 hown G.K hP 6 rfl rfl 1 (by decide) (G.w kw_430) (fun _ h9 => h9) rfl dX11_setGenerator_10 ?_
  refine kcallV (wc := [(sL, .inr (2, [.int gmc, .ref gq, .int 1]))]) (wr := [(g0, .inr (5, [.int gp, .int gl, .int go, .int gr])), (gq, .inl ((g.2.2.1 4), 10, .inr (.inr (.inr (.inr (va_up gf 0 (some g0))))))), (h0, .inr (13, [.ref a1, .ref a2, .ref a3, .ref a4, .ref a5, .int zh, .int zf, .int zw, .int ze, .int zn, .int zm])), (a3, .inr (2, [.int mc3, .ref q3, .int 1])), (q3, .inl ((g.2.2.1 4), 10, .inr (.inr (.inr (.inr (va_up f3 0 (some s0))))))), (s0, .inr (10, [.ref sA, .ref sL, .ref sP, .ref sS, .int ea, .int no, .int fu, .int fo, .int sa, .int po, .int ch, .int rb, .int on, .int li, .int sp, .int hu, .int mu]))]) (As := []) (rest := [.int 0]) K G (m_Jx4a65c_size_8abf5 l hl0 g sL gq gmc 1 ) hP hD hS hA hl kw_31 kw_82 kw_33 kw_34 kw_22 ydJx4a65c_size_8abf5 [1] [0, 2, 3, 4, 5, 6] rfl rfl rfl rfl (by decide) (ci := 2) (q0 := 1) rfl rfl rfl rfl rfl (Nat.le_of_ble_eq_true rfl) dX11_setGenerator_13 ⟨Nat.le_of_ble_eq_true rfl, Nat.le_of_ble_eq_true rfl⟩ ⟨Nat.le_of_ble_eq_true rfl, Nat.le_of_ble_eq_true rfl⟩ (fun _ _ _ _ _ _ hX _ _ _ _ _ _ => hX.elim) (fun v w1 H locs hQ hP hD hS => ?_)
  obtain ⟨rfl, rfl⟩ := hQ
  have hP : va_P g.1 vwCl [(g0, .inr (5, [.int gp, .int gl, .int go, .int gr])), (gq, .inl ((g.2.2.1 4), 10, .inr (.inr (.inr (.inr (va_up gf 0 (some g0))))))), (h0, .inr (13, [.ref a1, .ref a2, .ref a3, .ref a4, .ref a5, .int zh, .int zf, .int zw, .int ze, .int zn, .int zm])), (a3, .inr (2, [.int mc3, .ref q3, .int 1])), (q3, .inl ((g.2.2.1 4), 10, .inr (.inr (.inr (.inr (va_up f3 0 (some s0))))))), (s0, .inr (10, [.ref sA, .ref sL, .ref sP, .ref sS, .int ea, .int no, .int fu, .int fo, .int sa, .int po, .int ch, .int rb, .int on, .int li, .int sp, .int hu, .int mu])), (sL, .inr (2, [.int gmc, .ref gq, .int 1]))] H := hP
  have hD : va_D A [(g0, .inr (5, [.int gp, .int gl, .int go, .int gr])), (gq, .inl ((g.2.2.1 4), 10, .inr (.inr (.inr (.inr (va_up gf 0 (some g0))))))), (h0, .inr (13, [.ref a1, .ref a2, .ref a3, .ref a4, .ref a5, .int zh, .int zf, .int zw, .int ze, .int zn, .int zm])), (a3, .inr (2, [.int mc3, .ref q3, .int 1])), (q3, .inl ((g.2.2.1 4), 10, .inr (.inr (.inr (.inr (va_up f3 0 (some s0))))))), (s0, .inr (10, [.ref sA, .ref sL, .ref sP, .ref sS, .int ea, .int no, .int fu, .int fo, .int sa, .int po, .int ch, .int rb, .int on, .int li, .int sp, .int hu, .int mu])), (sL, .inr (2, [.int gmc, .ref gq, .int 1]))] := hD
  refine W.widen (k := 0) (n := 0) (by decide) (by decide) ?_
  refine W.eq (g2 := F0 m 16 ls [.int 1, .int 0]) rfl ?_
  refine kcallS (wc := []) (wr := [(g0, .inr (5, [.int gp, .int gl, .int go, .int gr])), (gq, .inl ((g.2.2.1 4), 10, .inr (.inr (.inr (.inr (va_up gf 0 (some g0))))))), (h0, .inr (13, [.ref a1, .ref a2, .ref a3, .ref a4, .ref a5, .int zh, .int zf, .int zw, .int ze, .int zn, .int zm])), (a3, .inr (2, [.int mc3, .ref q3, .int 1])), (q3, .inl ((g.2.2.1 4), 10, .inr (.inr (.inr (.inr (va_up f3 0 (some s0))))))), (s0, .inr (10, [.ref sA, .ref sL, .ref sP, .ref sS, .int ea, .int no, .int fu, .int fo, .int sa, .int po, .int ch, .int rb, .int on, .int li, .int sp, .int hu, .int mu])), (sL, .inr (2, [.int gmc, .ref gq, .int 1]))]) (As := [.int 0, .int 1]) (rest := []) K G (m_X11_requireNumber l hl0 g 0 1 (by decide) (by decide)) hP hD hS hA hl kw_402 kw_403 kw_404 kw_63 ydX11_requireNumber [] [0, 1, 2, 3, 4, 5, 6] rfl rfl rfl rfl (by decide) rfl rfl (Nat.le_of_ble_eq_true rfl) dX11_setGenerator_16 ⟨Nat.le_of_ble_eq_true rfl, Nat.le_of_ble_eq_true rfl⟩ ⟨Nat.le_of_ble_eq_true rfl, Nat.le_of_ble_eq_true rfl⟩ (fun _ _ _ _ _ _ hX _ _ _ _ _ _ => hX.elim) (fun v w1 H locs hQ hP hD hS => ?_)
  obtain ⟨rfl, rfl⟩ := hQ
  have hP : va_P g.1 vwCl [(g0, .inr (5, [.int gp, .int gl, .int go, .int gr])), (gq, .inl ((g.2.2.1 4), 10, .inr (.inr (.inr (.inr (va_up gf 0 (some g0))))))), (h0, .inr (13, [.ref a1, .ref a2, .ref a3, .ref a4, .ref a5, .int zh, .int zf, .int zw, .int ze, .int zn, .int zm])), (a3, .inr (2, [.int mc3, .ref q3, .int 1])), (q3, .inl ((g.2.2.1 4), 10, .inr (.inr (.inr (.inr (va_up f3 0 (some s0))))))), (s0, .inr (10, [.ref sA, .ref sL, .ref sP, .ref sS, .int ea, .int no, .int fu, .int fo, .int sa, .int po, .int ch, .int rb, .int on, .int li, .int sp, .int hu, .int mu])), (sL, .inr (2, [.int gmc, .ref gq, .int 1]))] H := hP
  have hD : va_D A [(g0, .inr (5, [.int gp, .int gl, .int go, .int gr])), (gq, .inl ((g.2.2.1 4), 10, .inr (.inr (.inr (.inr (va_up gf 0 (some g0))))))), (h0, .inr (13, [.ref a1, .ref a2, .ref a3, .ref a4, .ref a5, .int zh, .int zf, .int zw, .int ze, .int zn, .int zm])), (a3, .inr (2, [.int mc3, .ref q3, .int 1])), (q3, .inl ((g.2.2.1 4), 10, .inr (.inr (.inr (.inr (va_up f3 0 (some s0))))))), (s0, .inr (10, [.ref sA, .ref sL, .ref sP, .ref sS, .int ea, .int no, .int fu, .int fo, .int sa, .int po, .int ch, .int rb, .int on, .int li, .int sp, .int hu, .int mu])), (sL, .inr (2, [.int gmc, .ref gq, .int 1]))] := hD
  refine W.widen (k := 0) (n := 0) (by decide) (by decide) ?_
  refine W.eq (g2 := F0 m 19 ls []) rfl ?_
  refine lv_aload hx hb dX11_setGenerator_19 (lv_at hl 0 rfl) ?_
  refine va_get (D := g.1) (ci := 10) (v := .ref sL) (C := RX8) (T := TX8) (N := 17) hx hb G.ws inX8 hown G.K hP 5 rfl rfl 1 (by decide) (G.w kw_430) (fun _ h9 => h9) rfl dX11_setGenerator_21 ?_
  refine lv_iload_n hx hb dX11_setGenerator_24 rfl (lv_at hl 3 rfl) ?_
  refine kcallV (wc := [(sL, .inr (2, [.int gmc, .ref gq, .int 1])), (gq, .inl ((g.2.2.1 4), 10, .inr (.inr (.inr (.inr (va_up gf 0 (some g0)))))))]) (wr := [(g0, .inr (5, [.int gp, .int gl, .int go, .int gr])), (h0, .inr (13, [.ref a1, .ref a2, .ref a3, .ref a4, .ref a5, .int zh, .int zf, .int zw, .int ze, .int zn, .int zm])), (a3, .inr (2, [.int mc3, .ref q3, .int 1])), (q3, .inl ((g.2.2.1 4), 10, .inr (.inr (.inr (.inr (va_up f3 0 (some s0))))))), (s0, .inr (10, [.ref sA, .ref sL, .ref sP, .ref sS, .int ea, .int no, .int fu, .int fo, .int sa, .int po, .int ch, .int rb, .int on, .int li, .int sp, .int hu, .int mu]))]) (As := [.int 0]) (rest := []) K G (m_Jx4a65c_get_915e3 l hl0 g sL gq 10 g0 gmc 1 0 (va_up gf 0 (some g0)) (by decide) (by decide) rfl (vp_in_iff.mpr ⟨by decide, by decide⟩)) hP hD hS hA hl kw_35 kw_83 kw_37 kw_38 kw_22 ydJx4a65c_get_915e3 [6, 1] [0, 2, 3, 4, 5] rfl rfl rfl rfl (by decide) (ci := 2) (q0 := 6) rfl rfl rfl rfl rfl (Nat.le_of_ble_eq_true rfl) dX11_setGenerator_25 ⟨Nat.le_of_ble_eq_true rfl, Nat.le_of_ble_eq_true rfl⟩ ⟨Nat.le_of_ble_eq_true rfl, Nat.le_of_ble_eq_true rfl⟩ (fun _ _ _ _ _ _ hX _ _ _ _ _ _ => hX.elim) (fun v w1 H locs hQ hP hD hS => ?_)
  obtain ⟨rfl, rfl⟩ := hQ
  have hP : va_P g.1 vwCl [(g0, .inr (5, [.int gp, .int gl, .int go, .int gr])), (h0, .inr (13, [.ref a1, .ref a2, .ref a3, .ref a4, .ref a5, .int zh, .int zf, .int zw, .int ze, .int zn, .int zm])), (a3, .inr (2, [.int mc3, .ref q3, .int 1])), (q3, .inl ((g.2.2.1 4), 10, .inr (.inr (.inr (.inr (va_up f3 0 (some s0))))))), (s0, .inr (10, [.ref sA, .ref sL, .ref sP, .ref sS, .int ea, .int no, .int fu, .int fo, .int sa, .int po, .int ch, .int rb, .int on, .int li, .int sp, .int hu, .int mu])), (sL, .inr (2, [.int gmc, .ref gq, .int 1])), (gq, .inl ((g.2.2.1 4), 10, .inr (.inr (.inr (.inr (va_up gf 0 (some g0)))))))] H := hP
  have hD : va_D A [(g0, .inr (5, [.int gp, .int gl, .int go, .int gr])), (h0, .inr (13, [.ref a1, .ref a2, .ref a3, .ref a4, .ref a5, .int zh, .int zf, .int zw, .int ze, .int zn, .int zm])), (a3, .inr (2, [.int mc3, .ref q3, .int 1])), (q3, .inl ((g.2.2.1 4), 10, .inr (.inr (.inr (.inr (va_up f3 0 (some s0))))))), (s0, .inr (10, [.ref sA, .ref sL, .ref sP, .ref sS, .int ea, .int no, .int fu, .int fo, .int sa, .int po, .int ch, .int rb, .int on, .int li, .int sp, .int hu, .int mu])), (sL, .inr (2, [.int gmc, .ref gq, .int 1])), (gq, .inl ((g.2.2.1 4), 10, .inr (.inr (.inr (.inr (va_up gf 0 (some g0)))))))] := hD
  refine W.widen (k := 0) (n := 0) (by decide) (by decide) ?_
  refine W.eq (g2 := F0 m 28 ls [.ref g0]) rfl ?_
  refine va_castE hx hb hown (G.w kw_431) (va_recv (q := (RX2, TX2, 4)) (ci := 5) (q0 := 0) G.K hP rfl rfl) dX11_setGenerator_28 ?_
  refine lv_astore (lv' := [(5, .ref g0), (4, .ref s0), (0, .ref h0), (1, .int 0), (2, .int 0), (3, .int 1)]) hx hb dX11_setGenerator_31 hl (by decide) rfl (fun ls hl => ?_)
  refine lv_aload hx hb dX11_setGenerator_33 (lv_at hl 0 rfl) ?_
  refine lv_iload_n hx hb dX11_setGenerator_35 rfl (lv_at hl 5 rfl) ?_
  refine va_put (D := g.1) (ci := 5) (v := .int 1) (ty := .boolean) (C := RX2) (T := TX2) (N := 4) hx hb G.ws inX2 tyX2 tyX2_ok nmX2 hown G.K hP hD hS 0 rfl rfl 2 (by decide) (G.w kw_437) (fun _ h9 => h9) (by decide +kernel) (by decide +kernel) rfl rfl (Nat.le_of_ble_eq_true rfl) dX11_setGenerator_36 (fun H locs hP hD hS => ?_)
  have hP : va_P g.1 vwCl [(g0, .inr (5, [.int gp, .int gl, .int 1, .int gr])), (h0, .inr (13, [.ref a1, .ref a2, .ref a3, .ref a4, .ref a5, .int zh, .int zf, .int zw, .int ze, .int zn, .int zm])), (a3, .inr (2, [.int mc3, .ref q3, .int 1])), (q3, .inl ((g.2.2.1 4), 10, .inr (.inr (.inr (.inr (va_up f3 0 (some s0))))))), (s0, .inr (10, [.ref sA, .ref sL, .ref sP, .ref sS, .int ea, .int no, .int fu, .int fo, .int sa, .int po, .int ch, .int rb, .int on, .int li, .int sp, .int hu, .int mu])), (sL, .inr (2, [.int gmc, .ref gq, .int 1])), (gq, .inl ((g.2.2.1 4), 10, .inr (.inr (.inr (.inr (va_up gf 0 (some g0)))))))] H := hP
  have hD : va_D A [(g0, .inr (5, [.int gp, .int gl, .int 1, .int gr])), (h0, .inr (13, [.ref a1, .ref a2, .ref a3, .ref a4, .ref a5, .int zh, .int zf, .int zw, .int ze, .int zn, .int zm])), (a3, .inr (2, [.int mc3, .ref q3, .int 1])), (q3, .inl ((g.2.2.1 4), 10, .inr (.inr (.inr (.inr (va_up f3 0 (some s0))))))), (s0, .inr (10, [.ref sA, .ref sL, .ref sP, .ref sS, .int ea, .int no, .int fu, .int fo, .int sa, .int po, .int ch, .int rb, .int on, .int li, .int sp, .int hu, .int mu])), (sL, .inr (2, [.int gmc, .ref gq, .int 1])), (gq, .inl ((g.2.2.1 4), 10, .inr (.inr (.inr (.inr (va_up gf 0 (some g0)))))))] := hD
  refine lv_aload hx hb dX11_setGenerator_39 (lv_at hl 0 rfl) ?_
  refine va_get (D := g.1) (ci := 5) (v := .int gr) (C := RX2) (T := TX2) (N := 4) hx hb G.ws inX2 hown G.K hP 0 rfl rfl 3 (by decide) (G.w kw_438) (fun _ h9 => h9) rfl dX11_setGenerator_41 ?_
  exact kretI K hP hD hS [1, 2, 3, 4, 0, 5, 6] [(h0, .inr (13, [.ref a1, .ref a2, .ref a3, .ref a4, .ref a5, .int zh, .int zf, .int zw, .int ze, .int zn, .int zm])), (a3, .inr (2, [.int mc3, .ref q3, .int 1])), (q3, .inl ((g.2.2.1 4), 10, .inr (.inr (.inr (.inr (va_up f3 0 (some s0))))))), (s0, .inr (10, [.ref sA, .ref sL, .ref sP, .ref sS, .int ea, .int no, .int fu, .int fo, .int sa, .int po, .int ch, .int rb, .int on, .int li, .int sp, .int hu, .int mu])), (g0, .inr (5, [.int gp, .int gl, .int 1, .int gr])), (sL, .inr (2, [.int gmc, .ref gq, .int 1])), (gq, .inl ((g.2.2.1 4), 10, .inr (.inr (.inr (.inr (va_up gf 0 (some g0)))))))] rfl rfl ⟨rfl, rfl⟩ (by decide) (by decide) dX11_setGenerator_44

set_option maxHeartbeats 4000000 in
set_option maxRecDepth 100000 in
theorem m_X11_setPower0 (l : Launch) (hl0 : l.stackTraces = false) (g : kG) (h0 : Nat) (a1 : Nat) (a2 : Nat) (a3 : Nat) (a4 : Nat) (a5 : Nat) (zh : Int32) (zf : Int32) (zw : Int32) (ze : Int32) (zn : Int32) (zm : Int32) (q3 : Nat) (mc3 : Int32) (f3 : Nat → Option Nat) (s0 : Nat) (sA : Nat) (sL : Nat) (sP : Nat) (sS : Nat) (ea : Int32) (no : Int32) (fu : Int32) (fo : Int32) (sa : Int32) (po : Int32) (ch : Int32) (rb : Int32) (on : Int32) (li : Int32) (sp : Int32) (hu : Int32) (mu : Int32) (x : Int32) (p1 : ¬ x < 0) (p2 : x ≤ 50) : kc l g yX11_setPower prog_1_method_22_code 5 (some .int) 4 85 0 0 [.ref h0, .int 0, .int x] [(h0, .inr (13, [.ref a1, .ref a2, .ref a3, .ref a4, .ref a5, .int zh, .int zf, .int zw, .int ze, .int zn, .int zm])), (a3, .inr (2, [.int mc3, .ref q3, .int 1])), (q3, .inl ((g.2.2.1 4), 10, .inr (.inr (.inr (.inr (va_up f3 0 (some s0))))))), (s0, .inr (10, [.ref sA, .ref sL, .ref sP, .ref sS, .int ea, .int no, .int fu, .int fo, .int sa, .int po, .int ch, .int rb, .int on, .int li, .int sp, .int hu, .int mu]))] (fun v w => (v = some (.int po) ∧ w = [(h0, .inr (13, [.ref a1, .ref a2, .ref a3, .ref a4, .ref a5, .int zh, .int zf, .int zw, .int ze, .int zn, .int zm])), (a3, .inr (2, [.int mc3, .ref q3, .int 1])), (q3, .inl ((g.2.2.1 4), 10, .inr (.inr (.inr (.inr (va_up f3 0 (some s0))))))), (s0, .inr (10, [.ref sA, .ref sL, .ref sP, .ref sS, .int ea, .int no, .int fu, .int fo, .int sa, .int x, .int ch, .int rb, .int on, .int li, .int sp, .int hu, .int mu]))])) (fun _ _ => False) := by
  refine kbody (by decide) (Nat.le_of_ble_eq_true rfl) ?_
  intro p e s m args below meth c A H K ht G hP hD hA hS ls hl
  have K : KB p s m meth c RX11 "setPower" prog_1_method_22_code 5 (some .int) := K
  obtain ⟨hx, hb, hml, hown, hlocks, hr, hin⟩ := id K
  have hl : lv_has ls 5 [(0, .ref h0), (1, .int 0), (2, .int x)] := hl
  refine lv_aload_n hx hb dX11_setPower_0 rfl (lv_at hl 0 rfl) ?_
  refine lv_iload_n hx hb dX11_setPower_1 rfl (lv_at hl 1 rfl) ?_
  refine kcallV (wc := [(h0, .inr (13, [.ref a1, .ref a2, .ref a3, .ref a4, .ref a5, .int zh, .int zf, .int zw, .int ze, .int zn, .int zm])), (a3, .inr (2, [.int mc3, .ref q3, .int 1])), (q3, .inl ((g.2.2.1 4), 10, .inr (.inr (.inr (.inr (va_up f3 0 (some s0))))))), (s0, .inr (10, [.ref sA, .ref sL, .ref sP, .ref sS, .int ea, .int no, .int fu, .int fo, .int sa, .int po, .int ch, .int rb, .int on, .int li, .int sp, .int hu, .int mu]))]) (wr := []) (As := [.int 0]) (rest := []) K G (m_X11_shipAt10 l hl0 g h0 a1 a2 a3 a4 a5 zh zf zw ze zn zm q3 mc3 f3 s0 sA sL sP sS ea no fu fo sa po ch rb on li sp hu mu ) hP hD hS hA hl kw_426 kw_427 kw_428 kw_429 kw_63 ydX11_shipAt [0, 1, 2, 3] [] rfl rfl rfl rfl (by decide) (ci := 13) (q0 := 0) rfl rfl rfl rfl rfl (Nat.le_of_ble_eq_true rfl) dX11_setPower_2 ⟨Nat.le_of_ble_eq_true rfl, Nat.le_of_ble_eq_true rfl⟩ ⟨Nat.le_of_ble_eq_true rfl, Nat.le_of_ble_eq_true rfl⟩ (fun _ _ _ _ _ _ hX _ _ _ _ _ _ => hX.elim) (fun v w1 H locs hQ hP hD hS => ?_)
  obtain ⟨rfl, rfl⟩ := hQ
  have hP : va_P g.1 vwCl [(h0, .inr (13, [.ref a1, .ref a2, .ref a3, .ref a4, .ref a5, .int zh, .int zf, .int zw, .int ze, .int zn, .int zm])), (a3, .inr (2, [.int mc3, .ref q3, .int 1])), (q3, .inl ((g.2.2.1 4), 10, .inr (.inr (.inr (.inr (va_up f3 0 (some s0))))))), (s0, .inr (10, [.ref sA, .ref sL, .ref sP, .ref sS, .int ea, .int no, .int fu, .int fo, .int sa, .int po, .int ch, .int rb, .int on, .int li, .int sp, .int hu, .int mu]))] H := hP
  have hD : va_D A [(h0, .inr (13, [.ref a1, .ref a2, .ref a3, .ref a4, .ref a5, .int zh, .int zf, .int zw, .int ze, .int zn, .int zm])), (a3, .inr (2, [.int mc3, .ref q3, .int 1])), (q3, .inl ((g.2.2.1 4), 10, .inr (.inr (.inr (.inr (va_up f3 0 (some s0))))))), (s0, .inr (10, [.ref sA, .ref sL, .ref sP, .ref sS, .int ea, .int no, .int fu, .int fo, .int sa, .int po, .int ch, .int rb, .int on, .int li, .int sp, .int hu, .int mu]))] := hD
  refine W.widen (k := 0) (n := 0) (by decide) (by decide) ?_
  refine W.eq (g2 := F0 m 5 ls [.ref s0]) rfl ?_
  refine lv_astore_n (lv' := [(3, .ref s0), (0, .ref h0), (1, .int 0), (2, .int x)]) hx hb dX11_setPower_5 rfl hl (by decide) rfl (fun ls hl => ?_)
  refine lv_iload_n hx hb dX11_setPower_6 rfl (lv_at hl 3 rfl) ?_
  refine lv_iconst (v := 0) hx hb dX11_setPower_7 (by decide) ?_
  refine lv_bipush (v := 50) hx hb dX11_setPower_8 (by decide) ?_
  refine kcallS (wc := []) (wr := [(h0, .inr (13, [.ref a1, .ref a2, .ref a3, .ref a4, .ref a5, .int zh, .int zf, .int zw, .int ze, .int zn, .int zm])), (a3, .inr (2, [.int mc3, .ref q3, .int 1])), (q3, .inl ((g.2.2.1 4), 10, .inr (.inr (.inr (.inr (va_up f3 0 (some s0))))))), (s0, .inr (10, [.ref sA, .ref sL, .ref sP, .ref sS, .int ea, .int no, .int fu, .int fo, .int sa, .int po, .int ch, .int rb, .int on, .int li, .int sp, .int hu, .int mu]))]) (As := [.int x, .int 0, .int 50]) (rest := []) K G (m_X11_requireRange l hl0 g x 0 50 p1 p2) hP hD hS hA hl kw_280 kw_281 kw_282 kw_63 ydX11_requireRange [] [0, 1, 2, 3] rfl rfl rfl rfl (by decide) rfl rfl (Nat.le_of_ble_eq_true rfl) dX11_setPower_10 ⟨Nat.le_of_ble_eq_true rfl, Nat.le_of_ble_eq_true rfl⟩ ⟨Nat.le_of_ble_eq_true rfl, Nat.le_of_ble_eq_true rfl⟩ (fun _ _ _ _ _ _ hX _ _ _ _ _ _ => hX.elim) (fun v w1 H locs hQ hP hD hS => ?_)
  obtain ⟨rfl, rfl⟩ := hQ
  have hP : va_P g.1 vwCl [(h0, .inr (13, [.ref a1, .ref a2, .ref a3, .ref a4, .ref a5, .int zh, .int zf, .int zw, .int ze, .int zn, .int zm])), (a3, .inr (2, [.int mc3, .ref q3, .int 1])), (q3, .inl ((g.2.2.1 4), 10, .inr (.inr (.inr (.inr (va_up f3 0 (some s0))))))), (s0, .inr (10, [.ref sA, .ref sL, .ref sP, .ref sS, .int ea, .int no, .int fu, .int fo, .int sa, .int po, .int ch, .int rb, .int on, .int li, .int sp, .int hu, .int mu]))] H := hP
  have hD : va_D A [(h0, .inr (13, [.ref a1, .ref a2, .ref a3, .ref a4, .ref a5, .int zh, .int zf, .int zw, .int ze, .int zn, .int zm])), (a3, .inr (2, [.int mc3, .ref q3, .int 1])), (q3, .inl ((g.2.2.1 4), 10, .inr (.inr (.inr (.inr (va_up f3 0 (some s0))))))), (s0, .inr (10, [.ref sA, .ref sL, .ref sP, .ref sS, .int ea, .int no, .int fu, .int fo, .int sa, .int po, .int ch, .int rb, .int on, .int li, .int sp, .int hu, .int mu]))] := hD
  refine W.widen (k := 0) (n := 0) (by decide) (by decide) ?_
  refine W.eq (g2 := F0 m 13 ls []) rfl ?_
  refine lv_aload_n hx hb dX11_setPower_13 rfl (lv_at hl 0 rfl) ?_
  refine va_get (D := g.1) (ci := 10) (v := .int po) (C := RX8) (T := TX8) (N := 17) hx hb G.ws inX8 hown G.K hP 3 rfl rfl 9 (by decide) (G.w kw_439) (fun _ h9 => h9) rfl dX11_setPower_14 ?_
  refine lv_istore (lv' := [(4, .int po), (3, .ref s0), (0, .ref h0), (1, .int 0), (2, .int x)]) hx hb dX11_setPower_17 hl (by decide) rfl (fun ls hl => ?_)
  refine lv_aload_n hx hb dX11_setPower_19 rfl (lv_at hl 1 rfl) ?_
  refine lv_iload_n hx hb dX11_setPower_20 rfl (lv_at hl 4 rfl) ?_
  refine va_put (D := g.1) (ci := 10) (v := .int x) (ty := .int) (C := RX8) (T := TX8) (N := 17) hx hb G.ws inX8 tyX8 tyX8_ok nmX8 hown G.K hP hD hS 3 rfl rfl 9 (by decide) (G.w kw_439) (fun _ h9 => h9) (by decide +kernel) (by decide +kernel) rfl rfl (Nat.le_of_ble_eq_true rfl) dX11_setPower_21 (fun H locs hP hD hS => ?_)
  have hP : va_P g.1 vwCl [(h0, .inr (13, [.ref a1, .ref a2, .ref a3, .ref a4, .ref a5, .int zh, .int zf, .int zw, .int ze, .int zn, .int zm])), (a3, .inr (2, [.int mc3, .ref q3, .int 1])), (q3, .inl ((g.2.2.1 4), 10, .inr (.inr (.inr (.inr (va_up f3 0 (some s0))))))), (s0, .inr (10, [.ref sA, .ref sL, .ref sP, .ref sS, .int ea, .int no, .int fu, .int fo, .int sa, .int x, .int ch, .int rb, .int on, .int li, .int sp, .int hu, .int mu]))] H := hP
  have hD : va_D A [(h0, .inr (13, [.ref a1, .ref a2, .ref a3, .ref a4, .ref a5, .int zh, .int zf, .int zw, .int ze, .int zn, .int zm])), (a3, .inr (2, [.int mc3, .ref q3, .int 1])), (q3, .inl ((g.2.2.1 4), 10, .inr (.inr (.inr (.inr (va_up f3 0 (some s0))))))), (s0, .inr (10, [.ref sA, .ref sL, .ref sP, .ref sS, .int ea, .int no, .int fu, .int fo, .int sa, .int x, .int ch, .int rb, .int on, .int li, .int sp, .int hu, .int mu]))] := hD
  refine lv_iload hx hb dX11_setPower_24 (lv_at hl 0 rfl) ?_
  exact kretI K hP hD hS [0, 1, 2, 3] [(h0, .inr (13, [.ref a1, .ref a2, .ref a3, .ref a4, .ref a5, .int zh, .int zf, .int zw, .int ze, .int zn, .int zm])), (a3, .inr (2, [.int mc3, .ref q3, .int 1])), (q3, .inl ((g.2.2.1 4), 10, .inr (.inr (.inr (.inr (va_up f3 0 (some s0))))))), (s0, .inr (10, [.ref sA, .ref sL, .ref sP, .ref sS, .int ea, .int no, .int fu, .int fo, .int sa, .int x, .int ch, .int rb, .int on, .int li, .int sp, .int hu, .int mu]))] rfl rfl ⟨rfl, rfl⟩ (by decide) (by decide) dX11_setPower_26

set_option maxHeartbeats 4000000 in
set_option maxRecDepth 100000 in
theorem m_X11_getFuels0 (l : Launch) (hl0 : l.stackTraces = false) (g : kG) (h0 : Nat) (a1 : Nat) (a2 : Nat) (a3 : Nat) (a4 : Nat) (a5 : Nat) (zh : Int32) (zf : Int32) (zw : Int32) (ze : Int32) (zn : Int32) (zm : Int32) (q3 : Nat) (mc3 : Int32) (f3 : Nat → Option Nat) (s0 : Nat) (sA : Nat) (sL : Nat) (sP : Nat) (sS : Nat) (ea : Int32) (no : Int32) (fu : Int32) (fo : Int32) (sa : Int32) (po : Int32) (ch : Int32) (rb : Int32) (on : Int32) (li : Int32) (sp : Int32) (hu : Int32) (mu : Int32)  : kc l g yX11_getFuel prog_1_method_18_code 2 (some .int) 4 85 0 0 [.ref h0, .int 0] [(h0, .inr (13, [.ref a1, .ref a2, .ref a3, .ref a4, .ref a5, .int zh, .int zf, .int zw, .int ze, .int zn, .int zm])), (a3, .inr (2, [.int mc3, .ref q3, .int 1])), (q3, .inl ((g.2.2.1 4), 10, .inr (.inr (.inr (.inr (va_up f3 0 (some s0))))))), (s0, .inr (10, [.ref sA, .ref sL, .ref sP, .ref sS, .int ea, .int no, .int fu, .int fo, .int sa, .int po, .int ch, .int rb, .int on, .int li, .int sp, .int hu, .int mu]))] (fun v w => (v = some (.int fu) ∧ w = [(h0, .inr (13, [.ref a1, .ref a2, .ref a3, .ref a4, .ref a5, .int zh, .int zf, .int zw, .int ze, .int zn, .int zm])), (a3, .inr (2, [.int mc3, .ref q3, .int 1])), (q3, .inl ((g.2.2.1 4), 10, .inr (.inr (.inr (.inr (va_up f3 0 (some s0))))))), (s0, .inr (10, [.ref sA, .ref sL, .ref sP, .ref sS, .int ea, .int no, .int fu, .int fo, .int sa, .int po, .int ch, .int rb, .int on, .int li, .int sp, .int hu, .int mu]))])) (fun _ _ => False) := by
  refine kbody (by decide) (Nat.le_of_ble_eq_true rfl) ?_
  intro p e s m args below meth c A H K ht G hP hD hA hS ls hl
  have K : KB p s m meth c RX11 "getFuel" prog_1_method_18_code 2 (some .int) := K
  obtain ⟨hx, hb, hml, hown, hlocks, hr, hin⟩ := id K
  have hl : lv_has ls 2 [(0, .ref h0), (1, .int 0)] := hl
  refine lv_aload_n hx hb dX11_getFuel_0 rfl (lv_at hl 0 rfl) ?_
  refine lv_iload_n hx hb dX11_getFuel_1 rfl (lv_at hl 1 rfl) ?_
  refine kcallV (wc := [(h0, .inr (13, [.ref a1, .ref a2, .ref a3, .ref a4, .ref a5, .int zh, .int zf, .int zw, .int ze, .int zn, .int zm])), (a3, .inr (2, [.int mc3, .ref q3, .int 1])), (q3, .inl ((g.2.2.1 4), 10, .inr (.inr (.inr (.inr (va_up f3 0 (some s0))))))), (s0, .inr (10, [.ref sA, .ref sL, .ref sP, .ref sS, .int ea, .int no, .int fu, .int fo, .int sa, .int po, .int ch, .int rb, .int on, .int li, .int sp, .int hu, .int mu]))]) (wr := []) (As := [.int 0]) (rest := []) K G (m_X11_shipAt10 l hl0 g h0 a1 a2 a3 a4 a5 zh zf zw ze zn zm q3 mc3 f3 s0 sA sL sP sS ea no fu fo sa po ch rb on li sp hu mu ) hP hD hS hA hl kw_426 kw_427 kw_428 kw_429 kw_63 ydX11_shipAt [0, 1, 2, 3] [] rfl rfl rfl rfl (by decide) (ci := 13) (q0 := 0) rfl rfl rfl rfl rfl (Nat.le_of_ble_eq_true rfl) dX11_getFuel_2 ⟨Nat.le_of_ble_eq_true rfl, Nat.le_of_ble_eq_true rfl⟩ ⟨Nat.le_of_ble_eq_true rfl, Nat.le_of_ble_eq_true rfl⟩ (fun _ _ _ _ _ _ hX _ _ _ _ _ _ => hX.elim) (fun v w1 H locs hQ hP hD hS => ?_)
  obtain ⟨rfl, rfl⟩ := hQ
  have hP : va_P g.1 vwCl [(h0, .inr (13, [.ref a1, .ref a2, .ref a3, .ref a4, .ref a5, .int zh, .int zf, .int zw, .int ze, .int zn, .int zm])), (a3, .inr (2, [.int mc3, .ref q3, .int 1])), (q3, .inl ((g.2.2.1 4), 10, .inr (.inr (.inr (.inr (va_up f3 0 (some s0))))))), (s0, .inr (10, [.ref sA, .ref sL, .ref sP, .ref sS, .int ea, .int no, .int fu, .int fo, .int sa, .int po, .int ch, .int rb, .int on, .int li, .int sp, .int hu, .int mu]))] H := hP
  have hD : va_D A [(h0, .inr (13, [.ref a1, .ref a2, .ref a3, .ref a4, .ref a5, .int zh, .int zf, .int zw, .int ze, .int zn, .int zm])), (a3, .inr (2, [.int mc3, .ref q3, .int 1])), (q3, .inl ((g.2.2.1 4), 10, .inr (.inr (.inr (.inr (va_up f3 0 (some s0))))))), (s0, .inr (10, [.ref sA, .ref sL, .ref sP, .ref sS, .int ea, .int no, .int fu, .int fo, .int sa, .int po, .int ch, .int rb, .int on, .int li, .int sp, .int hu, .int mu]))] := hD
  refine W.widen (k := 0) (n := 0) (by decide) (by decide) ?_
  refine W.eq (g2 := F0 m 5 ls [.ref s0]) rfl ?_
  refine va_get (D := g.1) (ci := 10) (v := .int fu) (C := RX8) (T := TX8) (N := 17) hx hb G.ws inX8 hown G.K hP 3 rfl rfl 6 (by decide) (G.w kw_440) (fun _ h9 => h9) rfl dX11_getFuel_5 ?_
  exact kretI K hP hD hS [0, 1, 2, 3] [(h0, .inr (13, [.ref a1, .ref a2, .ref a3, .ref a4, .ref a5, .int zh, .int zf, .int zw, .int ze, .int zn, .int zm])), (a3, .inr (2, [.int mc3, .ref q3, .int 1])), (q3, .inl ((g.2.2.1 4), 10, .inr (.inr (.inr (.inr (va_up f3 0 (some s0))))))), (s0, .inr (10, [.ref sA, .ref sL, .ref sP, .ref sS, .int ea, .int no, .int fu, .int fo, .int sa, .int po, .int ch, .int rb, .int on, .int li, .int sp, .int hu, .int mu]))] rfl rfl ⟨rfl, rfl⟩ (by decide) (by decide) dX11_getFuel_8

set_option maxHeartbeats 4000000 in
set_option maxRecDepth 100000 in
theorem m_X11_getFoods0 (l : Launch) (hl0 : l.stackTraces = false) (g : kG) (h0 : Nat) (a1 : Nat) (a2 : Nat) (a3 : Nat) (a4 : Nat) (a5 : Nat) (zh : Int32) (zf : Int32) (zw : Int32) (ze : Int32) (zn : Int32) (zm : Int32) (q3 : Nat) (mc3 : Int32) (f3 : Nat → Option Nat) (s0 : Nat) (sA : Nat) (sL : Nat) (sP : Nat) (sS : Nat) (ea : Int32) (no : Int32) (fu : Int32) (fo : Int32) (sa : Int32) (po : Int32) (ch : Int32) (rb : Int32) (on : Int32) (li : Int32) (sp : Int32) (hu : Int32) (mu : Int32)  : kc l g yX11_getFood prog_1_method_19_code 2 (some .int) 4 85 0 0 [.ref h0, .int 0] [(h0, .inr (13, [.ref a1, .ref a2, .ref a3, .ref a4, .ref a5, .int zh, .int zf, .int zw, .int ze, .int zn, .int zm])), (a3, .inr (2, [.int mc3, .ref q3, .int 1])), (q3, .inl ((g.2.2.1 4), 10, .inr (.inr (.inr (.inr (va_up f3 0 (some s0))))))), (s0, .inr (10, [.ref sA, .ref sL, .ref sP, .ref sS, .int ea, .int no, .int fu, .int fo, .int sa, .int po, .int ch, .int rb, .int on, .int li, .int sp, .int hu, .int mu]))] (fun v w => (v = some (.int fo) ∧ w = [(h0, .inr (13, [.ref a1, .ref a2, .ref a3, .ref a4, .ref a5, .int zh, .int zf, .int zw, .int ze, .int zn, .int zm])), (a3, .inr (2, [.int mc3, .ref q3, .int 1])), (q3, .inl ((g.2.2.1 4), 10, .inr (.inr (.inr (.inr (va_up f3 0 (some s0))))))), (s0, .inr (10, [.ref sA, .ref sL, .ref sP, .ref sS, .int ea, .int no, .int fu, .int fo, .int sa, .int po, .int ch, .int rb, .int on, .int li, .int sp, .int hu, .int mu]))])) (fun _ _ => False) := by
  refine kbody (by decide) (Nat.le_of_ble_eq_true rfl) ?_
  intro p e s m args below meth c A H K ht G hP hD hA hS ls hl
  have K : KB p s m meth c RX11 "getFood" prog_1_method_19_code 2 (some .int) := K
  obtain ⟨hx, hb, hml, hown, hlocks, hr, hin⟩ := id K
  have hl : lv_has ls 2 [(0, .ref h0), (1, .int 0)] := hl
  refine lv_aload_n hx hb dX11_getFood_0 rfl (lv_at hl 0 rfl) ?_
  refine lv_iload_n hx hb dX11_getFood_1 rfl (lv_at hl 1 rfl) ?_
  refine kcallV (wc := [(h0, .inr (13, [.ref a1, .ref a2, .ref a3, .ref a4, .ref a5, .int zh, .int zf, .int zw, .int ze, .int zn, .int zm])), (a3, .inr (2, [.int mc3, .ref q3, .int 1])), (q3, .inl ((g.2.2.1 4), 10, .inr (.inr (.inr (.inr (va_up f3 0 (some s0))))))), (s0, .inr (10, [.ref sA, .ref sL, .ref sP, .ref sS, .int ea, .int no, .int fu, .int fo, .int sa, .int po, .int ch, .int rb, .int on, .int li, .int sp, .int hu, .int mu]))]) (wr := []) (As := [.int 0]) (rest := []) K G (m_X11_shipAt10 l hl0 g h0 a1 a2 a3 a4 a5 zh zf zw ze zn zm q3 mc3 f3 s0 sA sL sP sS ea no fu fo sa po ch rb on li sp hu mu ) hP hD hS hA hl kw_426 kw_427 kw_428 kw_429 kw_63 ydX11_shipAt [0, 1, 2, 3] [] rfl rfl rfl rfl (by decide) (ci := 13) (q0 := 0) rfl rfl rfl rfl rfl (Nat.le_of_ble_eq_true rfl) dX11_getFood_2 ⟨Nat.le_of_ble_eq_true rfl, Nat.le_of_ble_eq_true rfl⟩ ⟨Nat.le_of_ble_eq_true rfl, Nat.le_of_ble_eq_true rfl⟩ (fun _ _ _ _ _ _ hX _ _ _ _ _ _ => hX.elim) (fun v w1 H locs hQ hP hD hS => ?_)
  obtain ⟨rfl, rfl⟩ := hQ
  have hP : va_P g.1 vwCl [(h0, .inr (13, [.ref a1, .ref a2, .ref a3, .ref a4, .ref a5, .int zh, .int zf, .int zw, .int ze, .int zn, .int zm])), (a3, .inr (2, [.int mc3, .ref q3, .int 1])), (q3, .inl ((g.2.2.1 4), 10, .inr (.inr (.inr (.inr (va_up f3 0 (some s0))))))), (s0, .inr (10, [.ref sA, .ref sL, .ref sP, .ref sS, .int ea, .int no, .int fu, .int fo, .int sa, .int po, .int ch, .int rb, .int on, .int li, .int sp, .int hu, .int mu]))] H := hP
  have hD : va_D A [(h0, .inr (13, [.ref a1, .ref a2, .ref a3, .ref a4, .ref a5, .int zh, .int zf, .int zw, .int ze, .int zn, .int zm])), (a3, .inr (2, [.int mc3, .ref q3, .int 1])), (q3, .inl ((g.2.2.1 4), 10, .inr (.inr (.inr (.inr (va_up f3 0 (some s0))))))), (s0, .inr (10, [.ref sA, .ref sL, .ref sP, .ref sS, .int ea, .int no, .int fu, .int fo, .int sa, .int po, .int ch, .int rb, .int on, .int li, .int sp, .int hu, .int mu]))] := hD
  refine W.widen (k := 0) (n := 0) (by decide) (by decide) ?_
  refine W.eq (g2 := F0 m 5 ls [.ref s0]) rfl ?_
  refine va_get (D := g.1) (ci := 10) (v := .int fo) (C := RX8) (T := TX8) (N := 17) hx hb G.ws inX8 hown G.K hP 3 rfl rfl 7 (by decide) (G.w kw_441) (fun _ h9 => h9) rfl dX11_getFood_5 ?_
  exact kretI K hP hD hS [0, 1, 2, 3] [(h0, .inr (13, [.ref a1, .ref a2, .ref a3, .ref a4, .ref a5, .int zh, .int zf, .int zw, .int ze, .int zn, .int zm])), (a3, .inr (2, [.int mc3, .ref q3, .int 1])), (q3, .inl ((g.2.2.1 4), 10, .inr (.inr (.inr (.inr (va_up f3 0 (some s0))))))), (s0, .inr (10, [.ref sA, .ref sL, .ref sP, .ref sS, .int ea, .int no, .int fu, .int fo, .int sa, .int po, .int ch, .int rb, .int on, .int li, .int sp, .int hu, .int mu]))] rfl rfl ⟨rfl, rfl⟩ (by decide) (by decide) dX11_getFood_8

set_option maxHeartbeats 4000000 in
set_option maxRecDepth 100000 in
theorem m_X9_soldOn (l : Launch) (hl0 : l.stackTraces = false) (g : kG) (b0 : Nat) (bl : Int32) (bs : Int32) (be : Int32)  : kc l g yX9_soldOn prog_11_method_2_code 2 (some .int) 0 0 0 0 [.ref b0, .int 0] [(b0, .inr (11, [.int bl, .int 0, .int bs, .int be]))] (fun v w => (v = some (.int bs) ∧ w = [(b0, .inr (11, [.int bl, .int 0, .int bs, .int be]))])) (fun _ _ => False) := by
  refine kbody (by decide) (Nat.le_of_ble_eq_true rfl) ?_
  intro p e s m args below meth c A H K ht G hP hD hA hS ls hl
  have K : KB p s m meth c RX9 "soldOn" prog_11_method_2_code 2 (some .int) := K
  obtain ⟨hx, hb, hml, hown, hlocks, hr, hin⟩ := id K
  have hl : lv_has ls 2 [(0, .ref b0), (1, .int 0)] := hl
  refine lv_iload_n hx hb dX9_soldOn_0 rfl (lv_at hl 1 rfl) ?_
  refine lv_aload_n hx hb dX9_soldOn_1 rfl (lv_at hl 0 rfl) ?_
  refine va_get (D := g.1) (ci := 11) (v := .int 0) (C := RX9) (T := TX9) (N := 4) hx hb G.ws inX9 hown G.K hP 0 rfl rfl 1 (by decide) (G.w kw_442) (fun _ h9 => h9) rfl dX9_soldOn_2 ?_
  refine lv_icmp_ne (tgt := 15) hx hb dX9_soldOn_5 (by decide) (fun c5_1 => absurd c5_1 (by decide)) (fun _ => ?_)
  refine lv_aload_n hx hb dX9_soldOn_8 rfl (lv_at hl 0 rfl) ?_
  refine va_get (D := g.1) (ci := 11) (v := .int bs) (C := RX9) (T := TX9) (N := 4) hx hb G.ws inX9 hown G.K hP 0 rfl rfl 2 (by decide) (G.w kw_443) (fun _ h9 => h9) rfl dX9_soldOn_9 ?_
  refine lv_goto (tgt := 16) hx hb dX9_soldOn_12 (by decide) ?_
  exact kretI K hP hD hS [0] [(b0, .inr (11, [.int bl, .int 0, .int bs, .int be]))] rfl rfl ⟨rfl, rfl⟩ (by decide) (by decide) dX9_soldOn_16

set_option maxHeartbeats 4000000 in
set_option maxRecDepth 100000 in
theorem m_X9_addSold (l : Launch) (hl0 : l.stackTraces = false) (g : kG) (b0 : Nat) (x : Int32)  : kc l g yX9_addSold prog_11_method_3_code 3 none 1 21 0 0 [.ref b0, .int 0, .int x] [(b0, .inr (11, [.int 0, .int 0, .int 0, .int 0]))] (fun v w => (v = none ∧ w = [(b0, .inr (11, [.int x, .int 0, .int x, .int 0]))])) (fun _ _ => False) := by
  refine kbody (by decide) (Nat.le_of_ble_eq_true rfl) ?_
  intro p e s m args below meth c A H K ht G hP hD hA hS ls hl
  have K : KB p s m meth c RX9 "addSold" prog_11_method_3_code 3 none := K
  obtain ⟨hx, hb, hml, hown, hlocks, hr, hin⟩ := id K
  have hl : lv_has ls 3 [(0, .ref b0), (1, .int 0), (2, .int x)] := hl
  refine lv_aload_n hx hb dX9_addSold_0 rfl (lv_at hl 0 rfl) ?_
  refine lv_aload_n hx hb dX9_addSold_1 rfl (lv_at hl 0 rfl) ?_
  refine lv_iload_n hx hb dX9_addSold_2 rfl (lv_at hl 1 rfl) ?_
  refine kcallV (wc := [(b0, .inr (11, [.int 0, .int 0, .int 0, .int 0]))]) (wr := []) (As := [.int 0]) (rest := [.ref b0]) K G (m_X9_soldOn l hl0 g b0 0 0 0 ) hP hD hS hA hl kw_444 kw_445 kw_446 kw_447 kw_215 ydX9_soldOn [0] [] rfl rfl rfl rfl (by decide) (ci := 11) (q0 := 0) rfl rfl rfl rfl rfl (Nat.le_of_ble_eq_true rfl) dX9_addSold_3 ⟨Nat.le_of_ble_eq_true rfl, Nat.le_of_ble_eq_true rfl⟩ ⟨Nat.le_of_ble_eq_true rfl, Nat.le_of_ble_eq_true rfl⟩ (fun _ _ _ _ _ _ hX _ _ _ _ _ _ => hX.elim) (fun v w1 H locs hQ hP hD hS => ?_)
  obtain ⟨rfl, rfl⟩ := hQ
  have hP : va_P g.1 vwCl [(b0, .inr (11, [.int 0, .int 0, .int 0, .int 0]))] H := hP
  have hD : va_D A [(b0, .inr (11, [.int 0, .int 0, .int 0, .int 0]))] := hD
  refine W.widen (k := 0) (n := 0) (by decide) (by decide) ?_
  refine W.eq (g2 := F0 m 6 ls [.int 0, .ref b0]) rfl ?_
  refine lv_iload_n hx hb dX9_addSold_6 rfl (lv_at hl 2 rfl) ?_
  refine lv_iadd hx hb dX9_addSold_7 ?_
  refine W.eq (g2 := F0 m 8 ls [.int x, .ref b0]) (by rw [Int32.zero_add]) ?_
  refine va_put (D := g.1) (ci := 11) (v := .int x) (ty := .int) (C := RX9) (T := TX9) (N := 4) hx hb G.ws inX9 tyX9 tyX9_ok nmX9 hown G.K hP hD hS 0 rfl rfl 2 (by decide) (G.w kw_443) (fun _ h9 => h9) (by decide +kernel) (by decide +kernel) rfl rfl (Nat.le_of_ble_eq_true rfl) dX9_addSold_8 (fun H locs hP hD hS => ?_)
  have hP : va_P g.1 vwCl [(b0, .inr (11, [.int 0, .int 0, .int x, .int 0]))] H := hP
  have hD : va_D A [(b0, .inr (11, [.int 0, .int 0, .int x, .int 0]))] := hD
  refine lv_aload_n hx hb dX9_addSold_11 rfl (lv_at hl 0 rfl) ?_
  refine lv_iload_n hx hb dX9_addSold_12 rfl (lv_at hl 1 rfl) ?_
  refine va_put (D := g.1) (ci := 11) (v := .int 0) (ty := .int) (C := RX9) (T := TX9) (N := 4) hx hb G.ws inX9 tyX9 tyX9_ok nmX9 hown G.K hP hD hS 0 rfl rfl 1 (by decide) (G.w kw_442) (fun _ h9 => h9) (by decide +kernel) (by decide +kernel) rfl rfl (Nat.le_of_ble_eq_true rfl) dX9_addSold_13 (fun H locs hP hD hS => ?_)
  have hP : va_P g.1 vwCl [(b0, .inr (11, [.int 0, .int 0, .int x, .int 0]))] H := hP
  have hD : va_D A [(b0, .inr (11, [.int 0, .int 0, .int x, .int 0]))] := hD
  refine lv_aload_n hx hb dX9_addSold_16 rfl (lv_at hl 0 rfl) ?_
  refine lv_dup hx hb dX9_addSold_17 rfl ?_
  refine va_get (D := g.1) (ci := 11) (v := .int 0) (C := RX9) (T := TX9) (N := 4) hx hb G.ws inX9 hown G.K hP 0 rfl rfl 0 (by decide) (G.w kw_130) (fun _ h9 => h9) rfl dX9_addSold_18 ?_
  refine lv_iload_n hx hb dX9_addSold_21 rfl (lv_at hl 2 rfl) ?_
  refine lv_iadd hx hb dX9_addSold_22 ?_
  refine W.eq (g2 := F0 m 23 ls [.int x, .ref b0]) (by rw [Int32.zero_add]) ?_
  refine va_put (D := g.1) (ci := 11) (v := .int x) (ty := .int) (C := RX9) (T := TX9) (N := 4) hx hb G.ws inX9 tyX9 tyX9_ok nmX9 hown G.K hP hD hS 0 rfl rfl 0 (by decide) (G.w kw_130) (fun _ h9 => h9) (by decide +kernel) (by decide +kernel) rfl rfl (Nat.le_of_ble_eq_true rfl) dX9_addSold_23 (fun H locs hP hD hS => ?_)
  have hP : va_P g.1 vwCl [(b0, .inr (11, [.int x, .int 0, .int x, .int 0]))] H := hP
  have hD : va_D A [(b0, .inr (11, [.int x, .int 0, .int x, .int 0]))] := hD
  exact kretV K hP hD hS [0] [(b0, .inr (11, [.int x, .int 0, .int x, .int 0]))] rfl rfl ⟨rfl, rfl⟩ (by decide) (by decide) dX9_addSold_26

set_option maxHeartbeats 4000000 in
set_option maxRecDepth 100000 in
theorem m_X11_sell0 (l : Launch) (hl0 : l.stackTraces = false) (g : kG) (h0 : Nat) (a1 : Nat) (a2 : Nat) (a3 : Nat) (a4 : Nat) (a5 : Nat) (zf : Int32) (zw : Int32) (ze : Int32) (zn : Int32) (zm : Int32) (q3 : Nat) (mc3 : Int32) (f3 : Nat → Option Nat) (s0 : Nat) (sA : Nat) (sL : Nat) (sP : Nat) (sS : Nat) (ea : Int32) (no : Int32) (fu : Int32) (fo : Int32) (sa : Int32) (po : Int32) (ch : Int32) (rb : Int32) (on : Int32) (li : Int32) (sp : Int32) (hu : Int32) (mu : Int32) (x : Int32) (p1 : ¬ x < 1) (p2 : x ≤ 20) : kc l g yX11_sell prog_1_method_37_code 5 (some .int) 4 85 0 0 [.ref h0, .int 0, .int x] [(h0, .inr (13, [.ref a1, .ref a2, .ref a3, .ref a4, .ref a5, .int 0, .int zf, .int zw, .int ze, .int zn, .int zm])), (a3, .inr (2, [.int mc3, .ref q3, .int 1])), (q3, .inl ((g.2.2.1 4), 10, .inr (.inr (.inr (.inr (va_up f3 0 (some s0))))))), (s0, .inr (10, [.ref sA, .ref sL, .ref sP, .ref sS, .int ea, .int no, .int fu, .int fo, .int sa, .int po, .int ch, .int rb, .int on, .int li, .int sp, .int hu, .int mu])), (sS, .inr (11, [.int 0, .int 0, .int 0, .int 0]))] (fun v w => (v = some (.int x) ∧ w = [(h0, .inr (13, [.ref a1, .ref a2, .ref a3, .ref a4, .ref a5, .int 0, .int zf, .int zw, .int ze, .int zn, .int zm])), (a3, .inr (2, [.int mc3, .ref q3, .int 1])), (q3, .inl ((g.2.2.1 4), 10, .inr (.inr (.inr (.inr (va_up f3 0 (some s0))))))), (s0, .inr (10, [.ref sA, .ref sL, .ref sP, .ref sS, .int ea, .int no, .int fu, .int fo, .int sa, .int po, .int ch, .int rb, .int on, .int li, .int sp, .int hu, .int mu])), (sS, .inr (11, [.int x, .int 0, .int x, .int 0]))])) (fun _ _ => False) := by
  refine kbody (by decide) (Nat.le_of_ble_eq_true rfl) ?_
  intro p e s m args below meth c A H K ht G hP hD hA hS ls hl
  have K : KB p s m meth c RX11 "sell" prog_1_method_37_code 5 (some .int) := K
  obtain ⟨hx, hb, hml, hown, hlocks, hr, hin⟩ := id K
  have hl : lv_has ls 5 [(0, .ref h0), (1, .int 0), (2, .int x)] := hl
  refine lv_aload_n hx hb dX11_sell_0 rfl (lv_at hl 0 rfl) ?_
  refine lv_iload_n hx hb dX11_sell_1 rfl (lv_at hl 1 rfl) ?_
  refine kcallV (wc := [(h0, .inr (13, [.ref a1, .ref a2, .ref a3, .ref a4, .ref a5, .int 0, .int zf, .int zw, .int ze, .int zn, .int zm])), (a3, .inr (2, [.int mc3, .ref q3, .int 1])), (q3, .inl ((g.2.2.1 4), 10, .inr (.inr (.inr (.inr (va_up f3 0 (some s0))))))), (s0, .inr (10, [.ref sA, .ref sL, .ref sP, .ref sS, .int ea, .int no, .int fu, .int fo, .int sa, .int po, .int ch, .int rb, .int on, .int li, .int sp, .int hu, .int mu]))]) (wr := [(sS, .inr (11, [.int 0, .int 0, .int 0, .int 0]))]) (As := [.int 0]) (rest := []) K G (m_X11_shipAt10 l hl0 g h0 a1 a2 a3 a4 a5 0 zf zw ze zn zm q3 mc3 f3 s0 sA sL sP sS ea no fu fo sa po ch rb on li sp hu mu ) hP hD hS hA hl kw_426 kw_427 kw_428 kw_429 kw_63 ydX11_shipAt [0, 1, 2, 3] [4] rfl rfl rfl rfl (by decide) (ci := 13) (q0 := 0) rfl rfl rfl rfl rfl (Nat.le_of_ble_eq_true rfl) dX11_sell_2 ⟨Nat.le_of_ble_eq_true rfl, Nat.le_of_ble_eq_true rfl⟩ ⟨Nat.le_of_ble_eq_true rfl, Nat.le_of_ble_eq_true rfl⟩ (fun _ _ _ _ _ _ hX _ _ _ _ _ _ => hX.elim) (fun v w1 H locs hQ hP hD hS => ?_)
  obtain ⟨rfl, rfl⟩ := hQ
  have hP : va_P g.1 vwCl [(sS, .inr (11, [.int 0, .int 0, .int 0, .int 0])), (h0, .inr (13, [.ref a1, .ref a2, .ref a3, .ref a4, .ref a5, .int 0, .int zf, .int zw, .int ze, .int zn, .int zm])), (a3, .inr (2, [.int mc3, .ref q3, .int 1])), (q3, .inl ((g.2.2.1 4), 10, .inr (.inr (.inr (.inr (va_up f3 0 (some s0))))))), (s0, .inr (10, [.ref sA, .ref sL, .ref sP, .ref sS, .int ea, .int no, .int fu, .int fo, .int sa, .int po, .int ch, .int rb, .int on, .int li, .int sp, .int hu, .int mu]))] H := hP
  have hD : va_D A [(sS, .inr (11, [.int 0, .int 0, .int 0, .int 0])), (h0, .inr (13, [.ref a1, .ref a2, .ref a3, .ref a4, .ref a5, .int 0, .int zf, .int zw, .int ze, .int zn, .int zm])), (a3, .inr (2, [.int mc3, .ref q3, .int 1])), (q3, .inl ((g.2.2.1 4), 10, .inr (.inr (.inr (.inr (va_up f3 0 (some s0))))))), (s0, .inr (10, [.ref sA, .ref sL, .ref sP, .ref sS, .int ea, .int no, .int fu, .int fo, .int sa, .int po, .int ch, .int rb, .int on, .int li, .int sp, .int hu, .int mu]))] := hD
  refine W.widen (k := 0) (n := 0) (by decide) (by decide) ?_
  refine W.eq (g2 := F0 m 5 ls [.ref s0]) rfl ?_
  refine lv_astore_n (lv' := [(3, .ref s0), (0, .ref h0), (1, .int 0), (2, .int x)]) hx hb dX11_sell_5 rfl hl (by decide) rfl (fun ls hl => ?_)
  refine lv_iload_n hx hb dX11_sell_6 rfl (lv_at hl 3 rfl) ?_
  refine lv_iconst (v := 1) hx hb dX11_sell_7 (by decide) ?_
  refine lv_bipush (v := 20) hx hb dX11_sell_8 (by decide) ?_
  refine kcallS (wc := []) (wr := [(sS, .inr (11, [.int 0, .int 0, .int 0, .int 0])), (h0, .inr (13, [.ref a1, .ref a2, .ref a3, .ref a4, .ref a5, .int 0, .int zf, .int zw, .int ze, .int zn, .int zm])), (a3, .inr (2, [.int mc3, .ref q3, .int 1])), (q3, .inl ((g.2.2.1 4), 10, .inr (.inr (.inr (.inr (va_up f3 0 (some s0))))))), (s0, .inr (10, [.ref sA, .ref sL, .ref sP, .ref sS, .int ea, .int no, .int fu, .int fo, .int sa, .int po, .int ch, .int rb, .int on, .int li, .int sp, .int hu, .int mu]))]) (As := [.int x, .int 1, .int 20]) (rest := []) K G (m_X11_requireRange l hl0 g x 1 20 p1 p2) hP hD hS hA hl kw_280 kw_281 kw_282 kw_63 ydX11_requireRange [] [0, 1, 2, 3, 4] rfl rfl rfl rfl (by decide) rfl rfl (Nat.le_of_ble_eq_true rfl) dX11_sell_10 ⟨Nat.le_of_ble_eq_true rfl, Nat.le_of_ble_eq_true rfl⟩ ⟨Nat.le_of_ble_eq_true rfl, Nat.le_of_ble_eq_true rfl⟩ (fun _ _ _ _ _ _ hX _ _ _ _ _ _ => hX.elim) (fun v w1 H locs hQ hP hD hS => ?_)
  obtain ⟨rfl, rfl⟩ := hQ
  have hP : va_P g.1 vwCl [(sS, .inr (11, [.int 0, .int 0, .int 0, .int 0])), (h0, .inr (13, [.ref a1, .ref a2, .ref a3, .ref a4, .ref a5, .int 0, .int zf, .int zw, .int ze, .int zn, .int zm])), (a3, .inr (2, [.int mc3, .ref q3, .int 1])), (q3, .inl ((g.2.2.1 4), 10, .inr (.inr (.inr (.inr (va_up f3 0 (some s0))))))), (s0, .inr (10, [.ref sA, .ref sL, .ref sP, .ref sS, .int ea, .int no, .int fu, .int fo, .int sa, .int po, .int ch, .int rb, .int on, .int li, .int sp, .int hu, .int mu]))] H := hP
  have hD : va_D A [(sS, .inr (11, [.int 0, .int 0, .int 0, .int 0])), (h0, .inr (13, [.ref a1, .ref a2, .ref a3, .ref a4, .ref a5, .int 0, .int zf, .int zw, .int ze, .int zn, .int zm])), (a3, .inr (2, [.int mc3, .ref q3, .int 1])), (q3, .inl ((g.2.2.1 4), 10, .inr (.inr (.inr (.inr (va_up f3 0 (some s0))))))), (s0, .inr (10, [.ref sA, .ref sL, .ref sP, .ref sS, .int ea, .int no, .int fu, .int fo, .int sa, .int po, .int ch, .int rb, .int on, .int li, .int sp, .int hu, .int mu]))] := hD
  refine W.widen (k := 0) (n := 0) (by decide) (by decide) ?_
  refine W.eq (g2 := F0 m 13 ls []) rfl ?_
  refine lv_aload_n hx hb dX11_sell_13 rfl (lv_at hl 1 rfl) ?_
  refine va_get (D := g.1) (ci := 13) (v := .int 0) (C := RX11) (T := TX11) (N := 11) hx hb G.ws inX11 hown G.K hP 1 rfl rfl 5 (by decide) (G.w kw_77) (fun _ h9 => h9) rfl dX11_sell_14 ?_
  refine lv_bipush (v := 24) hx hb dX11_sell_17 (by decide) ?_
  refine lv_idiv hx hb dX11_sell_19 (by decide) ?_
  refine lv_topi (fun y_3 ey_3 => ?_)
  obtain rfl : y_3 = 0 := ey_3.trans (by decide)
  refine lv_istore (lv' := [(4, .int 0), (3, .ref s0), (0, .ref h0), (1, .int 0), (2, .int x)]) hx hb dX11_sell_20 hl (by decide) rfl (fun ls hl => ?_)
  refine lv_aload_n hx hb dX11_sell_22 rfl (lv_at hl 1 rfl) ?_
  refine va_get (D := g.1) (ci := 10) (v := .ref sS) (C := RX8) (T := TX8) (N := 17) hx hb G.ws inX8 hown G.K hP 4 rfl rfl 3 (by decide) (G.w kw_204) (fun _ h9 => h9) rfl dX11_sell_23 ?_
  refine lv_iload hx hb dX11_sell_26 (lv_at hl 0 rfl) ?_
  refine kcallV (wc := [(sS, .inr (11, [.int 0, .int 0, .int 0, .int 0]))]) (wr := [(h0, .inr (13, [.ref a1, .ref a2, .ref a3, .ref a4, .ref a5, .int 0, .int zf, .int zw, .int ze, .int zn, .int zm])), (a3, .inr (2, [.int mc3, .ref q3, .int 1])), (q3, .inl ((g.2.2.1 4), 10, .inr (.inr (.inr (.inr (va_up f3 0 (some s0))))))), (s0, .inr (10, [.ref sA, .ref sL, .ref sP, .ref sS, .int ea, .int no, .int fu, .int fo, .int sa, .int po, .int ch, .int rb, .int on, .int li, .int sp, .int hu, .int mu]))]) (As := [.int 0]) (rest := []) K G (m_X9_soldOn l hl0 g sS 0 0 0 ) hP hD hS hA hl kw_444 kw_448 kw_446 kw_447 kw_215 ydX9_soldOn [0] [1, 2, 3, 4] rfl rfl rfl rfl (by decide) (ci := 11) (q0 := 0) rfl rfl rfl rfl rfl (Nat.le_of_ble_eq_true rfl) dX11_sell_28 ⟨Nat.le_of_ble_eq_true rfl, Nat.le_of_ble_eq_true rfl⟩ ⟨Nat.le_of_ble_eq_true rfl, Nat.le_of_ble_eq_true rfl⟩ (fun _ _ _ _ _ _ hX _ _ _ _ _ _ => hX.elim) (fun v w1 H locs hQ hP hD hS => ?_)
  obtain ⟨rfl, rfl⟩ := hQ
  have hP : va_P g.1 vwCl [(h0, .inr (13, [.ref a1, .ref a2, .ref a3, .ref a4, .ref a5, .int 0, .int zf, .int zw, .int ze, .int zn, .int zm])), (a3, .inr (2, [.int mc3, .ref q3, .int 1])), (q3, .inl ((g.2.2.1 4), 10, .inr (.inr (.inr (.inr (va_up f3 0 (some s0))))))), (s0, .inr (10, [.ref sA, .ref sL, .ref sP, .ref sS, .int ea, .int no, .int fu, .int fo, .int sa, .int po, .int ch, .int rb, .int on, .int li, .int sp, .int hu, .int mu])), (sS, .inr (11, [.int 0, .int 0, .int 0, .int 0]))] H := hP
  have hD : va_D A [(h0, .inr (13, [.ref a1, .ref a2, .ref a3, .ref a4, .ref a5, .int 0, .int zf, .int zw, .int ze, .int zn, .int zm])), (a3, .inr (2, [.int mc3, .ref q3, .int 1])), (q3, .inl ((g.2.2.1 4), 10, .inr (.inr (.inr (.inr (va_up f3 0 (some s0))))))), (s0, .inr (10, [.ref sA, .ref sL, .ref sP, .ref sS, .int ea, .int no, .int fu, .int fo, .int sa, .int po, .int ch, .int rb, .int on, .int li, .int sp, .int hu, .int mu])), (sS, .inr (11, [.int 0, .int 0, .int 0, .int 0]))] := hD
  refine W.widen (k := 0) (n := 0) (by decide) (by decide) ?_
  refine W.eq (g2 := F0 m 31 ls [.int 0]) rfl ?_
  refine lv_iload_n hx hb dX11_sell_31 rfl (lv_at hl 4 rfl) ?_
  refine lv_iadd hx hb dX11_sell_32 ?_
  refine W.eq (g2 := F0 m 33 ls [.int x]) (by rw [Int32.zero_add]) ?_
  refine lv_bipush (v := 20) hx hb dX11_sell_33 (by decide) ?_
  refine lv_icmp_le (tgt := 49) hx hb dX11_sell_35 (by decide) (fun c35_5 => ?_) (fun c35_5 => ?_)
  · refine lv_aload_n hx hb dX11_sell_49 rfl (lv_at hl 1 rfl) ?_
    refine va_get (D := g.1) (ci := 10) (v := .ref sS) (C := RX8) (T := TX8) (N := 17) hx hb G.ws inX8 hown G.K hP 3 rfl rfl 3 (by decide) (G.w kw_204) (fun _ h9 => h9) rfl dX11_sell_50 ?_
    refine lv_iload hx hb dX11_sell_53 (lv_at hl 0 rfl) ?_
    refine lv_iload_n hx hb dX11_sell_55 rfl (lv_at hl 4 rfl) ?_
    refine kcallV (wc := [(sS, .inr (11, [.int 0, .int 0, .int 0, .int 0]))]) (wr := [(h0, .inr (13, [.ref a1, .ref a2, .ref a3, .ref a4, .ref a5, .int 0, .int zf, .int zw, .int ze, .int zn, .int zm])), (a3, .inr (2, [.int mc3, .ref q3, .int 1])), (q3, .inl ((g.2.2.1 4), 10, .inr (.inr (.inr (.inr (va_up f3 0 (some s0))))))), (s0, .inr (10, [.ref sA, .ref sL, .ref sP, .ref sS, .int ea, .int no, .int fu, .int fo, .int sa, .int po, .int ch, .int rb, .int on, .int li, .int sp, .int hu, .int mu]))]) (As := [.int 0, .int x]) (rest := []) K G (m_X9_addSold l hl0 g sS x ) hP hD hS hA hl kw_449 kw_450 kw_451 kw_452 kw_215 ydX9_addSold [4] [0, 1, 2, 3] rfl rfl rfl rfl (by decide) (ci := 11) (q0 := 4) rfl rfl rfl rfl rfl (Nat.le_of_ble_eq_true rfl) dX11_sell_56 ⟨Nat.le_of_ble_eq_true rfl, Nat.le_of_ble_eq_true rfl⟩ ⟨Nat.le_of_ble_eq_true rfl, Nat.le_of_ble_eq_true rfl⟩ (fun _ _ _ _ _ _ hX _ _ _ _ _ _ => hX.elim) (fun v w1 H locs hQ hP hD hS => ?_)
    obtain ⟨rfl, rfl⟩ := hQ
    have hP : va_P g.1 vwCl [(h0, .inr (13, [.ref a1, .ref a2, .ref a3, .ref a4, .ref a5, .int 0, .int zf, .int zw, .int ze, .int zn, .int zm])), (a3, .inr (2, [.int mc3, .ref q3, .int 1])), (q3, .inl ((g.2.2.1 4), 10, .inr (.inr (.inr (.inr (va_up f3 0 (some s0))))))), (s0, .inr (10, [.ref sA, .ref sL, .ref sP, .ref sS, .int ea, .int no, .int fu, .int fo, .int sa, .int po, .int ch, .int rb, .int on, .int li, .int sp, .int hu, .int mu])), (sS, .inr (11, [.int x, .int 0, .int x, .int 0]))] H := hP
    have hD : va_D A [(h0, .inr (13, [.ref a1, .ref a2, .ref a3, .ref a4, .ref a5, .int 0, .int zf, .int zw, .int ze, .int zn, .int zm])), (a3, .inr (2, [.int mc3, .ref q3, .int 1])), (q3, .inl ((g.2.2.1 4), 10, .inr (.inr (.inr (.inr (va_up f3 0 (some s0))))))), (s0, .inr (10, [.ref sA, .ref sL, .ref sP, .ref sS, .int ea, .int no, .int fu, .int fo, .int sa, .int po, .int ch, .int rb, .int on, .int li, .int sp, .int hu, .int mu])), (sS, .inr (11, [.int x, .int 0, .int x, .int 0]))] := hD
    refine W.widen (k := 0) (n := 0) (by decide) (by decide) ?_
    refine W.eq (g2 := F0 m 59 ls []) rfl ?_
    refine lv_aload_n hx hb dX11_sell_59 rfl (lv_at hl 1 rfl) ?_
    refine va_get (D := g.1) (ci := 10) (v := .ref sS) (C := RX8) (T := TX8) (N := 17) hx hb G.ws inX8 hown G.K hP 3 rfl rfl 3 (by decide) (G.w kw_204) (fun _ h9 => h9) rfl dX11_sell_60 ?_
    refine va_get (D := g.1) (ci := 11) (v := .int x) (C := RX9) (T := TX9) (N := 4) hx hb G.ws inX9 hown G.K hP 4 rfl rfl 0 (by decide) (G.w kw_453) (fun _ h9 => h9) rfl dX11_sell_63 ?_
    exact kretI K hP hD hS [0, 1, 2, 3, 4] [(h0, .inr (13, [.ref a1, .ref a2, .ref a3, .ref a4, .ref a5, .int 0, .int zf, .int zw, .int ze, .int zn, .int zm])), (a3, .inr (2, [.int mc3, .ref q3, .int 1])), (q3, .inl ((g.2.2.1 4), 10, .inr (.inr (.inr (.inr (va_up f3 0 (some s0))))))), (s0, .inr (10, [.ref sA, .ref sL, .ref sP, .ref sS, .int ea, .int no, .int fu, .int fo, .int sa, .int po, .int ch, .int rb, .int on, .int li, .int sp, .int hu, .int mu])), (sS, .inr (11, [.int x, .int 0, .int x, .int 0]))] rfl rfl ⟨(by first | simp only [if_pos c35_5] | rfl | simp [if_pos c35_5]), (by first | simp only [if_pos c35_5] | rfl | simp [if_pos c35_5])⟩ (by decide) (by decide) dX11_sell_66
  · exact absurd c35_5 (by exact fun h => h p2)

set_option maxHeartbeats 4000000 in
set_option maxRecDepth 100000 in
theorem m_X0_drop (l : Launch) (hl0 : l.stackTraces = false) (g : kG) (h0 : Nat) (x1 : Int32) (x2 : Int32) (x3 : Int32) (x4 : Int32) (o1 : Int32) (o2 : Int32) (o3 : Int32) (o4 : Int32) (o5 : Int32)  : kc l g yX0_drop prog_2_method_2_code 5 none 0 0 0 0 [.ref h0, .int x1, .int x2, .int x3, .int x4] [(h0, .inr (3, [.int o1, .int o2, .int o3, .int o4, .int o5]))] (fun v w => (v = none ∧ w = [(h0, .inr (3, [.int x1, .int x2, .int 1, .int x3, .int x4]))])) (fun _ _ => False) := by
  refine kbody (by decide) (Nat.le_of_ble_eq_true rfl) ?_
  intro p e s m args below meth c A H K ht G hP hD hA hS ls hl
  have K : KB p s m meth c RX0 "drop" prog_2_method_2_code 5 none := K
  obtain ⟨hx, hb, hml, hown, hlocks, hr, hin⟩ := id K
  have hl : lv_has ls 5 [(0, .ref h0), (1, .int x1), (2, .int x2), (3, .int x3), (4, .int x4)] := hl
  refine lv_aload_n hx hb dX0_drop_0 rfl (lv_at hl 0 rfl) ?_
  refine lv_iload_n hx hb dX0_drop_1 rfl (lv_at hl 1 rfl) ?_
  refine va_put (D := g.1) (ci := 3) (v := .int x1) (ty := .int) (C := RX0) (T := TX0) (N := 5) hx hb G.ws inX0 tyX0 tyX0_ok nmX0 hown G.K hP hD hS 0 rfl rfl 0 (by decide) (G.w kw_317) (fun _ h9 => h9) (by decide +kernel) (by decide +kernel) rfl rfl (Nat.le_of_ble_eq_true rfl) dX0_drop_2 (fun H locs hP hD hS => ?_)
  have hP : va_P g.1 vwCl [(h0, .inr (3, [.int x1, .int o2, .int o3, .int o4, .int o5]))] H := hP
  have hD : va_D A [(h0, .inr (3, [.int x1, .int o2, .int o3, .int o4, .int o5]))] := hD
  refine lv_aload_n hx hb dX0_drop_5 rfl (lv_at hl 0 rfl) ?_
  refine lv_iload_n hx hb dX0_drop_6 rfl (lv_at hl 2 rfl) ?_
  refine va_put (D := g.1) (ci := 3) (v := .int x2) (ty := .int) (C := RX0) (T := TX0) (N := 5) hx hb G.ws inX0 tyX0 tyX0_ok nmX0 hown G.K hP hD hS 0 rfl rfl 1 (by decide) (G.w kw_318) (fun _ h9 => h9) (by decide +kernel) (by decide +kernel) rfl rfl (Nat.le_of_ble_eq_true rfl) dX0_drop_7 (fun H locs hP hD hS => ?_)
  have hP : va_P g.1 vwCl [(h0, .inr (3, [.int x1, .int x2, .int o3, .int o4, .int o5]))] H := hP
  have hD : va_D A [(h0, .inr (3, [.int x1, .int x2, .int o3, .int o4, .int o5]))] := hD
  refine lv_aload_n hx hb dX0_drop_10 rfl (lv_at hl 0 rfl) ?_
  refine lv_iconst (v := 1) hx hb dX0_drop_11 (by decide) ?_
  refine va_put (D := g.1) (ci := 3) (v := .int 1) (ty := .boolean) (C := RX0) (T := TX0) (N := 5) hx hb G.ws inX0 tyX0 tyX0_ok nmX0 hown G.K hP hD hS 0 rfl rfl 2 (by decide) (G.w kw_454) (fun _ h9 => h9) (by decide +kernel) (by decide +kernel) rfl rfl (Nat.le_of_ble_eq_true rfl) dX0_drop_12 (fun H locs hP hD hS => ?_)
  have hP : va_P g.1 vwCl [(h0, .inr (3, [.int x1, .int x2, .int 1, .int o4, .int o5]))] H := hP
  have hD : va_D A [(h0, .inr (3, [.int x1, .int x2, .int 1, .int o4, .int o5]))] := hD
  refine lv_aload_n hx hb dX0_drop_15 rfl (lv_at hl 0 rfl) ?_
  refine lv_iload_n hx hb dX0_drop_16 rfl (lv_at hl 3 rfl) ?_
  refine va_put (D := g.1) (ci := 3) (v := .int x3) (ty := .int) (C := RX0) (T := TX0) (N := 5) hx hb G.ws inX0 tyX0 tyX0_ok nmX0 hown G.K hP hD hS 0 rfl rfl 3 (by decide) (G.w kw_455) (fun _ h9 => h9) (by decide +kernel) (by decide +kernel) rfl rfl (Nat.le_of_ble_eq_true rfl) dX0_drop_17 (fun H locs hP hD hS => ?_)
  have hP : va_P g.1 vwCl [(h0, .inr (3, [.int x1, .int x2, .int 1, .int x3, .int o5]))] H := hP
  have hD : va_D A [(h0, .inr (3, [.int x1, .int x2, .int 1, .int x3, .int o5]))] := hD
  refine lv_aload_n hx hb dX0_drop_20 rfl (lv_at hl 0 rfl) ?_
  refine lv_iload hx hb dX0_drop_21 (lv_at hl 4 rfl) ?_
  refine va_put (D := g.1) (ci := 3) (v := .int x4) (ty := .int) (C := RX0) (T := TX0) (N := 5) hx hb G.ws inX0 tyX0 tyX0_ok nmX0 hown G.K hP hD hS 0 rfl rfl 4 (by decide) (G.w kw_456) (fun _ h9 => h9) (by decide +kernel) (by decide +kernel) rfl rfl (Nat.le_of_ble_eq_true rfl) dX0_drop_23 (fun H locs hP hD hS => ?_)
  have hP : va_P g.1 vwCl [(h0, .inr (3, [.int x1, .int x2, .int 1, .int x3, .int x4]))] H := hP
  have hD : va_D A [(h0, .inr (3, [.int x1, .int x2, .int 1, .int x3, .int x4]))] := hD
  exact kretV K hP hD hS [0] [(h0, .inr (3, [.int x1, .int x2, .int 1, .int x3, .int x4]))] rfl rfl ⟨rfl, rfl⟩ (by decide) (by decide) dX0_drop_26

set_option maxHeartbeats 4000000 in
set_option maxRecDepth 100000 in
theorem m_X11_holdOf115 (l : Launch) (hl0 : l.stackTraces = false) (g : kG)   : kc l g yX11_holdOf prog_1_method_65_code 1 (some .int) 0 0 0 0 [.int 115] [] (fun v w => (v = some (.int 8) ∧ w = [])) (fun _ _ => False) := by
  refine kbody (by decide) (Nat.le_of_ble_eq_true rfl) ?_
  intro p e s m args below meth c A H K ht G hP hD hA hS ls hl
  have K : KB p s m meth c RX11 "holdOf" prog_1_method_65_code 1 (some .int) := K
  obtain ⟨hx, hb, hml, hown, hlocks, hr, hin⟩ := id K
  have hl : lv_has ls 1 [(0, .int 115)] := hl
  refine lv_iload_n hx hb dX11_holdOf_0 rfl (lv_at hl 0 rfl) ?_
  refine lv_bipush (v := 115) hx hb dX11_holdOf_1 (by decide) ?_
  refine lv_icmp_ne (tgt := 11) hx hb dX11_holdOf_3 (by decide) (fun c3_1 => absurd c3_1 (by decide)) (fun _ => ?_)
  refine lv_bipush (v := 8) hx hb dX11_holdOf_6 (by decide) ?_
  refine lv_goto (tgt := 33) hx hb dX11_holdOf_8 (by decide) ?_
  exact kretI K hP hD hS [] [] rfl rfl ⟨rfl, rfl⟩ (by decide) (by decide) dX11_holdOf_33

