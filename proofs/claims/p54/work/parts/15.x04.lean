set_option maxHeartbeats 4000000 in
set_option maxRecDepth 100000 in
theorem m_X4_unloadTo (l : Launch) (hl0 : l.stackTraces = false) (g : kG) (l0 : Nat) (d1 : Nat) (d2 : Nat) (d3 : Nat) (lx : Int32) (ly : Int32) (lz : Int32) (lv : Int32) (lf : Int32) (lo : Int32) (lc : Int32) (s0 : Nat) (sA : Nat) (sL : Nat) (sP : Nat) (sS : Nat) (ea : Int32) (no : Int32) (sa : Int32) (po : Int32) (ch : Int32) (rb : Int32) (on : Int32) (li : Int32) (sp : Int32) (hu : Int32) (mu : Int32) (lo2 : Int32) (hch : ¬ lc = -1) : kc l g yX4_unloadTo prog_6_method_7_code 2 none 0 0 0 0 [.ref l0, .ref s0] [(l0, .inr (7, [.int lx, .int ly, .int lz, .ref d1, .ref d2, .ref d3, .int 0, .int lv, .int lf, .int lo, .int lc])), (s0, .inr (10, [.ref sA, .ref sL, .ref sP, .ref sS, .int ea, .int no, .int 0, .int 0, .int sa, .int po, .int ch, .int rb, .int on, .int li, .int sp, .int hu, .int mu]))] (fun v w => (v = none ∧ w = [(l0, .inr (7, [.int lx, .int ly, .int lz, .ref d1, .ref d2, .ref d3, .int 0, .int lv, .int 0, .int 0, .int (-1)])), (s0, .inr (10, [.ref sA, .ref sL, .ref sP, .ref sS, .int ea, .int no, .int lf, .int lo, .int sa, .int po, .int lc, .int rb, .int on, .int li, .int sp, .int hu, .int mu]))])) (fun _ _ => False) := by
  refine kbody (by decide) (Nat.le_of_ble_eq_true rfl) ?_
  intro p e s m args below meth c A H K ht G hP hD hA hS ls hl
  have K : KB p s m meth c RX4 "unloadTo" prog_6_method_7_code 2 none := K
  obtain ⟨hx, hb, hml, hown, hlocks, hr, hin⟩ := id K
  have hl : lv_has ls 2 [(0, .ref l0), (1, .ref s0)] := hl
  refine lv_aload_n hx hb dX4_unloadTo_0 rfl (lv_at hl 1 rfl) ?_
  refine lv_dup hx hb dX4_unloadTo_1 rfl ?_
  refine va_get (D := g.1) (ci := 10) (v := .int 0) (C := RX8) (T := TX8) (N := 17) hx hb G.ws inX8 hown G.K hP 1 rfl rfl 6 (by decide) (G.w kw_482) (fun _ h9 => h9) rfl dX4_unloadTo_2 ?_
  refine lv_aload_n hx hb dX4_unloadTo_5 rfl (lv_at hl 0 rfl) ?_
  refine va_get (D := g.1) (ci := 7) (v := .int lf) (C := RX4) (T := TX4) (N := 11) hx hb G.ws inX4 hown G.K hP 0 rfl rfl 8 (by decide) (G.w kw_480) (fun _ h9 => h9) rfl dX4_unloadTo_6 ?_
  refine lv_iadd hx hb dX4_unloadTo_9 ?_
  refine W.eq (g2 := F0 m 10 ls [.int lf, .ref s0]) (by rw [Int32.zero_add]) ?_
  refine va_put (D := g.1) (ci := 10) (v := .int lf) (ty := .int) (C := RX8) (T := TX8) (N := 17) hx hb G.ws inX8 tyX8 tyX8_ok nmX8 hown G.K hP hD hS 1 rfl rfl 6 (by decide) (G.w kw_482) (fun _ h9 => h9) (by decide +kernel) (by decide +kernel) rfl rfl (Nat.le_of_ble_eq_true rfl) dX4_unloadTo_10 (fun H locs hP hD hS => ?_)
  have hP : va_P g.1 vwCl [(l0, .inr (7, [.int lx, .int ly, .int lz, .ref d1, .ref d2, .ref d3, .int 0, .int lv, .int lf, .int lo, .int lc])), (s0, .inr (10, [.ref sA, .ref sL, .ref sP, .ref sS, .int ea, .int no, .int lf, .int 0, .int sa, .int po, .int ch, .int rb, .int on, .int li, .int sp, .int hu, .int mu]))] H := hP
  have hD : va_D A [(l0, .inr (7, [.int lx, .int ly, .int lz, .ref d1, .ref d2, .ref d3, .int 0, .int lv, .int lf, .int lo, .int lc])), (s0, .inr (10, [.ref sA, .ref sL, .ref sP, .ref sS, .int ea, .int no, .int lf, .int 0, .int sa, .int po, .int ch, .int rb, .int on, .int li, .int sp, .int hu, .int mu]))] := hD
  refine lv_aload_n hx hb dX4_unloadTo_13 rfl (lv_at hl 1 rfl) ?_
  refine lv_dup hx hb dX4_unloadTo_14 rfl ?_
  refine va_get (D := g.1) (ci := 10) (v := .int 0) (C := RX8) (T := TX8) (N := 17) hx hb G.ws inX8 hown G.K hP 1 rfl rfl 7 (by decide) (G.w kw_483) (fun _ h9 => h9) rfl dX4_unloadTo_15 ?_
  refine lv_aload_n hx hb dX4_unloadTo_18 rfl (lv_at hl 0 rfl) ?_
  refine va_get (D := g.1) (ci := 7) (v := .int lo) (C := RX4) (T := TX4) (N := 11) hx hb G.ws inX4 hown G.K hP 0 rfl rfl 9 (by decide) (G.w kw_481) (fun _ h9 => h9) rfl dX4_unloadTo_19 ?_
  refine lv_iadd hx hb dX4_unloadTo_22 ?_
  refine W.eq (g2 := F0 m 23 ls [.int lo, .ref s0]) (by rw [Int32.zero_add]) ?_
  refine va_put (D := g.1) (ci := 10) (v := .int lo) (ty := .int) (C := RX8) (T := TX8) (N := 17) hx hb G.ws inX8 tyX8 tyX8_ok nmX8 hown G.K hP hD hS 1 rfl rfl 7 (by decide) (G.w kw_483) (fun _ h9 => h9) (by decide +kernel) (by decide +kernel) rfl rfl (Nat.le_of_ble_eq_true rfl) dX4_unloadTo_23 (fun H locs hP hD hS => ?_)
  have hP : va_P g.1 vwCl [(l0, .inr (7, [.int lx, .int ly, .int lz, .ref d1, .ref d2, .ref d3, .int 0, .int lv, .int lf, .int lo, .int lc])), (s0, .inr (10, [.ref sA, .ref sL, .ref sP, .ref sS, .int ea, .int no, .int lf, .int lo, .int sa, .int po, .int ch, .int rb, .int on, .int li, .int sp, .int hu, .int mu]))] H := hP
  have hD : va_D A [(l0, .inr (7, [.int lx, .int ly, .int lz, .ref d1, .ref d2, .ref d3, .int 0, .int lv, .int lf, .int lo, .int lc])), (s0, .inr (10, [.ref sA, .ref sL, .ref sP, .ref sS, .int ea, .int no, .int lf, .int lo, .int sa, .int po, .int ch, .int rb, .int on, .int li, .int sp, .int hu, .int mu]))] := hD
  refine lv_aload_n hx hb dX4_unloadTo_26 rfl (lv_at hl 0 rfl) ?_
  refine va_get (D := g.1) (ci := 7) (v := .int lc) (C := RX4) (T := TX4) (N := 11) hx hb G.ws inX4 hown G.K hP 0 rfl rfl 10 (by decide) (G.w kw_340) (fun _ h9 => h9) rfl dX4_unloadTo_27 ?_
  refine lv_iconst (v := (-1)) hx hb dX4_unloadTo_30 (by decide) ?_
  refine lv_icmp_eq (tgt := 42) hx hb dX4_unloadTo_31 (by decide) (fun c31_1 => ?_) (fun c31_1 => ?_)
  · exact absurd c31_1 (by exact hch)
  · refine lv_aload_n hx hb dX4_unloadTo_34 rfl (lv_at hl 1 rfl) ?_
    refine lv_aload_n hx hb dX4_unloadTo_35 rfl (lv_at hl 0 rfl) ?_
    refine va_get (D := g.1) (ci := 7) (v := .int lc) (C := RX4) (T := TX4) (N := 11) hx hb G.ws inX4 hown G.K hP 0 rfl rfl 10 (by decide) (G.w kw_340) (fun _ h9 => h9) rfl dX4_unloadTo_36 ?_
    refine va_put (D := g.1) (ci := 10) (v := .int lc) (ty := .int) (C := RX8) (T := TX8) (N := 17) hx hb G.ws inX8 tyX8 tyX8_ok nmX8 hown G.K hP hD hS 1 rfl rfl 10 (by decide) (G.w kw_484) (fun _ h9 => h9) (by decide +kernel) (by decide +kernel) rfl rfl (Nat.le_of_ble_eq_true rfl) dX4_unloadTo_39 (fun H locs hP hD hS => ?_)
    have hP : va_P g.1 vwCl [(l0, .inr (7, [.int lx, .int ly, .int lz, .ref d1, .ref d2, .ref d3, .int 0, .int lv, .int lf, .int lo, .int lc])), (s0, .inr (10, [.ref sA, .ref sL, .ref sP, .ref sS, .int ea, .int no, .int lf, .int lo, .int sa, .int po, .int lc, .int rb, .int on, .int li, .int sp, .int hu, .int mu]))] H := hP
    have hD : va_D A [(l0, .inr (7, [.int lx, .int ly, .int lz, .ref d1, .ref d2, .ref d3, .int 0, .int lv, .int lf, .int lo, .int lc])), (s0, .inr (10, [.ref sA, .ref sL, .ref sP, .ref sS, .int ea, .int no, .int lf, .int lo, .int sa, .int po, .int lc, .int rb, .int on, .int li, .int sp, .int hu, .int mu]))] := hD
    refine lv_aload_n hx hb dX4_unloadTo_42 rfl (lv_at hl 0 rfl) ?_
    refine lv_iconst (v := 0) hx hb dX4_unloadTo_43 (by decide) ?_
    refine va_put (D := g.1) (ci := 7) (v := .int 0) (ty := .int) (C := RX4) (T := TX4) (N := 11) hx hb G.ws inX4 tyX4 tyX4_ok nmX4 hown G.K hP hD hS 0 rfl rfl 8 (by decide) (G.w kw_480) (fun _ h9 => h9) (by decide +kernel) (by decide +kernel) rfl rfl (Nat.le_of_ble_eq_true rfl) dX4_unloadTo_44 (fun H locs hP hD hS => ?_)
    have hP : va_P g.1 vwCl [(l0, .inr (7, [.int lx, .int ly, .int lz, .ref d1, .ref d2, .ref d3, .int 0, .int lv, .int 0, .int lo, .int lc])), (s0, .inr (10, [.ref sA, .ref sL, .ref sP, .ref sS, .int ea, .int no, .int lf, .int lo, .int sa, .int po, .int lc, .int rb, .int on, .int li, .int sp, .int hu, .int mu]))] H := hP
    have hD : va_D A [(l0, .inr (7, [.int lx, .int ly, .int lz, .ref d1, .ref d2, .ref d3, .int 0, .int lv, .int 0, .int lo, .int lc])), (s0, .inr (10, [.ref sA, .ref sL, .ref sP, .ref sS, .int ea, .int no, .int lf, .int lo, .int sa, .int po, .int lc, .int rb, .int on, .int li, .int sp, .int hu, .int mu]))] := hD
    refine lv_aload_n hx hb dX4_unloadTo_47 rfl (lv_at hl 0 rfl) ?_
    refine lv_iconst (v := 0) hx hb dX4_unloadTo_48 (by decide) ?_
    refine va_put (D := g.1) (ci := 7) (v := .int 0) (ty := .int) (C := RX4) (T := TX4) (N := 11) hx hb G.ws inX4 tyX4 tyX4_ok nmX4 hown G.K hP hD hS 0 rfl rfl 9 (by decide) (G.w kw_481) (fun _ h9 => h9) (by decide +kernel) (by decide +kernel) rfl rfl (Nat.le_of_ble_eq_true rfl) dX4_unloadTo_49 (fun H locs hP hD hS => ?_)
    have hP : va_P g.1 vwCl [(l0, .inr (7, [.int lx, .int ly, .int lz, .ref d1, .ref d2, .ref d3, .int 0, .int lv, .int 0, .int 0, .int lc])), (s0, .inr (10, [.ref sA, .ref sL, .ref sP, .ref sS, .int ea, .int no, .int lf, .int lo, .int sa, .int po, .int lc, .int rb, .int on, .int li, .int sp, .int hu, .int mu]))] H := hP
    have hD : va_D A [(l0, .inr (7, [.int lx, .int ly, .int lz, .ref d1, .ref d2, .ref d3, .int 0, .int lv, .int 0, .int 0, .int lc])), (s0, .inr (10, [.ref sA, .ref sL, .ref sP, .ref sS, .int ea, .int no, .int lf, .int lo, .int sa, .int po, .int lc, .int rb, .int on, .int li, .int sp, .int hu, .int mu]))] := hD
    refine lv_aload_n hx hb dX4_unloadTo_52 rfl (lv_at hl 0 rfl) ?_
    refine lv_iconst (v := (-1)) hx hb dX4_unloadTo_53 (by decide) ?_
    refine va_put (D := g.1) (ci := 7) (v := .int (-1)) (ty := .int) (C := RX4) (T := TX4) (N := 11) hx hb G.ws inX4 tyX4 tyX4_ok nmX4 hown G.K hP hD hS 0 rfl rfl 10 (by decide) (G.w kw_340) (fun _ h9 => h9) (by decide +kernel) (by decide +kernel) rfl rfl (Nat.le_of_ble_eq_true rfl) dX4_unloadTo_54 (fun H locs hP hD hS => ?_)
    have hP : va_P g.1 vwCl [(l0, .inr (7, [.int lx, .int ly, .int lz, .ref d1, .ref d2, .ref d3, .int 0, .int lv, .int 0, .int 0, .int (-1)])), (s0, .inr (10, [.ref sA, .ref sL, .ref sP, .ref sS, .int ea, .int no, .int lf, .int lo, .int sa, .int po, .int lc, .int rb, .int on, .int li, .int sp, .int hu, .int mu]))] H := hP
    have hD : va_D A [(l0, .inr (7, [.int lx, .int ly, .int lz, .ref d1, .ref d2, .ref d3, .int 0, .int lv, .int 0, .int 0, .int (-1)])), (s0, .inr (10, [.ref sA, .ref sL, .ref sP, .ref sS, .int ea, .int no, .int lf, .int lo, .int sa, .int po, .int lc, .int rb, .int on, .int li, .int sp, .int hu, .int mu]))] := hD
    exact kretV K hP hD hS [0, 1] [(l0, .inr (7, [.int lx, .int ly, .int lz, .ref d1, .ref d2, .ref d3, .int 0, .int lv, .int 0, .int 0, .int (-1)])), (s0, .inr (10, [.ref sA, .ref sL, .ref sP, .ref sS, .int ea, .int no, .int lf, .int lo, .int sa, .int po, .int lc, .int rb, .int on, .int li, .int sp, .int hu, .int mu]))] rfl rfl ⟨rfl, rfl⟩ (by decide) (by decide) dX4_unloadTo_57

def r_X11_load (x : Int32) (y : Int32) : Int32 := (r_X4_tenderCost x y)
set_option maxHeartbeats 4000000 in
set_option maxRecDepth 100000 in
theorem m_X11_load (l : Launch) (hl0 : l.stackTraces = false) (g : kG) (h0 : Nat) (a1 : Nat) (a2 : Nat) (a3 : Nat) (a4 : Nat) (a5 : Nat) (zh : Int32) (zf : Int32) (zw : Int32) (ze : Int32) (zn : Int32) (zm : Int32) (q1 : Nat) (mc1 : Int32) (f1 : Nat → Option Nat) (l0 : Nat) (d1 : Nat) (d2 : Nat) (d3 : Nat) (lx : Int32) (ly : Int32) (lz : Int32) (lv : Int32) (x : Int32) (y : Int32) (z : Int32) (p1 : ¬ x < 0) (p2 : x ≤ 9999) (p3 : ¬ y < 0) (p4 : y ≤ 999) (p5 : ¬ z < (-1)) (p6 : z ≤ 9) (hch : ¬ z = (-1)) : kc l g yX11_load prog_1_method_31_code 6 (some .int) 4 85 0 0 [.ref h0, .int 0, .int x, .int y, .int z] [(h0, .inr (13, [.ref a1, .ref a2, .ref a3, .ref a4, .ref a5, .int zh, .int zf, .int zw, .int ze, .int zn, .int zm])), (l0, .inr (7, [.int lx, .int ly, .int lz, .ref d1, .ref d2, .ref d3, .int 0, .int lv, .int 0, .int 0, .int (-1)])), (a1, .inr (2, [.int mc1, .ref q1, .int 1])), (q1, .inl ((g.2.2.1 4), 10, .inr (.inr (.inr (.inr (va_up f1 0 (some l0)))))))] (fun v w => (v = some (.int (r_X11_load x y)) ∧ w = [(h0, .inr (13, [.ref a1, .ref a2, .ref a3, .ref a4, .ref a5, .int zh, .int zf, .int zw, .int ze, .int zn, .int zm])), (l0, .inr (7, [.int lx, .int ly, .int lz, .ref d1, .ref d2, .ref d3, .int 0, .int lv, .int x, .int y, .int z])), (a1, .inr (2, [.int mc1, .ref q1, .int 1])), (q1, .inl ((g.2.2.1 4), 10, .inr (.inr (.inr (.inr (va_up f1 0 (some l0)))))))])) (fun _ _ => False) := by
  refine kbody (by decide) (Nat.le_of_ble_eq_true rfl) ?_
  intro p e s m args below meth c A H K ht G hP hD hA hS ls hl
  have K : KB p s m meth c RX11 "load" prog_1_method_31_code 6 (some .int) := K
  obtain ⟨hx, hb, hml, hown, hlocks, hr, hin⟩ := id K
  have hl : lv_has ls 6 [(0, .ref h0), (1, .int 0), (2, .int x), (3, .int y), (4, .int z)] := hl
  refine lv_aload_n hx hb dX11_load_0 rfl (lv_at hl 0 rfl) ?_
  refine lv_iload_n hx hb dX11_load_1 rfl (lv_at hl 1 rfl) ?_
  refine kcallV (wc := [(h0, .inr (13, [.ref a1, .ref a2, .ref a3, .ref a4, .ref a5, .int zh, .int zf, .int zw, .int ze, .int zn, .int zm])), (a1, .inr (2, [.int mc1, .ref q1, .int 1])), (q1, .inl ((g.2.2.1 4), 10, .inr (.inr (.inr (.inr (va_up f1 0 (some l0))))))), (l0, .inr (7, [.int lx, .int ly, .int lz, .ref d1, .ref d2, .ref d3, .int 0, .int lv, .int 0, .int 0, .int (-1)]))]) (wr := []) (As := [.int 0]) (rest := []) K G (m_X11_landAt l hl0 g h0 a1 a2 a3 a4 a5 zh zf zw ze zn zm q1 mc1 f1 l0 d1 d2 d3 lx ly lz lv 0 0 (-1) ) hP hD hS hA hl kw_405 kw_406 kw_407 kw_408 kw_63 ydX11_landAt [0, 2, 3, 1] [] rfl rfl rfl rfl (by decide) (ci := 13) (q0 := 0) rfl rfl rfl rfl rfl (Nat.le_of_ble_eq_true rfl) dX11_load_2 ⟨Nat.le_of_ble_eq_true rfl, Nat.le_of_ble_eq_true rfl⟩ ⟨Nat.le_of_ble_eq_true rfl, Nat.le_of_ble_eq_true rfl⟩ (fun _ _ _ _ _ _ hX _ _ _ _ _ _ => hX.elim) (fun v w1 H locs hQ hP hD hS => ?_)
  obtain ⟨rfl, rfl⟩ := hQ
  have hP : va_P g.1 vwCl [(h0, .inr (13, [.ref a1, .ref a2, .ref a3, .ref a4, .ref a5, .int zh, .int zf, .int zw, .int ze, .int zn, .int zm])), (a1, .inr (2, [.int mc1, .ref q1, .int 1])), (q1, .inl ((g.2.2.1 4), 10, .inr (.inr (.inr (.inr (va_up f1 0 (some l0))))))), (l0, .inr (7, [.int lx, .int ly, .int lz, .ref d1, .ref d2, .ref d3, .int 0, .int lv, .int 0, .int 0, .int (-1)]))] H := hP
  have hD : va_D A [(h0, .inr (13, [.ref a1, .ref a2, .ref a3, .ref a4, .ref a5, .int zh, .int zf, .int zw, .int ze, .int zn, .int zm])), (a1, .inr (2, [.int mc1, .ref q1, .int 1])), (q1, .inl ((g.2.2.1 4), 10, .inr (.inr (.inr (.inr (va_up f1 0 (some l0))))))), (l0, .inr (7, [.int lx, .int ly, .int lz, .ref d1, .ref d2, .ref d3, .int 0, .int lv, .int 0, .int 0, .int (-1)]))] := hD
  refine W.widen (k := 0) (n := 0) (by decide) (by decide) ?_
  refine W.eq (g2 := F0 m 5 ls [.ref l0]) rfl ?_
  refine lv_astore (lv' := [(5, .ref l0), (0, .ref h0), (1, .int 0), (2, .int x), (3, .int y), (4, .int z)]) hx hb dX11_load_5 hl (by decide) rfl (fun ls hl => ?_)
  refine lv_iload_n hx hb dX11_load_7 rfl (lv_at hl 3 rfl) ?_
  refine lv_iconst (v := 0) hx hb dX11_load_8 (by decide) ?_
  refine lv_sipush (v := 9999) hx hb dX11_load_9 (by decide) ?_
  refine kcallS (wc := []) (wr := [(h0, .inr (13, [.ref a1, .ref a2, .ref a3, .ref a4, .ref a5, .int zh, .int zf, .int zw, .int ze, .int zn, .int zm])), (a1, .inr (2, [.int mc1, .ref q1, .int 1])), (q1, .inl ((g.2.2.1 4), 10, .inr (.inr (.inr (.inr (va_up f1 0 (some l0))))))), (l0, .inr (7, [.int lx, .int ly, .int lz, .ref d1, .ref d2, .ref d3, .int 0, .int lv, .int 0, .int 0, .int (-1)]))]) (As := [.int x, .int 0, .int 9999]) (rest := []) K G (m_X11_requireRange l hl0 g x 0 9999 p1 p2) hP hD hS hA hl kw_280 kw_281 kw_282 kw_63 ydX11_requireRange [] [0, 1, 2, 3] rfl rfl rfl rfl (by decide) rfl rfl (Nat.le_of_ble_eq_true rfl) dX11_load_12 ⟨Nat.le_of_ble_eq_true rfl, Nat.le_of_ble_eq_true rfl⟩ ⟨Nat.le_of_ble_eq_true rfl, Nat.le_of_ble_eq_true rfl⟩ (fun _ _ _ _ _ _ hX _ _ _ _ _ _ => hX.elim) (fun v w1 H locs hQ hP hD hS => ?_)
  obtain ⟨rfl, rfl⟩ := hQ
  have hP : va_P g.1 vwCl [(h0, .inr (13, [.ref a1, .ref a2, .ref a3, .ref a4, .ref a5, .int zh, .int zf, .int zw, .int ze, .int zn, .int zm])), (a1, .inr (2, [.int mc1, .ref q1, .int 1])), (q1, .inl ((g.2.2.1 4), 10, .inr (.inr (.inr (.inr (va_up f1 0 (some l0))))))), (l0, .inr (7, [.int lx, .int ly, .int lz, .ref d1, .ref d2, .ref d3, .int 0, .int lv, .int 0, .int 0, .int (-1)]))] H := hP
  have hD : va_D A [(h0, .inr (13, [.ref a1, .ref a2, .ref a3, .ref a4, .ref a5, .int zh, .int zf, .int zw, .int ze, .int zn, .int zm])), (a1, .inr (2, [.int mc1, .ref q1, .int 1])), (q1, .inl ((g.2.2.1 4), 10, .inr (.inr (.inr (.inr (va_up f1 0 (some l0))))))), (l0, .inr (7, [.int lx, .int ly, .int lz, .ref d1, .ref d2, .ref d3, .int 0, .int lv, .int 0, .int 0, .int (-1)]))] := hD
  refine W.widen (k := 0) (n := 0) (by decide) (by decide) ?_
  refine W.eq (g2 := F0 m 15 ls []) rfl ?_
  refine lv_iload_n hx hb dX11_load_15 rfl (lv_at hl 4 rfl) ?_
  refine lv_iconst (v := 0) hx hb dX11_load_16 (by decide) ?_
  refine lv_sipush (v := 999) hx hb dX11_load_17 (by decide) ?_
  refine kcallS (wc := []) (wr := [(h0, .inr (13, [.ref a1, .ref a2, .ref a3, .ref a4, .ref a5, .int zh, .int zf, .int zw, .int ze, .int zn, .int zm])), (a1, .inr (2, [.int mc1, .ref q1, .int 1])), (q1, .inl ((g.2.2.1 4), 10, .inr (.inr (.inr (.inr (va_up f1 0 (some l0))))))), (l0, .inr (7, [.int lx, .int ly, .int lz, .ref d1, .ref d2, .ref d3, .int 0, .int lv, .int 0, .int 0, .int (-1)]))]) (As := [.int y, .int 0, .int 999]) (rest := []) K G (m_X11_requireRange l hl0 g y 0 999 p3 p4) hP hD hS hA hl kw_280 kw_281 kw_282 kw_63 ydX11_requireRange [] [0, 1, 2, 3] rfl rfl rfl rfl (by decide) rfl rfl (Nat.le_of_ble_eq_true rfl) dX11_load_20 ⟨Nat.le_of_ble_eq_true rfl, Nat.le_of_ble_eq_true rfl⟩ ⟨Nat.le_of_ble_eq_true rfl, Nat.le_of_ble_eq_true rfl⟩ (fun _ _ _ _ _ _ hX _ _ _ _ _ _ => hX.elim) (fun v w1 H locs hQ hP hD hS => ?_)
  obtain ⟨rfl, rfl⟩ := hQ
  have hP : va_P g.1 vwCl [(h0, .inr (13, [.ref a1, .ref a2, .ref a3, .ref a4, .ref a5, .int zh, .int zf, .int zw, .int ze, .int zn, .int zm])), (a1, .inr (2, [.int mc1, .ref q1, .int 1])), (q1, .inl ((g.2.2.1 4), 10, .inr (.inr (.inr (.inr (va_up f1 0 (some l0))))))), (l0, .inr (7, [.int lx, .int ly, .int lz, .ref d1, .ref d2, .ref d3, .int 0, .int lv, .int 0, .int 0, .int (-1)]))] H := hP
  have hD : va_D A [(h0, .inr (13, [.ref a1, .ref a2, .ref a3, .ref a4, .ref a5, .int zh, .int zf, .int zw, .int ze, .int zn, .int zm])), (a1, .inr (2, [.int mc1, .ref q1, .int 1])), (q1, .inl ((g.2.2.1 4), 10, .inr (.inr (.inr (.inr (va_up f1 0 (some l0))))))), (l0, .inr (7, [.int lx, .int ly, .int lz, .ref d1, .ref d2, .ref d3, .int 0, .int lv, .int 0, .int 0, .int (-1)]))] := hD
  refine W.widen (k := 0) (n := 0) (by decide) (by decide) ?_
  refine W.eq (g2 := F0 m 23 ls []) rfl ?_
  refine lv_iload hx hb dX11_load_23 (lv_at hl 5 rfl) ?_
  refine lv_iconst (v := (-1)) hx hb dX11_load_25 (by decide) ?_
  refine lv_bipush (v := 9) hx hb dX11_load_26 (by decide) ?_
  refine kcallS (wc := []) (wr := [(h0, .inr (13, [.ref a1, .ref a2, .ref a3, .ref a4, .ref a5, .int zh, .int zf, .int zw, .int ze, .int zn, .int zm])), (a1, .inr (2, [.int mc1, .ref q1, .int 1])), (q1, .inl ((g.2.2.1 4), 10, .inr (.inr (.inr (.inr (va_up f1 0 (some l0))))))), (l0, .inr (7, [.int lx, .int ly, .int lz, .ref d1, .ref d2, .ref d3, .int 0, .int lv, .int 0, .int 0, .int (-1)]))]) (As := [.int z, .int (-1), .int 9]) (rest := []) K G (m_X11_requireRange l hl0 g z (-1) 9 p5 p6) hP hD hS hA hl kw_280 kw_281 kw_282 kw_63 ydX11_requireRange [] [0, 1, 2, 3] rfl rfl rfl rfl (by decide) rfl rfl (Nat.le_of_ble_eq_true rfl) dX11_load_28 ⟨Nat.le_of_ble_eq_true rfl, Nat.le_of_ble_eq_true rfl⟩ ⟨Nat.le_of_ble_eq_true rfl, Nat.le_of_ble_eq_true rfl⟩ (fun _ _ _ _ _ _ hX _ _ _ _ _ _ => hX.elim) (fun v w1 H locs hQ hP hD hS => ?_)
  obtain ⟨rfl, rfl⟩ := hQ
  have hP : va_P g.1 vwCl [(h0, .inr (13, [.ref a1, .ref a2, .ref a3, .ref a4, .ref a5, .int zh, .int zf, .int zw, .int ze, .int zn, .int zm])), (a1, .inr (2, [.int mc1, .ref q1, .int 1])), (q1, .inl ((g.2.2.1 4), 10, .inr (.inr (.inr (.inr (va_up f1 0 (some l0))))))), (l0, .inr (7, [.int lx, .int ly, .int lz, .ref d1, .ref d2, .ref d3, .int 0, .int lv, .int 0, .int 0, .int (-1)]))] H := hP
  have hD : va_D A [(h0, .inr (13, [.ref a1, .ref a2, .ref a3, .ref a4, .ref a5, .int zh, .int zf, .int zw, .int ze, .int zn, .int zm])), (a1, .inr (2, [.int mc1, .ref q1, .int 1])), (q1, .inl ((g.2.2.1 4), 10, .inr (.inr (.inr (.inr (va_up f1 0 (some l0))))))), (l0, .inr (7, [.int lx, .int ly, .int lz, .ref d1, .ref d2, .ref d3, .int 0, .int lv, .int 0, .int 0, .int (-1)]))] := hD
  refine W.widen (k := 0) (n := 0) (by decide) (by decide) ?_
  refine W.eq (g2 := F0 m 31 ls []) rfl ?_
  refine lv_aload hx hb dX11_load_31 (lv_at hl 0 rfl) ?_
  refine lv_dup hx hb dX11_load_33 rfl ?_
  refine va_get (D := g.1) (ci := 7) (v := .int 0) (C := RX4) (T := TX4) (N := 11) hx hb G.ws inX4 hown G.K hP 3 rfl rfl 8 (by decide) (G.w kw_485) (fun _ h9 => h9) rfl dX11_load_34 ?_
  refine lv_iload_n hx hb dX11_load_37 rfl (lv_at hl 3 rfl) ?_
  refine lv_iadd hx hb dX11_load_38 ?_
  refine W.eq (g2 := F0 m 39 ls [.int x, .ref l0]) (by rw [Int32.zero_add]) ?_
  refine va_put (D := g.1) (ci := 7) (v := .int x) (ty := .int) (C := RX4) (T := TX4) (N := 11) hx hb G.ws inX4 tyX4 tyX4_ok nmX4 hown G.K hP hD hS 3 rfl rfl 8 (by decide) (G.w kw_485) (fun _ h9 => h9) (by decide +kernel) (by decide +kernel) rfl rfl (Nat.le_of_ble_eq_true rfl) dX11_load_39 (fun H locs hP hD hS => ?_)
  have hP : va_P g.1 vwCl [(h0, .inr (13, [.ref a1, .ref a2, .ref a3, .ref a4, .ref a5, .int zh, .int zf, .int zw, .int ze, .int zn, .int zm])), (a1, .inr (2, [.int mc1, .ref q1, .int 1])), (q1, .inl ((g.2.2.1 4), 10, .inr (.inr (.inr (.inr (va_up f1 0 (some l0))))))), (l0, .inr (7, [.int lx, .int ly, .int lz, .ref d1, .ref d2, .ref d3, .int 0, .int lv, .int x, .int 0, .int (-1)]))] H := hP
  have hD : va_D A [(h0, .inr (13, [.ref a1, .ref a2, .ref a3, .ref a4, .ref a5, .int zh, .int zf, .int zw, .int ze, .int zn, .int zm])), (a1, .inr (2, [.int mc1, .ref q1, .int 1])), (q1, .inl ((g.2.2.1 4), 10, .inr (.inr (.inr (.inr (va_up f1 0 (some l0))))))), (l0, .inr (7, [.int lx, .int ly, .int lz, .ref d1, .ref d2, .ref d3, .int 0, .int lv, .int x, .int 0, .int (-1)]))] := hD
  refine lv_aload hx hb dX11_load_42 (lv_at hl 0 rfl) ?_
  refine lv_dup hx hb dX11_load_44 rfl ?_
  refine va_get (D := g.1) (ci := 7) (v := .int 0) (C := RX4) (T := TX4) (N := 11) hx hb G.ws inX4 hown G.K hP 3 rfl rfl 9 (by decide) (G.w kw_486) (fun _ h9 => h9) rfl dX11_load_45 ?_
  refine lv_iload_n hx hb dX11_load_48 rfl (lv_at hl 4 rfl) ?_
  refine lv_iadd hx hb dX11_load_49 ?_
  refine W.eq (g2 := F0 m 50 ls [.int y, .ref l0]) (by rw [Int32.zero_add]) ?_
  refine va_put (D := g.1) (ci := 7) (v := .int y) (ty := .int) (C := RX4) (T := TX4) (N := 11) hx hb G.ws inX4 tyX4 tyX4_ok nmX4 hown G.K hP hD hS 3 rfl rfl 9 (by decide) (G.w kw_486) (fun _ h9 => h9) (by decide +kernel) (by decide +kernel) rfl rfl (Nat.le_of_ble_eq_true rfl) dX11_load_50 (fun H locs hP hD hS => ?_)
  have hP : va_P g.1 vwCl [(h0, .inr (13, [.ref a1, .ref a2, .ref a3, .ref a4, .ref a5, .int zh, .int zf, .int zw, .int ze, .int zn, .int zm])), (a1, .inr (2, [.int mc1, .ref q1, .int 1])), (q1, .inl ((g.2.2.1 4), 10, .inr (.inr (.inr (.inr (va_up f1 0 (some l0))))))), (l0, .inr (7, [.int lx, .int ly, .int lz, .ref d1, .ref d2, .ref d3, .int 0, .int lv, .int x, .int y, .int (-1)]))] H := hP
  have hD : va_D A [(h0, .inr (13, [.ref a1, .ref a2, .ref a3, .ref a4, .ref a5, .int zh, .int zf, .int zw, .int ze, .int zn, .int zm])), (a1, .inr (2, [.int mc1, .ref q1, .int 1])), (q1, .inl ((g.2.2.1 4), 10, .inr (.inr (.inr (.inr (va_up f1 0 (some l0))))))), (l0, .inr (7, [.int lx, .int ly, .int lz, .ref d1, .ref d2, .ref d3, .int 0, .int lv, .int x, .int y, .int (-1)]))] := hD
  refine lv_iload hx hb dX11_load_53 (lv_at hl 5 rfl) ?_
  refine lv_iconst (v := (-1)) hx hb dX11_load_55 (by decide) ?_
  refine lv_icmp_eq (tgt := 66) hx hb dX11_load_56 (by decide) (fun c56_5 => ?_) (fun c56_5 => ?_)
  · exact absurd c56_5 (by exact hch)
  · refine lv_aload hx hb dX11_load_59 (lv_at hl 0 rfl) ?_
    refine lv_iload hx hb dX11_load_61 (lv_at hl 5 rfl) ?_
    refine va_put (D := g.1) (ci := 7) (v := .int z) (ty := .int) (C := RX4) (T := TX4) (N := 11) hx hb G.ws inX4 tyX4 tyX4_ok nmX4 hown G.K hP hD hS 3 rfl rfl 10 (by decide) (G.w kw_487) (fun _ h9 => h9) (by decide +kernel) (by decide +kernel) rfl rfl (Nat.le_of_ble_eq_true rfl) dX11_load_63 (fun H locs hP hD hS => ?_)
    have hP : va_P g.1 vwCl [(h0, .inr (13, [.ref a1, .ref a2, .ref a3, .ref a4, .ref a5, .int zh, .int zf, .int zw, .int ze, .int zn, .int zm])), (a1, .inr (2, [.int mc1, .ref q1, .int 1])), (q1, .inl ((g.2.2.1 4), 10, .inr (.inr (.inr (.inr (va_up f1 0 (some l0))))))), (l0, .inr (7, [.int lx, .int ly, .int lz, .ref d1, .ref d2, .ref d3, .int 0, .int lv, .int x, .int y, .int z]))] H := hP
    have hD : va_D A [(h0, .inr (13, [.ref a1, .ref a2, .ref a3, .ref a4, .ref a5, .int zh, .int zf, .int zw, .int ze, .int zn, .int zm])), (a1, .inr (2, [.int mc1, .ref q1, .int 1])), (q1, .inl ((g.2.2.1 4), 10, .inr (.inr (.inr (.inr (va_up f1 0 (some l0))))))), (l0, .inr (7, [.int lx, .int ly, .int lz, .ref d1, .ref d2, .ref d3, .int 0, .int lv, .int x, .int y, .int z]))] := hD
    refine lv_aload hx hb dX11_load_66 (lv_at hl 0 rfl) ?_
    refine kcallV (wc := [(l0, .inr (7, [.int lx, .int ly, .int lz, .ref d1, .ref d2, .ref d3, .int 0, .int lv, .int x, .int y, .int z]))]) (wr := [(h0, .inr (13, [.ref a1, .ref a2, .ref a3, .ref a4, .ref a5, .int zh, .int zf, .int zw, .int ze, .int zn, .int zm])), (a1, .inr (2, [.int mc1, .ref q1, .int 1])), (q1, .inl ((g.2.2.1 4), 10, .inr (.inr (.inr (.inr (va_up f1 0 (some l0)))))))]) (As := []) (rest := []) K G (m_X4_tenderCost l hl0 g l0 d1 d2 d3 lx ly lz lv x y z ) hP hD hS hA hl kw_488 kw_489 kw_490 kw_491 kw_94 ydX4_tenderCost [3] [0, 1, 2] rfl rfl rfl rfl (by decide) (ci := 7) (q0 := 3) rfl rfl rfl rfl rfl (Nat.le_of_ble_eq_true rfl) dX11_load_68 ⟨Nat.le_of_ble_eq_true rfl, Nat.le_of_ble_eq_true rfl⟩ ⟨Nat.le_of_ble_eq_true rfl, Nat.le_of_ble_eq_true rfl⟩ (fun _ _ _ _ _ _ hX _ _ _ _ _ _ => hX.elim) (fun v w1 H locs hQ hP hD hS => ?_)
    obtain ⟨rfl, rfl⟩ := hQ
    have hP : va_P g.1 vwCl [(h0, .inr (13, [.ref a1, .ref a2, .ref a3, .ref a4, .ref a5, .int zh, .int zf, .int zw, .int ze, .int zn, .int zm])), (a1, .inr (2, [.int mc1, .ref q1, .int 1])), (q1, .inl ((g.2.2.1 4), 10, .inr (.inr (.inr (.inr (va_up f1 0 (some l0))))))), (l0, .inr (7, [.int lx, .int ly, .int lz, .ref d1, .ref d2, .ref d3, .int 0, .int lv, .int x, .int y, .int z]))] H := hP
    have hD : va_D A [(h0, .inr (13, [.ref a1, .ref a2, .ref a3, .ref a4, .ref a5, .int zh, .int zf, .int zw, .int ze, .int zn, .int zm])), (a1, .inr (2, [.int mc1, .ref q1, .int 1])), (q1, .inl ((g.2.2.1 4), 10, .inr (.inr (.inr (.inr (va_up f1 0 (some l0))))))), (l0, .inr (7, [.int lx, .int ly, .int lz, .ref d1, .ref d2, .ref d3, .int 0, .int lv, .int x, .int y, .int z]))] := hD
    refine W.widen (k := 0) (n := 0) (by decide) (by decide) ?_
    refine W.eq (g2 := F0 m 71 ls [.int (r_X4_tenderCost x y)]) rfl ?_
    exact kretI K hP hD hS [0, 3, 1, 2] [(h0, .inr (13, [.ref a1, .ref a2, .ref a3, .ref a4, .ref a5, .int zh, .int zf, .int zw, .int ze, .int zn, .int zm])), (l0, .inr (7, [.int lx, .int ly, .int lz, .ref d1, .ref d2, .ref d3, .int 0, .int lv, .int x, .int y, .int z])), (a1, .inr (2, [.int mc1, .ref q1, .int 1])), (q1, .inl ((g.2.2.1 4), 10, .inr (.inr (.inr (.inr (va_up f1 0 (some l0)))))))] rfl rfl ⟨(by first | simp only [r_X11_load] | rfl | simp [r_X11_load]), (by first | simp only [r_X11_load] | rfl | simp [r_X11_load])⟩ (by decide) (by decide) dX11_load_71

set_option maxHeartbeats 4000000 in
set_option maxRecDepth 100000 in
theorem m_X11_takeBookedAboard0 (l : Launch) (hl0 : l.stackTraces = false) (g : kG) (h0 : Nat) (a1 : Nat) (a2 : Nat) (a3 : Nat) (a4 : Nat) (a5 : Nat) (zh : Int32) (zf : Int32) (zw : Int32) (ze : Int32) (zn : Int32) (zm : Int32) (e0 : Nat) (q4 : Nat) (mc4 : Int32) (f4 : Nat → Option Nat)  : kc l g yX11_takeBookedAboard prog_1_method_98_code 5 none 3 64 0 0 [.ref h0, .int 0, .int 0] [(h0, .inr (13, [.ref a1, .ref a2, .ref a3, .ref a4, .ref a5, .int zh, .int zf, .int zw, .int ze, .int zn, .int zm])), (a4, .inr (2, [.int mc4, .ref q4, .int 1])), (q4, .inl ((g.2.2.1 4), 10, .inr (.inr (.inr (.inr (va_up f4 0 (some e0))))))), (e0, .inr (8, [.int 0, .int 0, .int (-1), .int 0, .int 0]))] (fun v w => (v = none ∧ w = [(h0, .inr (13, [.ref a1, .ref a2, .ref a3, .ref a4, .ref a5, .int zh, .int zf, .int zw, .int ze, .int zn, .int zm])), (a4, .inr (2, [.int mc4, .ref q4, .int 1])), (q4, .inl ((g.2.2.1 4), 10, .inr (.inr (.inr (.inr (va_up f4 0 (some e0))))))), (e0, .inr (8, [.int 0, .int 0, .int 0, .int 0, .int (-1)]))])) (fun _ _ => False) := by
  refine kbody (by decide) (Nat.le_of_ble_eq_true rfl) ?_
  intro p e s m args below meth c A H K ht G hP hD hA hS ls hl
  have K : KB p s m meth c RX11 "takeBookedAboard" prog_1_method_98_code 5 none := K
  obtain ⟨hx, hb, hml, hown, hlocks, hr, hin⟩ := id K
  have hl : lv_has ls 5 [(0, .ref h0), (1, .int 0), (2, .int 0)] := hl
  refine lv_iconst (v := 0) hx hb dX11_takeBookedAboard_0 (by decide) ?_
  refine lv_istore_n (lv' := [(3, .int 0), (0, .ref h0), (1, .int 0), (2, .int 0)]) hx hb dX11_takeBookedAboard_1 rfl hl (by decide) rfl (fun ls hl => ?_)
  refine lv_iload_n hx hb dX11_takeBookedAboard_2 rfl (lv_at hl 0 rfl) ?_
  refine lv_aload_n hx hb dX11_takeBookedAboard_3 rfl (lv_at hl 1 rfl) ?_
  refine va_get (D := g.1) (ci := 13) (v := .ref a4) (C := RX11) (T := TX11) (N := 11) hx hb G.ws inX11 hown G.K hP 0 rfl rfl 3 (by decide) (G.w kw_122) (fun _ h9 => h9) rfl dX11_takeBookedAboard_4 ?_
  refine kcallV (wc := [(a4, .inr (2, [.int mc4, .ref q4, .int 1]))]) (wr := [(h0, .inr (13, [.ref a1, .ref a2, .ref a3, .ref a4, .ref a5, .int zh, .int zf, .int zw, .int ze, .int zn, .int zm])), (q4, .inl ((g.2.2.1 4), 10, .inr (.inr (.inr (.inr (va_up f4 0 (some e0))))))), (e0, .inr (8, [.int 0, .int 0, .int (-1), .int 0, .int 0]))]) (As := []) (rest := [.int 0]) K G (m_Jx4a65c_size_8abf5 l hl0 g a4 q4 mc4 1 ) hP hD hS hA hl kw_31 kw_82 kw_33 kw_34 kw_22 ydJx4a65c_size_8abf5 [1] [0, 2, 3] rfl rfl rfl rfl (by decide) (ci := 2) (q0 := 1) rfl rfl rfl rfl rfl (Nat.le_of_ble_eq_true rfl) dX11_takeBookedAboard_7 ⟨Nat.le_of_ble_eq_true rfl, Nat.le_of_ble_eq_true rfl⟩ ⟨Nat.le_of_ble_eq_true rfl, Nat.le_of_ble_eq_true rfl⟩ (fun _ _ _ _ _ _ hX _ _ _ _ _ _ => hX.elim) (fun v w1 H locs hQ hP hD hS => ?_)
  obtain ⟨rfl, rfl⟩ := hQ
  have hP : va_P g.1 vwCl [(h0, .inr (13, [.ref a1, .ref a2, .ref a3, .ref a4, .ref a5, .int zh, .int zf, .int zw, .int ze, .int zn, .int zm])), (q4, .inl ((g.2.2.1 4), 10, .inr (.inr (.inr (.inr (va_up f4 0 (some e0))))))), (e0, .inr (8, [.int 0, .int 0, .int (-1), .int 0, .int 0])), (a4, .inr (2, [.int mc4, .ref q4, .int 1]))] H := hP
  have hD : va_D A [(h0, .inr (13, [.ref a1, .ref a2, .ref a3, .ref a4, .ref a5, .int zh, .int zf, .int zw, .int ze, .int zn, .int zm])), (q4, .inl ((g.2.2.1 4), 10, .inr (.inr (.inr (.inr (va_up f4 0 (some e0))))))), (e0, .inr (8, [.int 0, .int 0, .int (-1), .int 0, .int 0])), (a4, .inr (2, [.int mc4, .ref q4, .int 1]))] := hD
  refine W.widen (k := 0) (n := 0) (by decide) (by decide) ?_
  refine W.eq (g2 := F0 m 10 ls [.int 1, .int 0]) rfl ?_
  refine lv_icmp_ge (tgt := 47) hx hb dX11_takeBookedAboard_10 (by decide) (fun c10_2 => absurd c10_2 (by decide)) (fun _ => ?_)
  refine lv_aload_n hx hb dX11_takeBookedAboard_13 rfl (lv_at hl 1 rfl) ?_
  refine va_get (D := g.1) (ci := 13) (v := .ref a4) (C := RX11) (T := TX11) (N := 11) hx hb G.ws inX11 hown G.K hP 0 rfl rfl 3 (by decide) (G.w kw_122) (fun _ h9 => h9) rfl dX11_takeBookedAboard_14 ?_
  refine lv_iload_n hx hb dX11_takeBookedAboard_17 rfl (lv_at hl 0 rfl) ?_
  refine kcallV (wc := [(a4, .inr (2, [.int mc4, .ref q4, .int 1])), (q4, .inl ((g.2.2.1 4), 10, .inr (.inr (.inr (.inr (va_up f4 0 (some e0)))))))]) (wr := [(h0, .inr (13, [.ref a1, .ref a2, .ref a3, .ref a4, .ref a5, .int zh, .int zf, .int zw, .int ze, .int zn, .int zm])), (e0, .inr (8, [.int 0, .int 0, .int (-1), .int 0, .int 0]))]) (As := [.int 0]) (rest := []) K G (m_Jx4a65c_get_915e3 l hl0 g a4 q4 10 e0 mc4 1 0 (va_up f4 0 (some e0)) (by decide) (by decide) rfl (vp_in_iff.mpr ⟨by decide, by decide⟩)) hP hD hS hA hl kw_35 kw_83 kw_37 kw_38 kw_22 ydJx4a65c_get_915e3 [3, 1] [0, 2] rfl rfl rfl rfl (by decide) (ci := 2) (q0 := 3) rfl rfl rfl rfl rfl (Nat.le_of_ble_eq_true rfl) dX11_takeBookedAboard_18 ⟨Nat.le_of_ble_eq_true rfl, Nat.le_of_ble_eq_true rfl⟩ ⟨Nat.le_of_ble_eq_true rfl, Nat.le_of_ble_eq_true rfl⟩ (fun _ _ _ _ _ _ hX _ _ _ _ _ _ => hX.elim) (fun v w1 H locs hQ hP hD hS => ?_)
  obtain ⟨rfl, rfl⟩ := hQ
  have hP : va_P g.1 vwCl [(h0, .inr (13, [.ref a1, .ref a2, .ref a3, .ref a4, .ref a5, .int zh, .int zf, .int zw, .int ze, .int zn, .int zm])), (e0, .inr (8, [.int 0, .int 0, .int (-1), .int 0, .int 0])), (a4, .inr (2, [.int mc4, .ref q4, .int 1])), (q4, .inl ((g.2.2.1 4), 10, .inr (.inr (.inr (.inr (va_up f4 0 (some e0)))))))] H := hP
  have hD : va_D A [(h0, .inr (13, [.ref a1, .ref a2, .ref a3, .ref a4, .ref a5, .int zh, .int zf, .int zw, .int ze, .int zn, .int zm])), (e0, .inr (8, [.int 0, .int 0, .int (-1), .int 0, .int 0])), (a4, .inr (2, [.int mc4, .ref q4, .int 1])), (q4, .inl ((g.2.2.1 4), 10, .inr (.inr (.inr (.inr (va_up f4 0 (some e0)))))))] := hD
  refine W.widen (k := 0) (n := 0) (by decide) (by decide) ?_
  refine W.eq (g2 := F0 m 21 ls [.ref e0]) rfl ?_
  refine va_castE hx hb hown (G.w kw_123) (va_recv (q := (RX5, TX5, 5)) (ci := 8) (q0 := 1) G.K hP rfl rfl) dX11_takeBookedAboard_21 ?_
  refine lv_astore (lv' := [(4, .ref e0), (3, .int 0), (0, .ref h0), (1, .int 0), (2, .int 0)]) hx hb dX11_takeBookedAboard_24 hl (by decide) rfl (fun ls hl => ?_)
  refine lv_aload hx hb dX11_takeBookedAboard_26 (lv_at hl 0 rfl) ?_
  refine va_get (D := g.1) (ci := 8) (v := .int 0) (C := RX5) (T := TX5) (N := 5) hx hb G.ws inX5 hown G.K hP 1 rfl rfl 4 (by decide) (G.w kw_470) (fun _ h9 => h9) rfl dX11_takeBookedAboard_28 ?_
  refine lv_iload_n hx hb dX11_takeBookedAboard_31 rfl (lv_at hl 3 rfl) ?_
  refine lv_icmp_ne (tgt := 41) hx hb dX11_takeBookedAboard_32 (by decide) (fun c32_4 => absurd c32_4 (by decide)) (fun _ => ?_)
  refine lv_aload hx hb dX11_takeBookedAboard_35 (lv_at hl 0 rfl) ?_
  refine lv_iload_n hx hb dX11_takeBookedAboard_37 rfl (lv_at hl 4 rfl) ?_
  refine kcallV (wc := [(e0, .inr (8, [.int 0, .int 0, .int (-1), .int 0, .int 0]))]) (wr := [(h0, .inr (13, [.ref a1, .ref a2, .ref a3, .ref a4, .ref a5, .int zh, .int zf, .int zw, .int ze, .int zn, .int zm])), (a4, .inr (2, [.int mc4, .ref q4, .int 1])), (q4, .inl ((g.2.2.1 4), 10, .inr (.inr (.inr (.inr (va_up f4 0 (some e0)))))))]) (As := [.int 0]) (rest := []) K G (m_X5_moveTo l hl0 g e0 0 0 (-1) 0 0 0 ) hP hD hS hA hl kw_492 kw_493 kw_494 kw_495 kw_465 ydX5_moveTo [1] [0, 2, 3] rfl rfl rfl rfl (by decide) (ci := 8) (q0 := 1) rfl rfl rfl rfl rfl (Nat.le_of_ble_eq_true rfl) dX11_takeBookedAboard_38 ⟨Nat.le_of_ble_eq_true rfl, Nat.le_of_ble_eq_true rfl⟩ ⟨Nat.le_of_ble_eq_true rfl, Nat.le_of_ble_eq_true rfl⟩ (fun _ _ _ _ _ _ hX _ _ _ _ _ _ => hX.elim) (fun v w1 H locs hQ hP hD hS => ?_)
  obtain ⟨rfl, rfl⟩ := hQ
  have hP : va_P g.1 vwCl [(h0, .inr (13, [.ref a1, .ref a2, .ref a3, .ref a4, .ref a5, .int zh, .int zf, .int zw, .int ze, .int zn, .int zm])), (a4, .inr (2, [.int mc4, .ref q4, .int 1])), (q4, .inl ((g.2.2.1 4), 10, .inr (.inr (.inr (.inr (va_up f4 0 (some e0))))))), (e0, .inr (8, [.int 0, .int 0, .int 0, .int 0, .int (-1)]))] H := hP
  have hD : va_D A [(h0, .inr (13, [.ref a1, .ref a2, .ref a3, .ref a4, .ref a5, .int zh, .int zf, .int zw, .int ze, .int zn, .int zm])), (a4, .inr (2, [.int mc4, .ref q4, .int 1])), (q4, .inl ((g.2.2.1 4), 10, .inr (.inr (.inr (.inr (va_up f4 0 (some e0))))))), (e0, .inr (8, [.int 0, .int 0, .int 0, .int 0, .int (-1)]))] := hD
  refine W.widen (k := 0) (n := 0) (by decide) (by decide) ?_
  refine W.eq (g2 := F0 m 41 ls []) rfl ?_
  refine lv_iinc (v := 1) (lv' := [(3, .int 1), (4, .ref e0), (0, .ref h0), (1, .int 0), (2, .int 0)]) hx hb dX11_takeBookedAboard_41 hl (k := 1) rfl (by decide) (by decide) rfl (fun ls hl => ?_)
  refine lv_goto (tgt := 2) hx hb dX11_takeBookedAboard_44 (by decide) ?_
  refine lv_iload_n hx hb dX11_takeBookedAboard_2 rfl (lv_at hl 0 rfl) ?_
  refine lv_aload_n hx hb dX11_takeBookedAboard_3 rfl (lv_at hl 2 rfl) ?_
  refine va_get (D := g.1) (ci := 13) (v := .ref a4) (C := RX11) (T := TX11) (N := 11) hx hb G.ws inX11 hown G.K hP 0 rfl rfl 3 (by decide) (G.w kw_122) (fun _ h9 => h9) rfl dX11_takeBookedAboard_4 ?_
  refine kcallV (wc := [(a4, .inr (2, [.int mc4, .ref q4, .int 1]))]) (wr := [(h0, .inr (13, [.ref a1, .ref a2, .ref a3, .ref a4, .ref a5, .int zh, .int zf, .int zw, .int ze, .int zn, .int zm])), (q4, .inl ((g.2.2.1 4), 10, .inr (.inr (.inr (.inr (va_up f4 0 (some e0))))))), (e0, .inr (8, [.int 0, .int 0, .int 0, .int 0, .int (-1)]))]) (As := []) (rest := [.int 1]) K G (m_Jx4a65c_size_8abf5 l hl0 g a4 q4 mc4 1 ) hP hD hS hA hl kw_31 kw_82 kw_33 kw_34 kw_22 ydJx4a65c_size_8abf5 [1] [0, 2, 3] rfl rfl rfl rfl (by decide) (ci := 2) (q0 := 1) rfl rfl rfl rfl rfl (Nat.le_of_ble_eq_true rfl) dX11_takeBookedAboard_7 ⟨Nat.le_of_ble_eq_true rfl, Nat.le_of_ble_eq_true rfl⟩ ⟨Nat.le_of_ble_eq_true rfl, Nat.le_of_ble_eq_true rfl⟩ (fun _ _ _ _ _ _ hX _ _ _ _ _ _ => hX.elim) (fun v w1 H locs hQ hP hD hS => ?_)
  obtain ⟨rfl, rfl⟩ := hQ
  have hP : va_P g.1 vwCl [(h0, .inr (13, [.ref a1, .ref a2, .ref a3, .ref a4, .ref a5, .int zh, .int zf, .int zw, .int ze, .int zn, .int zm])), (q4, .inl ((g.2.2.1 4), 10, .inr (.inr (.inr (.inr (va_up f4 0 (some e0))))))), (e0, .inr (8, [.int 0, .int 0, .int 0, .int 0, .int (-1)])), (a4, .inr (2, [.int mc4, .ref q4, .int 1]))] H := hP
  have hD : va_D A [(h0, .inr (13, [.ref a1, .ref a2, .ref a3, .ref a4, .ref a5, .int zh, .int zf, .int zw, .int ze, .int zn, .int zm])), (q4, .inl ((g.2.2.1 4), 10, .inr (.inr (.inr (.inr (va_up f4 0 (some e0))))))), (e0, .inr (8, [.int 0, .int 0, .int 0, .int 0, .int (-1)])), (a4, .inr (2, [.int mc4, .ref q4, .int 1]))] := hD
  refine W.widen (k := 0) (n := 0) (by decide) (by decide) ?_
  refine W.eq (g2 := F0 m 10 ls [.int 1, .int 1]) rfl ?_
  refine lv_icmp_ge (tgt := 47) hx hb dX11_takeBookedAboard_10 (by decide) (fun _ => ?_) (fun c10_7 => absurd c10_7 (by decide))
  exact kretV K hP hD hS [0, 3, 1, 2] [(h0, .inr (13, [.ref a1, .ref a2, .ref a3, .ref a4, .ref a5, .int zh, .int zf, .int zw, .int ze, .int zn, .int zm])), (a4, .inr (2, [.int mc4, .ref q4, .int 1])), (q4, .inl ((g.2.2.1 4), 10, .inr (.inr (.inr (.inr (va_up f4 0 (some e0))))))), (e0, .inr (8, [.int 0, .int 0, .int 0, .int 0, .int (-1)]))] rfl rfl ⟨rfl, rfl⟩ (by decide) (by decide) dX11_takeBookedAboard_47

