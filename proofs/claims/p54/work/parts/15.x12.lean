set_option maxHeartbeats 4000000 in
set_option maxRecDepth 100000 in
theorem m_X11_addTown2 (l : Launch) (hl0 : l.stackTraces = false) (g : kG) (h0 : Nat) (a1 : Nat) (a2 : Nat) (a3 : Nat) (a4 : Nat) (a5 : Nat) (zh : Int32) (zf : Int32) (zw : Int32) (ze : Int32) (zn : Int32) (zm : Int32) (l0 : Nat) (d1 : Nat) (d2 : Nat) (d3 : Nat) (lx : Int32) (ly : Int32) (lz : Int32) (lv : Int32) (lf : Int32) (lo : Int32) (lc : Int32) (q1 : Nat) (mc1 : Int32) (f1 : Nat → Option Nat) (mc2 : Int32) (x : Int32) (y : Int32) (z : Int32) (q2 : Nat) (f2 : Nat → Option Nat) (w0 : Nat) (w0b : Nat) (p1 : ¬ x < (-999)) (p2 : x ≤ 999) (p3 : ¬ y < (-999)) (p4 : y ≤ 999) (p5 : ¬ z < 1) (p6 : z ≤ 999) : kc l g yX11_addTown prog_1_method_7_code 5 (some .int) 4 85 1 5 [.ref h0, .int 0, .int x, .int y, .int z] [(h0, .inr (13, [.ref a1, .ref a2, .ref a3, .ref a4, .ref a5, .int zh, .int zf, .int zw, .int ze, .int zn, .int zm])), (l0, .inr (7, [.int lx, .int ly, .int lz, .ref d1, .ref d2, .ref d3, .int 0, .int lv, .int lf, .int lo, .int lc])), (a1, .inr (2, [.int mc1, .ref q1, .int 1])), (q1, .inl ((g.2.2.1 4), 10, .inr (.inr (.inr (.inr (va_up f1 0 (some l0))))))), (a2, .inr (2, [.int mc2, .ref q2, .int 2])), (q2, .inl ((g.2.2.1 4), 10, .inr (.inr (.inr (.inr (va_up (va_up f2 0 (some w0)) 1 (some w0b)))))))] (fun v w => (∃ w0c : Nat, v = some (.int 2) ∧ w = [(h0, .inr (13, [.ref a1, .ref a2, .ref a3, .ref a4, .ref a5, .int zh, .int zf, .int zw, .int ze, .int zn, .int zm])), (l0, .inr (7, [.int lx, .int ly, .int lz, .ref d1, .ref d2, .ref d3, .int 0, .int lv, .int lf, .int lo, .int lc])), (a1, .inr (2, [.int mc1, .ref q1, .int 1])), (q1, .inl ((g.2.2.1 4), 10, .inr (.inr (.inr (.inr (va_up f1 0 (some l0))))))), (a2, .inr (2, [.int (mc2 + 1), .ref q2, .int 3])), (q2, .inl ((g.2.2.1 4), 10, .inr (.inr (.inr (.inr (va_up (va_up (va_up f2 0 (some w0)) 1 (some w0b)) 2 (some w0c))))))), (w0c, .inr (12, [.int 0, .int x, .int y, .int z, .int (-1)]))])) (fun _ _ => False) := by
  refine kbody (by decide) (Nat.le_of_ble_eq_true rfl) ?_
  intro p e s m args below meth c A H K ht G hP hD hA hS ls hl
  have K : KB p s m meth c RX11 "addTown" prog_1_method_7_code 5 (some .int) := K
  obtain ⟨hx, hb, hml, hown, hlocks, hr, hin⟩ := id K
  have hl : lv_has ls 5 [(0, .ref h0), (1, .int 0), (2, .int x), (3, .int y), (4, .int z)] := hl
  refine lv_aload_n hx hb dX11_addTown_0 rfl (lv_at hl 0 rfl) ?_
  refine lv_iload_n hx hb dX11_addTown_1 rfl (lv_at hl 1 rfl) ?_
  refine kcallV (wc := [(h0, .inr (13, [.ref a1, .ref a2, .ref a3, .ref a4, .ref a5, .int zh, .int zf, .int zw, .int ze, .int zn, .int zm])), (a1, .inr (2, [.int mc1, .ref q1, .int 1])), (q1, .inl ((g.2.2.1 4), 10, .inr (.inr (.inr (.inr (va_up f1 0 (some l0))))))), (l0, .inr (7, [.int lx, .int ly, .int lz, .ref d1, .ref d2, .ref d3, .int 0, .int lv, .int lf, .int lo, .int lc]))]) (wr := [(a2, .inr (2, [.int mc2, .ref q2, .int 2])), (q2, .inl ((g.2.2.1 4), 10, .inr (.inr (.inr (.inr (va_up (va_up f2 0 (some w0)) 1 (some w0b)))))))]) (As := [.int 0]) (rest := []) K G (m_X11_landAt l hl0 g h0 a1 a2 a3 a4 a5 zh zf zw ze zn zm q1 mc1 f1 l0 d1 d2 d3 lx ly lz lv lf lo lc ) hP hD hS hA hl kw_405 kw_406 kw_407 kw_408 kw_63 ydX11_landAt [0, 2, 3, 1] [4, 5] rfl rfl rfl rfl (by decide) (ci := 13) (q0 := 0) rfl rfl rfl rfl rfl (Nat.le_of_ble_eq_true rfl) dX11_addTown_2 ⟨Nat.le_of_ble_eq_true rfl, Nat.le_of_ble_eq_true rfl⟩ ⟨Nat.le_of_ble_eq_true rfl, Nat.le_of_ble_eq_true rfl⟩ (fun _ _ _ _ _ _ hX _ _ _ _ _ _ => hX.elim) (fun v w1 H locs hQ hP hD hS => ?_)
  obtain ⟨rfl, rfl⟩ := hQ
  have hP : va_P g.1 vwCl [(a2, .inr (2, [.int mc2, .ref q2, .int 2])), (q2, .inl ((g.2.2.1 4), 10, .inr (.inr (.inr (.inr (va_up (va_up f2 0 (some w0)) 1 (some w0b))))))), (h0, .inr (13, [.ref a1, .ref a2, .ref a3, .ref a4, .ref a5, .int zh, .int zf, .int zw, .int ze, .int zn, .int zm])), (a1, .inr (2, [.int mc1, .ref q1, .int 1])), (q1, .inl ((g.2.2.1 4), 10, .inr (.inr (.inr (.inr (va_up f1 0 (some l0))))))), (l0, .inr (7, [.int lx, .int ly, .int lz, .ref d1, .ref d2, .ref d3, .int 0, .int lv, .int lf, .int lo, .int lc]))] H := hP
  have hD : va_D A [(a2, .inr (2, [.int mc2, .ref q2, .int 2])), (q2, .inl ((g.2.2.1 4), 10, .inr (.inr (.inr (.inr (va_up (va_up f2 0 (some w0)) 1 (some w0b))))))), (h0, .inr (13, [.ref a1, .ref a2, .ref a3, .ref a4, .ref a5, .int zh, .int zf, .int zw, .int ze, .int zn, .int zm])), (a1, .inr (2, [.int mc1, .ref q1, .int 1])), (q1, .inl ((g.2.2.1 4), 10, .inr (.inr (.inr (.inr (va_up f1 0 (some l0))))))), (l0, .inr (7, [.int lx, .int ly, .int lz, .ref d1, .ref d2, .ref d3, .int 0, .int lv, .int lf, .int lo, .int lc]))] := hD
  refine W.widen (k := 0) (n := 0) (by decide) (by decide) ?_
  refine W.eq (g2 := F0 m 5 ls [.ref l0]) rfl ?_
  refine lv_pop hx hb dX11_addTown_5 rfl ?_
  refine lv_iload_n hx hb dX11_addTown_6 rfl (lv_at hl 2 rfl) ?_
  refine lv_iload_n hx hb dX11_addTown_7 rfl (lv_at hl 3 rfl) ?_
  refine kcallS (wc := []) (wr := [(a2, .inr (2, [.int mc2, .ref q2, .int 2])), (q2, .inl ((g.2.2.1 4), 10, .inr (.inr (.inr (.inr (va_up (va_up f2 0 (some w0)) 1 (some w0b))))))), (h0, .inr (13, [.ref a1, .ref a2, .ref a3, .ref a4, .ref a5, .int zh, .int zf, .int zw, .int ze, .int zn, .int zm])), (a1, .inr (2, [.int mc1, .ref q1, .int 1])), (q1, .inl ((g.2.2.1 4), 10, .inr (.inr (.inr (.inr (va_up f1 0 (some l0))))))), (l0, .inr (7, [.int lx, .int ly, .int lz, .ref d1, .ref d2, .ref d3, .int 0, .int lv, .int lf, .int lo, .int lc]))]) (As := [.int x, .int y]) (rest := []) K G (m_X11_requirePlace l hl0 g x y p1 p2 p3 p4) hP hD hS hA hl kw_397 kw_398 kw_399 kw_63 ydX11_requirePlace [] [0, 1, 2, 3, 4, 5] rfl rfl rfl rfl (by decide) rfl rfl (Nat.le_of_ble_eq_true rfl) dX11_addTown_8 ⟨Nat.le_of_ble_eq_true rfl, Nat.le_of_ble_eq_true rfl⟩ ⟨Nat.le_of_ble_eq_true rfl, Nat.le_of_ble_eq_true rfl⟩ (fun _ _ _ _ _ _ hX _ _ _ _ _ _ => hX.elim) (fun v w1 H locs hQ hP hD hS => ?_)
  obtain ⟨rfl, rfl⟩ := hQ
  have hP : va_P g.1 vwCl [(a2, .inr (2, [.int mc2, .ref q2, .int 2])), (q2, .inl ((g.2.2.1 4), 10, .inr (.inr (.inr (.inr (va_up (va_up f2 0 (some w0)) 1 (some w0b))))))), (h0, .inr (13, [.ref a1, .ref a2, .ref a3, .ref a4, .ref a5, .int zh, .int zf, .int zw, .int ze, .int zn, .int zm])), (a1, .inr (2, [.int mc1, .ref q1, .int 1])), (q1, .inl ((g.2.2.1 4), 10, .inr (.inr (.inr (.inr (va_up f1 0 (some l0))))))), (l0, .inr (7, [.int lx, .int ly, .int lz, .ref d1, .ref d2, .ref d3, .int 0, .int lv, .int lf, .int lo, .int lc]))] H := hP
  have hD : va_D A [(a2, .inr (2, [.int mc2, .ref q2, .int 2])), (q2, .inl ((g.2.2.1 4), 10, .inr (.inr (.inr (.inr (va_up (va_up f2 0 (some w0)) 1 (some w0b))))))), (h0, .inr (13, [.ref a1, .ref a2, .ref a3, .ref a4, .ref a5, .int zh, .int zf, .int zw, .int ze, .int zn, .int zm])), (a1, .inr (2, [.int mc1, .ref q1, .int 1])), (q1, .inl ((g.2.2.1 4), 10, .inr (.inr (.inr (.inr (va_up f1 0 (some l0))))))), (l0, .inr (7, [.int lx, .int ly, .int lz, .ref d1, .ref d2, .ref d3, .int 0, .int lv, .int lf, .int lo, .int lc]))] := hD
  refine W.widen (k := 0) (n := 0) (by decide) (by decide) ?_
  refine W.eq (g2 := F0 m 11 ls []) rfl ?_
  refine lv_iload hx hb dX11_addTown_11 (lv_at hl 4 rfl) ?_
  refine lv_iconst (v := 1) hx hb dX11_addTown_13 (by decide) ?_
  refine lv_sipush (v := 999) hx hb dX11_addTown_14 (by decide) ?_
  refine kcallS (wc := []) (wr := [(a2, .inr (2, [.int mc2, .ref q2, .int 2])), (q2, .inl ((g.2.2.1 4), 10, .inr (.inr (.inr (.inr (va_up (va_up f2 0 (some w0)) 1 (some w0b))))))), (h0, .inr (13, [.ref a1, .ref a2, .ref a3, .ref a4, .ref a5, .int zh, .int zf, .int zw, .int ze, .int zn, .int zm])), (a1, .inr (2, [.int mc1, .ref q1, .int 1])), (q1, .inl ((g.2.2.1 4), 10, .inr (.inr (.inr (.inr (va_up f1 0 (some l0))))))), (l0, .inr (7, [.int lx, .int ly, .int lz, .ref d1, .ref d2, .ref d3, .int 0, .int lv, .int lf, .int lo, .int lc]))]) (As := [.int z, .int 1, .int 999]) (rest := []) K G (m_X11_requireRange l hl0 g z 1 999 p5 p6) hP hD hS hA hl kw_280 kw_281 kw_282 kw_63 ydX11_requireRange [] [0, 1, 2, 3, 4, 5] rfl rfl rfl rfl (by decide) rfl rfl (Nat.le_of_ble_eq_true rfl) dX11_addTown_17 ⟨Nat.le_of_ble_eq_true rfl, Nat.le_of_ble_eq_true rfl⟩ ⟨Nat.le_of_ble_eq_true rfl, Nat.le_of_ble_eq_true rfl⟩ (fun _ _ _ _ _ _ hX _ _ _ _ _ _ => hX.elim) (fun v w1 H locs hQ hP hD hS => ?_)
  obtain ⟨rfl, rfl⟩ := hQ
  have hP : va_P g.1 vwCl [(a2, .inr (2, [.int mc2, .ref q2, .int 2])), (q2, .inl ((g.2.2.1 4), 10, .inr (.inr (.inr (.inr (va_up (va_up f2 0 (some w0)) 1 (some w0b))))))), (h0, .inr (13, [.ref a1, .ref a2, .ref a3, .ref a4, .ref a5, .int zh, .int zf, .int zw, .int ze, .int zn, .int zm])), (a1, .inr (2, [.int mc1, .ref q1, .int 1])), (q1, .inl ((g.2.2.1 4), 10, .inr (.inr (.inr (.inr (va_up f1 0 (some l0))))))), (l0, .inr (7, [.int lx, .int ly, .int lz, .ref d1, .ref d2, .ref d3, .int 0, .int lv, .int lf, .int lo, .int lc]))] H := hP
  have hD : va_D A [(a2, .inr (2, [.int mc2, .ref q2, .int 2])), (q2, .inl ((g.2.2.1 4), 10, .inr (.inr (.inr (.inr (va_up (va_up f2 0 (some w0)) 1 (some w0b))))))), (h0, .inr (13, [.ref a1, .ref a2, .ref a3, .ref a4, .ref a5, .int zh, .int zf, .int zw, .int ze, .int zn, .int zm])), (a1, .inr (2, [.int mc1, .ref q1, .int 1])), (q1, .inl ((g.2.2.1 4), 10, .inr (.inr (.inr (.inr (va_up f1 0 (some l0))))))), (l0, .inr (7, [.int lx, .int ly, .int lz, .ref d1, .ref d2, .ref d3, .int 0, .int lv, .int lf, .int lo, .int lc]))] := hD
  refine W.widen (k := 0) (n := 0) (by decide) (by decide) ?_
  refine W.eq (g2 := F0 m 20 ls []) rfl ?_
  refine lv_aload_n hx hb dX11_addTown_20 rfl (lv_at hl 0 rfl) ?_
  refine va_get (D := g.1) (ci := 13) (v := .ref a2) (C := RX11) (T := TX11) (N := 11) hx hb G.ws inX11 hown G.K hP 2 rfl rfl 1 (by decide) (G.w kw_199) (fun _ h9 => h9) rfl dX11_addTown_21 ?_
  refine kcallV (wc := [(a2, .inr (2, [.int mc2, .ref q2, .int 2]))]) (wr := [(q2, .inl ((g.2.2.1 4), 10, .inr (.inr (.inr (.inr (va_up (va_up f2 0 (some w0)) 1 (some w0b))))))), (h0, .inr (13, [.ref a1, .ref a2, .ref a3, .ref a4, .ref a5, .int zh, .int zf, .int zw, .int ze, .int zn, .int zm])), (a1, .inr (2, [.int mc1, .ref q1, .int 1])), (q1, .inl ((g.2.2.1 4), 10, .inr (.inr (.inr (.inr (va_up f1 0 (some l0))))))), (l0, .inr (7, [.int lx, .int ly, .int lz, .ref d1, .ref d2, .ref d3, .int 0, .int lv, .int lf, .int lo, .int lc]))]) (As := []) (rest := []) K G (m_Jx4a65c_size_8abf5 l hl0 g a2 q2 mc2 2 ) hP hD hS hA hl kw_31 kw_82 kw_33 kw_34 kw_22 ydJx4a65c_size_8abf5 [0] [1, 2, 3, 4, 5] rfl rfl rfl rfl (by decide) (ci := 2) (q0 := 0) rfl rfl rfl rfl rfl (Nat.le_of_ble_eq_true rfl) dX11_addTown_24 ⟨Nat.le_of_ble_eq_true rfl, Nat.le_of_ble_eq_true rfl⟩ ⟨Nat.le_of_ble_eq_true rfl, Nat.le_of_ble_eq_true rfl⟩ (fun _ _ _ _ _ _ hX _ _ _ _ _ _ => hX.elim) (fun v w1 H locs hQ hP hD hS => ?_)
  obtain ⟨rfl, rfl⟩ := hQ
  have hP : va_P g.1 vwCl [(q2, .inl ((g.2.2.1 4), 10, .inr (.inr (.inr (.inr (va_up (va_up f2 0 (some w0)) 1 (some w0b))))))), (h0, .inr (13, [.ref a1, .ref a2, .ref a3, .ref a4, .ref a5, .int zh, .int zf, .int zw, .int ze, .int zn, .int zm])), (a1, .inr (2, [.int mc1, .ref q1, .int 1])), (q1, .inl ((g.2.2.1 4), 10, .inr (.inr (.inr (.inr (va_up f1 0 (some l0))))))), (l0, .inr (7, [.int lx, .int ly, .int lz, .ref d1, .ref d2, .ref d3, .int 0, .int lv, .int lf, .int lo, .int lc])), (a2, .inr (2, [.int mc2, .ref q2, .int 2]))] H := hP
  have hD : va_D A [(q2, .inl ((g.2.2.1 4), 10, .inr (.inr (.inr (.inr (va_up (va_up f2 0 (some w0)) 1 (some w0b))))))), (h0, .inr (13, [.ref a1, .ref a2, .ref a3, .ref a4, .ref a5, .int zh, .int zf, .int zw, .int ze, .int zn, .int zm])), (a1, .inr (2, [.int mc1, .ref q1, .int 1])), (q1, .inl ((g.2.2.1 4), 10, .inr (.inr (.inr (.inr (va_up f1 0 (some l0))))))), (l0, .inr (7, [.int lx, .int ly, .int lz, .ref d1, .ref d2, .ref d3, .int 0, .int lv, .int lf, .int lo, .int lc])), (a2, .inr (2, [.int mc2, .ref q2, .int 2]))] := hD
  refine W.widen (k := 0) (n := 0) (by decide) (by decide) ?_
  refine W.eq (g2 := F0 m 27 ls [.int 2]) rfl ?_
  refine lv_bipush (v := 6) hx hb dX11_addTown_27 (by decide) ?_
  refine kcallS (wc := []) (wr := [(q2, .inl ((g.2.2.1 4), 10, .inr (.inr (.inr (.inr (va_up (va_up f2 0 (some w0)) 1 (some w0b))))))), (h0, .inr (13, [.ref a1, .ref a2, .ref a3, .ref a4, .ref a5, .int zh, .int zf, .int zw, .int ze, .int zn, .int zm])), (a1, .inr (2, [.int mc1, .ref q1, .int 1])), (q1, .inl ((g.2.2.1 4), 10, .inr (.inr (.inr (.inr (va_up f1 0 (some l0))))))), (l0, .inr (7, [.int lx, .int ly, .int lz, .ref d1, .ref d2, .ref d3, .int 0, .int lv, .int lf, .int lo, .int lc])), (a2, .inr (2, [.int mc2, .ref q2, .int 2]))]) (As := [.int 2, .int 6]) (rest := []) K G (m_X11_requireRoom l hl0 g 2 6 (by decide)) hP hD hS hA hl kw_409 kw_410 kw_411 kw_63 ydX11_requireRoom [] [0, 1, 2, 3, 4, 5] rfl rfl rfl rfl (by decide) rfl rfl (Nat.le_of_ble_eq_true rfl) dX11_addTown_29 ⟨Nat.le_of_ble_eq_true rfl, Nat.le_of_ble_eq_true rfl⟩ ⟨Nat.le_of_ble_eq_true rfl, Nat.le_of_ble_eq_true rfl⟩ (fun _ _ _ _ _ _ hX _ _ _ _ _ _ => hX.elim) (fun v w1 H locs hQ hP hD hS => ?_)
  obtain ⟨rfl, rfl⟩ := hQ
  have hP : va_P g.1 vwCl [(q2, .inl ((g.2.2.1 4), 10, .inr (.inr (.inr (.inr (va_up (va_up f2 0 (some w0)) 1 (some w0b))))))), (h0, .inr (13, [.ref a1, .ref a2, .ref a3, .ref a4, .ref a5, .int zh, .int zf, .int zw, .int ze, .int zn, .int zm])), (a1, .inr (2, [.int mc1, .ref q1, .int 1])), (q1, .inl ((g.2.2.1 4), 10, .inr (.inr (.inr (.inr (va_up f1 0 (some l0))))))), (l0, .inr (7, [.int lx, .int ly, .int lz, .ref d1, .ref d2, .ref d3, .int 0, .int lv, .int lf, .int lo, .int lc])), (a2, .inr (2, [.int mc2, .ref q2, .int 2]))] H := hP
  have hD : va_D A [(q2, .inl ((g.2.2.1 4), 10, .inr (.inr (.inr (.inr (va_up (va_up f2 0 (some w0)) 1 (some w0b))))))), (h0, .inr (13, [.ref a1, .ref a2, .ref a3, .ref a4, .ref a5, .int zh, .int zf, .int zw, .int ze, .int zn, .int zm])), (a1, .inr (2, [.int mc1, .ref q1, .int 1])), (q1, .inl ((g.2.2.1 4), 10, .inr (.inr (.inr (.inr (va_up f1 0 (some l0))))))), (l0, .inr (7, [.int lx, .int ly, .int lz, .ref d1, .ref d2, .ref d3, .int 0, .int lv, .int lf, .int lo, .int lc])), (a2, .inr (2, [.int mc2, .ref q2, .int 2]))] := hD
  refine W.widen (k := 0) (n := 0) (by decide) (by decide) ?_
  refine W.eq (g2 := F0 m 32 ls []) rfl ?_
  refine lv_aload_n hx hb dX11_addTown_32 rfl (lv_at hl 0 rfl) ?_
  refine va_get (D := g.1) (ci := 13) (v := .ref a2) (C := RX11) (T := TX11) (N := 11) hx hb G.ws inX11 hown G.K hP 1 rfl rfl 1 (by decide) (G.w kw_199) (fun _ h9 => h9) rfl dX11_addTown_33 ?_
  refine va_new (D := g.1) (ci := 12) (fs := [.int 0, .int 0, .int 0, .int 0, .int 0]) (C := RX10) (T := TX10) (N := 5) hx hb G.ws inX10 tyX10 tyX10_ok hown (G.w kw_200) (G.w kw_510) (G.w kw_511) G.K hP hD hS hA rfl (fun j hj => by rcases (show j = 0 ∨ j = 1 ∨ j = 2 ∨ j = 3 ∨ j = 4 by omega) with rfl | rfl | rfl | rfl | rfl <;> rfl) (by decide) (by decide) dX11_addTown_36 (fun q_6 H hP hD hS => ?_)
  have hP : va_P g.1 vwCl [(q2, .inl ((g.2.2.1 4), 10, .inr (.inr (.inr (.inr (va_up (va_up f2 0 (some w0)) 1 (some w0b))))))), (h0, .inr (13, [.ref a1, .ref a2, .ref a3, .ref a4, .ref a5, .int zh, .int zf, .int zw, .int ze, .int zn, .int zm])), (a1, .inr (2, [.int mc1, .ref q1, .int 1])), (q1, .inl ((g.2.2.1 4), 10, .inr (.inr (.inr (.inr (va_up f1 0 (some l0))))))), (l0, .inr (7, [.int lx, .int ly, .int lz, .ref d1, .ref d2, .ref d3, .int 0, .int lv, .int lf, .int lo, .int lc])), (a2, .inr (2, [.int mc2, .ref q2, .int 2])), (q_6, .inr (12, [.int 0, .int 0, .int 0, .int 0, .int 0]))] H := hP
  have hD : va_D A [(q2, .inl ((g.2.2.1 4), 10, .inr (.inr (.inr (.inr (va_up (va_up f2 0 (some w0)) 1 (some w0b))))))), (h0, .inr (13, [.ref a1, .ref a2, .ref a3, .ref a4, .ref a5, .int zh, .int zf, .int zw, .int ze, .int zn, .int zm])), (a1, .inr (2, [.int mc1, .ref q1, .int 1])), (q1, .inl ((g.2.2.1 4), 10, .inr (.inr (.inr (.inr (va_up f1 0 (some l0))))))), (l0, .inr (7, [.int lx, .int ly, .int lz, .ref d1, .ref d2, .ref d3, .int 0, .int lv, .int lf, .int lo, .int lc])), (a2, .inr (2, [.int mc2, .ref q2, .int 2])), (q_6, .inr (12, [.int 0, .int 0, .int 0, .int 0, .int 0]))] := hD
  refine W.widen (k := 1) (n := 5) (by decide) (by decide) ?_
  refine lv_dup hx hb dX11_addTown_39 rfl ?_
  refine lv_iload_n hx hb dX11_addTown_40 rfl (lv_at hl 1 rfl) ?_
  refine lv_iload_n hx hb dX11_addTown_41 rfl (lv_at hl 2 rfl) ?_
  refine lv_iload_n hx hb dX11_addTown_42 rfl (lv_at hl 3 rfl) ?_
  refine lv_iload hx hb dX11_addTown_43 (lv_at hl 4 rfl) ?_
  refine kcallI (wc := [(q_6, .inr (12, [.int 0, .int 0, .int 0, .int 0, .int 0]))]) (wr := [(q2, .inl ((g.2.2.1 4), 10, .inr (.inr (.inr (.inr (va_up (va_up f2 0 (some w0)) 1 (some w0b))))))), (h0, .inr (13, [.ref a1, .ref a2, .ref a3, .ref a4, .ref a5, .int zh, .int zf, .int zw, .int ze, .int zn, .int zm])), (a1, .inr (2, [.int mc1, .ref q1, .int 1])), (q1, .inl ((g.2.2.1 4), 10, .inr (.inr (.inr (.inr (va_up f1 0 (some l0))))))), (l0, .inr (7, [.int lx, .int ly, .int lz, .ref d1, .ref d2, .ref d3, .int 0, .int lv, .int lf, .int lo, .int lc])), (a2, .inr (2, [.int mc2, .ref q2, .int 2]))]) (As := [.int 0, .int x, .int y, .int z]) (rest := [.ref q_6, .ref a2]) K G (m_X10_init l hl0 g q_6 0 x y z ) hP hD hS hA hl kw_512 kw_513 kw_514 kw_511 rfl ydX10_init [6] [0, 1, 2, 3, 4, 5] rfl rfl rfl rfl (by decide) rfl rfl (Nat.le_of_ble_eq_true rfl) dX11_addTown_45 ⟨Nat.le_of_ble_eq_true rfl, Nat.le_of_ble_eq_true rfl⟩ ⟨Nat.le_of_ble_eq_true rfl, Nat.le_of_ble_eq_true rfl⟩ (fun _ _ _ _ _ _ hX _ _ _ _ _ _ => hX.elim) (fun v w1 H locs hQ hP hD hS => ?_)
  obtain ⟨rfl, rfl⟩ := hQ
  have hP : va_P g.1 vwCl [(q2, .inl ((g.2.2.1 4), 10, .inr (.inr (.inr (.inr (va_up (va_up f2 0 (some w0)) 1 (some w0b))))))), (h0, .inr (13, [.ref a1, .ref a2, .ref a3, .ref a4, .ref a5, .int zh, .int zf, .int zw, .int ze, .int zn, .int zm])), (a1, .inr (2, [.int mc1, .ref q1, .int 1])), (q1, .inl ((g.2.2.1 4), 10, .inr (.inr (.inr (.inr (va_up f1 0 (some l0))))))), (l0, .inr (7, [.int lx, .int ly, .int lz, .ref d1, .ref d2, .ref d3, .int 0, .int lv, .int lf, .int lo, .int lc])), (a2, .inr (2, [.int mc2, .ref q2, .int 2])), (q_6, .inr (12, [.int 0, .int x, .int y, .int z, .int (-1)]))] H := hP
  have hD : va_D A [(q2, .inl ((g.2.2.1 4), 10, .inr (.inr (.inr (.inr (va_up (va_up f2 0 (some w0)) 1 (some w0b))))))), (h0, .inr (13, [.ref a1, .ref a2, .ref a3, .ref a4, .ref a5, .int zh, .int zf, .int zw, .int ze, .int zn, .int zm])), (a1, .inr (2, [.int mc1, .ref q1, .int 1])), (q1, .inl ((g.2.2.1 4), 10, .inr (.inr (.inr (.inr (va_up f1 0 (some l0))))))), (l0, .inr (7, [.int lx, .int ly, .int lz, .ref d1, .ref d2, .ref d3, .int 0, .int lv, .int lf, .int lo, .int lc])), (a2, .inr (2, [.int mc2, .ref q2, .int 2])), (q_6, .inr (12, [.int 0, .int x, .int y, .int z, .int (-1)]))] := hD
  refine W.widen (k := 1) (n := 5) (by decide) (by decide) ?_
  refine W.eq (g2 := F0 m 48 ls [.ref q_6, .ref a2]) rfl ?_
  refine kcallV (wc := [(a2, .inr (2, [.int mc2, .ref q2, .int 2])), (q2, .inl ((g.2.2.1 4), 10, .inr (.inr (.inr (.inr (va_up (va_up f2 0 (some w0)) 1 (some w0b))))))), (q_6, .inr (12, [.int 0, .int x, .int y, .int z, .int (-1)]))]) (wr := [(h0, .inr (13, [.ref a1, .ref a2, .ref a3, .ref a4, .ref a5, .int zh, .int zf, .int zw, .int ze, .int zn, .int zm])), (a1, .inr (2, [.int mc1, .ref q1, .int 1])), (q1, .inl ((g.2.2.1 4), 10, .inr (.inr (.inr (.inr (va_up f1 0 (some l0))))))), (l0, .inr (7, [.int lx, .int ly, .int lz, .ref d1, .ref d2, .ref d3, .int 0, .int lv, .int lf, .int lo, .int lc]))]) (As := [.ref q_6]) (rest := []) K G (m_Jx4a65c_add_9ea2d2 l hl0 g a2 q2 mc2 (va_up (va_up f2 0 (some w0)) 1 (some w0b)) q_6 12 ([.int 0, .int x, .int y, .int z, .int (-1)]) _ rfl kw_515) hP hD hS hA hl kw_416 kw_417 kw_419 kw_420 kw_22 ydJx4a65c_add_9ea2d [5, 0, 6] [1, 2, 3, 4] rfl rfl rfl rfl (by decide) (ci := 2) (q0 := 5) rfl rfl rfl rfl rfl (Nat.le_of_ble_eq_true rfl) dX11_addTown_48 ⟨Nat.le_of_ble_eq_true rfl, Nat.le_of_ble_eq_true rfl⟩ ⟨Nat.le_of_ble_eq_true rfl, Nat.le_of_ble_eq_true rfl⟩ (fun _ _ _ _ _ _ hX _ _ _ _ _ _ => hX.elim) (fun v w1 H locs hQ hP hD hS => ?_)
  obtain ⟨rfl, rfl⟩ := hQ
  have hP : va_P g.1 vwCl [(h0, .inr (13, [.ref a1, .ref a2, .ref a3, .ref a4, .ref a5, .int zh, .int zf, .int zw, .int ze, .int zn, .int zm])), (a1, .inr (2, [.int mc1, .ref q1, .int 1])), (q1, .inl ((g.2.2.1 4), 10, .inr (.inr (.inr (.inr (va_up f1 0 (some l0))))))), (l0, .inr (7, [.int lx, .int ly, .int lz, .ref d1, .ref d2, .ref d3, .int 0, .int lv, .int lf, .int lo, .int lc])), (a2, .inr (2, [.int (mc2 + 1), .ref q2, .int 3])), (q2, .inl ((g.2.2.1 4), 10, .inr (.inr (.inr (.inr (va_up (va_up (va_up f2 0 (some w0)) 1 (some w0b)) 2 (some q_6))))))), (q_6, .inr (12, [.int 0, .int x, .int y, .int z, .int (-1)]))] H := hP
  have hD : va_D A [(h0, .inr (13, [.ref a1, .ref a2, .ref a3, .ref a4, .ref a5, .int zh, .int zf, .int zw, .int ze, .int zn, .int zm])), (a1, .inr (2, [.int mc1, .ref q1, .int 1])), (q1, .inl ((g.2.2.1 4), 10, .inr (.inr (.inr (.inr (va_up f1 0 (some l0))))))), (l0, .inr (7, [.int lx, .int ly, .int lz, .ref d1, .ref d2, .ref d3, .int 0, .int lv, .int lf, .int lo, .int lc])), (a2, .inr (2, [.int (mc2 + 1), .ref q2, .int 3])), (q2, .inl ((g.2.2.1 4), 10, .inr (.inr (.inr (.inr (va_up (va_up (va_up f2 0 (some w0)) 1 (some w0b)) 2 (some q_6))))))), (q_6, .inr (12, [.int 0, .int x, .int y, .int z, .int (-1)]))] := hD
  refine W.widen (k := 1) (n := 5) (by decide) (by decide) ?_
  refine W.eq (g2 := F0 m 51 ls [.int 1]) rfl ?_
  refine lv_pop hx hb dX11_addTown_51 rfl ?_
  refine lv_aload_n hx hb dX11_addTown_52 rfl (lv_at hl 0 rfl) ?_
  refine va_get (D := g.1) (ci := 13) (v := .ref a2) (C := RX11) (T := TX11) (N := 11) hx hb G.ws inX11 hown G.K hP 0 rfl rfl 1 (by decide) (G.w kw_199) (fun _ h9 => h9) rfl dX11_addTown_53 ?_
  refine kcallV (wc := [(a2, .inr (2, [.int (mc2 + 1), .ref q2, .int 3]))]) (wr := [(h0, .inr (13, [.ref a1, .ref a2, .ref a3, .ref a4, .ref a5, .int zh, .int zf, .int zw, .int ze, .int zn, .int zm])), (a1, .inr (2, [.int mc1, .ref q1, .int 1])), (q1, .inl ((g.2.2.1 4), 10, .inr (.inr (.inr (.inr (va_up f1 0 (some l0))))))), (l0, .inr (7, [.int lx, .int ly, .int lz, .ref d1, .ref d2, .ref d3, .int 0, .int lv, .int lf, .int lo, .int lc])), (q2, .inl ((g.2.2.1 4), 10, .inr (.inr (.inr (.inr (va_up (va_up (va_up f2 0 (some w0)) 1 (some w0b)) 2 (some q_6))))))), (q_6, .inr (12, [.int 0, .int x, .int y, .int z, .int (-1)]))]) (As := []) (rest := []) K G (m_Jx4a65c_size_8abf5 l hl0 g a2 q2 (mc2 + 1) 3 ) hP hD hS hA hl kw_31 kw_82 kw_33 kw_34 kw_22 ydJx4a65c_size_8abf5 [4] [0, 1, 2, 3, 5, 6] rfl rfl rfl rfl (by decide) (ci := 2) (q0 := 4) rfl rfl rfl rfl rfl (Nat.le_of_ble_eq_true rfl) dX11_addTown_56 ⟨Nat.le_of_ble_eq_true rfl, Nat.le_of_ble_eq_true rfl⟩ ⟨Nat.le_of_ble_eq_true rfl, Nat.le_of_ble_eq_true rfl⟩ (fun _ _ _ _ _ _ hX _ _ _ _ _ _ => hX.elim) (fun v w1 H locs hQ hP hD hS => ?_)
  obtain ⟨rfl, rfl⟩ := hQ
  have hP : va_P g.1 vwCl [(h0, .inr (13, [.ref a1, .ref a2, .ref a3, .ref a4, .ref a5, .int zh, .int zf, .int zw, .int ze, .int zn, .int zm])), (a1, .inr (2, [.int mc1, .ref q1, .int 1])), (q1, .inl ((g.2.2.1 4), 10, .inr (.inr (.inr (.inr (va_up f1 0 (some l0))))))), (l0, .inr (7, [.int lx, .int ly, .int lz, .ref d1, .ref d2, .ref d3, .int 0, .int lv, .int lf, .int lo, .int lc])), (q2, .inl ((g.2.2.1 4), 10, .inr (.inr (.inr (.inr (va_up (va_up (va_up f2 0 (some w0)) 1 (some w0b)) 2 (some q_6))))))), (q_6, .inr (12, [.int 0, .int x, .int y, .int z, .int (-1)])), (a2, .inr (2, [.int (mc2 + 1), .ref q2, .int 3]))] H := hP
  have hD : va_D A [(h0, .inr (13, [.ref a1, .ref a2, .ref a3, .ref a4, .ref a5, .int zh, .int zf, .int zw, .int ze, .int zn, .int zm])), (a1, .inr (2, [.int mc1, .ref q1, .int 1])), (q1, .inl ((g.2.2.1 4), 10, .inr (.inr (.inr (.inr (va_up f1 0 (some l0))))))), (l0, .inr (7, [.int lx, .int ly, .int lz, .ref d1, .ref d2, .ref d3, .int 0, .int lv, .int lf, .int lo, .int lc])), (q2, .inl ((g.2.2.1 4), 10, .inr (.inr (.inr (.inr (va_up (va_up (va_up f2 0 (some w0)) 1 (some w0b)) 2 (some q_6))))))), (q_6, .inr (12, [.int 0, .int x, .int y, .int z, .int (-1)])), (a2, .inr (2, [.int (mc2 + 1), .ref q2, .int 3]))] := hD
  refine W.widen (k := 1) (n := 5) (by decide) (by decide) ?_
  refine W.eq (g2 := F0 m 59 ls [.int 3]) rfl ?_
  refine lv_iconst (v := 1) hx hb dX11_addTown_59 (by decide) ?_
  refine lv_isub hx hb dX11_addTown_60 ?_
  refine lv_topi (fun y_10 ey_10 => ?_)
  obtain rfl : y_10 = 2 := ey_10.trans (by decide)
  exact kretI K hP hD hS [0, 3, 1, 2, 6, 4, 5] [(h0, .inr (13, [.ref a1, .ref a2, .ref a3, .ref a4, .ref a5, .int zh, .int zf, .int zw, .int ze, .int zn, .int zm])), (l0, .inr (7, [.int lx, .int ly, .int lz, .ref d1, .ref d2, .ref d3, .int 0, .int lv, .int lf, .int lo, .int lc])), (a1, .inr (2, [.int mc1, .ref q1, .int 1])), (q1, .inl ((g.2.2.1 4), 10, .inr (.inr (.inr (.inr (va_up f1 0 (some l0))))))), (a2, .inr (2, [.int (mc2 + 1), .ref q2, .int 3])), (q2, .inl ((g.2.2.1 4), 10, .inr (.inr (.inr (.inr (va_up (va_up (va_up f2 0 (some w0)) 1 (some w0b)) 2 (some q_6))))))), (q_6, .inr (12, [.int 0, .int x, .int y, .int z, .int (-1)]))] rfl rfl (⟨q_6, rfl, rfl⟩) (by decide) (by decide) dX11_addTown_61

set_option maxHeartbeats 4000000 in
set_option maxRecDepth 100000 in
theorem m_X11_getHeards2 (l : Launch) (hl0 : l.stackTraces = false) (g : kG) (h0 : Nat) (a1 : Nat) (a2 : Nat) (a3 : Nat) (a4 : Nat) (a5 : Nat) (zh : Int32) (zf : Int32) (zw : Int32) (ze : Int32) (zn : Int32) (zm : Int32) (w0 : Nat) (w0b : Nat) (w0c : Nat) (q2 : Nat) (mc2 : Int32) (f2 : Nat → Option Nat) (tl : Int32) (tx : Int32) (ty : Int32) (tm : Int32) (th : Int32)  : kc l g yX11_getHeard prog_1_method_26_code 2 (some .int) 4 85 0 0 [.ref h0, .int 2] [(h0, .inr (13, [.ref a1, .ref a2, .ref a3, .ref a4, .ref a5, .int zh, .int zf, .int zw, .int ze, .int zn, .int zm])), (a2, .inr (2, [.int mc2, .ref q2, .int 3])), (q2, .inl ((g.2.2.1 4), 10, .inr (.inr (.inr (.inr (va_up (va_up (va_up f2 0 (some w0b)) 1 (some w0c)) 2 (some w0))))))), (w0, .inr (12, [.int tl, .int tx, .int ty, .int tm, .int th]))] (fun v w => (v = some (.int th) ∧ w = [(h0, .inr (13, [.ref a1, .ref a2, .ref a3, .ref a4, .ref a5, .int zh, .int zf, .int zw, .int ze, .int zn, .int zm])), (a2, .inr (2, [.int mc2, .ref q2, .int 3])), (q2, .inl ((g.2.2.1 4), 10, .inr (.inr (.inr (.inr (va_up (va_up (va_up f2 0 (some w0b)) 1 (some w0c)) 2 (some w0))))))), (w0, .inr (12, [.int tl, .int tx, .int ty, .int tm, .int th]))])) (fun _ _ => False) := by
  refine kbody (by decide) (Nat.le_of_ble_eq_true rfl) ?_
  intro p e s m args below meth c A H K ht G hP hD hA hS ls hl
  have K : KB p s m meth c RX11 "getHeard" prog_1_method_26_code 2 (some .int) := K
  obtain ⟨hx, hb, hml, hown, hlocks, hr, hin⟩ := id K
  have hl : lv_has ls 2 [(0, .ref h0), (1, .int 2)] := hl
  refine lv_aload_n hx hb dX11_getHeard_0 rfl (lv_at hl 0 rfl) ?_
  refine lv_iload_n hx hb dX11_getHeard_1 rfl (lv_at hl 1 rfl) ?_
  refine kcallV (wc := [(h0, .inr (13, [.ref a1, .ref a2, .ref a3, .ref a4, .ref a5, .int zh, .int zf, .int zw, .int ze, .int zn, .int zm])), (a2, .inr (2, [.int mc2, .ref q2, .int 3])), (q2, .inl ((g.2.2.1 4), 10, .inr (.inr (.inr (.inr (va_up (va_up (va_up f2 0 (some w0b)) 1 (some w0c)) 2 (some w0))))))), (w0, .inr (12, [.int tl, .int tx, .int ty, .int tm, .int th]))]) (wr := []) (As := [.int 2]) (rest := []) K G (m_X11_townAt32 l hl0 g h0 a1 a2 a3 a4 a5 zh zf zw ze zn zm w0 w0b w0c q2 mc2 f2 tl tx ty tm th ) hP hD hS hA hl kw_516 kw_517 kw_518 kw_519 kw_63 ydX11_townAt [0, 1, 2, 3] [] rfl rfl rfl rfl (by decide) (ci := 13) (q0 := 0) rfl rfl rfl rfl rfl (Nat.le_of_ble_eq_true rfl) dX11_getHeard_2 ⟨Nat.le_of_ble_eq_true rfl, Nat.le_of_ble_eq_true rfl⟩ ⟨Nat.le_of_ble_eq_true rfl, Nat.le_of_ble_eq_true rfl⟩ (fun _ _ _ _ _ _ hX _ _ _ _ _ _ => hX.elim) (fun v w1 H locs hQ hP hD hS => ?_)
  obtain ⟨rfl, rfl⟩ := hQ
  have hP : va_P g.1 vwCl [(h0, .inr (13, [.ref a1, .ref a2, .ref a3, .ref a4, .ref a5, .int zh, .int zf, .int zw, .int ze, .int zn, .int zm])), (a2, .inr (2, [.int mc2, .ref q2, .int 3])), (q2, .inl ((g.2.2.1 4), 10, .inr (.inr (.inr (.inr (va_up (va_up (va_up f2 0 (some w0b)) 1 (some w0c)) 2 (some w0))))))), (w0, .inr (12, [.int tl, .int tx, .int ty, .int tm, .int th]))] H := hP
  have hD : va_D A [(h0, .inr (13, [.ref a1, .ref a2, .ref a3, .ref a4, .ref a5, .int zh, .int zf, .int zw, .int ze, .int zn, .int zm])), (a2, .inr (2, [.int mc2, .ref q2, .int 3])), (q2, .inl ((g.2.2.1 4), 10, .inr (.inr (.inr (.inr (va_up (va_up (va_up f2 0 (some w0b)) 1 (some w0c)) 2 (some w0))))))), (w0, .inr (12, [.int tl, .int tx, .int ty, .int tm, .int th]))] := hD
  refine W.widen (k := 0) (n := 0) (by decide) (by decide) ?_
  refine W.eq (g2 := F0 m 5 ls [.ref w0]) rfl ?_
  refine va_get (D := g.1) (ci := 12) (v := .int th) (C := RX10) (T := TX10) (N := 5) hx hb G.ws inX10 hown G.K hP 3 rfl rfl 4 (by decide) (G.w kw_201) (fun _ h9 => h9) rfl dX11_getHeard_5 ?_
  exact kretI K hP hD hS [0, 1, 2, 3] [(h0, .inr (13, [.ref a1, .ref a2, .ref a3, .ref a4, .ref a5, .int zh, .int zf, .int zw, .int ze, .int zn, .int zm])), (a2, .inr (2, [.int mc2, .ref q2, .int 3])), (q2, .inl ((g.2.2.1 4), 10, .inr (.inr (.inr (.inr (va_up (va_up (va_up f2 0 (some w0b)) 1 (some w0c)) 2 (some w0))))))), (w0, .inr (12, [.int tl, .int tx, .int ty, .int tm, .int th]))] rfl rfl ⟨rfl, rfl⟩ (by decide) (by decide) dX11_getHeard_8

set_option maxHeartbeats 4000000 in
set_option maxRecDepth 100000 in
theorem m_X11_setWind110 (l : Launch) (hl0 : l.stackTraces = false) (g : kG) (h0 : Nat) (a1 : Nat) (a2 : Nat) (a3 : Nat) (a4 : Nat) (a5 : Nat) (zh : Int32) (zf : Int32) (zw : Int32) (ze : Int32) (zn : Int32) (zm : Int32) (x : Int32) (p1 : ¬ x < 0) (p2 : x ≤ 12) : kc l g yX11_setWind prog_1_method_5_code 4 (some .int) 1 22 0 0 [.ref h0, .int x, .int 110] [(h0, .inr (13, [.ref a1, .ref a2, .ref a3, .ref a4, .ref a5, .int zh, .int zf, .int zw, .int ze, .int zn, .int zm]))] (fun v w => (v = some (.int zf) ∧ w = [(h0, .inr (13, [.ref a1, .ref a2, .ref a3, .ref a4, .ref a5, .int zh, .int x, .int 110, .int ze, .int zn, .int zm]))])) (fun _ _ => False) := by
  refine kbody (by decide) (Nat.le_of_ble_eq_true rfl) ?_
  intro p e s m args below meth c A H K ht G hP hD hA hS ls hl
  have K : KB p s m meth c RX11 "setWind" prog_1_method_5_code 4 (some .int) := K
  obtain ⟨hx, hb, hml, hown, hlocks, hr, hin⟩ := id K
  have hl : lv_has ls 4 [(0, .ref h0), (1, .int x), (2, .int 110)] := hl
  refine lv_iload_n hx hb dX11_setWind_0 rfl (lv_at hl 1 rfl) ?_
  refine lv_iconst (v := 0) hx hb dX11_setWind_1 (by decide) ?_
  refine lv_bipush (v := 12) hx hb dX11_setWind_2 (by decide) ?_
  refine kcallS (wc := []) (wr := [(h0, .inr (13, [.ref a1, .ref a2, .ref a3, .ref a4, .ref a5, .int zh, .int zf, .int zw, .int ze, .int zn, .int zm]))]) (As := [.int x, .int 0, .int 12]) (rest := []) K G (m_X11_requireRange l hl0 g x 0 12 p1 p2) hP hD hS hA hl kw_280 kw_281 kw_282 kw_63 ydX11_requireRange [] [0] rfl rfl rfl rfl (by decide) rfl rfl (Nat.le_of_ble_eq_true rfl) dX11_setWind_4 ⟨Nat.le_of_ble_eq_true rfl, Nat.le_of_ble_eq_true rfl⟩ ⟨Nat.le_of_ble_eq_true rfl, Nat.le_of_ble_eq_true rfl⟩ (fun _ _ _ _ _ _ hX _ _ _ _ _ _ => hX.elim) (fun v w1 H locs hQ hP hD hS => ?_)
  obtain ⟨rfl, rfl⟩ := hQ
  have hP : va_P g.1 vwCl [(h0, .inr (13, [.ref a1, .ref a2, .ref a3, .ref a4, .ref a5, .int zh, .int zf, .int zw, .int ze, .int zn, .int zm]))] H := hP
  have hD : va_D A [(h0, .inr (13, [.ref a1, .ref a2, .ref a3, .ref a4, .ref a5, .int zh, .int zf, .int zw, .int ze, .int zn, .int zm]))] := hD
  refine W.widen (k := 0) (n := 0) (by decide) (by decide) ?_
  refine W.eq (g2 := F0 m 7 ls []) rfl ?_
  refine lv_iload_n hx hb dX11_setWind_7 rfl (lv_at hl 2 rfl) ?_
  refine lv_bipush (v := 110) hx hb dX11_setWind_8 (by decide) ?_
  refine lv_icmp_eq (tgt := 41) hx hb dX11_setWind_10 (by decide) (fun _ => ?_) (fun c10_2 => absurd c10_2 (by decide))
  refine lv_aload_n hx hb dX11_setWind_41 rfl (lv_at hl 0 rfl) ?_
  refine va_get (D := g.1) (ci := 13) (v := .int zf) (C := RX11) (T := TX11) (N := 11) hx hb G.ws inX11 hown G.K hP 0 rfl rfl 6 (by decide) (G.w kw_151) (fun _ h9 => h9) rfl dX11_setWind_42 ?_
  refine lv_istore_n (lv' := [(3, .int zf), (0, .ref h0), (1, .int x), (2, .int 110)]) hx hb dX11_setWind_45 rfl hl (by decide) rfl (fun ls hl => ?_)
  refine lv_aload_n hx hb dX11_setWind_46 rfl (lv_at hl 1 rfl) ?_
  refine lv_iload_n hx hb dX11_setWind_47 rfl (lv_at hl 2 rfl) ?_
  refine va_put (D := g.1) (ci := 13) (v := .int x) (ty := .int) (C := RX11) (T := TX11) (N := 11) hx hb G.ws inX11 tyX11 tyX11_ok nmX11 hown G.K hP hD hS 0 rfl rfl 6 (by decide) (G.w kw_151) (fun _ h9 => h9) (by decide +kernel) (by decide +kernel) rfl rfl (Nat.le_of_ble_eq_true rfl) dX11_setWind_48 (fun H locs hP hD hS => ?_)
  have hP : va_P g.1 vwCl [(h0, .inr (13, [.ref a1, .ref a2, .ref a3, .ref a4, .ref a5, .int zh, .int x, .int zw, .int ze, .int zn, .int zm]))] H := hP
  have hD : va_D A [(h0, .inr (13, [.ref a1, .ref a2, .ref a3, .ref a4, .ref a5, .int zh, .int x, .int zw, .int ze, .int zn, .int zm]))] := hD
  refine lv_aload_n hx hb dX11_setWind_51 rfl (lv_at hl 1 rfl) ?_
  refine lv_iload_n hx hb dX11_setWind_52 rfl (lv_at hl 3 rfl) ?_
  refine va_put (D := g.1) (ci := 13) (v := .int 110) (ty := .char) (C := RX11) (T := TX11) (N := 11) hx hb G.ws inX11 tyX11 tyX11_ok nmX11 hown G.K hP hD hS 0 rfl rfl 7 (by decide) (G.w kw_148) (fun _ h9 => h9) (by decide +kernel) (by decide +kernel) rfl rfl (Nat.le_of_ble_eq_true rfl) dX11_setWind_53 (fun H locs hP hD hS => ?_)
  have hP : va_P g.1 vwCl [(h0, .inr (13, [.ref a1, .ref a2, .ref a3, .ref a4, .ref a5, .int zh, .int x, .int 110, .int ze, .int zn, .int zm]))] H := hP
  have hD : va_D A [(h0, .inr (13, [.ref a1, .ref a2, .ref a3, .ref a4, .ref a5, .int zh, .int x, .int 110, .int ze, .int zn, .int zm]))] := hD
  refine lv_iload_n hx hb dX11_setWind_56 rfl (lv_at hl 0 rfl) ?_
  exact kretI K hP hD hS [0] [(h0, .inr (13, [.ref a1, .ref a2, .ref a3, .ref a4, .ref a5, .int zh, .int x, .int 110, .int ze, .int zn, .int zm]))] rfl rfl ⟨rfl, rfl⟩ (by decide) (by decide) dX11_setWind_57

set_option maxHeartbeats 4000000 in
set_option maxRecDepth 100000 in
theorem m_X11_setWind101 (l : Launch) (hl0 : l.stackTraces = false) (g : kG) (h0 : Nat) (a1 : Nat) (a2 : Nat) (a3 : Nat) (a4 : Nat) (a5 : Nat) (zh : Int32) (zf : Int32) (zw : Int32) (ze : Int32) (zn : Int32) (zm : Int32) (x : Int32) (p1 : ¬ x < 0) (p2 : x ≤ 12) : kc l g yX11_setWind prog_1_method_5_code 4 (some .int) 1 22 0 0 [.ref h0, .int x, .int 101] [(h0, .inr (13, [.ref a1, .ref a2, .ref a3, .ref a4, .ref a5, .int zh, .int zf, .int zw, .int ze, .int zn, .int zm]))] (fun v w => (v = some (.int zf) ∧ w = [(h0, .inr (13, [.ref a1, .ref a2, .ref a3, .ref a4, .ref a5, .int zh, .int x, .int 101, .int ze, .int zn, .int zm]))])) (fun _ _ => False) := by
  refine kbody (by decide) (Nat.le_of_ble_eq_true rfl) ?_
  intro p e s m args below meth c A H K ht G hP hD hA hS ls hl
  have K : KB p s m meth c RX11 "setWind" prog_1_method_5_code 4 (some .int) := K
  obtain ⟨hx, hb, hml, hown, hlocks, hr, hin⟩ := id K
  have hl : lv_has ls 4 [(0, .ref h0), (1, .int x), (2, .int 101)] := hl
  refine lv_iload_n hx hb dX11_setWind_0 rfl (lv_at hl 1 rfl) ?_
  refine lv_iconst (v := 0) hx hb dX11_setWind_1 (by decide) ?_
  refine lv_bipush (v := 12) hx hb dX11_setWind_2 (by decide) ?_
  refine kcallS (wc := []) (wr := [(h0, .inr (13, [.ref a1, .ref a2, .ref a3, .ref a4, .ref a5, .int zh, .int zf, .int zw, .int ze, .int zn, .int zm]))]) (As := [.int x, .int 0, .int 12]) (rest := []) K G (m_X11_requireRange l hl0 g x 0 12 p1 p2) hP hD hS hA hl kw_280 kw_281 kw_282 kw_63 ydX11_requireRange [] [0] rfl rfl rfl rfl (by decide) rfl rfl (Nat.le_of_ble_eq_true rfl) dX11_setWind_4 ⟨Nat.le_of_ble_eq_true rfl, Nat.le_of_ble_eq_true rfl⟩ ⟨Nat.le_of_ble_eq_true rfl, Nat.le_of_ble_eq_true rfl⟩ (fun _ _ _ _ _ _ hX _ _ _ _ _ _ => hX.elim) (fun v w1 H locs hQ hP hD hS => ?_)
  obtain ⟨rfl, rfl⟩ := hQ
  have hP : va_P g.1 vwCl [(h0, .inr (13, [.ref a1, .ref a2, .ref a3, .ref a4, .ref a5, .int zh, .int zf, .int zw, .int ze, .int zn, .int zm]))] H := hP
  have hD : va_D A [(h0, .inr (13, [.ref a1, .ref a2, .ref a3, .ref a4, .ref a5, .int zh, .int zf, .int zw, .int ze, .int zn, .int zm]))] := hD
  refine W.widen (k := 0) (n := 0) (by decide) (by decide) ?_
  refine W.eq (g2 := F0 m 7 ls []) rfl ?_
  refine lv_iload_n hx hb dX11_setWind_7 rfl (lv_at hl 2 rfl) ?_
  refine lv_bipush (v := 110) hx hb dX11_setWind_8 (by decide) ?_
  refine lv_icmp_eq (tgt := 41) hx hb dX11_setWind_10 (by decide) (fun c10_2 => absurd c10_2 (by decide)) (fun _ => ?_)
  refine lv_iload_n hx hb dX11_setWind_13 rfl (lv_at hl 2 rfl) ?_
  refine lv_bipush (v := 101) hx hb dX11_setWind_14 (by decide) ?_
  refine lv_icmp_eq (tgt := 41) hx hb dX11_setWind_16 (by decide) (fun _ => ?_) (fun c16_3 => absurd c16_3 (by decide))
  refine lv_aload_n hx hb dX11_setWind_41 rfl (lv_at hl 0 rfl) ?_
  refine va_get (D := g.1) (ci := 13) (v := .int zf) (C := RX11) (T := TX11) (N := 11) hx hb G.ws inX11 hown G.K hP 0 rfl rfl 6 (by decide) (G.w kw_151) (fun _ h9 => h9) rfl dX11_setWind_42 ?_
  refine lv_istore_n (lv' := [(3, .int zf), (0, .ref h0), (1, .int x), (2, .int 101)]) hx hb dX11_setWind_45 rfl hl (by decide) rfl (fun ls hl => ?_)
  refine lv_aload_n hx hb dX11_setWind_46 rfl (lv_at hl 1 rfl) ?_
  refine lv_iload_n hx hb dX11_setWind_47 rfl (lv_at hl 2 rfl) ?_
  refine va_put (D := g.1) (ci := 13) (v := .int x) (ty := .int) (C := RX11) (T := TX11) (N := 11) hx hb G.ws inX11 tyX11 tyX11_ok nmX11 hown G.K hP hD hS 0 rfl rfl 6 (by decide) (G.w kw_151) (fun _ h9 => h9) (by decide +kernel) (by decide +kernel) rfl rfl (Nat.le_of_ble_eq_true rfl) dX11_setWind_48 (fun H locs hP hD hS => ?_)
  have hP : va_P g.1 vwCl [(h0, .inr (13, [.ref a1, .ref a2, .ref a3, .ref a4, .ref a5, .int zh, .int x, .int zw, .int ze, .int zn, .int zm]))] H := hP
  have hD : va_D A [(h0, .inr (13, [.ref a1, .ref a2, .ref a3, .ref a4, .ref a5, .int zh, .int x, .int zw, .int ze, .int zn, .int zm]))] := hD
  refine lv_aload_n hx hb dX11_setWind_51 rfl (lv_at hl 1 rfl) ?_
  refine lv_iload_n hx hb dX11_setWind_52 rfl (lv_at hl 3 rfl) ?_
  refine va_put (D := g.1) (ci := 13) (v := .int 101) (ty := .char) (C := RX11) (T := TX11) (N := 11) hx hb G.ws inX11 tyX11 tyX11_ok nmX11 hown G.K hP hD hS 0 rfl rfl 7 (by decide) (G.w kw_148) (fun _ h9 => h9) (by decide +kernel) (by decide +kernel) rfl rfl (Nat.le_of_ble_eq_true rfl) dX11_setWind_53 (fun H locs hP hD hS => ?_)
  have hP : va_P g.1 vwCl [(h0, .inr (13, [.ref a1, .ref a2, .ref a3, .ref a4, .ref a5, .int zh, .int x, .int 101, .int ze, .int zn, .int zm]))] H := hP
  have hD : va_D A [(h0, .inr (13, [.ref a1, .ref a2, .ref a3, .ref a4, .ref a5, .int zh, .int x, .int 101, .int ze, .int zn, .int zm]))] := hD
  refine lv_iload_n hx hb dX11_setWind_56 rfl (lv_at hl 0 rfl) ?_
  exact kretI K hP hD hS [0] [(h0, .inr (13, [.ref a1, .ref a2, .ref a3, .ref a4, .ref a5, .int zh, .int x, .int 101, .int ze, .int zn, .int zm]))] rfl rfl ⟨rfl, rfl⟩ (by decide) (by decide) dX11_setWind_57

set_option maxHeartbeats 4000000 in
set_option maxRecDepth 100000 in
theorem m_X11_setWind115 (l : Launch) (hl0 : l.stackTraces = false) (g : kG) (h0 : Nat) (a1 : Nat) (a2 : Nat) (a3 : Nat) (a4 : Nat) (a5 : Nat) (zh : Int32) (zf : Int32) (zw : Int32) (ze : Int32) (zn : Int32) (zm : Int32) (x : Int32) (p1 : ¬ x < 0) (p2 : x ≤ 12) : kc l g yX11_setWind prog_1_method_5_code 4 (some .int) 1 22 0 0 [.ref h0, .int x, .int 115] [(h0, .inr (13, [.ref a1, .ref a2, .ref a3, .ref a4, .ref a5, .int zh, .int zf, .int zw, .int ze, .int zn, .int zm]))] (fun v w => (v = some (.int zf) ∧ w = [(h0, .inr (13, [.ref a1, .ref a2, .ref a3, .ref a4, .ref a5, .int zh, .int x, .int 115, .int ze, .int zn, .int zm]))])) (fun _ _ => False) := by
  refine kbody (by decide) (Nat.le_of_ble_eq_true rfl) ?_
  intro p e s m args below meth c A H K ht G hP hD hA hS ls hl
  have K : KB p s m meth c RX11 "setWind" prog_1_method_5_code 4 (some .int) := K
  obtain ⟨hx, hb, hml, hown, hlocks, hr, hin⟩ := id K
  have hl : lv_has ls 4 [(0, .ref h0), (1, .int x), (2, .int 115)] := hl
  refine lv_iload_n hx hb dX11_setWind_0 rfl (lv_at hl 1 rfl) ?_
  refine lv_iconst (v := 0) hx hb dX11_setWind_1 (by decide) ?_
  refine lv_bipush (v := 12) hx hb dX11_setWind_2 (by decide) ?_
  refine kcallS (wc := []) (wr := [(h0, .inr (13, [.ref a1, .ref a2, .ref a3, .ref a4, .ref a5, .int zh, .int zf, .int zw, .int ze, .int zn, .int zm]))]) (As := [.int x, .int 0, .int 12]) (rest := []) K G (m_X11_requireRange l hl0 g x 0 12 p1 p2) hP hD hS hA hl kw_280 kw_281 kw_282 kw_63 ydX11_requireRange [] [0] rfl rfl rfl rfl (by decide) rfl rfl (Nat.le_of_ble_eq_true rfl) dX11_setWind_4 ⟨Nat.le_of_ble_eq_true rfl, Nat.le_of_ble_eq_true rfl⟩ ⟨Nat.le_of_ble_eq_true rfl, Nat.le_of_ble_eq_true rfl⟩ (fun _ _ _ _ _ _ hX _ _ _ _ _ _ => hX.elim) (fun v w1 H locs hQ hP hD hS => ?_)
  obtain ⟨rfl, rfl⟩ := hQ
  have hP : va_P g.1 vwCl [(h0, .inr (13, [.ref a1, .ref a2, .ref a3, .ref a4, .ref a5, .int zh, .int zf, .int zw, .int ze, .int zn, .int zm]))] H := hP
  have hD : va_D A [(h0, .inr (13, [.ref a1, .ref a2, .ref a3, .ref a4, .ref a5, .int zh, .int zf, .int zw, .int ze, .int zn, .int zm]))] := hD
  refine W.widen (k := 0) (n := 0) (by decide) (by decide) ?_
  refine W.eq (g2 := F0 m 7 ls []) rfl ?_
  refine lv_iload_n hx hb dX11_setWind_7 rfl (lv_at hl 2 rfl) ?_
  refine lv_bipush (v := 110) hx hb dX11_setWind_8 (by decide) ?_
  refine lv_icmp_eq (tgt := 41) hx hb dX11_setWind_10 (by decide) (fun c10_2 => absurd c10_2 (by decide)) (fun _ => ?_)
  refine lv_iload_n hx hb dX11_setWind_13 rfl (lv_at hl 2 rfl) ?_
  refine lv_bipush (v := 101) hx hb dX11_setWind_14 (by decide) ?_
  refine lv_icmp_eq (tgt := 41) hx hb dX11_setWind_16 (by decide) (fun c16_3 => absurd c16_3 (by decide)) (fun _ => ?_)
  refine lv_iload_n hx hb dX11_setWind_19 rfl (lv_at hl 2 rfl) ?_
  refine lv_bipush (v := 115) hx hb dX11_setWind_20 (by decide) ?_
  refine lv_icmp_eq (tgt := 41) hx hb dX11_setWind_22 (by decide) (fun _ => ?_) (fun c22_4 => absurd c22_4 (by decide))
  refine lv_aload_n hx hb dX11_setWind_41 rfl (lv_at hl 0 rfl) ?_
  refine va_get (D := g.1) (ci := 13) (v := .int zf) (C := RX11) (T := TX11) (N := 11) hx hb G.ws inX11 hown G.K hP 0 rfl rfl 6 (by decide) (G.w kw_151) (fun _ h9 => h9) rfl dX11_setWind_42 ?_
  refine lv_istore_n (lv' := [(3, .int zf), (0, .ref h0), (1, .int x), (2, .int 115)]) hx hb dX11_setWind_45 rfl hl (by decide) rfl (fun ls hl => ?_)
  refine lv_aload_n hx hb dX11_setWind_46 rfl (lv_at hl 1 rfl) ?_
  refine lv_iload_n hx hb dX11_setWind_47 rfl (lv_at hl 2 rfl) ?_
  refine va_put (D := g.1) (ci := 13) (v := .int x) (ty := .int) (C := RX11) (T := TX11) (N := 11) hx hb G.ws inX11 tyX11 tyX11_ok nmX11 hown G.K hP hD hS 0 rfl rfl 6 (by decide) (G.w kw_151) (fun _ h9 => h9) (by decide +kernel) (by decide +kernel) rfl rfl (Nat.le_of_ble_eq_true rfl) dX11_setWind_48 (fun H locs hP hD hS => ?_)
  have hP : va_P g.1 vwCl [(h0, .inr (13, [.ref a1, .ref a2, .ref a3, .ref a4, .ref a5, .int zh, .int x, .int zw, .int ze, .int zn, .int zm]))] H := hP
  have hD : va_D A [(h0, .inr (13, [.ref a1, .ref a2, .ref a3, .ref a4, .ref a5, .int zh, .int x, .int zw, .int ze, .int zn, .int zm]))] := hD
  refine lv_aload_n hx hb dX11_setWind_51 rfl (lv_at hl 1 rfl) ?_
  refine lv_iload_n hx hb dX11_setWind_52 rfl (lv_at hl 3 rfl) ?_
  refine va_put (D := g.1) (ci := 13) (v := .int 115) (ty := .char) (C := RX11) (T := TX11) (N := 11) hx hb G.ws inX11 tyX11 tyX11_ok nmX11 hown G.K hP hD hS 0 rfl rfl 7 (by decide) (G.w kw_148) (fun _ h9 => h9) (by decide +kernel) (by decide +kernel) rfl rfl (Nat.le_of_ble_eq_true rfl) dX11_setWind_53 (fun H locs hP hD hS => ?_)
  have hP : va_P g.1 vwCl [(h0, .inr (13, [.ref a1, .ref a2, .ref a3, .ref a4, .ref a5, .int zh, .int x, .int 115, .int ze, .int zn, .int zm]))] H := hP
  have hD : va_D A [(h0, .inr (13, [.ref a1, .ref a2, .ref a3, .ref a4, .ref a5, .int zh, .int x, .int 115, .int ze, .int zn, .int zm]))] := hD
  refine lv_iload_n hx hb dX11_setWind_56 rfl (lv_at hl 0 rfl) ?_
  exact kretI K hP hD hS [0] [(h0, .inr (13, [.ref a1, .ref a2, .ref a3, .ref a4, .ref a5, .int zh, .int x, .int 115, .int ze, .int zn, .int zm]))] rfl rfl ⟨rfl, rfl⟩ (by decide) (by decide) dX11_setWind_57

set_option maxHeartbeats 4000000 in
set_option maxRecDepth 100000 in
theorem m_X11_setWind119 (l : Launch) (hl0 : l.stackTraces = false) (g : kG) (h0 : Nat) (a1 : Nat) (a2 : Nat) (a3 : Nat) (a4 : Nat) (a5 : Nat) (zh : Int32) (zf : Int32) (zw : Int32) (ze : Int32) (zn : Int32) (zm : Int32) (x : Int32) (p1 : ¬ x < 0) (p2 : x ≤ 12) : kc l g yX11_setWind prog_1_method_5_code 4 (some .int) 1 22 0 0 [.ref h0, .int x, .int 119] [(h0, .inr (13, [.ref a1, .ref a2, .ref a3, .ref a4, .ref a5, .int zh, .int zf, .int zw, .int ze, .int zn, .int zm]))] (fun v w => (v = some (.int zf) ∧ w = [(h0, .inr (13, [.ref a1, .ref a2, .ref a3, .ref a4, .ref a5, .int zh, .int x, .int 119, .int ze, .int zn, .int zm]))])) (fun _ _ => False) := by
  refine kbody (by decide) (Nat.le_of_ble_eq_true rfl) ?_
  intro p e s m args below meth c A H K ht G hP hD hA hS ls hl
  have K : KB p s m meth c RX11 "setWind" prog_1_method_5_code 4 (some .int) := K
  obtain ⟨hx, hb, hml, hown, hlocks, hr, hin⟩ := id K
  have hl : lv_has ls 4 [(0, .ref h0), (1, .int x), (2, .int 119)] := hl
  refine lv_iload_n hx hb dX11_setWind_0 rfl (lv_at hl 1 rfl) ?_
  refine lv_iconst (v := 0) hx hb dX11_setWind_1 (by decide) ?_
  refine lv_bipush (v := 12) hx hb dX11_setWind_2 (by decide) ?_
  refine kcallS (wc := []) (wr := [(h0, .inr (13, [.ref a1, .ref a2, .ref a3, .ref a4, .ref a5, .int zh, .int zf, .int zw, .int ze, .int zn, .int zm]))]) (As := [.int x, .int 0, .int 12]) (rest := []) K G (m_X11_requireRange l hl0 g x 0 12 p1 p2) hP hD hS hA hl kw_280 kw_281 kw_282 kw_63 ydX11_requireRange [] [0] rfl rfl rfl rfl (by decide) rfl rfl (Nat.le_of_ble_eq_true rfl) dX11_setWind_4 ⟨Nat.le_of_ble_eq_true rfl, Nat.le_of_ble_eq_true rfl⟩ ⟨Nat.le_of_ble_eq_true rfl, Nat.le_of_ble_eq_true rfl⟩ (fun _ _ _ _ _ _ hX _ _ _ _ _ _ => hX.elim) (fun v w1 H locs hQ hP hD hS => ?_)
  obtain ⟨rfl, rfl⟩ := hQ
  have hP : va_P g.1 vwCl [(h0, .inr (13, [.ref a1, .ref a2, .ref a3, .ref a4, .ref a5, .int zh, .int zf, .int zw, .int ze, .int zn, .int zm]))] H := hP
  have hD : va_D A [(h0, .inr (13, [.ref a1, .ref a2, .ref a3, .ref a4, .ref a5, .int zh, .int zf, .int zw, .int ze, .int zn, .int zm]))] := hD
  refine W.widen (k := 0) (n := 0) (by decide) (by decide) ?_
  refine W.eq (g2 := F0 m 7 ls []) rfl ?_
  refine lv_iload_n hx hb dX11_setWind_7 rfl (lv_at hl 2 rfl) ?_
  refine lv_bipush (v := 110) hx hb dX11_setWind_8 (by decide) ?_
  refine lv_icmp_eq (tgt := 41) hx hb dX11_setWind_10 (by decide) (fun c10_2 => absurd c10_2 (by decide)) (fun _ => ?_)
  refine lv_iload_n hx hb dX11_setWind_13 rfl (lv_at hl 2 rfl) ?_
  refine lv_bipush (v := 101) hx hb dX11_setWind_14 (by decide) ?_
  refine lv_icmp_eq (tgt := 41) hx hb dX11_setWind_16 (by decide) (fun c16_3 => absurd c16_3 (by decide)) (fun _ => ?_)
  refine lv_iload_n hx hb dX11_setWind_19 rfl (lv_at hl 2 rfl) ?_
  refine lv_bipush (v := 115) hx hb dX11_setWind_20 (by decide) ?_
  refine lv_icmp_eq (tgt := 41) hx hb dX11_setWind_22 (by decide) (fun c22_4 => absurd c22_4 (by decide)) (fun _ => ?_)
  refine lv_iload_n hx hb dX11_setWind_25 rfl (lv_at hl 2 rfl) ?_
  refine lv_bipush (v := 119) hx hb dX11_setWind_26 (by decide) ?_
  refine lv_icmp_eq (tgt := 41) hx hb dX11_setWind_28 (by decide) (fun _ => ?_) (fun c28_5 => absurd c28_5 (by decide))
  refine lv_aload_n hx hb dX11_setWind_41 rfl (lv_at hl 0 rfl) ?_
  refine va_get (D := g.1) (ci := 13) (v := .int zf) (C := RX11) (T := TX11) (N := 11) hx hb G.ws inX11 hown G.K hP 0 rfl rfl 6 (by decide) (G.w kw_151) (fun _ h9 => h9) rfl dX11_setWind_42 ?_
  refine lv_istore_n (lv' := [(3, .int zf), (0, .ref h0), (1, .int x), (2, .int 119)]) hx hb dX11_setWind_45 rfl hl (by decide) rfl (fun ls hl => ?_)
  refine lv_aload_n hx hb dX11_setWind_46 rfl (lv_at hl 1 rfl) ?_
  refine lv_iload_n hx hb dX11_setWind_47 rfl (lv_at hl 2 rfl) ?_
  refine va_put (D := g.1) (ci := 13) (v := .int x) (ty := .int) (C := RX11) (T := TX11) (N := 11) hx hb G.ws inX11 tyX11 tyX11_ok nmX11 hown G.K hP hD hS 0 rfl rfl 6 (by decide) (G.w kw_151) (fun _ h9 => h9) (by decide +kernel) (by decide +kernel) rfl rfl (Nat.le_of_ble_eq_true rfl) dX11_setWind_48 (fun H locs hP hD hS => ?_)
  have hP : va_P g.1 vwCl [(h0, .inr (13, [.ref a1, .ref a2, .ref a3, .ref a4, .ref a5, .int zh, .int x, .int zw, .int ze, .int zn, .int zm]))] H := hP
  have hD : va_D A [(h0, .inr (13, [.ref a1, .ref a2, .ref a3, .ref a4, .ref a5, .int zh, .int x, .int zw, .int ze, .int zn, .int zm]))] := hD
  refine lv_aload_n hx hb dX11_setWind_51 rfl (lv_at hl 1 rfl) ?_
  refine lv_iload_n hx hb dX11_setWind_52 rfl (lv_at hl 3 rfl) ?_
  refine va_put (D := g.1) (ci := 13) (v := .int 119) (ty := .char) (C := RX11) (T := TX11) (N := 11) hx hb G.ws inX11 tyX11 tyX11_ok nmX11 hown G.K hP hD hS 0 rfl rfl 7 (by decide) (G.w kw_148) (fun _ h9 => h9) (by decide +kernel) (by decide +kernel) rfl rfl (Nat.le_of_ble_eq_true rfl) dX11_setWind_53 (fun H locs hP hD hS => ?_)
  have hP : va_P g.1 vwCl [(h0, .inr (13, [.ref a1, .ref a2, .ref a3, .ref a4, .ref a5, .int zh, .int x, .int 119, .int ze, .int zn, .int zm]))] H := hP
  have hD : va_D A [(h0, .inr (13, [.ref a1, .ref a2, .ref a3, .ref a4, .ref a5, .int zh, .int x, .int 119, .int ze, .int zn, .int zm]))] := hD
  refine lv_iload_n hx hb dX11_setWind_56 rfl (lv_at hl 0 rfl) ?_
  exact kretI K hP hD hS [0] [(h0, .inr (13, [.ref a1, .ref a2, .ref a3, .ref a4, .ref a5, .int zh, .int x, .int 119, .int ze, .int zn, .int zm]))] rfl rfl ⟨rfl, rfl⟩ (by decide) (by decide) dX11_setWind_57

