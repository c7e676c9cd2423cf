set_option maxHeartbeats 4000000 in
set_option maxRecDepth 100000 in
theorem m_X11_passHour (l : Launch) (hl0 : l.stackTraces = false) (g : kG) (h0 : Nat) (a1 : Nat) (a2 : Nat) (a3 : Nat) (a4 : Nat) (a5 : Nat) (tt : Int32) (wf : Int32) (ww : Int32) (te : Int32) (tn : Int32) (mo : Int32)  : kc l g yX11_passHour prog_1_method_72_code 1 none 2 42 0 0 [.ref h0] [(h0, .inr (15, [.ref a1, .ref a2, .ref a3, .ref a4, .ref a5, .int tt, .int wf, .int ww, .int te, .int tn, .int mo])), (a2, .inr (3, [.int 0, .ref g.2.1, .int 0])), (a3, .inr (3, [.int 0, .ref g.2.1, .int 0])), (a4, .inr (3, [.int 0, .ref g.2.1, .int 0]))] (fun v w => (v = none ∧ w = [(h0, .inr (15, [.ref a1, .ref a2, .ref a3, .ref a4, .ref a5, .int (tt + 1), .int wf, .int ww, .int te, .int tn, .int mo])), (a2, .inr (3, [.int 0, .ref g.2.1, .int 0])), (a3, .inr (3, [.int 0, .ref g.2.1, .int 0])), (a4, .inr (3, [.int 0, .ref g.2.1, .int 0]))])) (fun _ _ => False) := by
  refine kbody (by decide) (Nat.le_of_ble_eq_true rfl) ?_
  intro p e s m args below meth c A H K ht G hP hD hA hS ls hl
  have K : KB p s m meth c RX11 "passHour" prog_1_method_72_code 1 none := K
  obtain ⟨hx, hb, hml, hown, hlocks, hr, hin⟩ := id K
  have hl : lv_has ls 1 [(0, .ref h0)] := hl
  refine lv_aload_n hx hb dX11_passHour_0 rfl (lv_at hl 0 rfl) ?_
  refine kcallV (wc := [(h0, .inr (15, [.ref a1, .ref a2, .ref a3, .ref a4, .ref a5, .int tt, .int wf, .int ww, .int te, .int tn, .int mo])), (a3, .inr (3, [.int 0, .ref g.2.1, .int 0]))]) (wr := [(a2, .inr (3, [.int 0, .ref g.2.1, .int 0])), (a4, .inr (3, [.int 0, .ref g.2.1, .int 0]))]) (As := []) (rest := []) K G (m_X11_runGenerators l hl0 g h0 a1 a2 a3 a4 a5 tt wf ww te tn mo ) hP hD hS hA hl kw_78 kw_79 kw_80 kw_81 kw_4 ydX11_runGenerators [0, 2] [1, 3] rfl rfl rfl rfl (by decide) (ci := 15) (q0 := 0) rfl rfl rfl rfl rfl (Nat.le_of_ble_eq_true rfl) dX11_passHour_1 ⟨Nat.le_of_ble_eq_true rfl, Nat.le_of_ble_eq_true rfl⟩ ⟨Nat.le_of_ble_eq_true rfl, Nat.le_of_ble_eq_true rfl⟩ (fun _ _ _ _ _ _ hX _ _ _ _ _ _ => hX.elim) (fun v w1 H locs hQ hP hD hS => ?_)
  obtain ⟨rfl, rfl⟩ := hQ
  have hP : va_P g.1 vwCl [(a2, .inr (3, [.int 0, .ref g.2.1, .int 0])), (a4, .inr (3, [.int 0, .ref g.2.1, .int 0])), (h0, .inr (15, [.ref a1, .ref a2, .ref a3, .ref a4, .ref a5, .int tt, .int wf, .int ww, .int te, .int tn, .int mo])), (a3, .inr (3, [.int 0, .ref g.2.1, .int 0]))] H := hP
  have hD : va_D A [(a2, .inr (3, [.int 0, .ref g.2.1, .int 0])), (a4, .inr (3, [.int 0, .ref g.2.1, .int 0])), (h0, .inr (15, [.ref a1, .ref a2, .ref a3, .ref a4, .ref a5, .int tt, .int wf, .int ww, .int te, .int tn, .int mo])), (a3, .inr (3, [.int 0, .ref g.2.1, .int 0]))] := hD
  refine W.widen (k := 0) (n := 0) (by decide) (by decide) ?_
  refine W.eq (g2 := F0 m 4 ls []) rfl ?_
  refine lv_aload_n hx hb dX11_passHour_4 rfl (lv_at hl 0 rfl) ?_
  refine kcallV (wc := [(h0, .inr (15, [.ref a1, .ref a2, .ref a3, .ref a4, .ref a5, .int tt, .int wf, .int ww, .int te, .int tn, .int mo])), (a3, .inr (3, [.int 0, .ref g.2.1, .int 0]))]) (wr := [(a2, .inr (3, [.int 0, .ref g.2.1, .int 0])), (a4, .inr (3, [.int 0, .ref g.2.1, .int 0]))]) (As := []) (rest := []) K G (m_X11_goOnAir l hl0 g h0 a1 a2 a3 a4 a5 tt wf ww te tn mo ) hP hD hS hA hl kw_82 kw_83 kw_84 kw_85 kw_4 ydX11_goOnAir [2, 3] [0, 1] rfl rfl rfl rfl (by decide) (ci := 15) (q0 := 2) rfl rfl rfl rfl rfl (Nat.le_of_ble_eq_true rfl) dX11_passHour_5 ⟨Nat.le_of_ble_eq_true rfl, Nat.le_of_ble_eq_true rfl⟩ ⟨Nat.le_of_ble_eq_true rfl, Nat.le_of_ble_eq_true rfl⟩ (fun _ _ _ _ _ _ hX _ _ _ _ _ _ => hX.elim) (fun v w1 H locs hQ hP hD hS => ?_)
  obtain ⟨rfl, rfl⟩ := hQ
  have hP : va_P g.1 vwCl [(a2, .inr (3, [.int 0, .ref g.2.1, .int 0])), (a4, .inr (3, [.int 0, .ref g.2.1, .int 0])), (h0, .inr (15, [.ref a1, .ref a2, .ref a3, .ref a4, .ref a5, .int tt, .int wf, .int ww, .int te, .int tn, .int mo])), (a3, .inr (3, [.int 0, .ref g.2.1, .int 0]))] H := hP
  have hD : va_D A [(a2, .inr (3, [.int 0, .ref g.2.1, .int 0])), (a4, .inr (3, [.int 0, .ref g.2.1, .int 0])), (h0, .inr (15, [.ref a1, .ref a2, .ref a3, .ref a4, .ref a5, .int tt, .int wf, .int ww, .int te, .int tn, .int mo])), (a3, .inr (3, [.int 0, .ref g.2.1, .int 0]))] := hD
  refine W.widen (k := 0) (n := 0) (by decide) (by decide) ?_
  refine W.eq (g2 := F0 m 8 ls []) rfl ?_
  refine lv_aload_n hx hb dX11_passHour_8 rfl (lv_at hl 0 rfl) ?_
  refine kcallV (wc := [(h0, .inr (15, [.ref a1, .ref a2, .ref a3, .ref a4, .ref a5, .int tt, .int wf, .int ww, .int te, .int tn, .int mo])), (a2, .inr (3, [.int 0, .ref g.2.1, .int 0])), (a3, .inr (3, [.int 0, .ref g.2.1, .int 0]))]) (wr := [(a4, .inr (3, [.int 0, .ref g.2.1, .int 0]))]) (As := []) (rest := []) K G (m_X11_listen l hl0 g h0 a1 a2 a3 a4 a5 tt wf ww te tn mo ) hP hD hS hA hl kw_86 kw_87 kw_88 kw_89 kw_4 ydX11_listen [2, 0, 3] [1] rfl rfl rfl rfl (by decide) (ci := 15) (q0 := 2) rfl rfl rfl rfl rfl (Nat.le_of_ble_eq_true rfl) dX11_passHour_9 ⟨Nat.le_of_ble_eq_true rfl, Nat.le_of_ble_eq_true rfl⟩ ⟨Nat.le_of_ble_eq_true rfl, Nat.le_of_ble_eq_true rfl⟩ (fun _ _ _ _ _ _ hX _ _ _ _ _ _ => hX.elim) (fun v w1 H locs hQ hP hD hS => ?_)
  obtain ⟨rfl, rfl⟩ := hQ
  have hP : va_P g.1 vwCl [(a4, .inr (3, [.int 0, .ref g.2.1, .int 0])), (h0, .inr (15, [.ref a1, .ref a2, .ref a3, .ref a4, .ref a5, .int tt, .int wf, .int ww, .int te, .int tn, .int mo])), (a2, .inr (3, [.int 0, .ref g.2.1, .int 0])), (a3, .inr (3, [.int 0, .ref g.2.1, .int 0]))] H := hP
  have hD : va_D A [(a4, .inr (3, [.int 0, .ref g.2.1, .int 0])), (h0, .inr (15, [.ref a1, .ref a2, .ref a3, .ref a4, .ref a5, .int tt, .int wf, .int ww, .int te, .int tn, .int mo])), (a2, .inr (3, [.int 0, .ref g.2.1, .int 0])), (a3, .inr (3, [.int 0, .ref g.2.1, .int 0]))] := hD
  refine W.widen (k := 0) (n := 0) (by decide) (by decide) ?_
  refine W.eq (g2 := F0 m 12 ls []) rfl ?_
  refine lv_aload_n hx hb dX11_passHour_12 rfl (lv_at hl 0 rfl) ?_
  refine kcallV (wc := [(h0, .inr (15, [.ref a1, .ref a2, .ref a3, .ref a4, .ref a5, .int tt, .int wf, .int ww, .int te, .int tn, .int mo])), (a3, .inr (3, [.int 0, .ref g.2.1, .int 0]))]) (wr := [(a4, .inr (3, [.int 0, .ref g.2.1, .int 0])), (a2, .inr (3, [.int 0, .ref g.2.1, .int 0]))]) (As := []) (rest := []) K G (m_X11_playSpots l hl0 g h0 a1 a2 a3 a4 a5 tt wf ww te tn mo ) hP hD hS hA hl kw_90 kw_91 kw_92 kw_93 kw_4 ydX11_playSpots [1, 3] [0, 2] rfl rfl rfl rfl (by decide) (ci := 15) (q0 := 1) rfl rfl rfl rfl rfl (Nat.le_of_ble_eq_true rfl) dX11_passHour_13 ⟨Nat.le_of_ble_eq_true rfl, Nat.le_of_ble_eq_true rfl⟩ ⟨Nat.le_of_ble_eq_true rfl, Nat.le_of_ble_eq_true rfl⟩ (fun _ _ _ _ _ _ hX _ _ _ _ _ _ => hX.elim) (fun v w1 H locs hQ hP hD hS => ?_)
  obtain ⟨rfl, rfl⟩ := hQ
  have hP : va_P g.1 vwCl [(a4, .inr (3, [.int 0, .ref g.2.1, .int 0])), (a2, .inr (3, [.int 0, .ref g.2.1, .int 0])), (h0, .inr (15, [.ref a1, .ref a2, .ref a3, .ref a4, .ref a5, .int tt, .int wf, .int ww, .int te, .int tn, .int mo])), (a3, .inr (3, [.int 0, .ref g.2.1, .int 0]))] H := hP
  have hD : va_D A [(a4, .inr (3, [.int 0, .ref g.2.1, .int 0])), (a2, .inr (3, [.int 0, .ref g.2.1, .int 0])), (h0, .inr (15, [.ref a1, .ref a2, .ref a3, .ref a4, .ref a5, .int tt, .int wf, .int ww, .int te, .int tn, .int mo])), (a3, .inr (3, [.int 0, .ref g.2.1, .int 0]))] := hD
  refine W.widen (k := 0) (n := 0) (by decide) (by decide) ?_
  refine W.eq (g2 := F0 m 16 ls []) rfl ?_
  refine lv_aload_n hx hb dX11_passHour_16 rfl (lv_at hl 0 rfl) ?_
  refine kcallV (wc := [(h0, .inr (15, [.ref a1, .ref a2, .ref a3, .ref a4, .ref a5, .int tt, .int wf, .int ww, .int te, .int tn, .int mo])), (a3, .inr (3, [.int 0, .ref g.2.1, .int 0]))]) (wr := [(a4, .inr (3, [.int 0, .ref g.2.1, .int 0])), (a2, .inr (3, [.int 0, .ref g.2.1, .int 0]))]) (As := []) (rest := []) K G (m_X11_speak l hl0 g h0 a1 a2 a3 a4 a5 tt wf ww te tn mo ) hP hD hS hA hl kw_94 kw_95 kw_96 kw_97 kw_4 ydX11_speak [2, 3] [0, 1] rfl rfl rfl rfl (by decide) (ci := 15) (q0 := 2) rfl rfl rfl rfl rfl (Nat.le_of_ble_eq_true rfl) dX11_passHour_17 ⟨Nat.le_of_ble_eq_true rfl, Nat.le_of_ble_eq_true rfl⟩ ⟨Nat.le_of_ble_eq_true rfl, Nat.le_of_ble_eq_true rfl⟩ (fun _ _ _ _ _ _ hX _ _ _ _ _ _ => hX.elim) (fun v w1 H locs hQ hP hD hS => ?_)
  obtain ⟨rfl, rfl⟩ := hQ
  have hP : va_P g.1 vwCl [(a4, .inr (3, [.int 0, .ref g.2.1, .int 0])), (a2, .inr (3, [.int 0, .ref g.2.1, .int 0])), (h0, .inr (15, [.ref a1, .ref a2, .ref a3, .ref a4, .ref a5, .int tt, .int wf, .int ww, .int te, .int tn, .int mo])), (a3, .inr (3, [.int 0, .ref g.2.1, .int 0]))] H := hP
  have hD : va_D A [(a4, .inr (3, [.int 0, .ref g.2.1, .int 0])), (a2, .inr (3, [.int 0, .ref g.2.1, .int 0])), (h0, .inr (15, [.ref a1, .ref a2, .ref a3, .ref a4, .ref a5, .int tt, .int wf, .int ww, .int te, .int tn, .int mo])), (a3, .inr (3, [.int 0, .ref g.2.1, .int 0]))] := hD
  refine W.widen (k := 0) (n := 0) (by decide) (by decide) ?_
  refine W.eq (g2 := F0 m 20 ls []) rfl ?_
  refine lv_aload_n hx hb dX11_passHour_20 rfl (lv_at hl 0 rfl) ?_
  refine kcallV (wc := [(h0, .inr (15, [.ref a1, .ref a2, .ref a3, .ref a4, .ref a5, .int tt, .int wf, .int ww, .int te, .int tn, .int mo])), (a3, .inr (3, [.int 0, .ref g.2.1, .int 0]))]) (wr := [(a4, .inr (3, [.int 0, .ref g.2.1, .int 0])), (a2, .inr (3, [.int 0, .ref g.2.1, .int 0]))]) (As := []) (rest := []) K G (m_X11_keepHour l hl0 g h0 a1 a2 a3 a4 a5 tt wf ww te tn mo ) hP hD hS hA hl kw_98 kw_99 kw_100 kw_101 kw_4 ydX11_keepHour [2, 3] [0, 1] rfl rfl rfl rfl (by decide) (ci := 15) (q0 := 2) rfl rfl rfl rfl rfl (Nat.le_of_ble_eq_true rfl) dX11_passHour_21 ⟨Nat.le_of_ble_eq_true rfl, Nat.le_of_ble_eq_true rfl⟩ ⟨Nat.le_of_ble_eq_true rfl, Nat.le_of_ble_eq_true rfl⟩ (fun _ _ _ _ _ _ hX _ _ _ _ _ _ => hX.elim) (fun v w1 H locs hQ hP hD hS => ?_)
  obtain ⟨rfl, rfl⟩ := hQ
  have hP : va_P g.1 vwCl [(a4, .inr (3, [.int 0, .ref g.2.1, .int 0])), (a2, .inr (3, [.int 0, .ref g.2.1, .int 0])), (h0, .inr (15, [.ref a1, .ref a2, .ref a3, .ref a4, .ref a5, .int tt, .int wf, .int ww, .int te, .int tn, .int mo])), (a3, .inr (3, [.int 0, .ref g.2.1, .int 0]))] H := hP
  have hD : va_D A [(a4, .inr (3, [.int 0, .ref g.2.1, .int 0])), (a2, .inr (3, [.int 0, .ref g.2.1, .int 0])), (h0, .inr (15, [.ref a1, .ref a2, .ref a3, .ref a4, .ref a5, .int tt, .int wf, .int ww, .int te, .int tn, .int mo])), (a3, .inr (3, [.int 0, .ref g.2.1, .int 0]))] := hD
  refine W.widen (k := 0) (n := 0) (by decide) (by decide) ?_
  refine W.eq (g2 := F0 m 24 ls []) rfl ?_
  refine lv_aload_n hx hb dX11_passHour_24 rfl (lv_at hl 0 rfl) ?_
  refine kcallV (wc := [(h0, .inr (15, [.ref a1, .ref a2, .ref a3, .ref a4, .ref a5, .int tt, .int wf, .int ww, .int te, .int tn, .int mo])), (a3, .inr (3, [.int 0, .ref g.2.1, .int 0])), (a4, .inr (3, [.int 0, .ref g.2.1, .int 0]))]) (wr := [(a2, .inr (3, [.int 0, .ref g.2.1, .int 0]))]) (As := []) (rest := []) K G (m_X11_eatAndTire l hl0 g h0 a1 a2 a3 a4 a5 tt wf ww te tn mo ) hP hD hS hA hl kw_102 kw_103 kw_104 kw_105 kw_4 ydX11_eatAndTire [2, 3, 0] [1] rfl rfl rfl rfl (by decide) (ci := 15) (q0 := 2) rfl rfl rfl rfl rfl (Nat.le_of_ble_eq_true rfl) dX11_passHour_25 ⟨Nat.le_of_ble_eq_true rfl, Nat.le_of_ble_eq_true rfl⟩ ⟨Nat.le_of_ble_eq_true rfl, Nat.le_of_ble_eq_true rfl⟩ (fun _ _ _ _ _ _ hX _ _ _ _ _ _ => hX.elim) (fun v w1 H locs hQ hP hD hS => ?_)
  obtain ⟨rfl, rfl⟩ := hQ
  have hP : va_P g.1 vwCl [(a2, .inr (3, [.int 0, .ref g.2.1, .int 0])), (h0, .inr (15, [.ref a1, .ref a2, .ref a3, .ref a4, .ref a5, .int tt, .int wf, .int ww, .int te, .int tn, .int mo])), (a3, .inr (3, [.int 0, .ref g.2.1, .int 0])), (a4, .inr (3, [.int 0, .ref g.2.1, .int 0]))] H := hP
  have hD : va_D A [(a2, .inr (3, [.int 0, .ref g.2.1, .int 0])), (h0, .inr (15, [.ref a1, .ref a2, .ref a3, .ref a4, .ref a5, .int tt, .int wf, .int ww, .int te, .int tn, .int mo])), (a3, .inr (3, [.int 0, .ref g.2.1, .int 0])), (a4, .inr (3, [.int 0, .ref g.2.1, .int 0]))] := hD
  refine W.widen (k := 0) (n := 0) (by decide) (by decide) ?_
  refine W.eq (g2 := F0 m 28 ls []) rfl ?_
  refine lv_aload_n hx hb dX11_passHour_28 rfl (lv_at hl 0 rfl) ?_
  refine kcallV (wc := [(h0, .inr (15, [.ref a1, .ref a2, .ref a3, .ref a4, .ref a5, .int tt, .int wf, .int ww, .int te, .int tn, .int mo])), (a3, .inr (3, [.int 0, .ref g.2.1, .int 0]))]) (wr := [(a2, .inr (3, [.int 0, .ref g.2.1, .int 0])), (a4, .inr (3, [.int 0, .ref g.2.1, .int 0]))]) (As := []) (rest := []) K G (m_X11_gatherSalt l hl0 g h0 a1 a2 a3 a4 a5 tt wf ww te tn mo ) hP hD hS hA hl kw_106 kw_107 kw_108 kw_109 kw_4 ydX11_gatherSalt [1, 2] [0, 3] rfl rfl rfl rfl (by decide) (ci := 15) (q0 := 1) rfl rfl rfl rfl rfl (Nat.le_of_ble_eq_true rfl) dX11_passHour_29 ⟨Nat.le_of_ble_eq_true rfl, Nat.le_of_ble_eq_true rfl⟩ ⟨Nat.le_of_ble_eq_true rfl, Nat.le_of_ble_eq_true rfl⟩ (fun _ _ _ _ _ _ hX _ _ _ _ _ _ => hX.elim) (fun v w1 H locs hQ hP hD hS => ?_)
  obtain ⟨rfl, rfl⟩ := hQ
  have hP : va_P g.1 vwCl [(a2, .inr (3, [.int 0, .ref g.2.1, .int 0])), (a4, .inr (3, [.int 0, .ref g.2.1, .int 0])), (h0, .inr (15, [.ref a1, .ref a2, .ref a3, .ref a4, .ref a5, .int tt, .int wf, .int ww, .int te, .int tn, .int mo])), (a3, .inr (3, [.int 0, .ref g.2.1, .int 0]))] H := hP
  have hD : va_D A [(a2, .inr (3, [.int 0, .ref g.2.1, .int 0])), (a4, .inr (3, [.int 0, .ref g.2.1, .int 0])), (h0, .inr (15, [.ref a1, .ref a2, .ref a3, .ref a4, .ref a5, .int tt, .int wf, .int ww, .int te, .int tn, .int mo])), (a3, .inr (3, [.int 0, .ref g.2.1, .int 0]))] := hD
  refine W.widen (k := 0) (n := 0) (by decide) (by decide) ?_
  refine W.eq (g2 := F0 m 32 ls []) rfl ?_
  refine lv_aload_n hx hb dX11_passHour_32 rfl (lv_at hl 0 rfl) ?_
  refine kcallV (wc := [(h0, .inr (15, [.ref a1, .ref a2, .ref a3, .ref a4, .ref a5, .int tt, .int wf, .int ww, .int te, .int tn, .int mo])), (a3, .inr (3, [.int 0, .ref g.2.1, .int 0]))]) (wr := [(a2, .inr (3, [.int 0, .ref g.2.1, .int 0])), (a4, .inr (3, [.int 0, .ref g.2.1, .int 0]))]) (As := []) (rest := []) K G (m_X11_moveShips l hl0 g h0 a1 a2 a3 a4 a5 tt wf ww te tn mo ) hP hD hS hA hl kw_110 kw_111 kw_112 kw_113 kw_4 ydX11_moveShips [2, 3] [0, 1] rfl rfl rfl rfl (by decide) (ci := 15) (q0 := 2) rfl rfl rfl rfl rfl (Nat.le_of_ble_eq_true rfl) dX11_passHour_33 ⟨Nat.le_of_ble_eq_true rfl, Nat.le_of_ble_eq_true rfl⟩ ⟨Nat.le_of_ble_eq_true rfl, Nat.le_of_ble_eq_true rfl⟩ (fun _ _ _ _ _ _ hX _ _ _ _ _ _ => hX.elim) (fun v w1 H locs hQ hP hD hS => ?_)
  obtain ⟨rfl, rfl⟩ := hQ
  have hP : va_P g.1 vwCl [(a2, .inr (3, [.int 0, .ref g.2.1, .int 0])), (a4, .inr (3, [.int 0, .ref g.2.1, .int 0])), (h0, .inr (15, [.ref a1, .ref a2, .ref a3, .ref a4, .ref a5, .int tt, .int wf, .int ww, .int te, .int tn, .int mo])), (a3, .inr (3, [.int 0, .ref g.2.1, .int 0]))] H := hP
  have hD : va_D A [(a2, .inr (3, [.int 0, .ref g.2.1, .int 0])), (a4, .inr (3, [.int 0, .ref g.2.1, .int 0])), (h0, .inr (15, [.ref a1, .ref a2, .ref a3, .ref a4, .ref a5, .int tt, .int wf, .int ww, .int te, .int tn, .int mo])), (a3, .inr (3, [.int 0, .ref g.2.1, .int 0]))] := hD
  refine W.widen (k := 0) (n := 0) (by decide) (by decide) ?_
  refine W.eq (g2 := F0 m 36 ls []) rfl ?_
  refine lv_aload_n hx hb dX11_passHour_36 rfl (lv_at hl 0 rfl) ?_
  refine lv_dup hx hb dX11_passHour_37 rfl ?_
  refine va_get (D := g.1) (ci := 15) (v := .int tt) (C := RX11) (T := TX11) (N := 11) hx hb G.ws inX11 hown G.K hP 2 rfl rfl 5 (by decide) (G.w kw_114) (fun _ h9 => h9) rfl dX11_passHour_38 ?_
  refine lv_iconst (v := 1) hx hb dX11_passHour_41 (by decide) ?_
  refine lv_iadd hx hb dX11_passHour_42 ?_
  refine va_put (D := g.1) (ci := 15) (v := .int (tt + 1)) (ty := .int) (C := RX11) (T := TX11) (N := 11) hx hb G.ws inX11 tyX11 tyX11_ok nmX11 hown G.K hP hD hS 2 rfl rfl 5 (by decide) (G.w kw_114) (fun _ h9 => h9) (by decide +kernel) (by decide +kernel) rfl rfl (Nat.le_of_ble_eq_true rfl) dX11_passHour_43 (fun H locs hP hD hS => ?_)
  have hP : va_P g.1 vwCl [(a2, .inr (3, [.int 0, .ref g.2.1, .int 0])), (a4, .inr (3, [.int 0, .ref g.2.1, .int 0])), (h0, .inr (15, [.ref a1, .ref a2, .ref a3, .ref a4, .ref a5, .int (tt + 1), .int wf, .int ww, .int te, .int tn, .int mo])), (a3, .inr (3, [.int 0, .ref g.2.1, .int 0]))] H := hP
  have hD : va_D A [(a2, .inr (3, [.int 0, .ref g.2.1, .int 0])), (a4, .inr (3, [.int 0, .ref g.2.1, .int 0])), (h0, .inr (15, [.ref a1, .ref a2, .ref a3, .ref a4, .ref a5, .int (tt + 1), .int wf, .int ww, .int te, .int tn, .int mo])), (a3, .inr (3, [.int 0, .ref g.2.1, .int 0]))] := hD
  exact kretV K hP hD hS [2, 0, 3, 1] [(h0, .inr (15, [.ref a1, .ref a2, .ref a3, .ref a4, .ref a5, .int (tt + 1), .int wf, .int ww, .int te, .int tn, .int mo])), (a2, .inr (3, [.int 0, .ref g.2.1, .int 0])), (a3, .inr (3, [.int 0, .ref g.2.1, .int 0])), (a4, .inr (3, [.int 0, .ref g.2.1, .int 0]))] rfl rfl (⟨rfl, rfl⟩) (by decide) (by decide) dX11_passHour_46

set_option maxHeartbeats 4000000 in
set_option maxRecDepth 100000 in
theorem m_X11_pass (l : Launch) (hl0 : l.stackTraces = false) (g : kG) (h0 : Nat) (a1 : Nat) (a2 : Nat) (a3 : Nat) (a4 : Nat) (a5 : Nat) (wf : Int32) (ww : Int32) (te : Int32) (tn : Int32) (mo : Int32) (x : Int32)  : kc l g yX11_pass prog_1_method_8_code 3 (some .int) 7 104 1 6 [.ref h0, .int x] [(h0, .inr (15, [.ref a1, .ref a2, .ref a3, .ref a4, .ref a5, .int 0, .int wf, .int ww, .int te, .int tn, .int mo])), (a2, .inr (3, [.int 0, .ref g.2.1, .int 0])), (a3, .inr (3, [.int 0, .ref g.2.1, .int 0])), (a4, .inr (3, [.int 0, .ref g.2.1, .int 0]))] (fun v w => (v = some (.int x) ∧ w = [] ∧ inR x 1 96 = true)) (fun E w => (E = "java/lang/IllegalArgumentException" ∧ w = [] ∧ inR x 1 96 = false)) := by
  refine kbody (by decide) (Nat.le_of_ble_eq_true rfl) ?_
  intro p e s m args below meth c A H K ht G hP hD hA hS ls hl
  have K : KB p s m meth c RX11 "pass" prog_1_method_8_code 3 (some .int) := K
  obtain ⟨hx, hb, hml, hown, hlocks, hr, hin⟩ := id K
  have hl : lv_has ls 3 [(0, .ref h0), (1, .int x)] := hl
  refine lv_iload_n hx hb dX11_pass_0 rfl (lv_at hl 1 rfl) ?_
  refine lv_iconst (v := 1) hx hb dX11_pass_1 (by decide) ?_
  refine lv_bipush (v := 96) hx hb dX11_pass_2 (by decide) ?_
  refine kcallS (wc := []) (wr := [(h0, .inr (15, [.ref a1, .ref a2, .ref a3, .ref a4, .ref a5, .int 0, .int wf, .int ww, .int te, .int tn, .int mo])), (a2, .inr (3, [.int 0, .ref g.2.1, .int 0])), (a3, .inr (3, [.int 0, .ref g.2.1, .int 0])), (a4, .inr (3, [.int 0, .ref g.2.1, .int 0]))]) (As := [.int x, .int 1, .int 96]) (rest := []) K G (m_X11_requireRange l hl0 g x 1 96 ) hP hD hS hA hl kw_2 kw_3 kw_5 kw_4 ydX11_requireRange [] [0, 1, 2, 3] rfl rfl rfl rfl (by decide) rfl rfl (Nat.le_of_ble_eq_true rfl) dX11_pass_4 ⟨Nat.le_of_ble_eq_true rfl, Nat.le_of_ble_eq_true rfl⟩ ⟨Nat.le_of_ble_eq_true rfl, Nat.le_of_ble_eq_true rfl⟩ (fun E w1 ce q9 H locs hX hP hD hS hce hcv hcl => ?_) (fun v w1 H locs hQ hP hD hS => ?_)
  · obtain ⟨rfl, rfl, f_2⟩ := hX
    have hP : va_P g.1 vwCl [(h0, .inr (15, [.ref a1, .ref a2, .ref a3, .ref a4, .ref a5, .int 0, .int wf, .int ww, .int te, .int tn, .int mo])), (a2, .inr (3, [.int 0, .ref g.2.1, .int 0])), (a3, .inr (3, [.int 0, .ref g.2.1, .int 0])), (a4, .inr (3, [.int 0, .ref g.2.1, .int 0]))] H := hP
    have hD : va_D A [(h0, .inr (15, [.ref a1, .ref a2, .ref a3, .ref a4, .ref a5, .int 0, .int wf, .int ww, .int te, .int tn, .int mo])), (a2, .inr (3, [.int 0, .ref g.2.1, .int 0])), (a3, .inr (3, [.int 0, .ref g.2.1, .int 0])), (a4, .inr (3, [.int 0, .ref g.2.1, .int 0]))] := hD
    refine vx_widen (k := 1) (n := 6) (by decide) (by decide) ?_
    exact kthrow K ht hP hD hS hce hcv hcl [] [] rfl rfl (⟨rfl, rfl, (by exact f_2)⟩) (by decide) (by decide)
  · obtain ⟨rfl, rfl, f_3⟩ := hQ
    have hP : va_P g.1 vwCl [(h0, .inr (15, [.ref a1, .ref a2, .ref a3, .ref a4, .ref a5, .int 0, .int wf, .int ww, .int te, .int tn, .int mo])), (a2, .inr (3, [.int 0, .ref g.2.1, .int 0])), (a3, .inr (3, [.int 0, .ref g.2.1, .int 0])), (a4, .inr (3, [.int 0, .ref g.2.1, .int 0]))] H := hP
    have hD : va_D A [(h0, .inr (15, [.ref a1, .ref a2, .ref a3, .ref a4, .ref a5, .int 0, .int wf, .int ww, .int te, .int tn, .int mo])), (a2, .inr (3, [.int 0, .ref g.2.1, .int 0])), (a3, .inr (3, [.int 0, .ref g.2.1, .int 0])), (a4, .inr (3, [.int 0, .ref g.2.1, .int 0]))] := hD
    refine W.widen (k := 1) (n := 6) (by decide) (by decide) ?_
    refine W.eq (g2 := F0 m 7 ls []) rfl ?_
    refine lv_iconst (v := 0) hx hb dX11_pass_7 (by decide) ?_
    refine lv_istore_n (lv' := [(2, .int 0), (0, .ref h0), (1, .int x)]) hx hb dX11_pass_8 rfl hl (by decide) rfl (fun ls hl => ?_)
    obtain ⟨n, hn, ex⟩ : ∃ n : Nat, n ≤ 96 ∧ x = nI n := inR_n f_3 (by decide) (by decide)
    suffices KL : ∀ (k i : Nat), k + i = n → ∀ (H : Heap) (locs : List Loc), va_P g.1 vwCl [(h0, .inr (15, [.ref a1, .ref a2, .ref a3, .ref a4, .ref a5, .int (nI i), .int wf, .int ww, .int te, .int tn, .int mo])), (a2, .inr (3, [.int 0, .ref g.2.1, .int 0])), (a3, .inr (3, [.int 0, .ref g.2.1, .int 0])), (a4, .inr (3, [.int 0, .ref g.2.1, .int 0]))] H → va_D A [(h0, .inr (15, [.ref a1, .ref a2, .ref a3, .ref a4, .ref a5, .int (nI i), .int wf, .int ww, .int te, .int tn, .int mo])), (a2, .inr (3, [.int 0, .ref g.2.1, .int 0])), (a3, .inr (3, [.int 0, .ref g.2.1, .int 0])), (a4, .inr (3, [.int 0, .ref g.2.1, .int 0]))] → va_S A s.heap H locs → ∀ ls : Array Slot, lv_has ls 3 [(0, .ref h0), (1, .int x), (2, .int (nI i))] → W p l e (kR 7 104 1 6) s m args below meth c H locs 1 6 (vx_MQ below (kQ g (fun v w => (v = some (.int x) ∧ w = [] ∧ inR x 1 96 = true)) A) (kX g (fun E w => (E = "java/lang/IllegalArgumentException" ∧ w = [] ∧ inR x 1 96 = false)) A) args s 1 6 A) (F0 m 9 ls []) from KL n 0 rfl  _ _ (ksubP hP [0, 1, 2, 3] rfl) (hD.sub [0, 1, 2, 3] rfl rfl) hS _ (lv_sub hl [1, 2, 0] rfl)
    clear hP hD hS hl
    intro k
    induction k with
    | zero =>
      intro i hi  H locs hP hD hS ls hl
      have ei : i = n := by omega
      try rw [ei] at hP
      try rw [ei] at hD
      rw [ei] at hl
      have hP : va_P g.1 vwCl [(h0, .inr (15, [.ref a1, .ref a2, .ref a3, .ref a4, .ref a5, .int (nI n), .int wf, .int ww, .int te, .int tn, .int mo])), (a2, .inr (3, [.int 0, .ref g.2.1, .int 0])), (a3, .inr (3, [.int 0, .ref g.2.1, .int 0])), (a4, .inr (3, [.int 0, .ref g.2.1, .int 0]))] H := hP
      have hD : va_D A [(h0, .inr (15, [.ref a1, .ref a2, .ref a3, .ref a4, .ref a5, .int (nI n), .int wf, .int ww, .int te, .int tn, .int mo])), (a2, .inr (3, [.int 0, .ref g.2.1, .int 0])), (a3, .inr (3, [.int 0, .ref g.2.1, .int 0])), (a4, .inr (3, [.int 0, .ref g.2.1, .int 0]))] := hD
      have hl : lv_has ls 3 [(0, .ref h0), (1, .int x), (2, .int (nI n))] := hl
      refine lv_iload_n hx hb dX11_pass_9 rfl (lv_at hl 2 rfl) ?_
      refine lv_iload_n hx hb dX11_pass_10 rfl (lv_at hl 1 rfl) ?_
      refine lv_icmp_ge (tgt := 24) hx hb dX11_pass_11 (by decide) (fun c11_4 => ?_) (fun c11_4 => ?_)
      · refine lv_aload_n hx hb dX11_pass_24 rfl (lv_at hl 0 rfl) ?_
        refine va_get (D := g.1) (ci := 15) (v := .int (nI n)) (C := RX11) (T := TX11) (N := 11) hx hb G.ws inX11 hown G.K hP 0 rfl rfl 5 (by decide) (G.w kw_114) (fun _ h9 => h9) rfl dX11_pass_25 ?_
        exact kretI K hP hD hS [] [] rfl rfl (⟨(by rw [ex]), rfl, (by exact f_3)⟩) (by decide) (by decide) dX11_pass_28
      · exact absurd c11_4 (by exact fun h => h (by rw [ex]; exact Int32.le_refl _))
    | succ k ih =>
      intro i hi  H locs hP hD hS ls hl
      refine lv_iload_n hx hb dX11_pass_9 rfl (lv_at hl 2 rfl) ?_
      refine lv_iload_n hx hb dX11_pass_10 rfl (lv_at hl 1 rfl) ?_
      refine lv_icmp_ge (tgt := 24) hx hb dX11_pass_11 (by decide) (fun c11_5 => ?_) (fun c11_5 => ?_)
      · exact absurd c11_5 (by rw [ex]; exact nI_ge (by omega) (by omega))
      · refine lv_aload_n hx hb dX11_pass_14 rfl (lv_at hl 0 rfl) ?_
        refine kcallV (wc := [(h0, .inr (15, [.ref a1, .ref a2, .ref a3, .ref a4, .ref a5, .int (nI i), .int wf, .int ww, .int te, .int tn, .int mo])), (a2, .inr (3, [.int 0, .ref g.2.1, .int 0])), (a3, .inr (3, [.int 0, .ref g.2.1, .int 0])), (a4, .inr (3, [.int 0, .ref g.2.1, .int 0]))]) (wr := []) (As := []) (rest := []) K G (m_X11_passHour l hl0 g h0 a1 a2 a3 a4 a5 (nI i) wf ww te tn mo ) hP hD hS hA hl kw_115 kw_116 kw_117 kw_118 kw_4 ydX11_passHour [0, 1, 2, 3] [] rfl rfl rfl rfl (by decide) (ci := 15) (q0 := 0) rfl rfl rfl rfl rfl (Nat.le_of_ble_eq_true rfl) dX11_pass_15 ⟨Nat.le_of_ble_eq_true rfl, Nat.le_of_ble_eq_true rfl⟩ ⟨Nat.le_of_ble_eq_true rfl, Nat.le_of_ble_eq_true rfl⟩ (fun _ _ _ _ _ _ hX _ _ _ _ _ _ => hX.elim) (fun v w1 H locs hQ hP hD hS => ?_)
        obtain ⟨rfl, rfl⟩ := hQ
        have hP : va_P g.1 vwCl [(h0, .inr (15, [.ref a1, .ref a2, .ref a3, .ref a4, .ref a5, .int ((nI i) + 1), .int wf, .int ww, .int te, .int tn, .int mo])), (a2, .inr (3, [.int 0, .ref g.2.1, .int 0])), (a3, .inr (3, [.int 0, .ref g.2.1, .int 0])), (a4, .inr (3, [.int 0, .ref g.2.1, .int 0]))] H := hP
        have hD : va_D A [(h0, .inr (15, [.ref a1, .ref a2, .ref a3, .ref a4, .ref a5, .int ((nI i) + 1), .int wf, .int ww, .int te, .int tn, .int mo])), (a2, .inr (3, [.int 0, .ref g.2.1, .int 0])), (a3, .inr (3, [.int 0, .ref g.2.1, .int 0])), (a4, .inr (3, [.int 0, .ref g.2.1, .int 0]))] := hD
        refine W.widen (k := 1) (n := 6) (by decide) (by decide) ?_
        refine W.eq (g2 := F0 m 18 ls []) rfl ?_
        refine lv_iinc (v := nI (i + 1)) (lv' := [(2, .int (nI (i + 1))), (0, .ref h0), (1, .int x)]) hx hb dX11_pass_18 hl (k := 2) rfl (nI_1 _) (by decide) rfl (fun ls hl => ?_)
        refine lv_goto (tgt := 9) hx hb dX11_pass_21 (by decide) ?_
        rw [nI_1] at hP hD
        refine ih (i + 1) (by omega)  _ _ ?_ ?_ hS _ ?_
        · exact ksubP hP [0, 1, 2, 3] rfl
        · exact hD.sub [0, 1, 2, 3] rfl rfl
        · exact lv_sub hl [1, 2, 0] rfl

set_option maxHeartbeats 4000000 in
set_option maxRecDepth 100000 in
theorem m_X4_init (l : Launch) (hl0 : l.stackTraces = false) (g : kG) (h0 : Nat) (x0 : Int32) (x1 : Int32) (x2 : Int32)  : kc l g yX4_init prog_6_method_1_code 4 none 1 20 3 24 [.ref h0, .int x0, .int x1, .int x2] [(h0, .inr (8, [.int 0, .int 0, .int 0, .null, .null, .null, .int 0, .int 0, .int 0, .int 0, .int 0]))] (fun v w => (∃ q3 : Nat, ∃ q4 : Nat, ∃ q5 : Nat, v = none ∧ w = [(h0, .inr (8, [.int x0, .int x1, .int x2, .ref q3, .ref q4, .ref q5, .int 0, .int 0, .int 0, .int 0, .int (-1)]))])) (fun _ _ => False) := by
  refine kbody (by decide) (Nat.le_of_ble_eq_true rfl) ?_
  intro p e s m args below meth c A H K ht G hP hD hA hS ls hl
  have K : KB p s m meth c RX4 "<init>" prog_6_method_1_code 4 none := K
  obtain ⟨hx, hb, hml, hown, hlocks, hr, hin⟩ := id K
  have hl : lv_has ls 4 [(0, .ref h0), (1, .int x0), (2, .int x1), (3, .int x2)] := hl
  refine lv_aload_n hx hb dX4_init_0 rfl (lv_at hl 0 rfl) ?_
  refine W.objInit hx hb hown (G.w kw_119) (G.w kw_9) (G.w kw_10) rfl (by rw [hml]; exact hl.1) rfl dX4_init_1 (Nat.le_of_ble_eq_true rfl) (Nat.le_of_ble_eq_true rfl) ?_
  refine W.eq (g2 := F0 m 4 ls []) rfl ?_
  refine lv_aload_n hx hb dX4_init_4 rfl (lv_at hl 0 rfl) ?_
  refine lv_iload_n hx hb dX4_init_5 rfl (lv_at hl 1 rfl) ?_
  refine va_putF (D := g.1) (ci := 8) (v := .int x0) (ty := .int) (C := RX4) (T := TX4) (N := 11) hx hb G.ws inX4 tyX4 tyX4_ok nmX4 hown G.K hP hD hS 0 rfl rfl 0 (by decide) (G.w kw_120) (fun _ h9 => h9) rfl hin rfl (by decide +kernel) rfl rfl (Nat.le_of_ble_eq_true rfl) dX4_init_6 (fun H locs hP hD hS => ?_)
  have hP : va_P g.1 vwCl [(h0, .inr (8, [.int x0, .int 0, .int 0, .null, .null, .null, .int 0, .int 0, .int 0, .int 0, .int 0]))] H := hP
  have hD : va_D A [(h0, .inr (8, [.int x0, .int 0, .int 0, .null, .null, .null, .int 0, .int 0, .int 0, .int 0, .int 0]))] := hD
  refine lv_aload_n hx hb dX4_init_9 rfl (lv_at hl 0 rfl) ?_
  refine lv_iload_n hx hb dX4_init_10 rfl (lv_at hl 2 rfl) ?_
  refine va_putF (D := g.1) (ci := 8) (v := .int x1) (ty := .int) (C := RX4) (T := TX4) (N := 11) hx hb G.ws inX4 tyX4 tyX4_ok nmX4 hown G.K hP hD hS 0 rfl rfl 1 (by decide) (G.w kw_121) (fun _ h9 => h9) rfl hin rfl (by decide +kernel) rfl rfl (Nat.le_of_ble_eq_true rfl) dX4_init_11 (fun H locs hP hD hS => ?_)
  have hP : va_P g.1 vwCl [(h0, .inr (8, [.int x0, .int x1, .int 0, .null, .null, .null, .int 0, .int 0, .int 0, .int 0, .int 0]))] H := hP
  have hD : va_D A [(h0, .inr (8, [.int x0, .int x1, .int 0, .null, .null, .null, .int 0, .int 0, .int 0, .int 0, .int 0]))] := hD
  refine lv_aload_n hx hb dX4_init_14 rfl (lv_at hl 0 rfl) ?_
  refine lv_iload_n hx hb dX4_init_15 rfl (lv_at hl 3 rfl) ?_
  refine va_putF (D := g.1) (ci := 8) (v := .int x2) (ty := .int) (C := RX4) (T := TX4) (N := 11) hx hb G.ws inX4 tyX4 tyX4_ok nmX4 hown G.K hP hD hS 0 rfl rfl 2 (by decide) (G.w kw_122) (fun _ h9 => h9) rfl hin rfl (by decide +kernel) rfl rfl (Nat.le_of_ble_eq_true rfl) dX4_init_16 (fun H locs hP hD hS => ?_)
  have hP : va_P g.1 vwCl [(h0, .inr (8, [.int x0, .int x1, .int x2, .null, .null, .null, .int 0, .int 0, .int 0, .int 0, .int 0]))] H := hP
  have hD : va_D A [(h0, .inr (8, [.int x0, .int x1, .int x2, .null, .null, .null, .int 0, .int 0, .int 0, .int 0, .int 0]))] := hD
  refine lv_aload_n hx hb dX4_init_19 rfl (lv_at hl 0 rfl) ?_
  refine lv_bipush (v := 8) hx hb dX4_init_20 (by decide) ?_
  refine kNewa0 hx hb (G.w kw_123) G hP hD hS hA (n := 8) (N := 8) (by decide) (by decide) (by decide) (by decide) (by decide) dX4_init_22 (fun q_1 H hP hD hS => ?_)
  have hP : va_P g.1 vwCl [(h0, .inr (8, [.int x0, .int x1, .int x2, .null, .null, .null, .int 0, .int 0, .int 0, .int 0, .int 0])), (q_1, .inl ((g.2.2.1 0), 8, .inl (fun _ => 0)))] H := hP
  have hD : va_D A [(h0, .inr (8, [.int x0, .int x1, .int x2, .null, .null, .null, .int 0, .int 0, .int 0, .int 0, .int 0])), (q_1, .inl ((g.2.2.1 0), 8, .inl (fun _ => 0)))] := hD
  refine W.widen (k := 1) (n := 8) (by decide) (by decide) ?_
  refine va_putF (D := g.1) (ci := 8) (v := .ref q_1) (ty := (.array .int)) (C := RX4) (T := TX4) (N := 11) hx hb G.ws inX4 tyX4 tyX4_ok nmX4 hown G.K hP hD hS 0 rfl rfl 3 (by decide) (G.w kw_124) (fun _ h9 => h9) rfl hin rfl (by decide +kernel) rfl rfl (Nat.le_of_ble_eq_true rfl) dX4_init_24 (fun H locs hP hD hS => ?_)
  have hP : va_P g.1 vwCl [(h0, .inr (8, [.int x0, .int x1, .int x2, .ref q_1, .null, .null, .int 0, .int 0, .int 0, .int 0, .int 0])), (q_1, .inl ((g.2.2.1 0), 8, .inl (fun _ => 0)))] H := hP
  have hD : va_D A [(h0, .inr (8, [.int x0, .int x1, .int x2, .ref q_1, .null, .null, .int 0, .int 0, .int 0, .int 0, .int 0])), (q_1, .inl ((g.2.2.1 0), 8, .inl (fun _ => 0)))] := hD
  refine lv_aload_n hx hb dX4_init_27 rfl (lv_at hl 0 rfl) ?_
  refine lv_bipush (v := 8) hx hb dX4_init_28 (by decide) ?_
  refine kNewa0 hx hb (G.w kw_123) G hP hD hS hA (n := 8) (N := 8) (by decide) (by decide) (by decide) (by decide) (by decide) dX4_init_30 (fun q_2 H hP hD hS => ?_)
  have hP : va_P g.1 vwCl [(h0, .inr (8, [.int x0, .int x1, .int x2, .ref q_1, .null, .null, .int 0, .int 0, .int 0, .int 0, .int 0])), (q_1, .inl ((g.2.2.1 0), 8, .inl (fun _ => 0))), (q_2, .inl ((g.2.2.1 0), 8, .inl (fun _ => 0)))] H := hP
  have hD : va_D A [(h0, .inr (8, [.int x0, .int x1, .int x2, .ref q_1, .null, .null, .int 0, .int 0, .int 0, .int 0, .int 0])), (q_1, .inl ((g.2.2.1 0), 8, .inl (fun _ => 0))), (q_2, .inl ((g.2.2.1 0), 8, .inl (fun _ => 0)))] := hD
  refine W.widen (k := 2) (n := 16) (by decide) (by decide) ?_
  refine va_putF (D := g.1) (ci := 8) (v := .ref q_2) (ty := (.array .int)) (C := RX4) (T := TX4) (N := 11) hx hb G.ws inX4 tyX4 tyX4_ok nmX4 hown G.K hP hD hS 0 rfl rfl 4 (by decide) (G.w kw_125) (fun _ h9 => h9) rfl hin rfl (by decide +kernel) rfl rfl (Nat.le_of_ble_eq_true rfl) dX4_init_32 (fun H locs hP hD hS => ?_)
  have hP : va_P g.1 vwCl [(h0, .inr (8, [.int x0, .int x1, .int x2, .ref q_1, .ref q_2, .null, .int 0, .int 0, .int 0, .int 0, .int 0])), (q_1, .inl ((g.2.2.1 0), 8, .inl (fun _ => 0))), (q_2, .inl ((g.2.2.1 0), 8, .inl (fun _ => 0)))] H := hP
  have hD : va_D A [(h0, .inr (8, [.int x0, .int x1, .int x2, .ref q_1, .ref q_2, .null, .int 0, .int 0, .int 0, .int 0, .int 0])), (q_1, .inl ((g.2.2.1 0), 8, .inl (fun _ => 0))), (q_2, .inl ((g.2.2.1 0), 8, .inl (fun _ => 0)))] := hD
  refine lv_aload_n hx hb dX4_init_35 rfl (lv_at hl 0 rfl) ?_
  refine lv_bipush (v := 8) hx hb dX4_init_36 (by decide) ?_
  refine kNewa0 hx hb (G.w kw_123) G hP hD hS hA (n := 8) (N := 8) (by decide) (by decide) (by decide) (by decide) (by decide) dX4_init_38 (fun q_3 H hP hD hS => ?_)
  have hP : va_P g.1 vwCl [(h0, .inr (8, [.int x0, .int x1, .int x2, .ref q_1, .ref q_2, .null, .int 0, .int 0, .int 0, .int 0, .int 0])), (q_1, .inl ((g.2.2.1 0), 8, .inl (fun _ => 0))), (q_2, .inl ((g.2.2.1 0), 8, .inl (fun _ => 0))), (q_3, .inl ((g.2.2.1 0), 8, .inl (fun _ => 0)))] H := hP
  have hD : va_D A [(h0, .inr (8, [.int x0, .int x1, .int x2, .ref q_1, .ref q_2, .null, .int 0, .int 0, .int 0, .int 0, .int 0])), (q_1, .inl ((g.2.2.1 0), 8, .inl (fun _ => 0))), (q_2, .inl ((g.2.2.1 0), 8, .inl (fun _ => 0))), (q_3, .inl ((g.2.2.1 0), 8, .inl (fun _ => 0)))] := hD
  refine W.widen (k := 3) (n := 24) (by decide) (by decide) ?_
  refine va_putF (D := g.1) (ci := 8) (v := .ref q_3) (ty := (.array .int)) (C := RX4) (T := TX4) (N := 11) hx hb G.ws inX4 tyX4 tyX4_ok nmX4 hown G.K hP hD hS 0 rfl rfl 5 (by decide) (G.w kw_126) (fun _ h9 => h9) rfl hin rfl (by decide +kernel) rfl rfl (Nat.le_of_ble_eq_true rfl) dX4_init_40 (fun H locs hP hD hS => ?_)
  have hP : va_P g.1 vwCl [(h0, .inr (8, [.int x0, .int x1, .int x2, .ref q_1, .ref q_2, .ref q_3, .int 0, .int 0, .int 0, .int 0, .int 0])), (q_1, .inl ((g.2.2.1 0), 8, .inl (fun _ => 0))), (q_2, .inl ((g.2.2.1 0), 8, .inl (fun _ => 0))), (q_3, .inl ((g.2.2.1 0), 8, .inl (fun _ => 0)))] H := hP
  have hD : va_D A [(h0, .inr (8, [.int x0, .int x1, .int x2, .ref q_1, .ref q_2, .ref q_3, .int 0, .int 0, .int 0, .int 0, .int 0])), (q_1, .inl ((g.2.2.1 0), 8, .inl (fun _ => 0))), (q_2, .inl ((g.2.2.1 0), 8, .inl (fun _ => 0))), (q_3, .inl ((g.2.2.1 0), 8, .inl (fun _ => 0)))] := hD
  refine lv_aload_n hx hb dX4_init_43 rfl (lv_at hl 0 rfl) ?_
  refine lv_iconst (v := (-1)) hx hb dX4_init_44 (by decide) ?_
  refine va_put (D := g.1) (ci := 8) (v := .int (-1)) (ty := .int) (C := RX4) (T := TX4) (N := 11) hx hb G.ws inX4 tyX4 tyX4_ok nmX4 hown G.K hP hD hS 0 rfl rfl 10 (by decide) (G.w kw_127) (fun _ h9 => h9) (by decide +kernel) (by decide +kernel) rfl rfl (Nat.le_of_ble_eq_true rfl) dX4_init_45 (fun H locs hP hD hS => ?_)
  have hP : va_P g.1 vwCl [(h0, .inr (8, [.int x0, .int x1, .int x2, .ref q_1, .ref q_2, .ref q_3, .int 0, .int 0, .int 0, .int 0, .int (-1)])), (q_1, .inl ((g.2.2.1 0), 8, .inl (fun _ => 0))), (q_2, .inl ((g.2.2.1 0), 8, .inl (fun _ => 0))), (q_3, .inl ((g.2.2.1 0), 8, .inl (fun _ => 0)))] H := hP
  have hD : va_D A [(h0, .inr (8, [.int x0, .int x1, .int x2, .ref q_1, .ref q_2, .ref q_3, .int 0, .int 0, .int 0, .int 0, .int (-1)])), (q_1, .inl ((g.2.2.1 0), 8, .inl (fun _ => 0))), (q_2, .inl ((g.2.2.1 0), 8, .inl (fun _ => 0))), (q_3, .inl ((g.2.2.1 0), 8, .inl (fun _ => 0)))] := hD
  exact kretV K hP hD hS [0] [(h0, .inr (8, [.int x0, .int x1, .int x2, .ref q_1, .ref q_2, .ref q_3, .int 0, .int 0, .int 0, .int 0, .int (-1)]))] rfl rfl (⟨q_1, q_2, q_3, rfl, rfl⟩) (by decide) (by decide) dX4_init_48

set_option maxHeartbeats 4000000 in
set_option maxRecDepth 100000 in
theorem m_X7_init (l : Launch) (hl0 : l.stackTraces = false) (g : kG) (h0 : Nat) (x0 : Int32) (x1 : Int32) (x2 : Int32)  : kc l g yX7_init prog_9_method_1_code 4 none 1 20 0 0 [.ref h0, .int x0, .int x1, .int x2] [(h0, .inr (11, [.int 0, .int 0, .int 0, .int 0]))] (fun v w => (v = none ∧ w = [(h0, .inr (11, [.int x0, .int x1, .int x2, .int 0]))])) (fun _ _ => False) := by
  refine kbody (by decide) (Nat.le_of_ble_eq_true rfl) ?_
  intro p e s m args below meth c A H K ht G hP hD hA hS ls hl
  have K : KB p s m meth c RX7 "<init>" prog_9_method_1_code 4 none := K
  obtain ⟨hx, hb, hml, hown, hlocks, hr, hin⟩ := id K
  have hl : lv_has ls 4 [(0, .ref h0), (1, .int x0), (2, .int x1), (3, .int x2)] := hl
  refine lv_aload_n hx hb dX7_init_0 rfl (lv_at hl 0 rfl) ?_
  refine W.objInit hx hb hown (G.w kw_128) (G.w kw_9) (G.w kw_10) rfl (by rw [hml]; exact hl.1) rfl dX7_init_1 (Nat.le_of_ble_eq_true rfl) (Nat.le_of_ble_eq_true rfl) ?_
  refine W.eq (g2 := F0 m 4 ls []) rfl ?_
  refine lv_aload_n hx hb dX7_init_4 rfl (lv_at hl 0 rfl) ?_
  refine lv_iload_n hx hb dX7_init_5 rfl (lv_at hl 1 rfl) ?_
  refine va_putF (D := g.1) (ci := 11) (v := .int x0) (ty := .int) (C := RX7) (T := TX7) (N := 4) hx hb G.ws inX7 tyX7 tyX7_ok nmX7 hown G.K hP hD hS 0 rfl rfl 0 (by decide) (G.w kw_129) (fun _ h9 => h9) rfl hin rfl (by decide +kernel) rfl rfl (Nat.le_of_ble_eq_true rfl) dX7_init_6 (fun H locs hP hD hS => ?_)
  have hP : va_P g.1 vwCl [(h0, .inr (11, [.int x0, .int 0, .int 0, .int 0]))] H := hP
  have hD : va_D A [(h0, .inr (11, [.int x0, .int 0, .int 0, .int 0]))] := hD
  refine lv_aload_n hx hb dX7_init_9 rfl (lv_at hl 0 rfl) ?_
  refine lv_iload_n hx hb dX7_init_10 rfl (lv_at hl 2 rfl) ?_
  refine va_putF (D := g.1) (ci := 11) (v := .int x1) (ty := .int) (C := RX7) (T := TX7) (N := 4) hx hb G.ws inX7 tyX7 tyX7_ok nmX7 hown G.K hP hD hS 0 rfl rfl 1 (by decide) (G.w kw_130) (fun _ h9 => h9) rfl hin rfl (by decide +kernel) rfl rfl (Nat.le_of_ble_eq_true rfl) dX7_init_11 (fun H locs hP hD hS => ?_)
  have hP : va_P g.1 vwCl [(h0, .inr (11, [.int x0, .int x1, .int 0, .int 0]))] H := hP
  have hD : va_D A [(h0, .inr (11, [.int x0, .int x1, .int 0, .int 0]))] := hD
  refine lv_aload_n hx hb dX7_init_14 rfl (lv_at hl 0 rfl) ?_
  refine lv_iload_n hx hb dX7_init_15 rfl (lv_at hl 3 rfl) ?_
  refine va_putF (D := g.1) (ci := 11) (v := .int x2) (ty := .int) (C := RX7) (T := TX7) (N := 4) hx hb G.ws inX7 tyX7 tyX7_ok nmX7 hown G.K hP hD hS 0 rfl rfl 2 (by decide) (G.w kw_131) (fun _ h9 => h9) rfl hin rfl (by decide +kernel) rfl rfl (Nat.le_of_ble_eq_true rfl) dX7_init_16 (fun H locs hP hD hS => ?_)
  have hP : va_P g.1 vwCl [(h0, .inr (11, [.int x0, .int x1, .int x2, .int 0]))] H := hP
  have hD : va_D A [(h0, .inr (11, [.int x0, .int x1, .int x2, .int 0]))] := hD
  exact kretV K hP hD hS [0] [(h0, .inr (11, [.int x0, .int x1, .int x2, .int 0]))] rfl rfl (⟨rfl, rfl⟩) (by decide) (by decide) dX7_init_19

set_option maxHeartbeats 4000000 in
set_option maxRecDepth 100000 in
theorem m_X0_init (l : Launch) (hl0 : l.stackTraces = false) (g : kG) (h0 : Nat) (x0 : Int32) (x1 : Int32)  : kc l g yX0_init prog_2_method_1_code 3 none 1 20 0 0 [.ref h0, .int x0, .int x1] [(h0, .inr (4, [.int 0, .int 0, .int 0, .int 0, .int 0]))] (fun v w => (v = none ∧ w = [(h0, .inr (4, [.int x0, .int x1, .int 0, .int 0, .int 0]))])) (fun _ _ => False) := by
  refine kbody (by decide) (Nat.le_of_ble_eq_true rfl) ?_
  intro p e s m args below meth c A H K ht G hP hD hA hS ls hl
  have K : KB p s m meth c RX0 "<init>" prog_2_method_1_code 3 none := K
  obtain ⟨hx, hb, hml, hown, hlocks, hr, hin⟩ := id K
  have hl : lv_has ls 3 [(0, .ref h0), (1, .int x0), (2, .int x1)] := hl
  refine lv_aload_n hx hb dX0_init_0 rfl (lv_at hl 0 rfl) ?_
  refine W.objInit hx hb hown (G.w kw_132) (G.w kw_9) (G.w kw_10) rfl (by rw [hml]; exact hl.1) rfl dX0_init_1 (Nat.le_of_ble_eq_true rfl) (Nat.le_of_ble_eq_true rfl) ?_
  refine W.eq (g2 := F0 m 4 ls []) rfl ?_
  refine lv_aload_n hx hb dX0_init_4 rfl (lv_at hl 0 rfl) ?_
  refine lv_iload_n hx hb dX0_init_5 rfl (lv_at hl 1 rfl) ?_
  refine va_put (D := g.1) (ci := 4) (v := .int x0) (ty := .int) (C := RX0) (T := TX0) (N := 5) hx hb G.ws inX0 tyX0 tyX0_ok nmX0 hown G.K hP hD hS 0 rfl rfl 0 (by decide) (G.w kw_133) (fun _ h9 => h9) (by decide +kernel) (by decide +kernel) rfl rfl (Nat.le_of_ble_eq_true rfl) dX0_init_6 (fun H locs hP hD hS => ?_)
  have hP : va_P g.1 vwCl [(h0, .inr (4, [.int x0, .int 0, .int 0, .int 0, .int 0]))] H := hP
  have hD : va_D A [(h0, .inr (4, [.int x0, .int 0, .int 0, .int 0, .int 0]))] := hD
  refine lv_aload_n hx hb dX0_init_9 rfl (lv_at hl 0 rfl) ?_
  refine lv_iload_n hx hb dX0_init_10 rfl (lv_at hl 2 rfl) ?_
  refine va_put (D := g.1) (ci := 4) (v := .int x1) (ty := .int) (C := RX0) (T := TX0) (N := 5) hx hb G.ws inX0 tyX0 tyX0_ok nmX0 hown G.K hP hD hS 0 rfl rfl 1 (by decide) (G.w kw_134) (fun _ h9 => h9) (by decide +kernel) (by decide +kernel) rfl rfl (Nat.le_of_ble_eq_true rfl) dX0_init_11 (fun H locs hP hD hS => ?_)
  have hP : va_P g.1 vwCl [(h0, .inr (4, [.int x0, .int x1, .int 0, .int 0, .int 0]))] H := hP
  have hD : va_D A [(h0, .inr (4, [.int x0, .int x1, .int 0, .int 0, .int 0]))] := hD
  exact kretV K hP hD hS [0] [(h0, .inr (4, [.int x0, .int x1, .int 0, .int 0, .int 0]))] rfl rfl (⟨rfl, rfl⟩) (by decide) (by decide) dX0_init_14

set_option maxHeartbeats 4000000 in
set_option maxRecDepth 100000 in
theorem m_X9_init (l : Launch) (hl0 : l.stackTraces = false) (g : kG) (h0 : Nat)  : kc l g yX9_init prog_11_method_1_code 1 none 1 20 0 0 [.ref h0] [(h0, .inr (13, [.int 0, .int 0, .int 0, .int 0]))] (fun v w => (v = none ∧ w = [(h0, .inr (13, [.int 0, .int 0, .int 0, .int 0]))])) (fun _ _ => False) := by
  refine kbody (by decide) (Nat.le_of_ble_eq_true rfl) ?_
  intro p e s m args below meth c A H K ht G hP hD hA hS ls hl
  have K : KB p s m meth c RX9 "<init>" prog_11_method_1_code 1 none := K
  obtain ⟨hx, hb, hml, hown, hlocks, hr, hin⟩ := id K
  have hl : lv_has ls 1 [(0, .ref h0)] := hl
  refine lv_aload_n hx hb dX9_init_0 rfl (lv_at hl 0 rfl) ?_
  refine W.objInit hx hb hown (G.w kw_135) (G.w kw_9) (G.w kw_10) rfl (by rw [hml]; exact hl.1) rfl dX9_init_1 (Nat.le_of_ble_eq_true rfl) (Nat.le_of_ble_eq_true rfl) ?_
  refine W.eq (g2 := F0 m 4 ls []) rfl ?_
  exact kretV K hP hD hS [0] [(h0, .inr (13, [.int 0, .int 0, .int 0, .int 0]))] rfl rfl (⟨rfl, rfl⟩) (by decide) (by decide) dX9_init_4

set_option maxHeartbeats 4000000 in
set_option maxRecDepth 100000 in
theorem m_X6_init (l : Launch) (hl0 : l.stackTraces = false) (g : kG) (h0 : Nat)  : kc l g yX6_init prog_8_method_1_code 2 none 1 20 1 24 [.ref h0] [(h0, .inr (10, [.null, .int 0]))] (fun v w => (∃ q0 : Nat, v = none ∧ w = [(h0, .inr (10, [.ref q0, .int (-1)]))])) (fun _ _ => False) := by
  refine kbody (by decide) (Nat.le_of_ble_eq_true rfl) ?_
  intro p e s m args below meth c A H K ht G hP hD hA hS ls hl
  have K : KB p s m meth c RX6 "<init>" prog_8_method_1_code 2 none := K
  obtain ⟨hx, hb, hml, hown, hlocks, hr, hin⟩ := id K
  have hl : lv_has ls 2 [(0, .ref h0)] := hl
  refine lv_aload_n hx hb dX6_init_0 rfl (lv_at hl 0 rfl) ?_
  refine W.objInit hx hb hown (G.w kw_136) (G.w kw_9) (G.w kw_10) rfl (by rw [hml]; exact hl.1) rfl dX6_init_1 (Nat.le_of_ble_eq_true rfl) (Nat.le_of_ble_eq_true rfl) ?_
  refine W.eq (g2 := F0 m 4 ls []) rfl ?_
  refine lv_aload_n hx hb dX6_init_4 rfl (lv_at hl 0 rfl) ?_
  refine lv_bipush (v := 24) hx hb dX6_init_5 (by decide) ?_
  refine kNewa0 hx hb (G.w kw_123) G hP hD hS hA (n := 24) (N := 24) (by decide) (by decide) (by decide) (by decide) (by decide) dX6_init_7 (fun q_1 H hP hD hS => ?_)
  have hP : va_P g.1 vwCl [(h0, .inr (10, [.null, .int 0])), (q_1, .inl ((g.2.2.1 0), 24, .inl (fun _ => 0)))] H := hP
  have hD : va_D A [(h0, .inr (10, [.null, .int 0])), (q_1, .inl ((g.2.2.1 0), 24, .inl (fun _ => 0)))] := hD
  refine W.widen (k := 1) (n := 24) (by decide) (by decide) ?_
  refine va_putF (D := g.1) (ci := 10) (v := .ref q_1) (ty := (.array .int)) (C := RX6) (T := TX6) (N := 2) hx hb G.ws inX6 tyX6 tyX6_ok nmX6 hown G.K hP hD hS 0 rfl rfl 0 (by decide) (G.w kw_137) (fun _ h9 => h9) rfl hin rfl (by decide +kernel) rfl rfl (Nat.le_of_ble_eq_true rfl) dX6_init_9 (fun H locs hP hD hS => ?_)
  have hP : va_P g.1 vwCl [(h0, .inr (10, [.ref q_1, .int 0])), (q_1, .inl ((g.2.2.1 0), 24, .inl (fun _ => 0)))] H := hP
  have hD : va_D A [(h0, .inr (10, [.ref q_1, .int 0])), (q_1, .inl ((g.2.2.1 0), 24, .inl (fun _ => 0)))] := hD
  refine lv_iconst (v := 0) hx hb dX6_init_12 (by decide) ?_
  refine lv_istore_n (lv' := [(1, .int 0), (0, .ref h0)]) hx hb dX6_init_13 rfl hl (by decide) rfl (fun ls hl => ?_)
  suffices KL : ∀ (k i : Nat), k + i = 24 → ∀ (f : Nat → Int32) (H : Heap) (locs : List Loc), va_P g.1 vwCl [(h0, .inr (10, [.ref q_1, .int 0])), (q_1, .inl ((g.2.2.1 0), 24, .inl f))] H → va_D A [(h0, .inr (10, [.ref q_1, .int 0])), (q_1, .inl ((g.2.2.1 0), 24, .inl f))] → va_S A s.heap H locs → ∀ ls : Array Slot, lv_has ls 2 [(0, .ref h0), (1, .int (nI i))] → W p l e (kR 1 20 1 24) s m args below meth c H locs 1 24 (vx_MQ below (kQ g (fun v w => (∃ q0 : Nat, v = none ∧ w = [(h0, .inr (10, [.ref q0, .int (-1)]))])) A) (kX g (fun _ _ => False) A) args s 1 24 A) (F0 m 14 ls []) from KL 24 0 rfl (fun _ => 0) _ _ (ksubP hP [0, 1] rfl) (hD.sub [0, 1] rfl rfl) hS _ (lv_sub hl [1, 0] rfl)
  clear hP hD hS hl
  intro k
  induction k with
  | zero =>
    intro i hi f H locs hP hD hS ls hl
    have ei : i = 24 := by omega
    try rw [ei] at hP
    try rw [ei] at hD
    rw [ei] at hl
    have hP : va_P g.1 vwCl [(h0, .inr (10, [.ref q_1, .int 0])), (q_1, .inl ((g.2.2.1 0), 24, .inl f))] H := hP
    have hD : va_D A [(h0, .inr (10, [.ref q_1, .int 0])), (q_1, .inl ((g.2.2.1 0), 24, .inl f))] := hD
    have hl : lv_has ls 2 [(0, .ref h0), (1, .int (nI 24))] := hl
    refine lv_iload_n hx hb dX6_init_14 rfl (lv_at hl 1 rfl) ?_
    refine lv_bipush (v := 24) hx hb dX6_init_15 (by decide) ?_
    refine lv_icmp_ge (tgt := 33) hx hb dX6_init_17 (by decide) (fun c17_2 => ?_) (fun c17_2 => ?_)
    · refine lv_aload_n hx hb dX6_init_33 rfl (lv_at hl 0 rfl) ?_
      refine lv_iconst (v := (-1)) hx hb dX6_init_34 (by decide) ?_
      refine va_put (D := g.1) (ci := 10) (v := .int (-1)) (ty := .int) (C := RX6) (T := TX6) (N := 2) hx hb G.ws inX6 tyX6 tyX6_ok nmX6 hown G.K hP hD hS 0 rfl rfl 1 (by decide) (G.w kw_138) (fun _ h9 => h9) (by decide +kernel) (by decide +kernel) rfl rfl (Nat.le_of_ble_eq_true rfl) dX6_init_35 (fun H locs hP hD hS => ?_)
      have hP : va_P g.1 vwCl [(h0, .inr (10, [.ref q_1, .int (-1)])), (q_1, .inl ((g.2.2.1 0), 24, .inl f))] H := hP
      have hD : va_D A [(h0, .inr (10, [.ref q_1, .int (-1)])), (q_1, .inl ((g.2.2.1 0), 24, .inl f))] := hD
      exact kretV K hP hD hS [0] [(h0, .inr (10, [.ref q_1, .int (-1)]))] rfl rfl (⟨q_1, rfl, rfl⟩) (by decide) (by decide) dX6_init_38
    · exact absurd c17_2 (by exact fun h => h (by decide))
  | succ k ih =>
    intro i hi f H locs hP hD hS ls hl
    refine lv_iload_n hx hb dX6_init_14 rfl (lv_at hl 1 rfl) ?_
    refine lv_bipush (v := 24) hx hb dX6_init_15 (by decide) ?_
    refine lv_icmp_ge (tgt := 33) hx hb dX6_init_17 (by decide) (fun c17_3 => ?_) (fun c17_3 => ?_)
    · exact absurd c17_3 (by exact nI_ge (a := i) (b := 24) (by omega) (by omega))
    · refine lv_aload_n hx hb dX6_init_20 rfl (lv_at hl 0 rfl) ?_
      refine va_get (D := g.1) (ci := 10) (v := .ref q_1) (C := RX6) (T := TX6) (N := 2) hx hb G.ws inX6 hown G.K hP 0 rfl rfl 0 (by decide) (G.w kw_137) (fun _ h9 => h9) rfl dX6_init_21 ?_
      refine lv_iload_n hx hb dX6_init_24 rfl (lv_at hl 1 rfl) ?_
      refine lv_iconst (v := (-1)) hx hb dX6_init_25 (by decide) ?_
      refine va_iast hx hb G.K hP hD hS 1 0 rfl rfl (i := nI i) (vp_in_nI (by omega) (by omega)) dX6_init_26 (fun H locs hP hD hS => ?_)
      have hP : va_P g.1 vwCl [(h0, .inr (10, [.ref q_1, .int 0])), (q_1, .inl ((g.2.2.1 0), 24, .inl (upd f (nI i).toNatClampNeg (-1))))] H := hP
      have hD : va_D A [(h0, .inr (10, [.ref q_1, .int 0])), (q_1, .inl ((g.2.2.1 0), 24, .inl (upd f (nI i).toNatClampNeg (-1))))] := hD
      refine lv_iinc (v := nI (i + 1)) (lv' := [(1, .int (nI (i + 1))), (0, .ref h0)]) hx hb dX6_init_27 hl (k := 1) rfl (nI_1 _) (by decide) rfl (fun ls hl => ?_)
      refine lv_goto (tgt := 14) hx hb dX6_init_30 (by decide) ?_
      refine ih (i + 1) (by omega) (upd f (nI i).toNatClampNeg (-1)) _ _ ?_ ?_ hS _ ?_
      · exact ksubP hP [0, 1] rfl
      · exact hD.sub [0, 1] rfl rfl
      · exact lv_sub hl [1, 0] rfl

