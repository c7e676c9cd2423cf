set_option maxHeartbeats 4000000 in
set_option maxRecDepth 100000 in
theorem m_X11_load (l : Launch) (hl0 : l.stackTraces = false) (g : kG) (h0 : Nat) (a1 : Nat) (a2 : Nat) (a3 : Nat) (a4 : Nat) (a5 : Nat) (tt : Int32) (wf : Int32) (ww : Int32) (te : Int32) (tn : Int32) (mo : Int32) (x0 : Int32) (x1 : Int32) (x2 : Int32) (x3 : Int32)  : kc l g yX11_load prog_1_method_31_code 6 (some .int) 8 124 1 6 [.ref h0, .int x0, .int x1, .int x2, .int x3] [(h0, .inr (15, [.ref a1, .ref a2, .ref a3, .ref a4, .ref a5, .int tt, .int wf, .int ww, .int te, .int tn, .int mo])), (a1, .inr (3, [.int 0, .ref g.2.1, .int 0]))] (fun _ _ => False) (fun E w => (E = "java/lang/IndexOutOfBoundsException" ∧ w = [])) := by
  refine kbody (by decide) (Nat.le_of_ble_eq_true rfl) ?_
  intro p e s m args below meth c A H K ht G hP hD hA hS ls hl
  have K : KB p s m meth c RX11 "load" prog_1_method_31_code 6 (some .int) := K
  obtain ⟨hx, hb, hml, hown, hlocks, hr, hin⟩ := id K
  have hl : lv_has ls 6 [(0, .ref h0), (1, .int x0), (2, .int x1), (3, .int x2), (4, .int x3)] := hl
  refine lv_aload_n hx hb dX11_load_0 rfl (lv_at hl 0 rfl) ?_
  refine lv_iload_n hx hb dX11_load_1 rfl (lv_at hl 1 rfl) ?_
  refine kcallV (wc := [(h0, .inr (15, [.ref a1, .ref a2, .ref a3, .ref a4, .ref a5, .int tt, .int wf, .int ww, .int te, .int tn, .int mo])), (a1, .inr (3, [.int 0, .ref g.2.1, .int 0]))]) (wr := []) (As := [.int x0]) (rest := []) K G (m_X11_landAt l hl0 g h0 a1 a2 a3 a4 a5 tt wf ww te tn mo x0 ) hP hD hS hA hl kw_56 kw_57 kw_58 kw_59 kw_4 ydX11_landAt [0, 1] [] rfl rfl rfl rfl (by decide) (ci := 15) (q0 := 0) rfl rfl rfl rfl rfl (Nat.le_of_ble_eq_true rfl) dX11_load_2 ⟨Nat.le_of_ble_eq_true rfl, Nat.le_of_ble_eq_true rfl⟩ ⟨Nat.le_of_ble_eq_true rfl, Nat.le_of_ble_eq_true rfl⟩ (fun E w1 ce q9 H locs hX hP hD hS hce hcv hcl => ?_) (fun _ _ _ _ hQ _ _ _ => hQ.elim)
  obtain ⟨rfl, rfl⟩ := hX
  have hP : va_P g.1 vwCl [] H := hP
  have hD : va_D A [] := hD
  refine vx_widen (k := 1) (n := 6) (by decide) (by decide) ?_
  exact kthrow K ht hP hD hS hce hcv hcl [] [] rfl rfl (⟨rfl, rfl⟩) (by decide) (by decide)

set_option maxHeartbeats 4000000 in
set_option maxRecDepth 100000 in
theorem m_X11_book (l : Launch) (hl0 : l.stackTraces = false) (g : kG) (h0 : Nat) (a1 : Nat) (a2 : Nat) (a3 : Nat) (a4 : Nat) (a5 : Nat) (tt : Int32) (wf : Int32) (ww : Int32) (te : Int32) (tn : Int32) (mo : Int32) (x0 : Int32) (x1 : Int32) (x2 : Int32)  : kc l g yX11_book prog_1_method_32_code 5 (some .int) 8 124 1 6 [.ref h0, .int x0, .int x1, .int x2] [(h0, .inr (15, [.ref a1, .ref a2, .ref a3, .ref a4, .ref a5, .int tt, .int wf, .int ww, .int te, .int tn, .int mo])), (a1, .inr (3, [.int 0, .ref g.2.1, .int 0]))] (fun _ _ => False) (fun E w => (E = "java/lang/IndexOutOfBoundsException" ∧ w = [])) := by
  refine kbody (by decide) (Nat.le_of_ble_eq_true rfl) ?_
  intro p e s m args below meth c A H K ht G hP hD hA hS ls hl
  have K : KB p s m meth c RX11 "book" prog_1_method_32_code 5 (some .int) := K
  obtain ⟨hx, hb, hml, hown, hlocks, hr, hin⟩ := id K
  have hl : lv_has ls 5 [(0, .ref h0), (1, .int x0), (2, .int x1), (3, .int x2)] := hl
  refine lv_aload_n hx hb dX11_book_0 rfl (lv_at hl 0 rfl) ?_
  refine lv_iload_n hx hb dX11_book_1 rfl (lv_at hl 1 rfl) ?_
  refine kcallV (wc := [(h0, .inr (15, [.ref a1, .ref a2, .ref a3, .ref a4, .ref a5, .int tt, .int wf, .int ww, .int te, .int tn, .int mo])), (a1, .inr (3, [.int 0, .ref g.2.1, .int 0]))]) (wr := []) (As := [.int x0]) (rest := []) K G (m_X11_landAt l hl0 g h0 a1 a2 a3 a4 a5 tt wf ww te tn mo x0 ) hP hD hS hA hl kw_56 kw_57 kw_58 kw_59 kw_4 ydX11_landAt [0, 1] [] rfl rfl rfl rfl (by decide) (ci := 15) (q0 := 0) rfl rfl rfl rfl rfl (Nat.le_of_ble_eq_true rfl) dX11_book_2 ⟨Nat.le_of_ble_eq_true rfl, Nat.le_of_ble_eq_true rfl⟩ ⟨Nat.le_of_ble_eq_true rfl, Nat.le_of_ble_eq_true rfl⟩ (fun E w1 ce q9 H locs hX hP hD hS hce hcv hcl => ?_) (fun _ _ _ _ hQ _ _ _ => hQ.elim)
  obtain ⟨rfl, rfl⟩ := hX
  have hP : va_P g.1 vwCl [] H := hP
  have hD : va_D A [] := hD
  refine vx_widen (k := 1) (n := 6) (by decide) (by decide) ?_
  exact kthrow K ht hP hD hS hce hcv hcl [] [] rfl rfl (⟨rfl, rfl⟩) (by decide) (by decide)

set_option maxHeartbeats 4000000 in
set_option maxRecDepth 100000 in
theorem m_X11_send (l : Launch) (hl0 : l.stackTraces = false) (g : kG) (h0 : Nat) (a1 : Nat) (a2 : Nat) (a3 : Nat) (a4 : Nat) (a5 : Nat) (tt : Int32) (wf : Int32) (ww : Int32) (te : Int32) (tn : Int32) (mo : Int32) (x0 : Int32) (x1 : Int32) (x2 : Int32)  : kc l g yX11_send prog_1_method_33_code 6 (some .int) 8 124 1 6 [.ref h0, .int x0, .int x1, .int x2] [(h0, .inr (15, [.ref a1, .ref a2, .ref a3, .ref a4, .ref a5, .int tt, .int wf, .int ww, .int te, .int tn, .int mo])), (a1, .inr (3, [.int 0, .ref g.2.1, .int 0]))] (fun _ _ => False) (fun E w => (E = "java/lang/IndexOutOfBoundsException" ∧ w = [])) := by
  refine kbody (by decide) (Nat.le_of_ble_eq_true rfl) ?_
  intro p e s m args below meth c A H K ht G hP hD hA hS ls hl
  have K : KB p s m meth c RX11 "send" prog_1_method_33_code 6 (some .int) := K
  obtain ⟨hx, hb, hml, hown, hlocks, hr, hin⟩ := id K
  have hl : lv_has ls 6 [(0, .ref h0), (1, .int x0), (2, .int x1), (3, .int x2)] := hl
  refine lv_aload_n hx hb dX11_send_0 rfl (lv_at hl 0 rfl) ?_
  refine lv_iload_n hx hb dX11_send_1 rfl (lv_at hl 1 rfl) ?_
  refine kcallV (wc := [(h0, .inr (15, [.ref a1, .ref a2, .ref a3, .ref a4, .ref a5, .int tt, .int wf, .int ww, .int te, .int tn, .int mo])), (a1, .inr (3, [.int 0, .ref g.2.1, .int 0]))]) (wr := []) (As := [.int x0]) (rest := []) K G (m_X11_landAt l hl0 g h0 a1 a2 a3 a4 a5 tt wf ww te tn mo x0 ) hP hD hS hA hl kw_56 kw_57 kw_58 kw_59 kw_4 ydX11_landAt [0, 1] [] rfl rfl rfl rfl (by decide) (ci := 15) (q0 := 0) rfl rfl rfl rfl rfl (Nat.le_of_ble_eq_true rfl) dX11_send_2 ⟨Nat.le_of_ble_eq_true rfl, Nat.le_of_ble_eq_true rfl⟩ ⟨Nat.le_of_ble_eq_true rfl, Nat.le_of_ble_eq_true rfl⟩ (fun E w1 ce q9 H locs hX hP hD hS hce hcv hcl => ?_) (fun _ _ _ _ hQ _ _ _ => hQ.elim)
  obtain ⟨rfl, rfl⟩ := hX
  have hP : va_P g.1 vwCl [] H := hP
  have hD : va_D A [] := hD
  refine vx_widen (k := 1) (n := 6) (by decide) (by decide) ?_
  exact kthrow K ht hP hD hS hce hcv hcl [] [] rfl rfl (⟨rfl, rfl⟩) (by decide) (by decide)

set_option maxHeartbeats 4000000 in
set_option maxRecDepth 100000 in
theorem m_X11_getEvidence (l : Launch) (hl0 : l.stackTraces = false) (g : kG) (h0 : Nat) (a1 : Nat) (a2 : Nat) (a3 : Nat) (a4 : Nat) (a5 : Nat) (tt : Int32) (wf : Int32) (ww : Int32) (te : Int32) (tn : Int32) (mo : Int32) (x0 : Int32)  : kc l g yX11_getEvidence prog_1_method_41_code 2 (some .int) 8 124 1 6 [.ref h0, .int x0] [(h0, .inr (15, [.ref a1, .ref a2, .ref a3, .ref a4, .ref a5, .int tt, .int wf, .int ww, .int te, .int tn, .int mo])), (a1, .inr (3, [.int 0, .ref g.2.1, .int 0]))] (fun _ _ => False) (fun E w => (E = "java/lang/IndexOutOfBoundsException" ∧ w = [])) := by
  refine kbody (by decide) (Nat.le_of_ble_eq_true rfl) ?_
  intro p e s m args below meth c A H K ht G hP hD hA hS ls hl
  have K : KB p s m meth c RX11 "getEvidence" prog_1_method_41_code 2 (some .int) := K
  obtain ⟨hx, hb, hml, hown, hlocks, hr, hin⟩ := id K
  have hl : lv_has ls 2 [(0, .ref h0), (1, .int x0)] := hl
  refine lv_aload_n hx hb dX11_getEvidence_0 rfl (lv_at hl 0 rfl) ?_
  refine lv_iload_n hx hb dX11_getEvidence_1 rfl (lv_at hl 1 rfl) ?_
  refine kcallV (wc := [(h0, .inr (15, [.ref a1, .ref a2, .ref a3, .ref a4, .ref a5, .int tt, .int wf, .int ww, .int te, .int tn, .int mo])), (a1, .inr (3, [.int 0, .ref g.2.1, .int 0]))]) (wr := []) (As := [.int x0]) (rest := []) K G (m_X11_landAt l hl0 g h0 a1 a2 a3 a4 a5 tt wf ww te tn mo x0 ) hP hD hS hA hl kw_56 kw_57 kw_58 kw_59 kw_4 ydX11_landAt [0, 1] [] rfl rfl rfl rfl (by decide) (ci := 15) (q0 := 0) rfl rfl rfl rfl rfl (Nat.le_of_ble_eq_true rfl) dX11_getEvidence_2 ⟨Nat.le_of_ble_eq_true rfl, Nat.le_of_ble_eq_true rfl⟩ ⟨Nat.le_of_ble_eq_true rfl, Nat.le_of_ble_eq_true rfl⟩ (fun E w1 ce q9 H locs hX hP hD hS hce hcv hcl => ?_) (fun _ _ _ _ hQ _ _ _ => hQ.elim)
  obtain ⟨rfl, rfl⟩ := hX
  have hP : va_P g.1 vwCl [] H := hP
  have hD : va_D A [] := hD
  refine vx_widen (k := 1) (n := 6) (by decide) (by decide) ?_
  exact kthrow K ht hP hD hS hce hcv hcl [] [] rfl rfl (⟨rfl, rfl⟩) (by decide) (by decide)

set_option maxHeartbeats 4000000 in
set_option maxRecDepth 100000 in
theorem m_X11_raid (l : Launch) (hl0 : l.stackTraces = false) (g : kG) (h0 : Nat) (a1 : Nat) (a2 : Nat) (a3 : Nat) (a4 : Nat) (a5 : Nat) (tt : Int32) (wf : Int32) (ww : Int32) (te : Int32) (tn : Int32) (mo : Int32) (x0 : Int32) (x1 : Int32)  : kc l g yX11_raid prog_1_method_42_code 5 (some .int) 8 124 1 6 [.ref h0, .int x0, .int x1] [(h0, .inr (15, [.ref a1, .ref a2, .ref a3, .ref a4, .ref a5, .int tt, .int wf, .int ww, .int te, .int tn, .int mo])), (a1, .inr (3, [.int 0, .ref g.2.1, .int 0]))] (fun _ _ => False) (fun E w => (E = "java/lang/IndexOutOfBoundsException" ∧ w = [])) := by
  refine kbody (by decide) (Nat.le_of_ble_eq_true rfl) ?_
  intro p e s m args below meth c A H K ht G hP hD hA hS ls hl
  have K : KB p s m meth c RX11 "raid" prog_1_method_42_code 5 (some .int) := K
  obtain ⟨hx, hb, hml, hown, hlocks, hr, hin⟩ := id K
  have hl : lv_has ls 5 [(0, .ref h0), (1, .int x0), (2, .int x1)] := hl
  refine lv_aload_n hx hb dX11_raid_0 rfl (lv_at hl 0 rfl) ?_
  refine lv_iload_n hx hb dX11_raid_1 rfl (lv_at hl 1 rfl) ?_
  refine kcallV (wc := [(h0, .inr (15, [.ref a1, .ref a2, .ref a3, .ref a4, .ref a5, .int tt, .int wf, .int ww, .int te, .int tn, .int mo])), (a1, .inr (3, [.int 0, .ref g.2.1, .int 0]))]) (wr := []) (As := [.int x0]) (rest := []) K G (m_X11_landAt l hl0 g h0 a1 a2 a3 a4 a5 tt wf ww te tn mo x0 ) hP hD hS hA hl kw_56 kw_57 kw_58 kw_59 kw_4 ydX11_landAt [0, 1] [] rfl rfl rfl rfl (by decide) (ci := 15) (q0 := 0) rfl rfl rfl rfl rfl (Nat.le_of_ble_eq_true rfl) dX11_raid_2 ⟨Nat.le_of_ble_eq_true rfl, Nat.le_of_ble_eq_true rfl⟩ ⟨Nat.le_of_ble_eq_true rfl, Nat.le_of_ble_eq_true rfl⟩ (fun E w1 ce q9 H locs hX hP hD hS hce hcv hcl => ?_) (fun _ _ _ _ hQ _ _ _ => hQ.elim)
  obtain ⟨rfl, rfl⟩ := hX
  have hP : va_P g.1 vwCl [] H := hP
  have hD : va_D A [] := hD
  refine vx_widen (k := 1) (n := 6) (by decide) (by decide) ?_
  exact kthrow K ht hP hD hS hce hcv hcl [] [] rfl rfl (⟨rfl, rfl⟩) (by decide) (by decide)

set_option maxHeartbeats 4000000 in
set_option maxRecDepth 100000 in
theorem m_X11_getPlace (l : Launch) (hl0 : l.stackTraces = false) (g : kG) (h0 : Nat) (a1 : Nat) (a2 : Nat) (a3 : Nat) (a4 : Nat) (a5 : Nat) (tt : Int32) (wf : Int32) (ww : Int32) (te : Int32) (tn : Int32) (mo : Int32) (x0 : Int32) (x1 : Int32)  : kc l g yX11_getPlace prog_1_method_10_code 4 (some .int) 8 124 1 6 [.ref h0, .int x0, .int x1] [(h0, .inr (15, [.ref a1, .ref a2, .ref a3, .ref a4, .ref a5, .int tt, .int wf, .int ww, .int te, .int tn, .int mo])), (a3, .inr (3, [.int 0, .ref g.2.1, .int 0]))] (fun _ _ => False) (fun E w => (E = "java/lang/IndexOutOfBoundsException" ∧ w = [])) := by
  refine kbody (by decide) (Nat.le_of_ble_eq_true rfl) ?_
  intro p e s m args below meth c A H K ht G hP hD hA hS ls hl
  have K : KB p s m meth c RX11 "getPlace" prog_1_method_10_code 4 (some .int) := K
  obtain ⟨hx, hb, hml, hown, hlocks, hr, hin⟩ := id K
  have hl : lv_has ls 4 [(0, .ref h0), (1, .int x0), (2, .int x1)] := hl
  refine lv_aload_n hx hb dX11_getPlace_0 rfl (lv_at hl 0 rfl) ?_
  refine lv_iload_n hx hb dX11_getPlace_1 rfl (lv_at hl 1 rfl) ?_
  refine kcallV (wc := [(h0, .inr (15, [.ref a1, .ref a2, .ref a3, .ref a4, .ref a5, .int tt, .int wf, .int ww, .int te, .int tn, .int mo])), (a3, .inr (3, [.int 0, .ref g.2.1, .int 0]))]) (wr := []) (As := [.int x0]) (rest := []) K G (m_X11_shipAt l hl0 g h0 a1 a2 a3 a4 a5 tt wf ww te tn mo x0 ) hP hD hS hA hl kw_60 kw_61 kw_62 kw_63 kw_4 ydX11_shipAt [0, 1] [] rfl rfl rfl rfl (by decide) (ci := 15) (q0 := 0) rfl rfl rfl rfl rfl (Nat.le_of_ble_eq_true rfl) dX11_getPlace_2 ⟨Nat.le_of_ble_eq_true rfl, Nat.le_of_ble_eq_true rfl⟩ ⟨Nat.le_of_ble_eq_true rfl, Nat.le_of_ble_eq_true rfl⟩ (fun E w1 ce q9 H locs hX hP hD hS hce hcv hcl => ?_) (fun _ _ _ _ hQ _ _ _ => hQ.elim)
  obtain ⟨rfl, rfl⟩ := hX
  have hP : va_P g.1 vwCl [] H := hP
  have hD : va_D A [] := hD
  refine vx_widen (k := 1) (n := 6) (by decide) (by decide) ?_
  exact kthrow K ht hP hD hS hce hcv hcl [] [] rfl rfl (⟨rfl, rfl⟩) (by decide) (by decide)

set_option maxHeartbeats 4000000 in
set_option maxRecDepth 100000 in
theorem m_X11_getInside (l : Launch) (hl0 : l.stackTraces = false) (g : kG) (h0 : Nat) (a1 : Nat) (a2 : Nat) (a3 : Nat) (a4 : Nat) (a5 : Nat) (tt : Int32) (wf : Int32) (ww : Int32) (te : Int32) (tn : Int32) (mo : Int32) (x0 : Int32)  : kc l g yX11_getInside prog_1_method_11_code 2 (some .int) 8 124 1 6 [.ref h0, .int x0] [(h0, .inr (15, [.ref a1, .ref a2, .ref a3, .ref a4, .ref a5, .int tt, .int wf, .int ww, .int te, .int tn, .int mo])), (a3, .inr (3, [.int 0, .ref g.2.1, .int 0]))] (fun _ _ => False) (fun E w => (E = "java/lang/IndexOutOfBoundsException" ∧ w = [])) := by
  refine kbody (by decide) (Nat.le_of_ble_eq_true rfl) ?_
  intro p e s m args below meth c A H K ht G hP hD hA hS ls hl
  have K : KB p s m meth c RX11 "getInside" prog_1_method_11_code 2 (some .int) := K
  obtain ⟨hx, hb, hml, hown, hlocks, hr, hin⟩ := id K
  have hl : lv_has ls 2 [(0, .ref h0), (1, .int x0)] := hl
  refine lv_aload_n hx hb dX11_getInside_0 rfl (lv_at hl 0 rfl) ?_
  refine lv_aload_n hx hb dX11_getInside_1 rfl (lv_at hl 0 rfl) ?_
  refine lv_iload_n hx hb dX11_getInside_2 rfl (lv_at hl 1 rfl) ?_
  refine kcallV (wc := [(h0, .inr (15, [.ref a1, .ref a2, .ref a3, .ref a4, .ref a5, .int tt, .int wf, .int ww, .int te, .int tn, .int mo])), (a3, .inr (3, [.int 0, .ref g.2.1, .int 0]))]) (wr := []) (As := [.int x0]) (rest := [.ref h0]) K G (m_X11_shipAt l hl0 g h0 a1 a2 a3 a4 a5 tt wf ww te tn mo x0 ) hP hD hS hA hl kw_60 kw_61 kw_62 kw_63 kw_4 ydX11_shipAt [0, 1] [] rfl rfl rfl rfl (by decide) (ci := 15) (q0 := 0) rfl rfl rfl rfl rfl (Nat.le_of_ble_eq_true rfl) dX11_getInside_3 ⟨Nat.le_of_ble_eq_true rfl, Nat.le_of_ble_eq_true rfl⟩ ⟨Nat.le_of_ble_eq_true rfl, Nat.le_of_ble_eq_true rfl⟩ (fun E w1 ce q9 H locs hX hP hD hS hce hcv hcl => ?_) (fun _ _ _ _ hQ _ _ _ => hQ.elim)
  obtain ⟨rfl, rfl⟩ := hX
  have hP : va_P g.1 vwCl [] H := hP
  have hD : va_D A [] := hD
  refine vx_widen (k := 1) (n := 6) (by decide) (by decide) ?_
  exact kthrow K ht hP hD hS hce hcv hcl [] [] rfl rfl (⟨rfl, rfl⟩) (by decide) (by decide)

set_option maxHeartbeats 4000000 in
set_option maxRecDepth 100000 in
theorem m_X11_anchor (l : Launch) (hl0 : l.stackTraces = false) (g : kG) (h0 : Nat) (a1 : Nat) (a2 : Nat) (a3 : Nat) (a4 : Nat) (a5 : Nat) (tt : Int32) (wf : Int32) (ww : Int32) (te : Int32) (tn : Int32) (mo : Int32) (x0 : Int32) (x1 : Int32)  : kc l g yX11_anchor prog_1_method_12_code 5 (some .int) 8 124 1 6 [.ref h0, .int x0, .int x1] [(h0, .inr (15, [.ref a1, .ref a2, .ref a3, .ref a4, .ref a5, .int tt, .int wf, .int ww, .int te, .int tn, .int mo])), (a3, .inr (3, [.int 0, .ref g.2.1, .int 0]))] (fun _ _ => False) (fun E w => (E = "java/lang/IndexOutOfBoundsException" ∧ w = [])) := by
  refine kbody (by decide) (Nat.le_of_ble_eq_true rfl) ?_
  intro p e s m args below meth c A H K ht G hP hD hA hS ls hl
  have K : KB p s m meth c RX11 "anchor" prog_1_method_12_code 5 (some .int) := K
  obtain ⟨hx, hb, hml, hown, hlocks, hr, hin⟩ := id K
  have hl : lv_has ls 5 [(0, .ref h0), (1, .int x0), (2, .int x1)] := hl
  refine lv_aload_n hx hb dX11_anchor_0 rfl (lv_at hl 0 rfl) ?_
  refine lv_iload_n hx hb dX11_anchor_1 rfl (lv_at hl 1 rfl) ?_
  refine kcallV (wc := [(h0, .inr (15, [.ref a1, .ref a2, .ref a3, .ref a4, .ref a5, .int tt, .int wf, .int ww, .int te, .int tn, .int mo])), (a3, .inr (3, [.int 0, .ref g.2.1, .int 0]))]) (wr := []) (As := [.int x0]) (rest := []) K G (m_X11_shipAt l hl0 g h0 a1 a2 a3 a4 a5 tt wf ww te tn mo x0 ) hP hD hS hA hl kw_60 kw_61 kw_62 kw_63 kw_4 ydX11_shipAt [0, 1] [] rfl rfl rfl rfl (by decide) (ci := 15) (q0 := 0) rfl rfl rfl rfl rfl (Nat.le_of_ble_eq_true rfl) dX11_anchor_2 ⟨Nat.le_of_ble_eq_true rfl, Nat.le_of_ble_eq_true rfl⟩ ⟨Nat.le_of_ble_eq_true rfl, Nat.le_of_ble_eq_true rfl⟩ (fun E w1 ce q9 H locs hX hP hD hS hce hcv hcl => ?_) (fun _ _ _ _ hQ _ _ _ => hQ.elim)
  obtain ⟨rfl, rfl⟩ := hX
  have hP : va_P g.1 vwCl [] H := hP
  have hD : va_D A [] := hD
  refine vx_widen (k := 1) (n := 6) (by decide) (by decide) ?_
  exact kthrow K ht hP hD hS hce hcv hcl [] [] rfl rfl (⟨rfl, rfl⟩) (by decide) (by decide)

set_option maxHeartbeats 4000000 in
set_option maxRecDepth 100000 in
theorem m_X11_weigh (l : Launch) (hl0 : l.stackTraces = false) (g : kG) (h0 : Nat) (a1 : Nat) (a2 : Nat) (a3 : Nat) (a4 : Nat) (a5 : Nat) (tt : Int32) (wf : Int32) (ww : Int32) (te : Int32) (tn : Int32) (mo : Int32) (x0 : Int32)  : kc l g yX11_weigh prog_1_method_13_code 3 (some .int) 8 124 1 6 [.ref h0, .int x0] [(h0, .inr (15, [.ref a1, .ref a2, .ref a3, .ref a4, .ref a5, .int tt, .int wf, .int ww, .int te, .int tn, .int mo])), (a3, .inr (3, [.int 0, .ref g.2.1, .int 0]))] (fun _ _ => False) (fun E w => (E = "java/lang/IndexOutOfBoundsException" ∧ w = [])) := by
  refine kbody (by decide) (Nat.le_of_ble_eq_true rfl) ?_
  intro p e s m args below meth c A H K ht G hP hD hA hS ls hl
  have K : KB p s m meth c RX11 "weigh" prog_1_method_13_code 3 (some .int) := K
  obtain ⟨hx, hb, hml, hown, hlocks, hr, hin⟩ := id K
  have hl : lv_has ls 3 [(0, .ref h0), (1, .int x0)] := hl
  refine lv_aload_n hx hb dX11_weigh_0 rfl (lv_at hl 0 rfl) ?_
  refine lv_iload_n hx hb dX11_weigh_1 rfl (lv_at hl 1 rfl) ?_
  refine kcallV (wc := [(h0, .inr (15, [.ref a1, .ref a2, .ref a3, .ref a4, .ref a5, .int tt, .int wf, .int ww, .int te, .int tn, .int mo])), (a3, .inr (3, [.int 0, .ref g.2.1, .int 0]))]) (wr := []) (As := [.int x0]) (rest := []) K G (m_X11_shipAt l hl0 g h0 a1 a2 a3 a4 a5 tt wf ww te tn mo x0 ) hP hD hS hA hl kw_60 kw_61 kw_62 kw_63 kw_4 ydX11_shipAt [0, 1] [] rfl rfl rfl rfl (by decide) (ci := 15) (q0 := 0) rfl rfl rfl rfl rfl (Nat.le_of_ble_eq_true rfl) dX11_weigh_2 ⟨Nat.le_of_ble_eq_true rfl, Nat.le_of_ble_eq_true rfl⟩ ⟨Nat.le_of_ble_eq_true rfl, Nat.le_of_ble_eq_true rfl⟩ (fun E w1 ce q9 H locs hX hP hD hS hce hcv hcl => ?_) (fun _ _ _ _ hQ _ _ _ => hQ.elim)
  obtain ⟨rfl, rfl⟩ := hX
  have hP : va_P g.1 vwCl [] H := hP
  have hD : va_D A [] := hD
  refine vx_widen (k := 1) (n := 6) (by decide) (by decide) ?_
  exact kthrow K ht hP hD hS hce hcv hcl [] [] rfl rfl (⟨rfl, rfl⟩) (by decide) (by decide)

set_option maxHeartbeats 4000000 in
set_option maxRecDepth 100000 in
theorem m_X11_isAground (l : Launch) (hl0 : l.stackTraces = false) (g : kG) (h0 : Nat) (a1 : Nat) (a2 : Nat) (a3 : Nat) (a4 : Nat) (a5 : Nat) (tt : Int32) (wf : Int32) (ww : Int32) (te : Int32) (tn : Int32) (mo : Int32) (x0 : Int32)  : kc l g yX11_isAground prog_1_method_14_code 2 (some .boolean) 8 124 1 6 [.ref h0, .int x0] [(h0, .inr (15, [.ref a1, .ref a2, .ref a3, .ref a4, .ref a5, .int tt, .int wf, .int ww, .int te, .int tn, .int mo])), (a3, .inr (3, [.int 0, .ref g.2.1, .int 0]))] (fun _ _ => False) (fun E w => (E = "java/lang/IndexOutOfBoundsException" ∧ w = [])) := by
  refine kbody (by decide) (Nat.le_of_ble_eq_true rfl) ?_
  intro p e s m args below meth c A H K ht G hP hD hA hS ls hl
  have K : KB p s m meth c RX11 "isAground" prog_1_method_14_code 2 (some .boolean) := K
  obtain ⟨hx, hb, hml, hown, hlocks, hr, hin⟩ := id K
  have hl : lv_has ls 2 [(0, .ref h0), (1, .int x0)] := hl
  refine lv_aload_n hx hb dX11_isAground_0 rfl (lv_at hl 0 rfl) ?_
  refine lv_aload_n hx hb dX11_isAground_1 rfl (lv_at hl 0 rfl) ?_
  refine lv_iload_n hx hb dX11_isAground_2 rfl (lv_at hl 1 rfl) ?_
  refine kcallV (wc := [(h0, .inr (15, [.ref a1, .ref a2, .ref a3, .ref a4, .ref a5, .int tt, .int wf, .int ww, .int te, .int tn, .int mo])), (a3, .inr (3, [.int 0, .ref g.2.1, .int 0]))]) (wr := []) (As := [.int x0]) (rest := [.ref h0]) K G (m_X11_shipAt l hl0 g h0 a1 a2 a3 a4 a5 tt wf ww te tn mo x0 ) hP hD hS hA hl kw_60 kw_61 kw_62 kw_63 kw_4 ydX11_shipAt [0, 1] [] rfl rfl rfl rfl (by decide) (ci := 15) (q0 := 0) rfl rfl rfl rfl rfl (Nat.le_of_ble_eq_true rfl) dX11_isAground_3 ⟨Nat.le_of_ble_eq_true rfl, Nat.le_of_ble_eq_true rfl⟩ ⟨Nat.le_of_ble_eq_true rfl, Nat.le_of_ble_eq_true rfl⟩ (fun E w1 ce q9 H locs hX hP hD hS hce hcv hcl => ?_) (fun _ _ _ _ hQ _ _ _ => hQ.elim)
  obtain ⟨rfl, rfl⟩ := hX
  have hP : va_P g.1 vwCl [] H := hP
  have hD : va_D A [] := hD
  refine vx_widen (k := 1) (n := 6) (by decide) (by decide) ?_
  exact kthrow K ht hP hD hS hce hcv hcl [] [] rfl rfl (⟨rfl, rfl⟩) (by decide) (by decide)

set_option maxHeartbeats 4000000 in
set_option maxRecDepth 100000 in
theorem m_X11_pullOff (l : Launch) (hl0 : l.stackTraces = false) (g : kG) (h0 : Nat) (a1 : Nat) (a2 : Nat) (a3 : Nat) (a4 : Nat) (a5 : Nat) (tt : Int32) (wf : Int32) (ww : Int32) (te : Int32) (tn : Int32) (mo : Int32) (x0 : Int32)  : kc l g yX11_pullOff prog_1_method_15_code 3 (some .int) 8 124 1 6 [.ref h0, .int x0] [(h0, .inr (15, [.ref a1, .ref a2, .ref a3, .ref a4, .ref a5, .int tt, .int wf, .int ww, .int te, .int tn, .int mo])), (a3, .inr (3, [.int 0, .ref g.2.1, .int 0]))] (fun _ _ => False) (fun E w => (E = "java/lang/IndexOutOfBoundsException" ∧ w = [])) := by
  refine kbody (by decide) (Nat.le_of_ble_eq_true rfl) ?_
  intro p e s m args below meth c A H K ht G hP hD hA hS ls hl
  have K : KB p s m meth c RX11 "pullOff" prog_1_method_15_code 3 (some .int) := K
  obtain ⟨hx, hb, hml, hown, hlocks, hr, hin⟩ := id K
  have hl : lv_has ls 3 [(0, .ref h0), (1, .int x0)] := hl
  refine lv_aload_n hx hb dX11_pullOff_0 rfl (lv_at hl 0 rfl) ?_
  refine lv_iload_n hx hb dX11_pullOff_1 rfl (lv_at hl 1 rfl) ?_
  refine kcallV (wc := [(h0, .inr (15, [.ref a1, .ref a2, .ref a3, .ref a4, .ref a5, .int tt, .int wf, .int ww, .int te, .int tn, .int mo])), (a3, .inr (3, [.int 0, .ref g.2.1, .int 0]))]) (wr := []) (As := [.int x0]) (rest := []) K G (m_X11_shipAt l hl0 g h0 a1 a2 a3 a4 a5 tt wf ww te tn mo x0 ) hP hD hS hA hl kw_60 kw_61 kw_62 kw_63 kw_4 ydX11_shipAt [0, 1] [] rfl rfl rfl rfl (by decide) (ci := 15) (q0 := 0) rfl rfl rfl rfl rfl (Nat.le_of_ble_eq_true rfl) dX11_pullOff_2 ⟨Nat.le_of_ble_eq_true rfl, Nat.le_of_ble_eq_true rfl⟩ ⟨Nat.le_of_ble_eq_true rfl, Nat.le_of_ble_eq_true rfl⟩ (fun E w1 ce q9 H locs hX hP hD hS hce hcv hcl => ?_) (fun _ _ _ _ hQ _ _ _ => hQ.elim)
  obtain ⟨rfl, rfl⟩ := hX
  have hP : va_P g.1 vwCl [] H := hP
  have hD : va_D A [] := hD
  refine vx_widen (k := 1) (n := 6) (by decide) (by decide) ?_
  exact kthrow K ht hP hD hS hce hcv hcl [] [] rfl rfl (⟨rfl, rfl⟩) (by decide) (by decide)

set_option maxHeartbeats 4000000 in
set_option maxRecDepth 100000 in
theorem m_X11_addGenerator (l : Launch) (hl0 : l.stackTraces = false) (g : kG) (h0 : Nat) (a1 : Nat) (a2 : Nat) (a3 : Nat) (a4 : Nat) (a5 : Nat) (tt : Int32) (wf : Int32) (ww : Int32) (te : Int32) (tn : Int32) (mo : Int32) (x0 : Int32) (x1 : Int32) (x2 : Int32)  : kc l g yX11_addGenerator prog_1_method_16_code 5 (some .int) 8 124 1 6 [.ref h0, .int x0, .int x1, .int x2] [(h0, .inr (15, [.ref a1, .ref a2, .ref a3, .ref a4, .ref a5, .int tt, .int wf, .int ww, .int te, .int tn, .int mo])), (a3, .inr (3, [.int 0, .ref g.2.1, .int 0]))] (fun _ _ => False) (fun E w => (E = "java/lang/IndexOutOfBoundsException" ∧ w = [])) := by
  refine kbody (by decide) (Nat.le_of_ble_eq_true rfl) ?_
  intro p e s m args below meth c A H K ht G hP hD hA hS ls hl
  have K : KB p s m meth c RX11 "addGenerator" prog_1_method_16_code 5 (some .int) := K
  obtain ⟨hx, hb, hml, hown, hlocks, hr, hin⟩ := id K
  have hl : lv_has ls 5 [(0, .ref h0), (1, .int x0), (2, .int x1), (3, .int x2)] := hl
  refine lv_aload_n hx hb dX11_addGenerator_0 rfl (lv_at hl 0 rfl) ?_
  refine lv_iload_n hx hb dX11_addGenerator_1 rfl (lv_at hl 1 rfl) ?_
  refine kcallV (wc := [(h0, .inr (15, [.ref a1, .ref a2, .ref a3, .ref a4, .ref a5, .int tt, .int wf, .int ww, .int te, .int tn, .int mo])), (a3, .inr (3, [.int 0, .ref g.2.1, .int 0]))]) (wr := []) (As := [.int x0]) (rest := []) K G (m_X11_shipAt l hl0 g h0 a1 a2 a3 a4 a5 tt wf ww te tn mo x0 ) hP hD hS hA hl kw_60 kw_61 kw_62 kw_63 kw_4 ydX11_shipAt [0, 1] [] rfl rfl rfl rfl (by decide) (ci := 15) (q0 := 0) rfl rfl rfl rfl rfl (Nat.le_of_ble_eq_true rfl) dX11_addGenerator_2 ⟨Nat.le_of_ble_eq_true rfl, Nat.le_of_ble_eq_true rfl⟩ ⟨Nat.le_of_ble_eq_true rfl, Nat.le_of_ble_eq_true rfl⟩ (fun E w1 ce q9 H locs hX hP hD hS hce hcv hcl => ?_) (fun _ _ _ _ hQ _ _ _ => hQ.elim)
  obtain ⟨rfl, rfl⟩ := hX
  have hP : va_P g.1 vwCl [] H := hP
  have hD : va_D A [] := hD
  refine vx_widen (k := 1) (n := 6) (by decide) (by decide) ?_
  exact kthrow K ht hP hD hS hce hcv hcl [] [] rfl rfl (⟨rfl, rfl⟩) (by decide) (by decide)

set_option maxHeartbeats 4000000 in
set_option maxRecDepth 100000 in
theorem m_X11_setGenerator (l : Launch) (hl0 : l.stackTraces = false) (g : kG) (h0 : Nat) (a1 : Nat) (a2 : Nat) (a3 : Nat) (a4 : Nat) (a5 : Nat) (tt : Int32) (wf : Int32) (ww : Int32) (te : Int32) (tn : Int32) (mo : Int32) (x0 : Int32) (x1 : Int32) (x2 : Int32)  : kc l g yX11_setGenerator prog_1_method_17_code 6 (some .int) 8 124 1 6 [.ref h0, .int x0, .int x1, .int x2] [(h0, .inr (15, [.ref a1, .ref a2, .ref a3, .ref a4, .ref a5, .int tt, .int wf, .int ww, .int te, .int tn, .int mo])), (a3, .inr (3, [.int 0, .ref g.2.1, .int 0]))] (fun _ _ => False) (fun E w => (E = "java/lang/IndexOutOfBoundsException" ∧ w = [])) := by
  refine kbody (by decide) (Nat.le_of_ble_eq_true rfl) ?_
  intro p e s m args below meth c A H K ht G hP hD hA hS ls hl
  have K : KB p s m meth c RX11 "setGenerator" prog_1_method_17_code 6 (some .int) := K
  obtain ⟨hx, hb, hml, hown, hlocks, hr, hin⟩ := id K
  have hl : lv_has ls 6 [(0, .ref h0), (1, .int x0), (2, .int x1), (3, .int x2)] := hl
  refine lv_aload_n hx hb dX11_setGenerator_0 rfl (lv_at hl 0 rfl) ?_
  refine lv_iload_n hx hb dX11_setGenerator_1 rfl (lv_at hl 1 rfl) ?_
  refine kcallV (wc := [(h0, .inr (15, [.ref a1, .ref a2, .ref a3, .ref a4, .ref a5, .int tt, .int wf, .int ww, .int te, .int tn, .int mo])), (a3, .inr (3, [.int 0, .ref g.2.1, .int 0]))]) (wr := []) (As := [.int x0]) (rest := []) K G (m_X11_shipAt l hl0 g h0 a1 a2 a3 a4 a5 tt wf ww te tn mo x0 ) hP hD hS hA hl kw_60 kw_61 kw_62 kw_63 kw_4 ydX11_shipAt [0, 1] [] rfl rfl rfl rfl (by decide) (ci := 15) (q0 := 0) rfl rfl rfl rfl rfl (Nat.le_of_ble_eq_true rfl) dX11_setGenerator_2 ⟨Nat.le_of_ble_eq_true rfl, Nat.le_of_ble_eq_true rfl⟩ ⟨Nat.le_of_ble_eq_true rfl, Nat.le_of_ble_eq_true rfl⟩ (fun E w1 ce q9 H locs hX hP hD hS hce hcv hcl => ?_) (fun _ _ _ _ hQ _ _ _ => hQ.elim)
  obtain ⟨rfl, rfl⟩ := hX
  have hP : va_P g.1 vwCl [] H := hP
  have hD : va_D A [] := hD
  refine vx_widen (k := 1) (n := 6) (by decide) (by decide) ?_
  exact kthrow K ht hP hD hS hce hcv hcl [] [] rfl rfl (⟨rfl, rfl⟩) (by decide) (by decide)

set_option maxHeartbeats 4000000 in
set_option maxRecDepth 100000 in
theorem m_X11_getFuel (l : Launch) (hl0 : l.stackTraces = false) (g : kG) (h0 : Nat) (a1 : Nat) (a2 : Nat) (a3 : Nat) (a4 : Nat) (a5 : Nat) (tt : Int32) (wf : Int32) (ww : Int32) (te : Int32) (tn : Int32) (mo : Int32) (x0 : Int32)  : kc l g yX11_getFuel prog_1_method_18_code 2 (some .int) 8 124 1 6 [.ref h0, .int x0] [(h0, .inr (15, [.ref a1, .ref a2, .ref a3, .ref a4, .ref a5, .int tt, .int wf, .int ww, .int te, .int tn, .int mo])), (a3, .inr (3, [.int 0, .ref g.2.1, .int 0]))] (fun _ _ => False) (fun E w => (E = "java/lang/IndexOutOfBoundsException" ∧ w = [])) := by
  refine kbody (by decide) (Nat.le_of_ble_eq_true rfl) ?_
  intro p e s m args below meth c A H K ht G hP hD hA hS ls hl
  have K : KB p s m meth c RX11 "getFuel" prog_1_method_18_code 2 (some .int) := K
  obtain ⟨hx, hb, hml, hown, hlocks, hr, hin⟩ := id K
  have hl : lv_has ls 2 [(0, .ref h0), (1, .int x0)] := hl
  refine lv_aload_n hx hb dX11_getFuel_0 rfl (lv_at hl 0 rfl) ?_
  refine lv_iload_n hx hb dX11_getFuel_1 rfl (lv_at hl 1 rfl) ?_
  refine kcallV (wc := [(h0, .inr (15, [.ref a1, .ref a2, .ref a3, .ref a4, .ref a5, .int tt, .int wf, .int ww, .int te, .int tn, .int mo])), (a3, .inr (3, [.int 0, .ref g.2.1, .int 0]))]) (wr := []) (As := [.int x0]) (rest := []) K G (m_X11_shipAt l hl0 g h0 a1 a2 a3 a4 a5 tt wf ww te tn mo x0 ) hP hD hS hA hl kw_60 kw_61 kw_62 kw_63 kw_4 ydX11_shipAt [0, 1] [] rfl rfl rfl rfl (by decide) (ci := 15) (q0 := 0) rfl rfl rfl rfl rfl (Nat.le_of_ble_eq_true rfl) dX11_getFuel_2 ⟨Nat.le_of_ble_eq_true rfl, Nat.le_of_ble_eq_true rfl⟩ ⟨Nat.le_of_ble_eq_true rfl, Nat.le_of_ble_eq_true rfl⟩ (fun E w1 ce q9 H locs hX hP hD hS hce hcv hcl => ?_) (fun _ _ _ _ hQ _ _ _ => hQ.elim)
  obtain ⟨rfl, rfl⟩ := hX
  have hP : va_P g.1 vwCl [] H := hP
  have hD : va_D A [] := hD
  refine vx_widen (k := 1) (n := 6) (by decide) (by decide) ?_
  exact kthrow K ht hP hD hS hce hcv hcl [] [] rfl rfl (⟨rfl, rfl⟩) (by decide) (by decide)

set_option maxHeartbeats 4000000 in
set_option maxRecDepth 100000 in
theorem m_X11_getFood (l : Launch) (hl0 : l.stackTraces = false) (g : kG) (h0 : Nat) (a1 : Nat) (a2 : Nat) (a3 : Nat) (a4 : Nat) (a5 : Nat) (tt : Int32) (wf : Int32) (ww : Int32) (te : Int32) (tn : Int32) (mo : Int32) (x0 : Int32)  : kc l g yX11_getFood prog_1_method_19_code 2 (some .int) 8 124 1 6 [.ref h0, .int x0] [(h0, .inr (15, [.ref a1, .ref a2, .ref a3, .ref a4, .ref a5, .int tt, .int wf, .int ww, .int te, .int tn, .int mo])), (a3, .inr (3, [.int 0, .ref g.2.1, .int 0]))] (fun _ _ => False) (fun E w => (E = "java/lang/IndexOutOfBoundsException" ∧ w = [])) := by
  refine kbody (by decide) (Nat.le_of_ble_eq_true rfl) ?_
  intro p e s m args below meth c A H K ht G hP hD hA hS ls hl
  have K : KB p s m meth c RX11 "getFood" prog_1_method_19_code 2 (some .int) := K
  obtain ⟨hx, hb, hml, hown, hlocks, hr, hin⟩ := id K
  have hl : lv_has ls 2 [(0, .ref h0), (1, .int x0)] := hl
  refine lv_aload_n hx hb dX11_getFood_0 rfl (lv_at hl 0 rfl) ?_
  refine lv_iload_n hx hb dX11_getFood_1 rfl (lv_at hl 1 rfl) ?_
  refine kcallV (wc := [(h0, .inr (15, [.ref a1, .ref a2, .ref a3, .ref a4, .ref a5, .int tt, .int wf, .int ww, .int te, .int tn, .int mo])), (a3, .inr (3, [.int 0, .ref g.2.1, .int 0]))]) (wr := []) (As := [.int x0]) (rest := []) K G (m_X11_shipAt l hl0 g h0 a1 a2 a3 a4 a5 tt wf ww te tn mo x0 ) hP hD hS hA hl kw_60 kw_61 kw_62 kw_63 kw_4 ydX11_shipAt [0, 1] [] rfl rfl rfl rfl (by decide) (ci := 15) (q0 := 0) rfl rfl rfl rfl rfl (Nat.le_of_ble_eq_true rfl) dX11_getFood_2 ⟨Nat.le_of_ble_eq_true rfl, Nat.le_of_ble_eq_true rfl⟩ ⟨Nat.le_of_ble_eq_true rfl, Nat.le_of_ble_eq_true rfl⟩ (fun E w1 ce q9 H locs hX hP hD hS hce hcv hcl => ?_) (fun _ _ _ _ hQ _ _ _ => hQ.elim)
  obtain ⟨rfl, rfl⟩ := hX
  have hP : va_P g.1 vwCl [] H := hP
  have hD : va_D A [] := hD
  refine vx_widen (k := 1) (n := 6) (by decide) (by decide) ?_
  exact kthrow K ht hP hD hS hce hcv hcl [] [] rfl rfl (⟨rfl, rfl⟩) (by decide) (by decide)

set_option maxHeartbeats 4000000 in
set_option maxRecDepth 100000 in
theorem m_X11_getSalt (l : Launch) (hl0 : l.stackTraces = false) (g : kG) (h0 : Nat) (a1 : Nat) (a2 : Nat) (a3 : Nat) (a4 : Nat) (a5 : Nat) (tt : Int32) (wf : Int32) (ww : Int32) (te : Int32) (tn : Int32) (mo : Int32) (x0 : Int32)  : kc l g yX11_getSalt prog_1_method_20_code 2 (some .int) 8 124 1 6 [.ref h0, .int x0] [(h0, .inr (15, [.ref a1, .ref a2, .ref a3, .ref a4, .ref a5, .int tt, .int wf, .int ww, .int te, .int tn, .int mo])), (a3, .inr (3, [.int 0, .ref g.2.1, .int 0]))] (fun _ _ => False) (fun E w => (E = "java/lang/IndexOutOfBoundsException" ∧ w = [])) := by
  refine kbody (by decide) (Nat.le_of_ble_eq_true rfl) ?_
  intro p e s m args below meth c A H K ht G hP hD hA hS ls hl
  have K : KB p s m meth c RX11 "getSalt" prog_1_method_20_code 2 (some .int) := K
  obtain ⟨hx, hb, hml, hown, hlocks, hr, hin⟩ := id K
  have hl : lv_has ls 2 [(0, .ref h0), (1, .int x0)] := hl
  refine lv_aload_n hx hb dX11_getSalt_0 rfl (lv_at hl 0 rfl) ?_
  refine lv_iload_n hx hb dX11_getSalt_1 rfl (lv_at hl 1 rfl) ?_
  refine kcallV (wc := [(h0, .inr (15, [.ref a1, .ref a2, .ref a3, .ref a4, .ref a5, .int tt, .int wf, .int ww, .int te, .int tn, .int mo])), (a3, .inr (3, [.int 0, .ref g.2.1, .int 0]))]) (wr := []) (As := [.int x0]) (rest := []) K G (m_X11_shipAt l hl0 g h0 a1 a2 a3 a4 a5 tt wf ww te tn mo x0 ) hP hD hS hA hl kw_60 kw_61 kw_62 kw_63 kw_4 ydX11_shipAt [0, 1] [] rfl rfl rfl rfl (by decide) (ci := 15) (q0 := 0) rfl rfl rfl rfl rfl (Nat.le_of_ble_eq_true rfl) dX11_getSalt_2 ⟨Nat.le_of_ble_eq_true rfl, Nat.le_of_ble_eq_true rfl⟩ ⟨Nat.le_of_ble_eq_true rfl, Nat.le_of_ble_eq_true rfl⟩ (fun E w1 ce q9 H locs hX hP hD hS hce hcv hcl => ?_) (fun _ _ _ _ hQ _ _ _ => hQ.elim)
  obtain ⟨rfl, rfl⟩ := hX
  have hP : va_P g.1 vwCl [] H := hP
  have hD : va_D A [] := hD
  refine vx_widen (k := 1) (n := 6) (by decide) (by decide) ?_
  exact kthrow K ht hP hD hS hce hcv hcl [] [] rfl rfl (⟨rfl, rfl⟩) (by decide) (by decide)

set_option maxHeartbeats 4000000 in
set_option maxRecDepth 100000 in
theorem m_X11_wash (l : Launch) (hl0 : l.stackTraces = false) (g : kG) (h0 : Nat) (a1 : Nat) (a2 : Nat) (a3 : Nat) (a4 : Nat) (a5 : Nat) (tt : Int32) (wf : Int32) (ww : Int32) (te : Int32) (tn : Int32) (mo : Int32) (x0 : Int32)  : kc l g yX11_wash prog_1_method_21_code 4 (some .int) 8 124 1 6 [.ref h0, .int x0] [(h0, .inr (15, [.ref a1, .ref a2, .ref a3, .ref a4, .ref a5, .int tt, .int wf, .int ww, .int te, .int tn, .int mo])), (a3, .inr (3, [.int 0, .ref g.2.1, .int 0]))] (fun _ _ => False) (fun E w => (E = "java/lang/IndexOutOfBoundsException" ∧ w = [])) := by
  refine kbody (by decide) (Nat.le_of_ble_eq_true rfl) ?_
  intro p e s m args below meth c A H K ht G hP hD hA hS ls hl
  have K : KB p s m meth c RX11 "wash" prog_1_method_21_code 4 (some .int) := K
  obtain ⟨hx, hb, hml, hown, hlocks, hr, hin⟩ := id K
  have hl : lv_has ls 4 [(0, .ref h0), (1, .int x0)] := hl
  refine lv_aload_n hx hb dX11_wash_0 rfl (lv_at hl 0 rfl) ?_
  refine lv_iload_n hx hb dX11_wash_1 rfl (lv_at hl 1 rfl) ?_
  refine kcallV (wc := [(h0, .inr (15, [.ref a1, .ref a2, .ref a3, .ref a4, .ref a5, .int tt, .int wf, .int ww, .int te, .int tn, .int mo])), (a3, .inr (3, [.int 0, .ref g.2.1, .int 0]))]) (wr := []) (As := [.int x0]) (rest := []) K G (m_X11_shipAt l hl0 g h0 a1 a2 a3 a4 a5 tt wf ww te tn mo x0 ) hP hD hS hA hl kw_60 kw_61 kw_62 kw_63 kw_4 ydX11_shipAt [0, 1] [] rfl rfl rfl rfl (by decide) (ci := 15) (q0 := 0) rfl rfl rfl rfl rfl (Nat.le_of_ble_eq_true rfl) dX11_wash_2 ⟨Nat.le_of_ble_eq_true rfl, Nat.le_of_ble_eq_true rfl⟩ ⟨Nat.le_of_ble_eq_true rfl, Nat.le_of_ble_eq_true rfl⟩ (fun E w1 ce q9 H locs hX hP hD hS hce hcv hcl => ?_) (fun _ _ _ _ hQ _ _ _ => hQ.elim)
  obtain ⟨rfl, rfl⟩ := hX
  have hP : va_P g.1 vwCl [] H := hP
  have hD : va_D A [] := hD
  refine vx_widen (k := 1) (n := 6) (by decide) (by decide) ?_
  exact kthrow K ht hP hD hS hce hcv hcl [] [] rfl rfl (⟨rfl, rfl⟩) (by decide) (by decide)

set_option maxHeartbeats 4000000 in
set_option maxRecDepth 100000 in
theorem m_X11_setPower (l : Launch) (hl0 : l.stackTraces = false) (g : kG) (h0 : Nat) (a1 : Nat) (a2 : Nat) (a3 : Nat) (a4 : Nat) (a5 : Nat) (tt : Int32) (wf : Int32) (ww : Int32) (te : Int32) (tn : Int32) (mo : Int32) (x0 : Int32) (x1 : Int32)  : kc l g yX11_setPower prog_1_method_22_code 5 (some .int) 8 124 1 6 [.ref h0, .int x0, .int x1] [(h0, .inr (15, [.ref a1, .ref a2, .ref a3, .ref a4, .ref a5, .int tt, .int wf, .int ww, .int te, .int tn, .int mo])), (a3, .inr (3, [.int 0, .ref g.2.1, .int 0]))] (fun _ _ => False) (fun E w => (E = "java/lang/IndexOutOfBoundsException" ∧ w = [])) := by
  refine kbody (by decide) (Nat.le_of_ble_eq_true rfl) ?_
  intro p e s m args below meth c A H K ht G hP hD hA hS ls hl
  have K : KB p s m meth c RX11 "setPower" prog_1_method_22_code 5 (some .int) := K
  obtain ⟨hx, hb, hml, hown, hlocks, hr, hin⟩ := id K
  have hl : lv_has ls 5 [(0, .ref h0), (1, .int x0), (2, .int x1)] := hl
  refine lv_aload_n hx hb dX11_setPower_0 rfl (lv_at hl 0 rfl) ?_
  refine lv_iload_n hx hb dX11_setPower_1 rfl (lv_at hl 1 rfl) ?_
  refine kcallV (wc := [(h0, .inr (15, [.ref a1, .ref a2, .ref a3, .ref a4, .ref a5, .int tt, .int wf, .int ww, .int te, .int tn, .int mo])), (a3, .inr (3, [.int 0, .ref g.2.1, .int 0]))]) (wr := []) (As := [.int x0]) (rest := []) K G (m_X11_shipAt l hl0 g h0 a1 a2 a3 a4 a5 tt wf ww te tn mo x0 ) hP hD hS hA hl kw_60 kw_61 kw_62 kw_63 kw_4 ydX11_shipAt [0, 1] [] rfl rfl rfl rfl (by decide) (ci := 15) (q0 := 0) rfl rfl rfl rfl rfl (Nat.le_of_ble_eq_true rfl) dX11_setPower_2 ⟨Nat.le_of_ble_eq_true rfl, Nat.le_of_ble_eq_true rfl⟩ ⟨Nat.le_of_ble_eq_true rfl, Nat.le_of_ble_eq_true rfl⟩ (fun E w1 ce q9 H locs hX hP hD hS hce hcv hcl => ?_) (fun _ _ _ _ hQ _ _ _ => hQ.elim)
  obtain ⟨rfl, rfl⟩ := hX
  have hP : va_P g.1 vwCl [] H := hP
  have hD : va_D A [] := hD
  refine vx_widen (k := 1) (n := 6) (by decide) (by decide) ?_
  exact kthrow K ht hP hD hS hce hcv hcl [] [] rfl rfl (⟨rfl, rfl⟩) (by decide) (by decide)

set_option maxHeartbeats 4000000 in
set_option maxRecDepth 100000 in
theorem m_X11_getChannel (l : Launch) (hl0 : l.stackTraces = false) (g : kG) (h0 : Nat) (a1 : Nat) (a2 : Nat) (a3 : Nat) (a4 : Nat) (a5 : Nat) (tt : Int32) (wf : Int32) (ww : Int32) (te : Int32) (tn : Int32) (mo : Int32) (x0 : Int32)  : kc l g yX11_getChannel prog_1_method_23_code 2 (some .int) 8 124 1 6 [.ref h0, .int x0] [(h0, .inr (15, [.ref a1, .ref a2, .ref a3, .ref a4, .ref a5, .int tt, .int wf, .int ww, .int te, .int tn, .int mo])), (a3, .inr (3, [.int 0, .ref g.2.1, .int 0]))] (fun _ _ => False) (fun E w => (E = "java/lang/IndexOutOfBoundsException" ∧ w = [])) := by
  refine kbody (by decide) (Nat.le_of_ble_eq_true rfl) ?_
  intro p e s m args below meth c A H K ht G hP hD hA hS ls hl
  have K : KB p s m meth c RX11 "getChannel" prog_1_method_23_code 2 (some .int) := K
  obtain ⟨hx, hb, hml, hown, hlocks, hr, hin⟩ := id K
  have hl : lv_has ls 2 [(0, .ref h0), (1, .int x0)] := hl
  refine lv_aload_n hx hb dX11_getChannel_0 rfl (lv_at hl 0 rfl) ?_
  refine lv_iload_n hx hb dX11_getChannel_1 rfl (lv_at hl 1 rfl) ?_
  refine kcallV (wc := [(h0, .inr (15, [.ref a1, .ref a2, .ref a3, .ref a4, .ref a5, .int tt, .int wf, .int ww, .int te, .int tn, .int mo])), (a3, .inr (3, [.int 0, .ref g.2.1, .int 0]))]) (wr := []) (As := [.int x0]) (rest := []) K G (m_X11_shipAt l hl0 g h0 a1 a2 a3 a4 a5 tt wf ww te tn mo x0 ) hP hD hS hA hl kw_60 kw_61 kw_62 kw_63 kw_4 ydX11_shipAt [0, 1] [] rfl rfl rfl rfl (by decide) (ci := 15) (q0 := 0) rfl rfl rfl rfl rfl (Nat.le_of_ble_eq_true rfl) dX11_getChannel_2 ⟨Nat.le_of_ble_eq_true rfl, Nat.le_of_ble_eq_true rfl⟩ ⟨Nat.le_of_ble_eq_true rfl, Nat.le_of_ble_eq_true rfl⟩ (fun E w1 ce q9 H locs hX hP hD hS hce hcv hcl => ?_) (fun _ _ _ _ hQ _ _ _ => hQ.elim)
  obtain ⟨rfl, rfl⟩ := hX
  have hP : va_P g.1 vwCl [] H := hP
  have hD : va_D A [] := hD
  refine vx_widen (k := 1) (n := 6) (by decide) (by decide) ?_
  exact kthrow K ht hP hD hS hce hcv hcl [] [] rfl rfl (⟨rfl, rfl⟩) (by decide) (by decide)

set_option maxHeartbeats 4000000 in
set_option maxRecDepth 100000 in
theorem m_X11_isOnAir (l : Launch) (hl0 : l.stackTraces = false) (g : kG) (h0 : Nat) (a1 : Nat) (a2 : Nat) (a3 : Nat) (a4 : Nat) (a5 : Nat) (tt : Int32) (wf : Int32) (ww : Int32) (te : Int32) (tn : Int32) (mo : Int32) (x0 : Int32)  : kc l g yX11_isOnAir prog_1_method_24_code 2 (some .boolean) 8 124 1 6 [.ref h0, .int x0] [(h0, .inr (15, [.ref a1, .ref a2, .ref a3, .ref a4, .ref a5, .int tt, .int wf, .int ww, .int te, .int tn, .int mo])), (a3, .inr (3, [.int 0, .ref g.2.1, .int 0]))] (fun _ _ => False) (fun E w => (E = "java/lang/IndexOutOfBoundsException" ∧ w = [])) := by
  refine kbody (by decide) (Nat.le_of_ble_eq_true rfl) ?_
  intro p e s m args below meth c A H K ht G hP hD hA hS ls hl
  have K : KB p s m meth c RX11 "isOnAir" prog_1_method_24_code 2 (some .boolean) := K
  obtain ⟨hx, hb, hml, hown, hlocks, hr, hin⟩ := id K
  have hl : lv_has ls 2 [(0, .ref h0), (1, .int x0)] := hl
  refine lv_aload_n hx hb dX11_isOnAir_0 rfl (lv_at hl 0 rfl) ?_
  refine lv_iload_n hx hb dX11_isOnAir_1 rfl (lv_at hl 1 rfl) ?_
  refine kcallV (wc := [(h0, .inr (15, [.ref a1, .ref a2, .ref a3, .ref a4, .ref a5, .int tt, .int wf, .int ww, .int te, .int tn, .int mo])), (a3, .inr (3, [.int 0, .ref g.2.1, .int 0]))]) (wr := []) (As := [.int x0]) (rest := []) K G (m_X11_shipAt l hl0 g h0 a1 a2 a3 a4 a5 tt wf ww te tn mo x0 ) hP hD hS hA hl kw_60 kw_61 kw_62 kw_63 kw_4 ydX11_shipAt [0, 1] [] rfl rfl rfl rfl (by decide) (ci := 15) (q0 := 0) rfl rfl rfl rfl rfl (Nat.le_of_ble_eq_true rfl) dX11_isOnAir_2 ⟨Nat.le_of_ble_eq_true rfl, Nat.le_of_ble_eq_true rfl⟩ ⟨Nat.le_of_ble_eq_true rfl, Nat.le_of_ble_eq_true rfl⟩ (fun E w1 ce q9 H locs hX hP hD hS hce hcv hcl => ?_) (fun _ _ _ _ hQ _ _ _ => hQ.elim)
  obtain ⟨rfl, rfl⟩ := hX
  have hP : va_P g.1 vwCl [] H := hP
  have hD : va_D A [] := hD
  refine vx_widen (k := 1) (n := 6) (by decide) (by decide) ?_
  exact kthrow K ht hP hD hS hce hcv hcl [] [] rfl rfl (⟨rfl, rfl⟩) (by decide) (by decide)

set_option maxHeartbeats 4000000 in
set_option maxRecDepth 100000 in
theorem m_X11_getSignal (l : Launch) (hl0 : l.stackTraces = false) (g : kG) (h0 : Nat) (a1 : Nat) (a2 : Nat) (a3 : Nat) (a4 : Nat) (a5 : Nat) (tt : Int32) (wf : Int32) (ww : Int32) (te : Int32) (tn : Int32) (mo : Int32) (x0 : Int32) (x1 : Int32)  : kc l g yX11_getSignal prog_1_method_25_code 4 (some .int) 8 124 1 6 [.ref h0, .int x0, .int x1] [(h0, .inr (15, [.ref a1, .ref a2, .ref a3, .ref a4, .ref a5, .int tt, .int wf, .int ww, .int te, .int tn, .int mo])), (a3, .inr (3, [.int 0, .ref g.2.1, .int 0]))] (fun _ _ => False) (fun E w => (E = "java/lang/IndexOutOfBoundsException" ∧ w = [])) := by
  refine kbody (by decide) (Nat.le_of_ble_eq_true rfl) ?_
  intro p e s m args below meth c A H K ht G hP hD hA hS ls hl
  have K : KB p s m meth c RX11 "getSignal" prog_1_method_25_code 4 (some .int) := K
  obtain ⟨hx, hb, hml, hown, hlocks, hr, hin⟩ := id K
  have hl : lv_has ls 4 [(0, .ref h0), (1, .int x0), (2, .int x1)] := hl
  refine lv_aload_n hx hb dX11_getSignal_0 rfl (lv_at hl 0 rfl) ?_
  refine lv_iload_n hx hb dX11_getSignal_1 rfl (lv_at hl 1 rfl) ?_
  refine kcallV (wc := [(h0, .inr (15, [.ref a1, .ref a2, .ref a3, .ref a4, .ref a5, .int tt, .int wf, .int ww, .int te, .int tn, .int mo])), (a3, .inr (3, [.int 0, .ref g.2.1, .int 0]))]) (wr := []) (As := [.int x0]) (rest := []) K G (m_X11_shipAt l hl0 g h0 a1 a2 a3 a4 a5 tt wf ww te tn mo x0 ) hP hD hS hA hl kw_60 kw_61 kw_62 kw_63 kw_4 ydX11_shipAt [0, 1] [] rfl rfl rfl rfl (by decide) (ci := 15) (q0 := 0) rfl rfl rfl rfl rfl (Nat.le_of_ble_eq_true rfl) dX11_getSignal_2 ⟨Nat.le_of_ble_eq_true rfl, Nat.le_of_ble_eq_true rfl⟩ ⟨Nat.le_of_ble_eq_true rfl, Nat.le_of_ble_eq_true rfl⟩ (fun E w1 ce q9 H locs hX hP hD hS hce hcv hcl => ?_) (fun _ _ _ _ hQ _ _ _ => hQ.elim)
  obtain ⟨rfl, rfl⟩ := hX
  have hP : va_P g.1 vwCl [] H := hP
  have hD : va_D A [] := hD
  refine vx_widen (k := 1) (n := 6) (by decide) (by decide) ?_
  exact kthrow K ht hP hD hS hce hcv hcl [] [] rfl rfl (⟨rfl, rfl⟩) (by decide) (by decide)

set_option maxHeartbeats 4000000 in
set_option maxRecDepth 100000 in
theorem m_X11_getListeners (l : Launch) (hl0 : l.stackTraces = false) (g : kG) (h0 : Nat) (a1 : Nat) (a2 : Nat) (a3 : Nat) (a4 : Nat) (a5 : Nat) (tt : Int32) (wf : Int32) (ww : Int32) (te : Int32) (tn : Int32) (mo : Int32) (x0 : Int32)  : kc l g yX11_getListeners prog_1_method_27_code 2 (some .int) 8 124 1 6 [.ref h0, .int x0] [(h0, .inr (15, [.ref a1, .ref a2, .ref a3, .ref a4, .ref a5, .int tt, .int wf, .int ww, .int te, .int tn, .int mo])), (a3, .inr (3, [.int 0, .ref g.2.1, .int 0]))] (fun _ _ => False) (fun E w => (E = "java/lang/IndexOutOfBoundsException" ∧ w = [])) := by
  refine kbody (by decide) (Nat.le_of_ble_eq_true rfl) ?_
  intro p e s m args below meth c A H K ht G hP hD hA hS ls hl
  have K : KB p s m meth c RX11 "getListeners" prog_1_method_27_code 2 (some .int) := K
  obtain ⟨hx, hb, hml, hown, hlocks, hr, hin⟩ := id K
  have hl : lv_has ls 2 [(0, .ref h0), (1, .int x0)] := hl
  refine lv_aload_n hx hb dX11_getListeners_0 rfl (lv_at hl 0 rfl) ?_
  refine lv_iload_n hx hb dX11_getListeners_1 rfl (lv_at hl 1 rfl) ?_
  refine kcallV (wc := [(h0, .inr (15, [.ref a1, .ref a2, .ref a3, .ref a4, .ref a5, .int tt, .int wf, .int ww, .int te, .int tn, .int mo])), (a3, .inr (3, [.int 0, .ref g.2.1, .int 0]))]) (wr := []) (As := [.int x0]) (rest := []) K G (m_X11_shipAt l hl0 g h0 a1 a2 a3 a4 a5 tt wf ww te tn mo x0 ) hP hD hS hA hl kw_60 kw_61 kw_62 kw_63 kw_4 ydX11_shipAt [0, 1] [] rfl rfl rfl rfl (by decide) (ci := 15) (q0 := 0) rfl rfl rfl rfl rfl (Nat.le_of_ble_eq_true rfl) dX11_getListeners_2 ⟨Nat.le_of_ble_eq_true rfl, Nat.le_of_ble_eq_true rfl⟩ ⟨Nat.le_of_ble_eq_true rfl, Nat.le_of_ble_eq_true rfl⟩ (fun E w1 ce q9 H locs hX hP hD hS hce hcv hcl => ?_) (fun _ _ _ _ hQ _ _ _ => hQ.elim)
  obtain ⟨rfl, rfl⟩ := hX
  have hP : va_P g.1 vwCl [] H := hP
  have hD : va_D A [] := hD
  refine vx_widen (k := 1) (n := 6) (by decide) (by decide) ?_
  exact kthrow K ht hP hD hS hce hcv hcl [] [] rfl rfl (⟨rfl, rfl⟩) (by decide) (by decide)

set_option maxHeartbeats 4000000 in
set_option maxRecDepth 100000 in
theorem m_X11_plan (l : Launch) (hl0 : l.stackTraces = false) (g : kG) (h0 : Nat) (a1 : Nat) (a2 : Nat) (a3 : Nat) (a4 : Nat) (a5 : Nat) (tt : Int32) (wf : Int32) (ww : Int32) (te : Int32) (tn : Int32) (mo : Int32) (x0 : Int32) (x1 : Int32) (x2 : Int32)  : kc l g yX11_plan prog_1_method_34_code 5 (some .int) 8 124 1 6 [.ref h0, .int x0, .int x1, .int x2] [(h0, .inr (15, [.ref a1, .ref a2, .ref a3, .ref a4, .ref a5, .int tt, .int wf, .int ww, .int te, .int tn, .int mo])), (a3, .inr (3, [.int 0, .ref g.2.1, .int 0]))] (fun _ _ => False) (fun E w => (E = "java/lang/IndexOutOfBoundsException" ∧ w = [])) := by
  refine kbody (by decide) (Nat.le_of_ble_eq_true rfl) ?_
  intro p e s m args below meth c A H K ht G hP hD hA hS ls hl
  have K : KB p s m meth c RX11 "plan" prog_1_method_34_code 5 (some .int) := K
  obtain ⟨hx, hb, hml, hown, hlocks, hr, hin⟩ := id K
  have hl : lv_has ls 5 [(0, .ref h0), (1, .int x0), (2, .int x1), (3, .int x2)] := hl
  refine lv_aload_n hx hb dX11_plan_0 rfl (lv_at hl 0 rfl) ?_
  refine lv_iload_n hx hb dX11_plan_1 rfl (lv_at hl 1 rfl) ?_
  refine kcallV (wc := [(h0, .inr (15, [.ref a1, .ref a2, .ref a3, .ref a4, .ref a5, .int tt, .int wf, .int ww, .int te, .int tn, .int mo])), (a3, .inr (3, [.int 0, .ref g.2.1, .int 0]))]) (wr := []) (As := [.int x0]) (rest := []) K G (m_X11_shipAt l hl0 g h0 a1 a2 a3 a4 a5 tt wf ww te tn mo x0 ) hP hD hS hA hl kw_60 kw_61 kw_62 kw_63 kw_4 ydX11_shipAt [0, 1] [] rfl rfl rfl rfl (by decide) (ci := 15) (q0 := 0) rfl rfl rfl rfl rfl (Nat.le_of_ble_eq_true rfl) dX11_plan_2 ⟨Nat.le_of_ble_eq_true rfl, Nat.le_of_ble_eq_true rfl⟩ ⟨Nat.le_of_ble_eq_true rfl, Nat.le_of_ble_eq_true rfl⟩ (fun E w1 ce q9 H locs hX hP hD hS hce hcv hcl => ?_) (fun _ _ _ _ hQ _ _ _ => hQ.elim)
  obtain ⟨rfl, rfl⟩ := hX
  have hP : va_P g.1 vwCl [] H := hP
  have hD : va_D A [] := hD
  refine vx_widen (k := 1) (n := 6) (by decide) (by decide) ?_
  exact kthrow K ht hP hD hS hce hcv hcl [] [] rfl rfl (⟨rfl, rfl⟩) (by decide) (by decide)

set_option maxHeartbeats 4000000 in
set_option maxRecDepth 100000 in
theorem m_X11_getSpeaker (l : Launch) (hl0 : l.stackTraces = false) (g : kG) (h0 : Nat) (a1 : Nat) (a2 : Nat) (a3 : Nat) (a4 : Nat) (a5 : Nat) (tt : Int32) (wf : Int32) (ww : Int32) (te : Int32) (tn : Int32) (mo : Int32) (x0 : Int32)  : kc l g yX11_getSpeaker prog_1_method_35_code 3 (some .int) 8 124 1 6 [.ref h0, .int x0] [(h0, .inr (15, [.ref a1, .ref a2, .ref a3, .ref a4, .ref a5, .int tt, .int wf, .int ww, .int te, .int tn, .int mo])), (a3, .inr (3, [.int 0, .ref g.2.1, .int 0]))] (fun _ _ => False) (fun E w => (E = "java/lang/IndexOutOfBoundsException" ∧ w = [])) := by
  refine kbody (by decide) (Nat.le_of_ble_eq_true rfl) ?_
  intro p e s m args below meth c A H K ht G hP hD hA hS ls hl
  have K : KB p s m meth c RX11 "getSpeaker" prog_1_method_35_code 3 (some .int) := K
  obtain ⟨hx, hb, hml, hown, hlocks, hr, hin⟩ := id K
  have hl : lv_has ls 3 [(0, .ref h0), (1, .int x0)] := hl
  refine lv_aload_n hx hb dX11_getSpeaker_0 rfl (lv_at hl 0 rfl) ?_
  refine lv_iload_n hx hb dX11_getSpeaker_1 rfl (lv_at hl 1 rfl) ?_
  refine kcallV (wc := [(h0, .inr (15, [.ref a1, .ref a2, .ref a3, .ref a4, .ref a5, .int tt, .int wf, .int ww, .int te, .int tn, .int mo])), (a3, .inr (3, [.int 0, .ref g.2.1, .int 0]))]) (wr := []) (As := [.int x0]) (rest := []) K G (m_X11_shipAt l hl0 g h0 a1 a2 a3 a4 a5 tt wf ww te tn mo x0 ) hP hD hS hA hl kw_60 kw_61 kw_62 kw_63 kw_4 ydX11_shipAt [0, 1] [] rfl rfl rfl rfl (by decide) (ci := 15) (q0 := 0) rfl rfl rfl rfl rfl (Nat.le_of_ble_eq_true rfl) dX11_getSpeaker_2 ⟨Nat.le_of_ble_eq_true rfl, Nat.le_of_ble_eq_true rfl⟩ ⟨Nat.le_of_ble_eq_true rfl, Nat.le_of_ble_eq_true rfl⟩ (fun E w1 ce q9 H locs hX hP hD hS hce hcv hcl => ?_) (fun _ _ _ _ hQ _ _ _ => hQ.elim)
  obtain ⟨rfl, rfl⟩ := hX
  have hP : va_P g.1 vwCl [] H := hP
  have hD : va_D A [] := hD
  refine vx_widen (k := 1) (n := 6) (by decide) (by decide) ?_
  exact kthrow K ht hP hD hS hce hcv hcl [] [] rfl rfl (⟨rfl, rfl⟩) (by decide) (by decide)

set_option maxHeartbeats 4000000 in
set_option maxRecDepth 100000 in
theorem m_X11_isMutiny (l : Launch) (hl0 : l.stackTraces = false) (g : kG) (h0 : Nat) (a1 : Nat) (a2 : Nat) (a3 : Nat) (a4 : Nat) (a5 : Nat) (tt : Int32) (wf : Int32) (ww : Int32) (te : Int32) (tn : Int32) (mo : Int32) (x0 : Int32)  : kc l g yX11_isMutiny prog_1_method_36_code 2 (some .boolean) 8 124 1 6 [.ref h0, .int x0] [(h0, .inr (15, [.ref a1, .ref a2, .ref a3, .ref a4, .ref a5, .int tt, .int wf, .int ww, .int te, .int tn, .int mo])), (a3, .inr (3, [.int 0, .ref g.2.1, .int 0]))] (fun _ _ => False) (fun E w => (E = "java/lang/IndexOutOfBoundsException" ∧ w = [])) := by
  refine kbody (by decide) (Nat.le_of_ble_eq_true rfl) ?_
  intro p e s m args below meth c A H K ht G hP hD hA hS ls hl
  have K : KB p s m meth c RX11 "isMutiny" prog_1_method_36_code 2 (some .boolean) := K
  obtain ⟨hx, hb, hml, hown, hlocks, hr, hin⟩ := id K
  have hl : lv_has ls 2 [(0, .ref h0), (1, .int x0)] := hl
  refine lv_aload_n hx hb dX11_isMutiny_0 rfl (lv_at hl 0 rfl) ?_
  refine lv_iload_n hx hb dX11_isMutiny_1 rfl (lv_at hl 1 rfl) ?_
  refine kcallV (wc := [(h0, .inr (15, [.ref a1, .ref a2, .ref a3, .ref a4, .ref a5, .int tt, .int wf, .int ww, .int te, .int tn, .int mo])), (a3, .inr (3, [.int 0, .ref g.2.1, .int 0]))]) (wr := []) (As := [.int x0]) (rest := []) K G (m_X11_shipAt l hl0 g h0 a1 a2 a3 a4 a5 tt wf ww te tn mo x0 ) hP hD hS hA hl kw_60 kw_61 kw_62 kw_63 kw_4 ydX11_shipAt [0, 1] [] rfl rfl rfl rfl (by decide) (ci := 15) (q0 := 0) rfl rfl rfl rfl rfl (Nat.le_of_ble_eq_true rfl) dX11_isMutiny_2 ⟨Nat.le_of_ble_eq_true rfl, Nat.le_of_ble_eq_true rfl⟩ ⟨Nat.le_of_ble_eq_true rfl, Nat.le_of_ble_eq_true rfl⟩ (fun E w1 ce q9 H locs hX hP hD hS hce hcv hcl => ?_) (fun _ _ _ _ hQ _ _ _ => hQ.elim)
  obtain ⟨rfl, rfl⟩ := hX
  have hP : va_P g.1 vwCl [] H := hP
  have hD : va_D A [] := hD
  refine vx_widen (k := 1) (n := 6) (by decide) (by decide) ?_
  exact kthrow K ht hP hD hS hce hcv hcl [] [] rfl rfl (⟨rfl, rfl⟩) (by decide) (by decide)

set_option maxHeartbeats 4000000 in
set_option maxRecDepth 100000 in
theorem m_X11_sell (l : Launch) (hl0 : l.stackTraces = false) (g : kG) (h0 : Nat) (a1 : Nat) (a2 : Nat) (a3 : Nat) (a4 : Nat) (a5 : Nat) (tt : Int32) (wf : Int32) (ww : Int32) (te : Int32) (tn : Int32) (mo : Int32) (x0 : Int32) (x1 : Int32)  : kc l g yX11_sell prog_1_method_37_code 5 (some .int) 8 124 1 6 [.ref h0, .int x0, .int x1] [(h0, .inr (15, [.ref a1, .ref a2, .ref a3, .ref a4, .ref a5, .int tt, .int wf, .int ww, .int te, .int tn, .int mo])), (a3, .inr (3, [.int 0, .ref g.2.1, .int 0]))] (fun _ _ => False) (fun E w => (E = "java/lang/IndexOutOfBoundsException" ∧ w = [])) := by
  refine kbody (by decide) (Nat.le_of_ble_eq_true rfl) ?_
  intro p e s m args below meth c A H K ht G hP hD hA hS ls hl
  have K : KB p s m meth c RX11 "sell" prog_1_method_37_code 5 (some .int) := K
  obtain ⟨hx, hb, hml, hown, hlocks, hr, hin⟩ := id K
  have hl : lv_has ls 5 [(0, .ref h0), (1, .int x0), (2, .int x1)] := hl
  refine lv_aload_n hx hb dX11_sell_0 rfl (lv_at hl 0 rfl) ?_
  refine lv_iload_n hx hb dX11_sell_1 rfl (lv_at hl 1 rfl) ?_
  refine kcallV (wc := [(h0, .inr (15, [.ref a1, .ref a2, .ref a3, .ref a4, .ref a5, .int tt, .int wf, .int ww, .int te, .int tn, .int mo])), (a3, .inr (3, [.int 0, .ref g.2.1, .int 0]))]) (wr := []) (As := [.int x0]) (rest := []) K G (m_X11_shipAt l hl0 g h0 a1 a2 a3 a4 a5 tt wf ww te tn mo x0 ) hP hD hS hA hl kw_60 kw_61 kw_62 kw_63 kw_4 ydX11_shipAt [0, 1] [] rfl rfl rfl rfl (by decide) (ci := 15) (q0 := 0) rfl rfl rfl rfl rfl (Nat.le_of_ble_eq_true rfl) dX11_sell_2 ⟨Nat.le_of_ble_eq_true rfl, Nat.le_of_ble_eq_true rfl⟩ ⟨Nat.le_of_ble_eq_true rfl, Nat.le_of_ble_eq_true rfl⟩ (fun E w1 ce q9 H locs hX hP hD hS hce hcv hcl => ?_) (fun _ _ _ _ hQ _ _ _ => hQ.elim)
  obtain ⟨rfl, rfl⟩ := hX
  have hP : va_P g.1 vwCl [] H := hP
  have hD : va_D A [] := hD
  refine vx_widen (k := 1) (n := 6) (by decide) (by decide) ?_
  exact kthrow K ht hP hD hS hce hcv hcl [] [] rfl rfl (⟨rfl, rfl⟩) (by decide) (by decide)

set_option maxHeartbeats 4000000 in
set_option maxRecDepth 100000 in
theorem m_X11_bank (l : Launch) (hl0 : l.stackTraces = false) (g : kG) (h0 : Nat) (a1 : Nat) (a2 : Nat) (a3 : Nat) (a4 : Nat) (a5 : Nat) (tt : Int32) (wf : Int32) (ww : Int32) (te : Int32) (tn : Int32) (mo : Int32) (x0 : Int32)  : kc l g yX11_bank prog_1_method_38_code 2 (some .int) 8 124 1 6 [.ref h0, .int x0] [(h0, .inr (15, [.ref a1, .ref a2, .ref a3, .ref a4, .ref a5, .int tt, .int wf, .int ww, .int te, .int tn, .int mo])), (a3, .inr (3, [.int 0, .ref g.2.1, .int 0]))] (fun _ _ => False) (fun E w => (E = "java/lang/IndexOutOfBoundsException" ∧ w = [])) := by
  refine kbody (by decide) (Nat.le_of_ble_eq_true rfl) ?_
  intro p e s m args below meth c A H K ht G hP hD hA hS ls hl
  have K : KB p s m meth c RX11 "bank" prog_1_method_38_code 2 (some .int) := K
  obtain ⟨hx, hb, hml, hown, hlocks, hr, hin⟩ := id K
  have hl : lv_has ls 2 [(0, .ref h0), (1, .int x0)] := hl
  refine lv_aload_n hx hb dX11_bank_0 rfl (lv_at hl 0 rfl) ?_
  refine lv_dup hx hb dX11_bank_1 rfl ?_
  refine va_get (D := g.1) (ci := 15) (v := .int mo) (C := RX11) (T := TX11) (N := 11) hx hb G.ws inX11 hown G.K hP 0 rfl rfl 10 (by decide) (G.w kw_64) (fun _ h9 => h9) rfl dX11_bank_2 ?_
  refine lv_aload_n hx hb dX11_bank_5 rfl (lv_at hl 0 rfl) ?_
  refine lv_iload_n hx hb dX11_bank_6 rfl (lv_at hl 1 rfl) ?_
  refine kcallV (wc := [(h0, .inr (15, [.ref a1, .ref a2, .ref a3, .ref a4, .ref a5, .int tt, .int wf, .int ww, .int te, .int tn, .int mo])), (a3, .inr (3, [.int 0, .ref g.2.1, .int 0]))]) (wr := []) (As := [.int x0]) (rest := [.int mo, .ref h0]) K G (m_X11_shipAt l hl0 g h0 a1 a2 a3 a4 a5 tt wf ww te tn mo x0 ) hP hD hS hA hl kw_60 kw_61 kw_62 kw_63 kw_4 ydX11_shipAt [0, 1] [] rfl rfl rfl rfl (by decide) (ci := 15) (q0 := 0) rfl rfl rfl rfl rfl (Nat.le_of_ble_eq_true rfl) dX11_bank_7 ⟨Nat.le_of_ble_eq_true rfl, Nat.le_of_ble_eq_true rfl⟩ ⟨Nat.le_of_ble_eq_true rfl, Nat.le_of_ble_eq_true rfl⟩ (fun E w1 ce q9 H locs hX hP hD hS hce hcv hcl => ?_) (fun _ _ _ _ hQ _ _ _ => hQ.elim)
  obtain ⟨rfl, rfl⟩ := hX
  have hP : va_P g.1 vwCl [] H := hP
  have hD : va_D A [] := hD
  refine vx_widen (k := 1) (n := 6) (by decide) (by decide) ?_
  exact kthrow K ht hP hD hS hce hcv hcl [] [] rfl rfl (⟨rfl, rfl⟩) (by decide) (by decide)

set_option maxHeartbeats 4000000 in
set_option maxRecDepth 100000 in
theorem m_X11_getEarned (l : Launch) (hl0 : l.stackTraces = false) (g : kG) (h0 : Nat) (a1 : Nat) (a2 : Nat) (a3 : Nat) (a4 : Nat) (a5 : Nat) (tt : Int32) (wf : Int32) (ww : Int32) (te : Int32) (tn : Int32) (mo : Int32) (x0 : Int32)  : kc l g yX11_getEarned prog_1_method_39_code 2 (some .int) 8 124 1 6 [.ref h0, .int x0] [(h0, .inr (15, [.ref a1, .ref a2, .ref a3, .ref a4, .ref a5, .int tt, .int wf, .int ww, .int te, .int tn, .int mo])), (a3, .inr (3, [.int 0, .ref g.2.1, .int 0]))] (fun _ _ => False) (fun E w => (E = "java/lang/IndexOutOfBoundsException" ∧ w = [])) := by
  refine kbody (by decide) (Nat.le_of_ble_eq_true rfl) ?_
  intro p e s m args below meth c A H K ht G hP hD hA hS ls hl
  have K : KB p s m meth c RX11 "getEarned" prog_1_method_39_code 2 (some .int) := K
  obtain ⟨hx, hb, hml, hown, hlocks, hr, hin⟩ := id K
  have hl : lv_has ls 2 [(0, .ref h0), (1, .int x0)] := hl
  refine lv_aload_n hx hb dX11_getEarned_0 rfl (lv_at hl 0 rfl) ?_
  refine lv_iload_n hx hb dX11_getEarned_1 rfl (lv_at hl 1 rfl) ?_
  refine kcallV (wc := [(h0, .inr (15, [.ref a1, .ref a2, .ref a3, .ref a4, .ref a5, .int tt, .int wf, .int ww, .int te, .int tn, .int mo])), (a3, .inr (3, [.int 0, .ref g.2.1, .int 0]))]) (wr := []) (As := [.int x0]) (rest := []) K G (m_X11_shipAt l hl0 g h0 a1 a2 a3 a4 a5 tt wf ww te tn mo x0 ) hP hD hS hA hl kw_60 kw_61 kw_62 kw_63 kw_4 ydX11_shipAt [0, 1] [] rfl rfl rfl rfl (by decide) (ci := 15) (q0 := 0) rfl rfl rfl rfl rfl (Nat.le_of_ble_eq_true rfl) dX11_getEarned_2 ⟨Nat.le_of_ble_eq_true rfl, Nat.le_of_ble_eq_true rfl⟩ ⟨Nat.le_of_ble_eq_true rfl, Nat.le_of_ble_eq_true rfl⟩ (fun E w1 ce q9 H locs hX hP hD hS hce hcv hcl => ?_) (fun _ _ _ _ hQ _ _ _ => hQ.elim)
  obtain ⟨rfl, rfl⟩ := hX
  have hP : va_P g.1 vwCl [] H := hP
  have hD : va_D A [] := hD
  refine vx_widen (k := 1) (n := 6) (by decide) (by decide) ?_
  exact kthrow K ht hP hD hS hce hcv hcl [] [] rfl rfl (⟨rfl, rfl⟩) (by decide) (by decide)

set_option maxHeartbeats 4000000 in
set_option maxRecDepth 100000 in
theorem m_X11_board (l : Launch) (hl0 : l.stackTraces = false) (g : kG) (h0 : Nat) (a1 : Nat) (a2 : Nat) (a3 : Nat) (a4 : Nat) (a5 : Nat) (tt : Int32) (wf : Int32) (ww : Int32) (te : Int32) (tn : Int32) (mo : Int32) (x0 : Int32) (x1 : Int32)  : kc l g yX11_board prog_1_method_43_code 5 (some .boolean) 8 124 1 6 [.ref h0, .int x0, .int x1] [(h0, .inr (15, [.ref a1, .ref a2, .ref a3, .ref a4, .ref a5, .int tt, .int wf, .int ww, .int te, .int tn, .int mo])), (a3, .inr (3, [.int 0, .ref g.2.1, .int 0]))] (fun _ _ => False) (fun E w => (E = "java/lang/IndexOutOfBoundsException" ∧ w = [])) := by
  refine kbody (by decide) (Nat.le_of_ble_eq_true rfl) ?_
  intro p e s m args below meth c A H K ht G hP hD hA hS ls hl
  have K : KB p s m meth c RX11 "board" prog_1_method_43_code 5 (some .boolean) := K
  obtain ⟨hx, hb, hml, hown, hlocks, hr, hin⟩ := id K
  have hl : lv_has ls 5 [(0, .ref h0), (1, .int x0), (2, .int x1)] := hl
  refine lv_aload_n hx hb dX11_board_0 rfl (lv_at hl 0 rfl) ?_
  refine lv_iload_n hx hb dX11_board_1 rfl (lv_at hl 1 rfl) ?_
  refine kcallV (wc := [(h0, .inr (15, [.ref a1, .ref a2, .ref a3, .ref a4, .ref a5, .int tt, .int wf, .int ww, .int te, .int tn, .int mo])), (a3, .inr (3, [.int 0, .ref g.2.1, .int 0]))]) (wr := []) (As := [.int x0]) (rest := []) K G (m_X11_shipAt l hl0 g h0 a1 a2 a3 a4 a5 tt wf ww te tn mo x0 ) hP hD hS hA hl kw_60 kw_61 kw_62 kw_63 kw_4 ydX11_shipAt [0, 1] [] rfl rfl rfl rfl (by decide) (ci := 15) (q0 := 0) rfl rfl rfl rfl rfl (Nat.le_of_ble_eq_true rfl) dX11_board_2 ⟨Nat.le_of_ble_eq_true rfl, Nat.le_of_ble_eq_true rfl⟩ ⟨Nat.le_of_ble_eq_true rfl, Nat.le_of_ble_eq_true rfl⟩ (fun E w1 ce q9 H locs hX hP hD hS hce hcv hcl => ?_) (fun _ _ _ _ hQ _ _ _ => hQ.elim)
  obtain ⟨rfl, rfl⟩ := hX
  have hP : va_P g.1 vwCl [] H := hP
  have hD : va_D A [] := hD
  refine vx_widen (k := 1) (n := 6) (by decide) (by decide) ?_
  exact kthrow K ht hP hD hS hce hcv hcl [] [] rfl rfl (⟨rfl, rfl⟩) (by decide) (by decide)

