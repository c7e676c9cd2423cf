set_option maxHeartbeats 4000000 in
set_option maxRecDepth 100000 in
theorem m_X11_requireRange (l : Launch) (hl0 : l.stackTraces = false) (g : kG) (x : Int32) (lo : Int32) (hi : Int32)  : kc l g yX11_requireRange prog_1_method_53_code 3 none 6 82 1 6 [.int x, .int lo, .int hi] [] (fun v w => (v = none ∧ w = [] ∧ inR x lo hi = true)) (fun E w => (E = "java/lang/IllegalArgumentException" ∧ w = [] ∧ inR x lo hi = false)) := by
  refine kbody (by decide) (Nat.le_of_ble_eq_true rfl) ?_
  intro p e s m args below meth c A H K ht G hP hD hA hS ls hl
  have K : KB p s m meth c RX11 "requireRange" prog_1_method_53_code 3 none := K
  obtain ⟨hx, hb, hml, hown, hlocks, hr, hin⟩ := id K
  have hl : lv_has ls 3 [(0, .int x), (1, .int lo), (2, .int hi)] := hl
  refine lv_iload_n hx hb dX11_requireRange_0 rfl (lv_at hl 0 rfl) ?_
  refine lv_iload_n hx hb dX11_requireRange_1 rfl (lv_at hl 1 rfl) ?_
  refine lv_icmp_lt (tgt := 10) hx hb dX11_requireRange_2 (by decide) (fun c2_1 => ?_) (fun c2_1 => ?_)
  · refine kthrowNewW (cls := "java/lang/IllegalArgumentException") (text := "a number is out of range") (names := ["java/lang/RuntimeException", "java/lang/Exception"]) (ik := 78) (ic := 82) (is := 403) hl0 K ht G hP hD hS hl (by decide +kernel) (by decide +kernel) kw_0 kw_1 (G.str (by decide +kernel)) at_X11_82 at_X11_82g dX11_requireRange_10 dX11_requireRange_13 dX11_requireRange_14 dX11_requireRange_17 dX11_requireRange_20 (Nat.le_of_ble_eq_true rfl) (Nat.le_of_ble_eq_true rfl) (Nat.le_of_ble_eq_true rfl) (Nat.le_of_ble_eq_true rfl) [] [] rfl rfl (⟨rfl, rfl, (by exact inR_l c2_1)⟩) (by decide) (by decide)
  · refine lv_iload_n hx hb dX11_requireRange_5 rfl (lv_at hl 0 rfl) ?_
    refine lv_iload_n hx hb dX11_requireRange_6 rfl (lv_at hl 2 rfl) ?_
    refine lv_icmp_le (tgt := 21) hx hb dX11_requireRange_7 (by decide) (fun c7_2 => ?_) (fun c7_2 => ?_)
    · exact kretV K hP hD hS [] [] rfl rfl (⟨rfl, rfl, (by exact inR_t c2_1 c7_2)⟩) (by decide) (by decide) dX11_requireRange_21
    · refine kthrowNewW (cls := "java/lang/IllegalArgumentException") (text := "a number is out of range") (names := ["java/lang/RuntimeException", "java/lang/Exception"]) (ik := 78) (ic := 82) (is := 403) hl0 K ht G hP hD hS hl (by decide +kernel) (by decide +kernel) kw_0 kw_1 (G.str (by decide +kernel)) at_X11_82 at_X11_82g dX11_requireRange_10 dX11_requireRange_13 dX11_requireRange_14 dX11_requireRange_17 dX11_requireRange_20 (Nat.le_of_ble_eq_true rfl) (Nat.le_of_ble_eq_true rfl) (Nat.le_of_ble_eq_true rfl) (Nat.le_of_ble_eq_true rfl) [] [] rfl rfl (⟨rfl, rfl, (by exact inR_g c7_2)⟩) (by decide) (by decide)

set_option maxHeartbeats 4000000 in
set_option maxRecDepth 100000 in
theorem m_X11_requirePlace (l : Launch) (hl0 : l.stackTraces = false) (g : kG) (x : Int32) (y : Int32)  : kc l g yX11_requirePlace prog_1_method_54_code 2 none 7 104 2 12 [.int x, .int y] [] (fun v w => (v = none ∧ w = [] ∧ (inR x (-999) 999 && inR y (-999) 999) = true)) (fun E w => (E = "java/lang/IllegalArgumentException" ∧ w = [] ∧ (inR x (-999) 999 && inR y (-999) 999) = false)) := by
  refine kbody (by decide) (Nat.le_of_ble_eq_true rfl) ?_
  intro p e s m args below meth c A H K ht G hP hD hA hS ls hl
  have K : KB p s m meth c RX11 "requirePlace" prog_1_method_54_code 2 none := K
  obtain ⟨hx, hb, hml, hown, hlocks, hr, hin⟩ := id K
  have hl : lv_has ls 2 [(0, .int x), (1, .int y)] := hl
  refine lv_iload_n hx hb dX11_requirePlace_0 rfl (lv_at hl 0 rfl) ?_
  refine lv_sipush (v := (-999)) hx hb dX11_requirePlace_1 (by decide) ?_
  refine lv_sipush (v := 999) hx hb dX11_requirePlace_4 (by decide) ?_
  refine kcallS (wc := []) (wr := []) (As := [.int x, .int (-999), .int 999]) (rest := []) K G (m_X11_requireRange l hl0 g x (-999) 999 ) hP hD hS hA hl kw_2 kw_3 kw_5 kw_4 ydX11_requireRange [] [] rfl rfl rfl rfl (by decide) rfl rfl (Nat.le_of_ble_eq_true rfl) dX11_requirePlace_7 ⟨Nat.le_of_ble_eq_true rfl, Nat.le_of_ble_eq_true rfl⟩ ⟨Nat.le_of_ble_eq_true rfl, Nat.le_of_ble_eq_true rfl⟩ (fun E w1 ce q9 H locs hX hP hD hS hce hcv hcl => ?_) (fun v w1 H locs hQ hP hD hS => ?_)
  · obtain ⟨rfl, rfl, f_2⟩ := hX
    have hP : va_P g.1 vwCl [] H := hP
    have hD : va_D A [] := hD
    refine vx_widen (k := 1) (n := 6) (by decide) (by decide) ?_
    exact kthrow K ht hP hD hS hce hcv hcl [] [] rfl rfl (⟨rfl, rfl, (by simp [f_2])⟩) (by decide) (by decide)
  · obtain ⟨rfl, rfl, f_3⟩ := hQ
    have hP : va_P g.1 vwCl [] H := hP
    have hD : va_D A [] := hD
    refine W.widen (k := 1) (n := 6) (by decide) (by decide) ?_
    refine W.eq (g2 := F0 m 10 ls []) rfl ?_
    refine lv_iload_n hx hb dX11_requirePlace_10 rfl (lv_at hl 1 rfl) ?_
    refine lv_sipush (v := (-999)) hx hb dX11_requirePlace_11 (by decide) ?_
    refine lv_sipush (v := 999) hx hb dX11_requirePlace_14 (by decide) ?_
    refine kcallS (wc := []) (wr := []) (As := [.int y, .int (-999), .int 999]) (rest := []) K G (m_X11_requireRange l hl0 g y (-999) 999 ) hP hD hS hA hl kw_2 kw_3 kw_5 kw_4 ydX11_requireRange [] [] rfl rfl rfl rfl (by decide) rfl rfl (Nat.le_of_ble_eq_true rfl) dX11_requirePlace_17 ⟨Nat.le_of_ble_eq_true rfl, Nat.le_of_ble_eq_true rfl⟩ ⟨Nat.le_of_ble_eq_true rfl, Nat.le_of_ble_eq_true rfl⟩ (fun E w1 ce q9 H locs hX hP hD hS hce hcv hcl => ?_) (fun v w1 H locs hQ hP hD hS => ?_)
    · obtain ⟨rfl, rfl, f_5⟩ := hX
      have hP : va_P g.1 vwCl [] H := hP
      have hD : va_D A [] := hD
      refine vx_widen (k := 2) (n := 12) (by decide) (by decide) ?_
      exact kthrow K ht hP hD hS hce hcv hcl [] [] rfl rfl (⟨rfl, rfl, (by simp [f_3, f_5])⟩) (by decide) (by decide)
    · obtain ⟨rfl, rfl, f_6⟩ := hQ
      have hP : va_P g.1 vwCl [] H := hP
      have hD : va_D A [] := hD
      refine W.widen (k := 2) (n := 12) (by decide) (by decide) ?_
      refine W.eq (g2 := F0 m 20 ls []) rfl ?_
      exact kretV K hP hD hS [] [] rfl rfl (⟨rfl, rfl, (by simp [f_3, f_6])⟩) (by decide) (by decide) dX11_requirePlace_20

set_option maxHeartbeats 4000000 in
set_option maxRecDepth 100000 in
theorem m_X11_requireRoom (l : Launch) (hl0 : l.stackTraces = false) (g : kG) (x : Int32) (y : Int32) (hlt : x < y) : kc l g yX11_requireRoom prog_1_method_55_code 2 none 0 0 0 0 [.int x, .int y] [] (fun v w => (v = none ∧ w = [])) (fun _ _ => False) := by
  refine kbody (by decide) (Nat.le_of_ble_eq_true rfl) ?_
  intro p e s m args below meth c A H K ht G hP hD hA hS ls hl
  have K : KB p s m meth c RX11 "requireRoom" prog_1_method_55_code 2 none := K
  obtain ⟨hx, hb, hml, hown, hlocks, hr, hin⟩ := id K
  have hl : lv_has ls 2 [(0, .int x), (1, .int y)] := hl
  refine lv_iload_n hx hb dX11_requireRoom_0 rfl (lv_at hl 0 rfl) ?_
  refine lv_iload_n hx hb dX11_requireRoom_1 rfl (lv_at hl 1 rfl) ?_
  refine lv_icmp_lt (tgt := 16) hx hb dX11_requireRoom_2 (by decide) (fun c2_1 => ?_) (fun c2_1 => ?_)
  · exact kretV K hP hD hS [] [] rfl rfl (⟨rfl, rfl⟩) (by decide) (by decide) dX11_requireRoom_16
  · exact absurd c2_1 (by exact fun h => h hlt)

set_option maxHeartbeats 4000000 in
set_option maxRecDepth 100000 in
theorem m_X11_requireNumber0 (l : Launch) (hl0 : l.stackTraces = false) (g : kG) (x : Int32)  : kc l g yX11_requireNumber prog_1_method_56_code 2 none 6 82 1 6 [.int x, .int 0] [] (fun _ _ => False) (fun E w => (E = "java/lang/IndexOutOfBoundsException" ∧ w = [])) := by
  refine kbody (by decide) (Nat.le_of_ble_eq_true rfl) ?_
  intro p e s m args below meth c A H K ht G hP hD hA hS ls hl
  have K : KB p s m meth c RX11 "requireNumber" prog_1_method_56_code 2 none := K
  obtain ⟨hx, hb, hml, hown, hlocks, hr, hin⟩ := id K
  have hl : lv_has ls 2 [(0, .int x), (1, .int 0)] := hl
  refine lv_iload_n hx hb dX11_requireNumber_0 rfl (lv_at hl 0 rfl) ?_
  refine lv_if_lt (tgt := 9) hx hb dX11_requireNumber_1 (by decide) (fun c1_1 => ?_) (fun c1_1 => ?_)
  · refine kthrowNewW (cls := "java/lang/IndexOutOfBoundsException") (text := "there is nothing of that number") (names := ["java/lang/RuntimeException", "java/lang/Exception"]) (ik := 410) (ic := 414) (is := 412) hl0 K ht G hP hD hS hl (by decide +kernel) (by decide +kernel) kw_6 kw_7 (G.str (by decide +kernel)) at_X11_414 at_X11_414g dX11_requireNumber_9 dX11_requireNumber_12 dX11_requireNumber_13 dX11_requireNumber_16 dX11_requireNumber_19 (Nat.le_of_ble_eq_true rfl) (Nat.le_of_ble_eq_true rfl) (Nat.le_of_ble_eq_true rfl) (Nat.le_of_ble_eq_true rfl) [] [] rfl rfl (⟨rfl, rfl⟩) (by decide) (by decide)
  · refine lv_iload_n hx hb dX11_requireNumber_4 rfl (lv_at hl 0 rfl) ?_
    refine lv_iload_n hx hb dX11_requireNumber_5 rfl (lv_at hl 1 rfl) ?_
    refine lv_icmp_lt (tgt := 20) hx hb dX11_requireNumber_6 (by decide) (fun c6_2 => ?_) (fun c6_2 => ?_)
    · exact absurd c6_2 (by exact c1_1)
    · refine kthrowNewW (cls := "java/lang/IndexOutOfBoundsException") (text := "there is nothing of that number") (names := ["java/lang/RuntimeException", "java/lang/Exception"]) (ik := 410) (ic := 414) (is := 412) hl0 K ht G hP hD hS hl (by decide +kernel) (by decide +kernel) kw_6 kw_7 (G.str (by decide +kernel)) at_X11_414 at_X11_414g dX11_requireNumber_9 dX11_requireNumber_12 dX11_requireNumber_13 dX11_requireNumber_16 dX11_requireNumber_19 (Nat.le_of_ble_eq_true rfl) (Nat.le_of_ble_eq_true rfl) (Nat.le_of_ble_eq_true rfl) (Nat.le_of_ble_eq_true rfl) [] [] rfl rfl (⟨rfl, rfl⟩) (by decide) (by decide)

set_option maxHeartbeats 4000000 in
set_option maxRecDepth 100000 in
theorem m_Jxa1e45_init_da8c8 (l : Launch) (hl0 : l.stackTraces = false) (g : kG) (h0 : Nat)  : kc l g yJxa1e45_init_da8c8 prog_37_method_1_code 1 none 1 20 0 0 [.ref h0] [] (fun v w => (v = none ∧ w = [])) (fun _ _ => False) := by
  refine kbody (by decide) (Nat.le_of_ble_eq_true rfl) ?_
  intro p e s m args below meth c A H K ht G hP hD hA hS ls hl
  have K : KB p s m meth c RJxa1e45 "<init>" prog_37_method_1_code 1 none := K
  obtain ⟨hx, hb, hml, hown, hlocks, hr, hin⟩ := id K
  have hl : lv_has ls 1 [(0, .ref h0)] := hl
  refine lv_aload_n hx hb dJxa1e45_init_da8c8_0 rfl (lv_at hl 0 rfl) ?_
  refine W.objInit hx hb hown (G.w kw_8) (G.w kw_9) (G.w kw_10) rfl (by rw [hml]; exact hl.1) rfl dJxa1e45_init_da8c8_1 (Nat.le_of_ble_eq_true rfl) (Nat.le_of_ble_eq_true rfl) ?_
  refine W.eq (g2 := F0 m 4 ls []) rfl ?_
  exact kretV K hP hD hS [] [] rfl rfl (⟨rfl, rfl⟩) (by decide) (by decide) dJxa1e45_init_da8c8_4

set_option maxHeartbeats 4000000 in
set_option maxRecDepth 100000 in
theorem m_Jxc12de_init_da8c8 (l : Launch) (hl0 : l.stackTraces = false) (g : kG) (h0 : Nat)  : kc l g yJxc12de_init_da8c8 prog_38_method_1_code 1 none 2 40 0 0 [.ref h0] [(h0, .inr (3, [.int 0, .null, .int 0]))] (fun v w => (v = none ∧ w = [(h0, .inr (3, [.int 0, .null, .int 0]))])) (fun _ _ => False) := by
  refine kbody (by decide) (Nat.le_of_ble_eq_true rfl) ?_
  intro p e s m args below meth c A H K ht G hP hD hA hS ls hl
  have K : KB p s m meth c RJxc12de "<init>" prog_38_method_1_code 1 none := K
  obtain ⟨hx, hb, hml, hown, hlocks, hr, hin⟩ := id K
  have hl : lv_has ls 1 [(0, .ref h0)] := hl
  refine lv_aload_n hx hb dJxc12de_init_da8c8_0 rfl (lv_at hl 0 rfl) ?_
  refine kcallI (wc := []) (wr := [(h0, .inr (3, [.int 0, .null, .int 0]))]) (As := []) (rest := []) K G (m_Jxa1e45_init_da8c8 l hl0 g h0 ) hP hD hS hA hl kw_11 kw_12 kw_14 kw_13 rfl ydJxa1e45_init_da8c8 [] [0] rfl rfl rfl rfl (by decide) rfl rfl (Nat.le_of_ble_eq_true rfl) dJxc12de_init_da8c8_1 ⟨Nat.le_of_ble_eq_true rfl, Nat.le_of_ble_eq_true rfl⟩ ⟨Nat.le_of_ble_eq_true rfl, Nat.le_of_ble_eq_true rfl⟩ (fun _ _ _ _ _ _ hX _ _ _ _ _ _ => hX.elim) (fun v w1 H locs hQ hP hD hS => ?_)
  obtain ⟨rfl, rfl⟩ := hQ
  have hP : va_P g.1 vwCl [(h0, .inr (3, [.int 0, .null, .int 0]))] H := hP
  have hD : va_D A [(h0, .inr (3, [.int 0, .null, .int 0]))] := hD
  refine W.widen (k := 0) (n := 0) (by decide) (by decide) ?_
  refine W.eq (g2 := F0 m 4 ls []) rfl ?_
  refine lv_aload_n hx hb dJxc12de_init_da8c8_4 rfl (lv_at hl 0 rfl) ?_
  refine lv_iconst (v := 0) hx hb dJxc12de_init_da8c8_5 (by decide) ?_
  refine va_put (D := g.1) (ci := 3) (v := .int 0) (ty := .int) (C := RJx4a65c) (T := TJx4a65c) (N := 3) hx hb G.ws inJx4a65c tyJx4a65c tyJx4a65c_ok nmJx4a65c hown G.K hP hD hS 0 rfl rfl 0 (by decide) (G.w kw_15) (fun _ h9 => h9) (by decide +kernel) (by decide +kernel) rfl rfl (Nat.le_of_ble_eq_true rfl) dJxc12de_init_da8c8_6 (fun H locs hP hD hS => ?_)
  have hP : va_P g.1 vwCl [(h0, .inr (3, [.int 0, .null, .int 0]))] H := hP
  have hD : va_D A [(h0, .inr (3, [.int 0, .null, .int 0]))] := hD
  exact kretV K hP hD hS [0] [(h0, .inr (3, [.int 0, .null, .int 0]))] rfl rfl (⟨rfl, rfl⟩) (by decide) (by decide) dJxc12de_init_da8c8_9

set_option maxHeartbeats 4000000 in
set_option maxRecDepth 100000 in
theorem m_Jx4a65c_init_da8c8 (l : Launch) (hl0 : l.stackTraces = false) (g : kG) (h0 : Nat)  : kc l g yJx4a65c_init_da8c8 prog_39_method_2_code 1 none 3 60 0 0 [.ref h0] [(h0, .inr (3, [.int 0, .null, .int 0]))] (fun v w => (v = none ∧ w = [(h0, .inr (3, [.int 0, .ref g.2.1, .int 0]))])) (fun _ _ => False) := by
  refine kbody (by decide) (Nat.le_of_ble_eq_true rfl) ?_
  intro p e s m args below meth c A H K ht G hP hD hA hS ls hl
  have K : KB p s m meth c RJx4a65c "<init>" prog_39_method_2_code 1 none := K
  obtain ⟨hx, hb, hml, hown, hlocks, hr, hin⟩ := id K
  have hl : lv_has ls 1 [(0, .ref h0)] := hl
  refine lv_aload_n hx hb dJx4a65c_init_da8c8_0 rfl (lv_at hl 0 rfl) ?_
  refine kcallI (wc := [(h0, .inr (3, [.int 0, .null, .int 0]))]) (wr := []) (As := []) (rest := []) K G (m_Jxc12de_init_da8c8 l hl0 g h0 ) hP hD hS hA hl kw_16 kw_17 kw_19 kw_18 rfl ydJxc12de_init_da8c8 [0] [] rfl rfl rfl rfl (by decide) rfl rfl (Nat.le_of_ble_eq_true rfl) dJx4a65c_init_da8c8_1 ⟨Nat.le_of_ble_eq_true rfl, Nat.le_of_ble_eq_true rfl⟩ ⟨Nat.le_of_ble_eq_true rfl, Nat.le_of_ble_eq_true rfl⟩ (fun _ _ _ _ _ _ hX _ _ _ _ _ _ => hX.elim) (fun v w1 H locs hQ hP hD hS => ?_)
  obtain ⟨rfl, rfl⟩ := hQ
  have hP : va_P g.1 vwCl [(h0, .inr (3, [.int 0, .null, .int 0]))] H := hP
  have hD : va_D A [(h0, .inr (3, [.int 0, .null, .int 0]))] := hD
  refine W.widen (k := 0) (n := 0) (by decide) (by decide) ?_
  refine W.eq (g2 := F0 m 4 ls []) rfl ?_
  refine lv_aload_n hx hb dJx4a65c_init_da8c8_4 rfl (lv_at hl 0 rfl) ?_
  refine va_gets (v := .ref g.2.1) hx hb G.Z hS hown (G.w kw_20) (fun _ h9 => h9) dJx4a65c_init_da8c8_5 ?_
  refine va_put (D := g.1) (ci := 3) (v := .ref g.2.1) (ty := (.array (.object "java/lang/Object"))) (C := RJx4a65c) (T := TJx4a65c) (N := 3) hx hb G.ws inJx4a65c tyJx4a65c tyJx4a65c_ok nmJx4a65c hown G.K hP hD hS 0 rfl rfl 1 (by decide) (G.w kw_21) (fun _ h9 => h9) (by decide +kernel) (by decide +kernel) rfl rfl (Nat.le_of_ble_eq_true rfl) dJx4a65c_init_da8c8_8 (fun H locs hP hD hS => ?_)
  have hP : va_P g.1 vwCl [(h0, .inr (3, [.int 0, .ref g.2.1, .int 0]))] H := hP
  have hD : va_D A [(h0, .inr (3, [.int 0, .ref g.2.1, .int 0]))] := hD
  exact kretV K hP hD hS [0] [(h0, .inr (3, [.int 0, .ref g.2.1, .int 0]))] rfl rfl (⟨rfl, rfl⟩) (by decide) (by decide) dJx4a65c_init_da8c8_11

set_option maxHeartbeats 4000000 in
set_option maxRecDepth 100000 in
theorem m_Jx4a65c_size_8abf5 (l : Launch) (hl0 : l.stackTraces = false) (g : kG) (h0 : Nat) (mc0 : Int32) (e0 : Nat) (sz : Int32)  : kc l g yJx4a65c_size_8abf5 prog_39_method_8_code 1 (some .int) 0 0 0 0 [.ref h0] [(h0, .inr (3, [.int mc0, .ref e0, .int sz]))] (fun v w => (v = some (.int sz) ∧ w = [(h0, .inr (3, [.int mc0, .ref e0, .int sz]))])) (fun _ _ => False) := by
  refine kbody (by decide) (Nat.le_of_ble_eq_true rfl) ?_
  intro p e s m args below meth c A H K ht G hP hD hA hS ls hl
  have K : KB p s m meth c RJx4a65c "size" prog_39_method_8_code 1 (some .int) := K
  obtain ⟨hx, hb, hml, hown, hlocks, hr, hin⟩ := id K
  have hl : lv_has ls 1 [(0, .ref h0)] := hl
  refine lv_aload_n hx hb dJx4a65c_size_8abf5_0 rfl (lv_at hl 0 rfl) ?_
  refine va_get (D := g.1) (ci := 3) (v := .int sz) (C := RJx4a65c) (T := TJx4a65c) (N := 3) hx hb G.ws inJx4a65c hown G.K hP 0 rfl rfl 2 (by decide) (G.w kw_22) (fun _ h9 => h9) rfl dJx4a65c_size_8abf5_1 ?_
  exact kretI K hP hD hS [0] [(h0, .inr (3, [.int mc0, .ref e0, .int sz]))] rfl rfl (⟨rfl, rfl⟩) (by decide) (by decide) dJx4a65c_size_8abf5_4

set_option maxHeartbeats 4000000 in
set_option maxRecDepth 100000 in
theorem m_Jx4a65c_grow_92f84 (l : Launch) (hl0 : l.stackTraces = false) (g : kG) (h0 : Nat) (mc0 : Int32)  : kc l g yJx4a65c_grow_92f84 prog_39_method_6_code 4 (some (.array (.object "java/lang/Object"))) 1 21 1 10 [.ref h0, .int 1] [(h0, .inr (3, [.int mc0, .ref g.2.1, .int 0]))] (fun v w => (∃ q0 : Nat, v = some (.ref q0) ∧ w = [(h0, .inr (3, [.int mc0, .ref q0, .int 0])), (q0, .inl ((g.2.2.1 4), 10, .inr (.inr (.inr (.inr (fun _ => none))))))])) (fun _ _ => False) := by
  refine kbody (by decide) (Nat.le_of_ble_eq_true rfl) ?_
  intro p e s m args below meth c A H K ht G hP hD hA hS ls hl
  have K : KB p s m meth c RJx4a65c "grow" prog_39_method_6_code 4 (some (.array (.object "java/lang/Object"))) := K
  obtain ⟨hx, hb, hml, hown, hlocks, hr, hin⟩ := id K
  have hl : lv_has ls 4 [(0, .ref h0), (1, .int 1)] := hl
  refine lv_aload_n hx hb dJx4a65c_grow_92f84_0 rfl (lv_at hl 0 rfl) ?_
  refine va_get (D := g.1) (ci := 3) (v := .ref g.2.1) (C := RJx4a65c) (T := TJx4a65c) (N := 3) hx hb G.ws inJx4a65c hown G.K hP 0 rfl rfl 1 (by decide) (G.w kw_21) (fun _ h9 => h9) rfl dJx4a65c_grow_92f84_1 ?_
  refine va_tlen (v := 0) hx hb G.E hS rfl dJx4a65c_grow_92f84_4 ?_
  refine lv_istore_n (lv' := [(2, .int 0), (0, .ref h0), (1, .int 1)]) hx hb dJx4a65c_grow_92f84_5 rfl hl (by decide) rfl (fun ls hl => ?_)
  refine lv_iload_n hx hb dJx4a65c_grow_92f84_6 rfl (lv_at hl 0 rfl) ?_
  refine lv_if_gt (tgt := 20) hx hb dJx4a65c_grow_92f84_7 (by decide) (fun c7_1 => absurd c7_1 (by decide)) (fun _ => ?_)
  refine lv_aload_n hx hb dJx4a65c_grow_92f84_10 rfl (lv_at hl 1 rfl) ?_
  refine va_get (D := g.1) (ci := 3) (v := .ref g.2.1) (C := RJx4a65c) (T := TJx4a65c) (N := 3) hx hb G.ws inJx4a65c hown G.K hP 0 rfl rfl 1 (by decide) (G.w kw_21) (fun _ h9 => h9) rfl dJx4a65c_grow_92f84_11 ?_
  refine va_gets (v := .ref g.2.1) hx hb G.Z hS hown (G.w kw_20) (fun _ h9 => h9) dJx4a65c_grow_92f84_14 ?_
  refine lv_acmp_eq (rx := some g.2.1) (ry := some g.2.1) (tgt := 45) hx hb dJx4a65c_grow_92f84_17 (by decide) (fun _ => ?_) (fun h9 => absurd rfl h9)
  refine lv_aload_n hx hb dJx4a65c_grow_92f84_45 rfl (lv_at hl 1 rfl) ?_
  refine lv_bipush (v := 10) hx hb dJx4a65c_grow_92f84_46 (by decide) ?_
  refine lv_iload_n hx hb dJx4a65c_grow_92f84_48 rfl (lv_at hl 2 rfl) ?_
  refine va_mmax hx hb (by rw [hml]; exact hl.1.symm) hown (G.w kw_23) (G.w kw_24) (G.w kw_25) (G.w kw_26) (Nat.le_of_ble_eq_true rfl) (Nat.le_of_ble_eq_true rfl) (Nat.le_of_ble_eq_true rfl) (Nat.le_of_ble_eq_true rfl) dJx4a65c_grow_92f84_49 ?_
  refine lv_topi (fun y_2 ey_2 => ?_)
  obtain rfl : y_2 = 10 := ey_2.trans (by decide)
  refine kNewaO hx hb hown (G.w kw_27) G hP hD hS hA (n := 10) (N := 10) (by decide) (by decide) (by decide) (by decide) (by decide) dJx4a65c_grow_92f84_52 (fun q_3 H hP hD hS => ?_)
  have hP : va_P g.1 vwCl [(h0, .inr (3, [.int mc0, .ref g.2.1, .int 0])), (q_3, .inl ((g.2.2.1 4), 10, .inr (.inr (.inr (.inr (fun _ => none))))))] H := hP
  have hD : va_D A [(h0, .inr (3, [.int mc0, .ref g.2.1, .int 0])), (q_3, .inl ((g.2.2.1 4), 10, .inr (.inr (.inr (.inr (fun _ => none))))))] := hD
  refine W.widen (k := 1) (n := 10) (by decide) (by decide) ?_
  refine lv_dup_x1 hx hb dJx4a65c_grow_92f84_55 rfl rfl ?_
  refine va_put (D := g.1) (ci := 3) (v := .ref q_3) (ty := (.array (.object "java/lang/Object"))) (C := RJx4a65c) (T := TJx4a65c) (N := 3) hx hb G.ws inJx4a65c tyJx4a65c tyJx4a65c_ok nmJx4a65c hown G.K hP hD hS 0 rfl rfl 1 (by decide) (G.w kw_21) (fun _ h9 => h9) (by decide +kernel) (by decide +kernel) rfl rfl (Nat.le_of_ble_eq_true rfl) dJx4a65c_grow_92f84_56 (fun H locs hP hD hS => ?_)
  have hP : va_P g.1 vwCl [(h0, .inr (3, [.int mc0, .ref q_3, .int 0])), (q_3, .inl ((g.2.2.1 4), 10, .inr (.inr (.inr (.inr (fun _ => none))))))] H := hP
  have hD : va_D A [(h0, .inr (3, [.int mc0, .ref q_3, .int 0])), (q_3, .inl ((g.2.2.1 4), 10, .inr (.inr (.inr (.inr (fun _ => none))))))] := hD
  exact kretA K hP hD hS [0, 1] [(h0, .inr (3, [.int mc0, .ref q_3, .int 0])), (q_3, .inl ((g.2.2.1 4), 10, .inr (.inr (.inr (.inr (fun _ => none))))))] rfl rfl (⟨q_3, rfl, rfl⟩) (by decide) (by decide) dJx4a65c_grow_92f84_59

set_option maxHeartbeats 4000000 in
set_option maxRecDepth 100000 in
theorem m_Jx4a65c_grow_d5877 (l : Launch) (hl0 : l.stackTraces = false) (g : kG) (h0 : Nat) (mc0 : Int32)  : kc l g yJx4a65c_grow_d5877 prog_39_method_7_code 1 (some (.array (.object "java/lang/Object"))) 2 44 1 10 [.ref h0] [(h0, .inr (3, [.int mc0, .ref g.2.1, .int 0]))] (fun v w => (∃ q0 : Nat, v = some (.ref q0) ∧ w = [(h0, .inr (3, [.int mc0, .ref q0, .int 0])), (q0, .inl ((g.2.2.1 4), 10, .inr (.inr (.inr (.inr (fun _ => none))))))])) (fun _ _ => False) := by
  refine kbody (by decide) (Nat.le_of_ble_eq_true rfl) ?_
  intro p e s m args below meth c A H K ht G hP hD hA hS ls hl
  have K : KB p s m meth c RJx4a65c "grow" prog_39_method_7_code 1 (some (.array (.object "java/lang/Object"))) := K
  obtain ⟨hx, hb, hml, hown, hlocks, hr, hin⟩ := id K
  have hl : lv_has ls 1 [(0, .ref h0)] := hl
  refine lv_aload_n hx hb dJx4a65c_grow_d5877_0 rfl (lv_at hl 0 rfl) ?_
  refine lv_aload_n hx hb dJx4a65c_grow_d5877_1 rfl (lv_at hl 0 rfl) ?_
  refine va_get (D := g.1) (ci := 3) (v := .int 0) (C := RJx4a65c) (T := TJx4a65c) (N := 3) hx hb G.ws inJx4a65c hown G.K hP 0 rfl rfl 2 (by decide) (G.w kw_22) (fun _ h9 => h9) rfl dJx4a65c_grow_d5877_2 ?_
  refine lv_iconst (v := 1) hx hb dJx4a65c_grow_d5877_5 (by decide) ?_
  refine lv_iadd hx hb dJx4a65c_grow_d5877_6 ?_
  refine lv_topi (fun y_1 ey_1 => ?_)
  obtain rfl : y_1 = 1 := ey_1.trans (by decide)
  refine kcallV (wc := [(h0, .inr (3, [.int mc0, .ref g.2.1, .int 0]))]) (wr := []) (As := [.int 1]) (rest := []) K G (m_Jx4a65c_grow_92f84 l hl0 g h0 mc0 ) hP hD hS hA hl kw_28 kw_29 kw_31 kw_32 kw_30 ydJx4a65c_grow_92f84 [0] [] rfl rfl rfl rfl (by decide) (ci := 3) (q0 := 0) rfl rfl rfl rfl rfl (Nat.le_of_ble_eq_true rfl) dJx4a65c_grow_d5877_7 ⟨Nat.le_of_ble_eq_true rfl, Nat.le_of_ble_eq_true rfl⟩ ⟨Nat.le_of_ble_eq_true rfl, Nat.le_of_ble_eq_true rfl⟩ (fun _ _ _ _ _ _ hX _ _ _ _ _ _ => hX.elim) (fun v w1 H locs hQ hP hD hS => ?_)
  obtain ⟨q0_3, rfl, rfl⟩ := hQ
  have hP : va_P g.1 vwCl [(h0, .inr (3, [.int mc0, .ref q0_3, .int 0])), (q0_3, .inl ((g.2.2.1 4), 10, .inr (.inr (.inr (.inr (fun _ => none))))))] H := hP
  have hD : va_D A [(h0, .inr (3, [.int mc0, .ref q0_3, .int 0])), (q0_3, .inl ((g.2.2.1 4), 10, .inr (.inr (.inr (.inr (fun _ => none))))))] := hD
  refine W.widen (k := 1) (n := 10) (by decide) (by decide) ?_
  refine W.eq (g2 := F0 m 10 ls [.ref q0_3]) rfl ?_
  exact kretA K hP hD hS [0, 1] [(h0, .inr (3, [.int mc0, .ref q0_3, .int 0])), (q0_3, .inl ((g.2.2.1 4), 10, .inr (.inr (.inr (.inr (fun _ => none))))))] rfl rfl (⟨q0_3, rfl, rfl⟩) (by decide) (by decide) dJx4a65c_grow_d5877_10

set_option maxHeartbeats 4000000 in
set_option maxRecDepth 100000 in
theorem m_Jx4a65c_add_72be8 (l : Launch) (hl0 : l.stackTraces = false) (g : kG) (h0 : Nat) (mc0 : Int32) (v0 : Nat) (ci0 : Nat) (vs : List Value) (r0 : vw_C) (hc : vwCl[ci0]? = some r0) (hca : Cond.castable r0.1 "java/lang/Object" ∈ kw) : kc l g yJx4a65c_add_72be8 prog_39_method_24_code 4 none 3 64 1 10 [.ref h0, .ref v0, .ref g.2.1, .int 0] [(h0, .inr (3, [.int mc0, .ref g.2.1, .int 0])), (v0, .inr (ci0, vs))] (fun v w => (∃ q0 : Nat, v = none ∧ w = [(h0, .inr (3, [.int mc0, .ref q0, .int 1]))])) (fun _ _ => False) := by
  refine kbody (by decide) (Nat.le_of_ble_eq_true rfl) ?_
  intro p e s m args below meth c A H K ht G hP hD hA hS ls hl
  have K : KB p s m meth c RJx4a65c "add" prog_39_method_24_code 4 none := K
  obtain ⟨hx, hb, hml, hown, hlocks, hr, hin⟩ := id K
  have hl : lv_has ls 4 [(0, .ref h0), (1, .ref v0), (2, .ref g.2.1), (3, .int 0)] := hl
  refine lv_iload_n hx hb dJx4a65c_add_72be8_0 rfl (lv_at hl 3 rfl) ?_
  refine lv_aload_n hx hb dJx4a65c_add_72be8_1 rfl (lv_at hl 2 rfl) ?_
  refine va_tlen (v := 0) hx hb G.E hS rfl dJx4a65c_add_72be8_2 ?_
  refine lv_icmp_ne (tgt := 11) hx hb dJx4a65c_add_72be8_3 (by decide) (fun c3_1 => absurd c3_1 (by decide)) (fun _ => ?_)
  refine lv_aload_n hx hb dJx4a65c_add_72be8_6 rfl (lv_at hl 0 rfl) ?_
  refine kcallV (wc := [(h0, .inr (3, [.int mc0, .ref g.2.1, .int 0]))]) (wr := [(v0, .inr (ci0, vs))]) (As := []) (rest := []) K G (m_Jx4a65c_grow_d5877 l hl0 g h0 mc0 ) hP hD hS hA hl kw_33 kw_34 kw_35 kw_36 kw_30 ydJx4a65c_grow_d5877 [0] [1] rfl rfl rfl rfl (by decide) (ci := 3) (q0 := 0) rfl rfl rfl rfl rfl (Nat.le_of_ble_eq_true rfl) dJx4a65c_add_72be8_7 ⟨Nat.le_of_ble_eq_true rfl, Nat.le_of_ble_eq_true rfl⟩ ⟨Nat.le_of_ble_eq_true rfl, Nat.le_of_ble_eq_true rfl⟩ (fun _ _ _ _ _ _ hX _ _ _ _ _ _ => hX.elim) (fun v w1 H locs hQ hP hD hS => ?_)
  obtain ⟨q0_3, rfl, rfl⟩ := hQ
  have hP : va_P g.1 vwCl [(v0, .inr (ci0, vs)), (h0, .inr (3, [.int mc0, .ref q0_3, .int 0])), (q0_3, .inl ((g.2.2.1 4), 10, .inr (.inr (.inr (.inr (fun _ => none))))))] H := hP
  have hD : va_D A [(v0, .inr (ci0, vs)), (h0, .inr (3, [.int mc0, .ref q0_3, .int 0])), (q0_3, .inl ((g.2.2.1 4), 10, .inr (.inr (.inr (.inr (fun _ => none))))))] := hD
  refine W.widen (k := 1) (n := 10) (by decide) (by decide) ?_
  refine W.eq (g2 := F0 m 10 ls [.ref q0_3]) rfl ?_
  refine lv_astore_n (lv' := [(2, .ref q0_3), (0, .ref h0), (1, .ref v0), (3, .int 0)]) hx hb dJx4a65c_add_72be8_10 rfl hl (by decide) rfl (fun ls hl => ?_)
  refine lv_aload_n hx hb dJx4a65c_add_72be8_11 rfl (lv_at hl 0 rfl) ?_
  refine lv_iload_n hx hb dJx4a65c_add_72be8_12 rfl (lv_at hl 3 rfl) ?_
  refine lv_aload_n hx hb dJx4a65c_add_72be8_13 rfl (lv_at hl 2 rfl) ?_
  refine va_astqO (E := "java/lang/Object") hx hb G.K hP hD hS 2 4 0 ci0 rfl rfl (G.nw hca) rfl hc (i := 0) (vp_in_iff.mpr ⟨by decide, by decide⟩) dJx4a65c_add_72be8_14 (fun H locs hP hD hS => ?_)
  have hP : va_P g.1 vwCl [(v0, .inr (ci0, vs)), (h0, .inr (3, [.int mc0, .ref q0_3, .int 0])), (q0_3, .inl ((g.2.2.1 4), 10, .inr (.inr (.inr (.inr (va_up (fun _ => none) (0 : Int32).toNatClampNeg (some v0)))))))] H := hP
  have hD : va_D A [(v0, .inr (ci0, vs)), (h0, .inr (3, [.int mc0, .ref q0_3, .int 0])), (q0_3, .inl ((g.2.2.1 4), 10, .inr (.inr (.inr (.inr (va_up (fun _ => none) (0 : Int32).toNatClampNeg (some v0)))))))] := hD
  refine lv_aload_n hx hb dJx4a65c_add_72be8_15 rfl (lv_at hl 1 rfl) ?_
  refine lv_iload_n hx hb dJx4a65c_add_72be8_16 rfl (lv_at hl 3 rfl) ?_
  refine lv_iconst (v := 1) hx hb dJx4a65c_add_72be8_17 (by decide) ?_
  refine lv_iadd hx hb dJx4a65c_add_72be8_18 ?_
  refine lv_topi (fun y_4 ey_4 => ?_)
  obtain rfl : y_4 = 1 := ey_4.trans (by decide)
  refine va_put (D := g.1) (ci := 3) (v := .int 1) (ty := .int) (C := RJx4a65c) (T := TJx4a65c) (N := 3) hx hb G.ws inJx4a65c tyJx4a65c tyJx4a65c_ok nmJx4a65c hown G.K hP hD hS 1 rfl rfl 2 (by decide) (G.w kw_22) (fun _ h9 => h9) (by decide +kernel) (by decide +kernel) rfl rfl (Nat.le_of_ble_eq_true rfl) dJx4a65c_add_72be8_19 (fun H locs hP hD hS => ?_)
  have hP : va_P g.1 vwCl [(v0, .inr (ci0, vs)), (h0, .inr (3, [.int mc0, .ref q0_3, .int 1])), (q0_3, .inl ((g.2.2.1 4), 10, .inr (.inr (.inr (.inr (va_up (fun _ => none) (0 : Int32).toNatClampNeg (some v0)))))))] H := hP
  have hD : va_D A [(v0, .inr (ci0, vs)), (h0, .inr (3, [.int mc0, .ref q0_3, .int 1])), (q0_3, .inl ((g.2.2.1 4), 10, .inr (.inr (.inr (.inr (va_up (fun _ => none) (0 : Int32).toNatClampNeg (some v0)))))))] := hD
  exact kretV K hP hD hS [1] [(h0, .inr (3, [.int mc0, .ref q0_3, .int 1]))] rfl rfl (⟨q0_3, rfl, rfl⟩) (by decide) (by decide) dJx4a65c_add_72be8_22

set_option maxHeartbeats 4000000 in
set_option maxRecDepth 100000 in
theorem m_Jx4a65c_add_9ea2d (l : Launch) (hl0 : l.stackTraces = false) (g : kG) (h0 : Nat) (v0 : Nat) (ci0 : Nat) (vs : List Value) (r0 : vw_C) (hc : vwCl[ci0]? = some r0) (hca : Cond.castable r0.1 "java/lang/Object" ∈ kw) : kc l g yJx4a65c_add_9ea2d prog_39_method_25_code 2 (some .boolean) 4 87 1 10 [.ref h0, .ref v0] [(h0, .inr (3, [.int 0, .ref g.2.1, .int 0])), (v0, .inr (ci0, vs))] (fun v w => (∃ q0 : Nat, v = some (.int 1) ∧ w = [(h0, .inr (3, [.int 1, .ref q0, .int 1]))])) (fun _ _ => False) := by
  refine kbody (by decide) (Nat.le_of_ble_eq_true rfl) ?_
  intro p e s m args below meth c A H K ht G hP hD hA hS ls hl
  have K : KB p s m meth c RJx4a65c "add" prog_39_method_25_code 2 (some .boolean) := K
  obtain ⟨hx, hb, hml, hown, hlocks, hr, hin⟩ := id K
  have hl : lv_has ls 2 [(0, .ref h0), (1, .ref v0)] := hl
  refine lv_aload_n hx hb dJx4a65c_add_9ea2d_0 rfl (lv_at hl 0 rfl) ?_
  refine lv_dup hx hb dJx4a65c_add_9ea2d_1 rfl ?_
  refine va_get (D := g.1) (ci := 3) (v := .int 0) (C := RJx4a65c) (T := TJx4a65c) (N := 3) hx hb G.ws inJx4a65c hown G.K hP 0 rfl rfl 0 (by decide) (G.w kw_37) (G.same kw_38) rfl dJx4a65c_add_9ea2d_2 ?_
  refine lv_iconst (v := 1) hx hb dJx4a65c_add_9ea2d_5 (by decide) ?_
  refine lv_iadd hx hb dJx4a65c_add_9ea2d_6 ?_
  refine lv_topi (fun y_1 ey_1 => ?_)
  obtain rfl : y_1 = 1 := ey_1.trans (by decide)
  refine va_put (D := g.1) (ci := 3) (v := .int 1) (ty := .int) (C := RJx4a65c) (T := TJx4a65c) (N := 3) hx hb G.ws inJx4a65c tyJx4a65c tyJx4a65c_ok nmJx4a65c hown G.K hP hD hS 0 rfl rfl 0 (by decide) (G.w kw_37) (G.same kw_38) (by decide +kernel) (by decide +kernel) rfl rfl (Nat.le_of_ble_eq_true rfl) dJx4a65c_add_9ea2d_7 (fun H locs hP hD hS => ?_)
  have hP : va_P g.1 vwCl [(h0, .inr (3, [.int 1, .ref g.2.1, .int 0])), (v0, .inr (ci0, vs))] H := hP
  have hD : va_D A [(h0, .inr (3, [.int 1, .ref g.2.1, .int 0])), (v0, .inr (ci0, vs))] := hD
  refine lv_aload_n hx hb dJx4a65c_add_9ea2d_10 rfl (lv_at hl 0 rfl) ?_
  refine lv_aload_n hx hb dJx4a65c_add_9ea2d_11 rfl (lv_at hl 1 rfl) ?_
  refine lv_aload_n hx hb dJx4a65c_add_9ea2d_12 rfl (lv_at hl 0 rfl) ?_
  refine va_get (D := g.1) (ci := 3) (v := .ref g.2.1) (C := RJx4a65c) (T := TJx4a65c) (N := 3) hx hb G.ws inJx4a65c hown G.K hP 0 rfl rfl 1 (by decide) (G.w kw_21) (fun _ h9 => h9) rfl dJx4a65c_add_9ea2d_13 ?_
  refine lv_aload_n hx hb dJx4a65c_add_9ea2d_16 rfl (lv_at hl 0 rfl) ?_
  refine va_get (D := g.1) (ci := 3) (v := .int 0) (C := RJx4a65c) (T := TJx4a65c) (N := 3) hx hb G.ws inJx4a65c hown G.K hP 0 rfl rfl 2 (by decide) (G.w kw_22) (fun _ h9 => h9) rfl dJx4a65c_add_9ea2d_17 ?_
  refine kcallV (wc := [(h0, .inr (3, [.int 1, .ref g.2.1, .int 0])), (v0, .inr (ci0, vs))]) (wr := []) (As := [.ref v0, .ref g.2.1, .int 0]) (rest := []) K G (m_Jx4a65c_add_72be8 l hl0 g h0 1 v0 ci0 vs _ hc hca) hP hD hS hA hl kw_39 kw_40 kw_41 kw_42 kw_30 ydJx4a65c_add_72be8 [0, 1] [] rfl rfl rfl rfl (by decide) (ci := 3) (q0 := 0) rfl rfl rfl rfl rfl (Nat.le_of_ble_eq_true rfl) dJx4a65c_add_9ea2d_20 ⟨Nat.le_of_ble_eq_true rfl, Nat.le_of_ble_eq_true rfl⟩ ⟨Nat.le_of_ble_eq_true rfl, Nat.le_of_ble_eq_true rfl⟩ (fun _ _ _ _ _ _ hX _ _ _ _ _ _ => hX.elim) (fun v w1 H locs hQ hP hD hS => ?_)
  obtain ⟨q0_3, rfl, rfl⟩ := hQ
  have hP : va_P g.1 vwCl [(h0, .inr (3, [.int 1, .ref q0_3, .int 1]))] H := hP
  have hD : va_D A [(h0, .inr (3, [.int 1, .ref q0_3, .int 1]))] := hD
  refine W.widen (k := 1) (n := 10) (by decide) (by decide) ?_
  refine W.eq (g2 := F0 m 23 ls []) rfl ?_
  refine lv_iconst (v := 1) hx hb dJx4a65c_add_9ea2d_23 (by decide) ?_
  exact kretZ K hP hD hS [0] [(h0, .inr (3, [.int 1, .ref q0_3, .int 1]))] rfl rfl (⟨q0_3, rfl, rfl⟩) (by decide) (by decide) dJx4a65c_add_9ea2d_24

set_option maxHeartbeats 4000000 in
set_option maxRecDepth 100000 in
theorem m_X11_landAt (l : Launch) (hl0 : l.stackTraces = false) (g : kG) (h0 : Nat) (a1 : Nat) (a2 : Nat) (a3 : Nat) (a4 : Nat) (a5 : Nat) (tt : Int32) (wf : Int32) (ww : Int32) (te : Int32) (tn : Int32) (mo : Int32) (x : Int32)  : kc l g yX11_landAt prog_1_method_58_code 2 (some (.object "GalleonWave$Land")) 7 103 1 6 [.ref h0, .int x] [(h0, .inr (15, [.ref a1, .ref a2, .ref a3, .ref a4, .ref a5, .int tt, .int wf, .int ww, .int te, .int tn, .int mo])), (a1, .inr (3, [.int 0, .ref g.2.1, .int 0]))] (fun _ _ => False) (fun E w => (E = "java/lang/IndexOutOfBoundsException" ∧ w = [])) := by
  refine kbody (by decide) (Nat.le_of_ble_eq_true rfl) ?_
  intro p e s m args below meth c A H K ht G hP hD hA hS ls hl
  have K : KB p s m meth c RX11 "landAt" prog_1_method_58_code 2 (some (.object "GalleonWave$Land")) := K
  obtain ⟨hx, hb, hml, hown, hlocks, hr, hin⟩ := id K
  have hl : lv_has ls 2 [(0, .ref h0), (1, .int x)] := hl
  refine lv_iload_n hx hb dX11_landAt_0 rfl (lv_at hl 1 rfl) ?_
  refine lv_aload_n hx hb dX11_landAt_1 rfl (lv_at hl 0 rfl) ?_
  refine va_get (D := g.1) (ci := 15) (v := .ref a1) (C := RX11) (T := TX11) (N := 11) hx hb G.ws inX11 hown G.K hP 0 rfl rfl 0 (by decide) (G.w kw_43) (fun _ h9 => h9) rfl dX11_landAt_2 ?_
  refine kcallV (wc := [(a1, .inr (3, [.int 0, .ref g.2.1, .int 0]))]) (wr := [(h0, .inr (15, [.ref a1, .ref a2, .ref a3, .ref a4, .ref a5, .int tt, .int wf, .int ww, .int te, .int tn, .int mo]))]) (As := []) (rest := [.int x]) K G (m_Jx4a65c_size_8abf5 l hl0 g a1 0 g.2.1 0 ) hP hD hS hA hl kw_44 kw_45 kw_46 kw_47 kw_30 ydJx4a65c_size_8abf5 [1] [0] rfl rfl rfl rfl (by decide) (ci := 3) (q0 := 1) rfl rfl rfl rfl rfl (Nat.le_of_ble_eq_true rfl) dX11_landAt_5 ⟨Nat.le_of_ble_eq_true rfl, Nat.le_of_ble_eq_true rfl⟩ ⟨Nat.le_of_ble_eq_true rfl, Nat.le_of_ble_eq_true rfl⟩ (fun _ _ _ _ _ _ hX _ _ _ _ _ _ => hX.elim) (fun v w1 H locs hQ hP hD hS => ?_)
  obtain ⟨rfl, rfl⟩ := hQ
  have hP : va_P g.1 vwCl [(h0, .inr (15, [.ref a1, .ref a2, .ref a3, .ref a4, .ref a5, .int tt, .int wf, .int ww, .int te, .int tn, .int mo])), (a1, .inr (3, [.int 0, .ref g.2.1, .int 0]))] H := hP
  have hD : va_D A [(h0, .inr (15, [.ref a1, .ref a2, .ref a3, .ref a4, .ref a5, .int tt, .int wf, .int ww, .int te, .int tn, .int mo])), (a1, .inr (3, [.int 0, .ref g.2.1, .int 0]))] := hD
  refine W.widen (k := 0) (n := 0) (by decide) (by decide) ?_
  refine W.eq (g2 := F0 m 8 ls [.int 0, .int x]) rfl ?_
  refine kcallS (wc := []) (wr := [(h0, .inr (15, [.ref a1, .ref a2, .ref a3, .ref a4, .ref a5, .int tt, .int wf, .int ww, .int te, .int tn, .int mo])), (a1, .inr (3, [.int 0, .ref g.2.1, .int 0]))]) (As := [.int x, .int 0]) (rest := []) K G (m_X11_requireNumber0 l hl0 g x ) hP hD hS hA hl kw_48 kw_49 kw_50 kw_4 ydX11_requireNumber [] [0, 1] rfl rfl rfl rfl (by decide) rfl rfl (Nat.le_of_ble_eq_true rfl) dX11_landAt_8 ⟨Nat.le_of_ble_eq_true rfl, Nat.le_of_ble_eq_true rfl⟩ ⟨Nat.le_of_ble_eq_true rfl, Nat.le_of_ble_eq_true rfl⟩ (fun E w1 ce q9 H locs hX hP hD hS hce hcv hcl => ?_) (fun _ _ _ _ hQ _ _ _ => hQ.elim)
  obtain ⟨rfl, rfl⟩ := hX
  have hP : va_P g.1 vwCl [(h0, .inr (15, [.ref a1, .ref a2, .ref a3, .ref a4, .ref a5, .int tt, .int wf, .int ww, .int te, .int tn, .int mo])), (a1, .inr (3, [.int 0, .ref g.2.1, .int 0]))] H := hP
  have hD : va_D A [(h0, .inr (15, [.ref a1, .ref a2, .ref a3, .ref a4, .ref a5, .int tt, .int wf, .int ww, .int te, .int tn, .int mo])), (a1, .inr (3, [.int 0, .ref g.2.1, .int 0]))] := hD
  refine vx_widen (k := 1) (n := 6) (by decide) (by decide) ?_
  exact kthrow K ht hP hD hS hce hcv hcl [] [] rfl rfl (⟨rfl, rfl⟩) (by decide) (by decide)

set_option maxHeartbeats 4000000 in
set_option maxRecDepth 100000 in
theorem m_X11_townAt (l : Launch) (hl0 : l.stackTraces = false) (g : kG) (h0 : Nat) (a1 : Nat) (a2 : Nat) (a3 : Nat) (a4 : Nat) (a5 : Nat) (tt : Int32) (wf : Int32) (ww : Int32) (te : Int32) (tn : Int32) (mo : Int32) (x : Int32)  : kc l g yX11_townAt prog_1_method_59_code 2 (some (.object "GalleonWave$Town")) 7 103 1 6 [.ref h0, .int x] [(h0, .inr (15, [.ref a1, .ref a2, .ref a3, .ref a4, .ref a5, .int tt, .int wf, .int ww, .int te, .int tn, .int mo])), (a2, .inr (3, [.int 0, .ref g.2.1, .int 0]))] (fun _ _ => False) (fun E w => (E = "java/lang/IndexOutOfBoundsException" ∧ w = [])) := by
  refine kbody (by decide) (Nat.le_of_ble_eq_true rfl) ?_
  intro p e s m args below meth c A H K ht G hP hD hA hS ls hl
  have K : KB p s m meth c RX11 "townAt" prog_1_method_59_code 2 (some (.object "GalleonWave$Town")) := K
  obtain ⟨hx, hb, hml, hown, hlocks, hr, hin⟩ := id K
  have hl : lv_has ls 2 [(0, .ref h0), (1, .int x)] := hl
  refine lv_iload_n hx hb dX11_townAt_0 rfl (lv_at hl 1 rfl) ?_
  refine lv_aload_n hx hb dX11_townAt_1 rfl (lv_at hl 0 rfl) ?_
  refine va_get (D := g.1) (ci := 15) (v := .ref a2) (C := RX11) (T := TX11) (N := 11) hx hb G.ws inX11 hown G.K hP 0 rfl rfl 1 (by decide) (G.w kw_51) (fun _ h9 => h9) rfl dX11_townAt_2 ?_
  refine kcallV (wc := [(a2, .inr (3, [.int 0, .ref g.2.1, .int 0]))]) (wr := [(h0, .inr (15, [.ref a1, .ref a2, .ref a3, .ref a4, .ref a5, .int tt, .int wf, .int ww, .int te, .int tn, .int mo]))]) (As := []) (rest := [.int x]) K G (m_Jx4a65c_size_8abf5 l hl0 g a2 0 g.2.1 0 ) hP hD hS hA hl kw_44 kw_45 kw_46 kw_47 kw_30 ydJx4a65c_size_8abf5 [1] [0] rfl rfl rfl rfl (by decide) (ci := 3) (q0 := 1) rfl rfl rfl rfl rfl (Nat.le_of_ble_eq_true rfl) dX11_townAt_5 ⟨Nat.le_of_ble_eq_true rfl, Nat.le_of_ble_eq_true rfl⟩ ⟨Nat.le_of_ble_eq_true rfl, Nat.le_of_ble_eq_true rfl⟩ (fun _ _ _ _ _ _ hX _ _ _ _ _ _ => hX.elim) (fun v w1 H locs hQ hP hD hS => ?_)
  obtain ⟨rfl, rfl⟩ := hQ
  have hP : va_P g.1 vwCl [(h0, .inr (15, [.ref a1, .ref a2, .ref a3, .ref a4, .ref a5, .int tt, .int wf, .int ww, .int te, .int tn, .int mo])), (a2, .inr (3, [.int 0, .ref g.2.1, .int 0]))] H := hP
  have hD : va_D A [(h0, .inr (15, [.ref a1, .ref a2, .ref a3, .ref a4, .ref a5, .int tt, .int wf, .int ww, .int te, .int tn, .int mo])), (a2, .inr (3, [.int 0, .ref g.2.1, .int 0]))] := hD
  refine W.widen (k := 0) (n := 0) (by decide) (by decide) ?_
  refine W.eq (g2 := F0 m 8 ls [.int 0, .int x]) rfl ?_
  refine kcallS (wc := []) (wr := [(h0, .inr (15, [.ref a1, .ref a2, .ref a3, .ref a4, .ref a5, .int tt, .int wf, .int ww, .int te, .int tn, .int mo])), (a2, .inr (3, [.int 0, .ref g.2.1, .int 0]))]) (As := [.int x, .int 0]) (rest := []) K G (m_X11_requireNumber0 l hl0 g x ) hP hD hS hA hl kw_48 kw_49 kw_50 kw_4 ydX11_requireNumber [] [0, 1] rfl rfl rfl rfl (by decide) rfl rfl (Nat.le_of_ble_eq_true rfl) dX11_townAt_8 ⟨Nat.le_of_ble_eq_true rfl, Nat.le_of_ble_eq_true rfl⟩ ⟨Nat.le_of_ble_eq_true rfl, Nat.le_of_ble_eq_true rfl⟩ (fun E w1 ce q9 H locs hX hP hD hS hce hcv hcl => ?_) (fun _ _ _ _ hQ _ _ _ => hQ.elim)
  obtain ⟨rfl, rfl⟩ := hX
  have hP : va_P g.1 vwCl [(h0, .inr (15, [.ref a1, .ref a2, .ref a3, .ref a4, .ref a5, .int tt, .int wf, .int ww, .int te, .int tn, .int mo])), (a2, .inr (3, [.int 0, .ref g.2.1, .int 0]))] H := hP
  have hD : va_D A [(h0, .inr (15, [.ref a1, .ref a2, .ref a3, .ref a4, .ref a5, .int tt, .int wf, .int ww, .int te, .int tn, .int mo])), (a2, .inr (3, [.int 0, .ref g.2.1, .int 0]))] := hD
  refine vx_widen (k := 1) (n := 6) (by decide) (by decide) ?_
  exact kthrow K ht hP hD hS hce hcv hcl [] [] rfl rfl (⟨rfl, rfl⟩) (by decide) (by decide)

set_option maxHeartbeats 4000000 in
set_option maxRecDepth 100000 in
theorem m_X11_shipAt (l : Launch) (hl0 : l.stackTraces = false) (g : kG) (h0 : Nat) (a1 : Nat) (a2 : Nat) (a3 : Nat) (a4 : Nat) (a5 : Nat) (tt : Int32) (wf : Int32) (ww : Int32) (te : Int32) (tn : Int32) (mo : Int32) (x : Int32)  : kc l g yX11_shipAt prog_1_method_60_code 2 (some (.object "GalleonWave$Ship")) 7 103 1 6 [.ref h0, .int x] [(h0, .inr (15, [.ref a1, .ref a2, .ref a3, .ref a4, .ref a5, .int tt, .int wf, .int ww, .int te, .int tn, .int mo])), (a3, .inr (3, [.int 0, .ref g.2.1, .int 0]))] (fun _ _ => False) (fun E w => (E = "java/lang/IndexOutOfBoundsException" ∧ w = [])) := by
  refine kbody (by decide) (Nat.le_of_ble_eq_true rfl) ?_
  intro p e s m args below meth c A H K ht G hP hD hA hS ls hl
  have K : KB p s m meth c RX11 "shipAt" prog_1_method_60_code 2 (some (.object "GalleonWave$Ship")) := K
  obtain ⟨hx, hb, hml, hown, hlocks, hr, hin⟩ := id K
  have hl : lv_has ls 2 [(0, .ref h0), (1, .int x)] := hl
  refine lv_iload_n hx hb dX11_shipAt_0 rfl (lv_at hl 1 rfl) ?_
  refine lv_aload_n hx hb dX11_shipAt_1 rfl (lv_at hl 0 rfl) ?_
  refine va_get (D := g.1) (ci := 15) (v := .ref a3) (C := RX11) (T := TX11) (N := 11) hx hb G.ws inX11 hown G.K hP 0 rfl rfl 2 (by decide) (G.w kw_52) (fun _ h9 => h9) rfl dX11_shipAt_2 ?_
  refine kcallV (wc := [(a3, .inr (3, [.int 0, .ref g.2.1, .int 0]))]) (wr := [(h0, .inr (15, [.ref a1, .ref a2, .ref a3, .ref a4, .ref a5, .int tt, .int wf, .int ww, .int te, .int tn, .int mo]))]) (As := []) (rest := [.int x]) K G (m_Jx4a65c_size_8abf5 l hl0 g a3 0 g.2.1 0 ) hP hD hS hA hl kw_44 kw_45 kw_46 kw_47 kw_30 ydJx4a65c_size_8abf5 [1] [0] rfl rfl rfl rfl (by decide) (ci := 3) (q0 := 1) rfl rfl rfl rfl rfl (Nat.le_of_ble_eq_true rfl) dX11_shipAt_5 ⟨Nat.le_of_ble_eq_true rfl, Nat.le_of_ble_eq_true rfl⟩ ⟨Nat.le_of_ble_eq_true rfl, Nat.le_of_ble_eq_true rfl⟩ (fun _ _ _ _ _ _ hX _ _ _ _ _ _ => hX.elim) (fun v w1 H locs hQ hP hD hS => ?_)
  obtain ⟨rfl, rfl⟩ := hQ
  have hP : va_P g.1 vwCl [(h0, .inr (15, [.ref a1, .ref a2, .ref a3, .ref a4, .ref a5, .int tt, .int wf, .int ww, .int te, .int tn, .int mo])), (a3, .inr (3, [.int 0, .ref g.2.1, .int 0]))] H := hP
  have hD : va_D A [(h0, .inr (15, [.ref a1, .ref a2, .ref a3, .ref a4, .ref a5, .int tt, .int wf, .int ww, .int te, .int tn, .int mo])), (a3, .inr (3, [.int 0, .ref g.2.1, .int 0]))] := hD
  refine W.widen (k := 0) (n := 0) (by decide) (by decide) ?_
  refine W.eq (g2 := F0 m 8 ls [.int 0, .int x]) rfl ?_
  refine kcallS (wc := []) (wr := [(h0, .inr (15, [.ref a1, .ref a2, .ref a3, .ref a4, .ref a5, .int tt, .int wf, .int ww, .int te, .int tn, .int mo])), (a3, .inr (3, [.int 0, .ref g.2.1, .int 0]))]) (As := [.int x, .int 0]) (rest := []) K G (m_X11_requireNumber0 l hl0 g x ) hP hD hS hA hl kw_48 kw_49 kw_50 kw_4 ydX11_requireNumber [] [0, 1] rfl rfl rfl rfl (by decide) rfl rfl (Nat.le_of_ble_eq_true rfl) dX11_shipAt_8 ⟨Nat.le_of_ble_eq_true rfl, Nat.le_of_ble_eq_true rfl⟩ ⟨Nat.le_of_ble_eq_true rfl, Nat.le_of_ble_eq_true rfl⟩ (fun E w1 ce q9 H locs hX hP hD hS hce hcv hcl => ?_) (fun _ _ _ _ hQ _ _ _ => hQ.elim)
  obtain ⟨rfl, rfl⟩ := hX
  have hP : va_P g.1 vwCl [(h0, .inr (15, [.ref a1, .ref a2, .ref a3, .ref a4, .ref a5, .int tt, .int wf, .int ww, .int te, .int tn, .int mo])), (a3, .inr (3, [.int 0, .ref g.2.1, .int 0]))] H := hP
  have hD : va_D A [(h0, .inr (15, [.ref a1, .ref a2, .ref a3, .ref a4, .ref a5, .int tt, .int wf, .int ww, .int te, .int tn, .int mo])), (a3, .inr (3, [.int 0, .ref g.2.1, .int 0]))] := hD
  refine vx_widen (k := 1) (n := 6) (by decide) (by decide) ?_
  exact kthrow K ht hP hD hS hce hcv hcl [] [] rfl rfl (⟨rfl, rfl⟩) (by decide) (by decide)

set_option maxHeartbeats 4000000 in
set_option maxRecDepth 100000 in
theorem m_X11_personAt (l : Launch) (hl0 : l.stackTraces = false) (g : kG) (h0 : Nat) (a1 : Nat) (a2 : Nat) (a3 : Nat) (a4 : Nat) (a5 : Nat) (tt : Int32) (wf : Int32) (ww : Int32) (te : Int32) (tn : Int32) (mo : Int32) (x : Int32)  : kc l g yX11_personAt prog_1_method_61_code 2 (some (.object "GalleonWave$Person")) 7 103 1 6 [.ref h0, .int x] [(h0, .inr (15, [.ref a1, .ref a2, .ref a3, .ref a4, .ref a5, .int tt, .int wf, .int ww, .int te, .int tn, .int mo])), (a4, .inr (3, [.int 0, .ref g.2.1, .int 0]))] (fun _ _ => False) (fun E w => (E = "java/lang/IndexOutOfBoundsException" ∧ w = [])) := by
  refine kbody (by decide) (Nat.le_of_ble_eq_true rfl) ?_
  intro p e s m args below meth c A H K ht G hP hD hA hS ls hl
  have K : KB p s m meth c RX11 "personAt" prog_1_method_61_code 2 (some (.object "GalleonWave$Person")) := K
  obtain ⟨hx, hb, hml, hown, hlocks, hr, hin⟩ := id K
  have hl : lv_has ls 2 [(0, .ref h0), (1, .int x)] := hl
  refine lv_iload_n hx hb dX11_personAt_0 rfl (lv_at hl 1 rfl) ?_
  refine lv_aload_n hx hb dX11_personAt_1 rfl (lv_at hl 0 rfl) ?_
  refine va_get (D := g.1) (ci := 15) (v := .ref a4) (C := RX11) (T := TX11) (N := 11) hx hb G.ws inX11 hown G.K hP 0 rfl rfl 3 (by decide) (G.w kw_53) (fun _ h9 => h9) rfl dX11_personAt_2 ?_
  refine kcallV (wc := [(a4, .inr (3, [.int 0, .ref g.2.1, .int 0]))]) (wr := [(h0, .inr (15, [.ref a1, .ref a2, .ref a3, .ref a4, .ref a5, .int tt, .int wf, .int ww, .int te, .int tn, .int mo]))]) (As := []) (rest := [.int x]) K G (m_Jx4a65c_size_8abf5 l hl0 g a4 0 g.2.1 0 ) hP hD hS hA hl kw_44 kw_45 kw_46 kw_47 kw_30 ydJx4a65c_size_8abf5 [1] [0] rfl rfl rfl rfl (by decide) (ci := 3) (q0 := 1) rfl rfl rfl rfl rfl (Nat.le_of_ble_eq_true rfl) dX11_personAt_5 ⟨Nat.le_of_ble_eq_true rfl, Nat.le_of_ble_eq_true rfl⟩ ⟨Nat.le_of_ble_eq_true rfl, Nat.le_of_ble_eq_true rfl⟩ (fun _ _ _ _ _ _ hX _ _ _ _ _ _ => hX.elim) (fun v w1 H locs hQ hP hD hS => ?_)
  obtain ⟨rfl, rfl⟩ := hQ
  have hP : va_P g.1 vwCl [(h0, .inr (15, [.ref a1, .ref a2, .ref a3, .ref a4, .ref a5, .int tt, .int wf, .int ww, .int te, .int tn, .int mo])), (a4, .inr (3, [.int 0, .ref g.2.1, .int 0]))] H := hP
  have hD : va_D A [(h0, .inr (15, [.ref a1, .ref a2, .ref a3, .ref a4, .ref a5, .int tt, .int wf, .int ww, .int te, .int tn, .int mo])), (a4, .inr (3, [.int 0, .ref g.2.1, .int 0]))] := hD
  refine W.widen (k := 0) (n := 0) (by decide) (by decide) ?_
  refine W.eq (g2 := F0 m 8 ls [.int 0, .int x]) rfl ?_
  refine kcallS (wc := []) (wr := [(h0, .inr (15, [.ref a1, .ref a2, .ref a3, .ref a4, .ref a5, .int tt, .int wf, .int ww, .int te, .int tn, .int mo])), (a4, .inr (3, [.int 0, .ref g.2.1, .int 0]))]) (As := [.int x, .int 0]) (rest := []) K G (m_X11_requireNumber0 l hl0 g x ) hP hD hS hA hl kw_48 kw_49 kw_50 kw_4 ydX11_requireNumber [] [0, 1] rfl rfl rfl rfl (by decide) rfl rfl (Nat.le_of_ble_eq_true rfl) dX11_personAt_8 ⟨Nat.le_of_ble_eq_true rfl, Nat.le_of_ble_eq_true rfl⟩ ⟨Nat.le_of_ble_eq_true rfl, Nat.le_of_ble_eq_true rfl⟩ (fun E w1 ce q9 H locs hX hP hD hS hce hcv hcl => ?_) (fun _ _ _ _ hQ _ _ _ => hQ.elim)
  obtain ⟨rfl, rfl⟩ := hX
  have hP : va_P g.1 vwCl [(h0, .inr (15, [.ref a1, .ref a2, .ref a3, .ref a4, .ref a5, .int tt, .int wf, .int ww, .int te, .int tn, .int mo])), (a4, .inr (3, [.int 0, .ref g.2.1, .int 0]))] H := hP
  have hD : va_D A [(h0, .inr (15, [.ref a1, .ref a2, .ref a3, .ref a4, .ref a5, .int tt, .int wf, .int ww, .int te, .int tn, .int mo])), (a4, .inr (3, [.int 0, .ref g.2.1, .int 0]))] := hD
  refine vx_widen (k := 1) (n := 6) (by decide) (by decide) ?_
  exact kthrow K ht hP hD hS hce hcv hcl [] [] rfl rfl (⟨rfl, rfl⟩) (by decide) (by decide)

set_option maxHeartbeats 4000000 in
set_option maxRecDepth 100000 in
theorem m_X11_requireRecording (l : Launch) (hl0 : l.stackTraces = false) (g : kG) (h0 : Nat) (a1 : Nat) (a2 : Nat) (a3 : Nat) (a4 : Nat) (a5 : Nat) (tt : Int32) (wf : Int32) (ww : Int32) (te : Int32) (tn : Int32) (mo : Int32) (k0 : Nat) (r0 : Nat) (b1 : Nat) (b2 : Nat) (b3 : Nat) (b4 : Nat) (b5 : Nat) (x : Int32)  : kc l g yX11_requireRecording prog_1_method_57_code 2 none 7 103 1 6 [.ref h0, .int x] [(h0, .inr (15, [.ref a1, .ref a2, .ref a3, .ref a4, .ref a5, .int tt, .int wf, .int ww, .int te, .int tn, .int mo])), (a5, .inr (5, [.ref k0, .ref r0, .ref b1, .ref b2, .ref b3, .ref b4, .ref b5, .int 0])), (r0, .inr (3, [.int 0, .ref g.2.1, .int 0]))] (fun _ _ => False) (fun E w => (E = "java/lang/IndexOutOfBoundsException" ∧ w = [])) := by
  refine kbody (by decide) (Nat.le_of_ble_eq_true rfl) ?_
  intro p e s m args below meth c A H K ht G hP hD hA hS ls hl
  have K : KB p s m meth c RX11 "requireRecording" prog_1_method_57_code 2 none := K
  obtain ⟨hx, hb, hml, hown, hlocks, hr, hin⟩ := id K
  have hl : lv_has ls 2 [(0, .ref h0), (1, .int x)] := hl
  refine lv_iload_n hx hb dX11_requireRecording_0 rfl (lv_at hl 1 rfl) ?_
  refine lv_aload_n hx hb dX11_requireRecording_1 rfl (lv_at hl 0 rfl) ?_
  refine va_get (D := g.1) (ci := 15) (v := .ref a5) (C := RX11) (T := TX11) (N := 11) hx hb G.ws inX11 hown G.K hP 0 rfl rfl 4 (by decide) (G.w kw_54) (fun _ h9 => h9) rfl dX11_requireRecording_2 ?_
  refine va_get (D := g.1) (ci := 5) (v := .ref r0) (C := RX1) (T := TX1) (N := 8) hx hb G.ws inX1 hown G.K hP 1 rfl rfl 1 (by decide) (G.w kw_55) (fun _ h9 => h9) rfl dX11_requireRecording_5 ?_
  refine kcallV (wc := [(r0, .inr (3, [.int 0, .ref g.2.1, .int 0]))]) (wr := [(h0, .inr (15, [.ref a1, .ref a2, .ref a3, .ref a4, .ref a5, .int tt, .int wf, .int ww, .int te, .int tn, .int mo])), (a5, .inr (5, [.ref k0, .ref r0, .ref b1, .ref b2, .ref b3, .ref b4, .ref b5, .int 0]))]) (As := []) (rest := [.int x]) K G (m_Jx4a65c_size_8abf5 l hl0 g r0 0 g.2.1 0 ) hP hD hS hA hl kw_44 kw_45 kw_46 kw_47 kw_30 ydJx4a65c_size_8abf5 [2] [0, 1] rfl rfl rfl rfl (by decide) (ci := 3) (q0 := 2) rfl rfl rfl rfl rfl (Nat.le_of_ble_eq_true rfl) dX11_requireRecording_8 ⟨Nat.le_of_ble_eq_true rfl, Nat.le_of_ble_eq_true rfl⟩ ⟨Nat.le_of_ble_eq_true rfl, Nat.le_of_ble_eq_true rfl⟩ (fun _ _ _ _ _ _ hX _ _ _ _ _ _ => hX.elim) (fun v w1 H locs hQ hP hD hS => ?_)
  obtain ⟨rfl, rfl⟩ := hQ
  have hP : va_P g.1 vwCl [(h0, .inr (15, [.ref a1, .ref a2, .ref a3, .ref a4, .ref a5, .int tt, .int wf, .int ww, .int te, .int tn, .int mo])), (a5, .inr (5, [.ref k0, .ref r0, .ref b1, .ref b2, .ref b3, .ref b4, .ref b5, .int 0])), (r0, .inr (3, [.int 0, .ref g.2.1, .int 0]))] H := hP
  have hD : va_D A [(h0, .inr (15, [.ref a1, .ref a2, .ref a3, .ref a4, .ref a5, .int tt, .int wf, .int ww, .int te, .int tn, .int mo])), (a5, .inr (5, [.ref k0, .ref r0, .ref b1, .ref b2, .ref b3, .ref b4, .ref b5, .int 0])), (r0, .inr (3, [.int 0, .ref g.2.1, .int 0]))] := hD
  refine W.widen (k := 0) (n := 0) (by decide) (by decide) ?_
  refine W.eq (g2 := F0 m 11 ls [.int 0, .int x]) rfl ?_
  refine kcallS (wc := []) (wr := [(h0, .inr (15, [.ref a1, .ref a2, .ref a3, .ref a4, .ref a5, .int tt, .int wf, .int ww, .int te, .int tn, .int mo])), (a5, .inr (5, [.ref k0, .ref r0, .ref b1, .ref b2, .ref b3, .ref b4, .ref b5, .int 0])), (r0, .inr (3, [.int 0, .ref g.2.1, .int 0]))]) (As := [.int x, .int 0]) (rest := []) K G (m_X11_requireNumber0 l hl0 g x ) hP hD hS hA hl kw_48 kw_49 kw_50 kw_4 ydX11_requireNumber [] [0, 1, 2] rfl rfl rfl rfl (by decide) rfl rfl (Nat.le_of_ble_eq_true rfl) dX11_requireRecording_11 ⟨Nat.le_of_ble_eq_true rfl, Nat.le_of_ble_eq_true rfl⟩ ⟨Nat.le_of_ble_eq_true rfl, Nat.le_of_ble_eq_true rfl⟩ (fun E w1 ce q9 H locs hX hP hD hS hce hcv hcl => ?_) (fun _ _ _ _ hQ _ _ _ => hQ.elim)
  obtain ⟨rfl, rfl⟩ := hX
  have hP : va_P g.1 vwCl [(h0, .inr (15, [.ref a1, .ref a2, .ref a3, .ref a4, .ref a5, .int tt, .int wf, .int ww, .int te, .int tn, .int mo])), (a5, .inr (5, [.ref k0, .ref r0, .ref b1, .ref b2, .ref b3, .ref b4, .ref b5, .int 0])), (r0, .inr (3, [.int 0, .ref g.2.1, .int 0]))] H := hP
  have hD : va_D A [(h0, .inr (15, [.ref a1, .ref a2, .ref a3, .ref a4, .ref a5, .int tt, .int wf, .int ww, .int te, .int tn, .int mo])), (a5, .inr (5, [.ref k0, .ref r0, .ref b1, .ref b2, .ref b3, .ref b4, .ref b5, .int 0])), (r0, .inr (3, [.int 0, .ref g.2.1, .int 0]))] := hD
  refine vx_widen (k := 1) (n := 6) (by decide) (by decide) ?_
  exact kthrow K ht hP hD hS hce hcv hcl [] [] rfl rfl (⟨rfl, rfl⟩) (by decide) (by decide)

set_option maxHeartbeats 4000000 in
set_option maxRecDepth 100000 in
theorem m_X11_addAct (l : Launch) (hl0 : l.stackTraces = false) (g : kG) (h0 : Nat) (a1 : Nat) (a2 : Nat) (a3 : Nat) (a4 : Nat) (a5 : Nat) (tt : Int32) (wf : Int32) (ww : Int32) (te : Int32) (tn : Int32) (mo : Int32) (x0 : Int32) (x1 : Int32) (x2 : Int32) (x3 : Int32)  : kc l g yX11_addAct prog_1_method_3_code 6 (some .int) 8 124 1 6 [.ref h0, .int x0, .int x1, .int x2, .int x3] [(h0, .inr (15, [.ref a1, .ref a2, .ref a3, .ref a4, .ref a5, .int tt, .int wf, .int ww, .int te, .int tn, .int mo])), (a1, .inr (3, [.int 0, .ref g.2.1, .int 0]))] (fun _ _ => False) (fun E w => (E = "java/lang/IndexOutOfBoundsException" ∧ w = [])) := by
  refine kbody (by decide) (Nat.le_of_ble_eq_true rfl) ?_
  intro p e s m args below meth c A H K ht G hP hD hA hS ls hl
  have K : KB p s m meth c RX11 "addAct" prog_1_method_3_code 6 (some .int) := K
  obtain ⟨hx, hb, hml, hown, hlocks, hr, hin⟩ := id K
  have hl : lv_has ls 6 [(0, .ref h0), (1, .int x0), (2, .int x1), (3, .int x2), (4, .int x3)] := hl
  refine lv_aload_n hx hb dX11_addAct_0 rfl (lv_at hl 0 rfl) ?_
  refine lv_iload_n hx hb dX11_addAct_1 rfl (lv_at hl 1 rfl) ?_
  refine kcallV (wc := [(h0, .inr (15, [.ref a1, .ref a2, .ref a3, .ref a4, .ref a5, .int tt, .int wf, .int ww, .int te, .int tn, .int mo])), (a1, .inr (3, [.int 0, .ref g.2.1, .int 0]))]) (wr := []) (As := [.int x0]) (rest := []) K G (m_X11_landAt l hl0 g h0 a1 a2 a3 a4 a5 tt wf ww te tn mo x0 ) hP hD hS hA hl kw_56 kw_57 kw_58 kw_59 kw_4 ydX11_landAt [0, 1] [] rfl rfl rfl rfl (by decide) (ci := 15) (q0 := 0) rfl rfl rfl rfl rfl (Nat.le_of_ble_eq_true rfl) dX11_addAct_2 ⟨Nat.le_of_ble_eq_true rfl, Nat.le_of_ble_eq_true rfl⟩ ⟨Nat.le_of_ble_eq_true rfl, Nat.le_of_ble_eq_true rfl⟩ (fun E w1 ce q9 H locs hX hP hD hS hce hcv hcl => ?_) (fun _ _ _ _ hQ _ _ _ => hQ.elim)
  obtain ⟨rfl, rfl⟩ := hX
  have hP : va_P g.1 vwCl [] H := hP
  have hD : va_D A [] := hD
  refine vx_widen (k := 1) (n := 6) (by decide) (by decide) ?_
  exact kthrow K ht hP hD hS hce hcv hcl [] [] rfl rfl (⟨rfl, rfl⟩) (by decide) (by decide)

set_option maxHeartbeats 4000000 in
set_option maxRecDepth 100000 in
theorem m_X11_getLine (l : Launch) (hl0 : l.stackTraces = false) (g : kG) (h0 : Nat) (a1 : Nat) (a2 : Nat) (a3 : Nat) (a4 : Nat) (a5 : Nat) (tt : Int32) (wf : Int32) (ww : Int32) (te : Int32) (tn : Int32) (mo : Int32) (x0 : Int32)  : kc l g yX11_getLine prog_1_method_4_code 2 (some .int) 8 124 1 6 [.ref h0, .int x0] [(h0, .inr (15, [.ref a1, .ref a2, .ref a3, .ref a4, .ref a5, .int tt, .int wf, .int ww, .int te, .int tn, .int mo])), (a1, .inr (3, [.int 0, .ref g.2.1, .int 0]))] (fun _ _ => False) (fun E w => (E = "java/lang/IndexOutOfBoundsException" ∧ w = [])) := by
  refine kbody (by decide) (Nat.le_of_ble_eq_true rfl) ?_
  intro p e s m args below meth c A H K ht G hP hD hA hS ls hl
  have K : KB p s m meth c RX11 "getLine" prog_1_method_4_code 2 (some .int) := K
  obtain ⟨hx, hb, hml, hown, hlocks, hr, hin⟩ := id K
  have hl : lv_has ls 2 [(0, .ref h0), (1, .int x0)] := hl
  refine lv_aload_n hx hb dX11_getLine_0 rfl (lv_at hl 0 rfl) ?_
  refine lv_iload_n hx hb dX11_getLine_1 rfl (lv_at hl 1 rfl) ?_
  refine kcallV (wc := [(h0, .inr (15, [.ref a1, .ref a2, .ref a3, .ref a4, .ref a5, .int tt, .int wf, .int ww, .int te, .int tn, .int mo])), (a1, .inr (3, [.int 0, .ref g.2.1, .int 0]))]) (wr := []) (As := [.int x0]) (rest := []) K G (m_X11_landAt l hl0 g h0 a1 a2 a3 a4 a5 tt wf ww te tn mo x0 ) hP hD hS hA hl kw_56 kw_57 kw_58 kw_59 kw_4 ydX11_landAt [0, 1] [] rfl rfl rfl rfl (by decide) (ci := 15) (q0 := 0) rfl rfl rfl rfl rfl (Nat.le_of_ble_eq_true rfl) dX11_getLine_2 ⟨Nat.le_of_ble_eq_true rfl, Nat.le_of_ble_eq_true rfl⟩ ⟨Nat.le_of_ble_eq_true rfl, Nat.le_of_ble_eq_true rfl⟩ (fun E w1 ce q9 H locs hX hP hD hS hce hcv hcl => ?_) (fun _ _ _ _ hQ _ _ _ => hQ.elim)
  obtain ⟨rfl, rfl⟩ := hX
  have hP : va_P g.1 vwCl [] H := hP
  have hD : va_D A [] := hD
  refine vx_widen (k := 1) (n := 6) (by decide) (by decide) ?_
  exact kthrow K ht hP hD hS hce hcv hcl [] [] rfl rfl (⟨rfl, rfl⟩) (by decide) (by decide)

set_option maxHeartbeats 4000000 in
set_option maxRecDepth 100000 in
theorem m_X11_addTown (l : Launch) (hl0 : l.stackTraces = false) (g : kG) (h0 : Nat) (a1 : Nat) (a2 : Nat) (a3 : Nat) (a4 : Nat) (a5 : Nat) (tt : Int32) (wf : Int32) (ww : Int32) (te : Int32) (tn : Int32) (mo : Int32) (x0 : Int32) (x1 : Int32) (x2 : Int32) (x3 : Int32)  : kc l g yX11_addTown prog_1_method_7_code 5 (some .int) 8 124 1 6 [.ref h0, .int x0, .int x1, .int x2, .int x3] [(h0, .inr (15, [.ref a1, .ref a2, .ref a3, .ref a4, .ref a5, .int tt, .int wf, .int ww, .int te, .int tn, .int mo])), (a1, .inr (3, [.int 0, .ref g.2.1, .int 0]))] (fun _ _ => False) (fun E w => (E = "java/lang/IndexOutOfBoundsException" ∧ w = [])) := by
  refine kbody (by decide) (Nat.le_of_ble_eq_true rfl) ?_
  intro p e s m args below meth c A H K ht G hP hD hA hS ls hl
  have K : KB p s m meth c RX11 "addTown" prog_1_method_7_code 5 (some .int) := K
  obtain ⟨hx, hb, hml, hown, hlocks, hr, hin⟩ := id K
  have hl : lv_has ls 5 [(0, .ref h0), (1, .int x0), (2, .int x1), (3, .int x2), (4, .int x3)] := hl
  refine lv_aload_n hx hb dX11_addTown_0 rfl (lv_at hl 0 rfl) ?_
  refine lv_iload_n hx hb dX11_addTown_1 rfl (lv_at hl 1 rfl) ?_
  refine kcallV (wc := [(h0, .inr (15, [.ref a1, .ref a2, .ref a3, .ref a4, .ref a5, .int tt, .int wf, .int ww, .int te, .int tn, .int mo])), (a1, .inr (3, [.int 0, .ref g.2.1, .int 0]))]) (wr := []) (As := [.int x0]) (rest := []) K G (m_X11_landAt l hl0 g h0 a1 a2 a3 a4 a5 tt wf ww te tn mo x0 ) hP hD hS hA hl kw_56 kw_57 kw_58 kw_59 kw_4 ydX11_landAt [0, 1] [] rfl rfl rfl rfl (by decide) (ci := 15) (q0 := 0) rfl rfl rfl rfl rfl (Nat.le_of_ble_eq_true rfl) dX11_addTown_2 ⟨Nat.le_of_ble_eq_true rfl, Nat.le_of_ble_eq_true rfl⟩ ⟨Nat.le_of_ble_eq_true rfl, Nat.le_of_ble_eq_true rfl⟩ (fun E w1 ce q9 H locs hX hP hD hS hce hcv hcl => ?_) (fun _ _ _ _ hQ _ _ _ => hQ.elim)
  obtain ⟨rfl, rfl⟩ := hX
  have hP : va_P g.1 vwCl [] H := hP
  have hD : va_D A [] := hD
  refine vx_widen (k := 1) (n := 6) (by decide) (by decide) ?_
  exact kthrow K ht hP hD hS hce hcv hcl [] [] rfl rfl (⟨rfl, rfl⟩) (by decide) (by decide)

set_option maxHeartbeats 4000000 in
set_option maxRecDepth 100000 in
theorem m_X11_addPerson (l : Launch) (hl0 : l.stackTraces = false) (g : kG) (h0 : Nat) (a1 : Nat) (a2 : Nat) (a3 : Nat) (a4 : Nat) (a5 : Nat) (tt : Int32) (wf : Int32) (ww : Int32) (te : Int32) (tn : Int32) (mo : Int32) (x0 : Int32) (x1 : Int32)  : kc l g yX11_addPerson prog_1_method_28_code 3 (some .int) 8 124 1 6 [.ref h0, .int x0, .int x1] [(h0, .inr (15, [.ref a1, .ref a2, .ref a3, .ref a4, .ref a5, .int tt, .int wf, .int ww, .int te, .int tn, .int mo])), (a1, .inr (3, [.int 0, .ref g.2.1, .int 0]))] (fun _ _ => False) (fun E w => (E = "java/lang/IndexOutOfBoundsException" ∧ w = [])) := by
  refine kbody (by decide) (Nat.le_of_ble_eq_true rfl) ?_
  intro p e s m args below meth c A H K ht G hP hD hA hS ls hl
  have K : KB p s m meth c RX11 "addPerson" prog_1_method_28_code 3 (some .int) := K
  obtain ⟨hx, hb, hml, hown, hlocks, hr, hin⟩ := id K
  have hl : lv_has ls 3 [(0, .ref h0), (1, .int x0), (2, .int x1)] := hl
  refine lv_aload_n hx hb dX11_addPerson_0 rfl (lv_at hl 0 rfl) ?_
  refine lv_iload_n hx hb dX11_addPerson_1 rfl (lv_at hl 1 rfl) ?_
  refine kcallV (wc := [(h0, .inr (15, [.ref a1, .ref a2, .ref a3, .ref a4, .ref a5, .int tt, .int wf, .int ww, .int te, .int tn, .int mo])), (a1, .inr (3, [.int 0, .ref g.2.1, .int 0]))]) (wr := []) (As := [.int x0]) (rest := []) K G (m_X11_landAt l hl0 g h0 a1 a2 a3 a4 a5 tt wf ww te tn mo x0 ) hP hD hS hA hl kw_56 kw_57 kw_58 kw_59 kw_4 ydX11_landAt [0, 1] [] rfl rfl rfl rfl (by decide) (ci := 15) (q0 := 0) rfl rfl rfl rfl rfl (Nat.le_of_ble_eq_true rfl) dX11_addPerson_2 ⟨Nat.le_of_ble_eq_true rfl, Nat.le_of_ble_eq_true rfl⟩ ⟨Nat.le_of_ble_eq_true rfl, Nat.le_of_ble_eq_true rfl⟩ (fun E w1 ce q9 H locs hX hP hD hS hce hcv hcl => ?_) (fun _ _ _ _ hQ _ _ _ => hQ.elim)
  obtain ⟨rfl, rfl⟩ := hX
  have hP : va_P g.1 vwCl [] H := hP
  have hD : va_D A [] := hD
  refine vx_widen (k := 1) (n := 6) (by decide) (by decide) ?_
  exact kthrow K ht hP hD hS hce hcv hcl [] [] rfl rfl (⟨rfl, rfl⟩) (by decide) (by decide)

