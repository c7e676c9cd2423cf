set_option maxHeartbeats 4000000 in
set_option maxRecDepth 100000 in
theorem m_X12_setTide (l : Launch) (hl0 : l.stackTraces = false) (g : kG) (m0 : Nat) (r : Nat → Nat) (p0 : Nat) (p1 : Nat) (p9 : Nat) (p10 : Nat) (p18 : Nat) (p27 : Nat) (p28 : Nat) (p30 : Nat) (p44 : Nat) (p45 : Nat) (f0 : Nat → Option Nat) (z0 : Nat) (f9 : Nat → Option Nat) (z9 : Nat) (f10 : Nat → Option Nat) (z10 : Nat) (f27 : Nat → Option Nat) (z27 : Nat) (f45 : Nat → Option Nat) (z45 : Nat) (x0 : Int32) (x1 : Int32)  : kc l g yX12_setTide prog_14_method_17_code 4 (some .int) 1 22 0 0 [.ref m0, .int x0, .int x1] [(m0, .inr (16, mO r p0 p1 p9 p10 p18 p27 p28 p30 p44 p45 0 0 0 0 0 0 0 0 0 0 0 0))] (fun v w => (∃ j0 : Int32, ∃ j1 : Int32, ∃ j2 : Int32, ∃ j3 : Int32, ∃ j4 : Int32, ∃ j5 : Int32, ∃ j6 : Int32, ∃ j7 : Int32, ∃ j8 : Int32, ∃ j9 : Int32, ∃ j10 : Int32, v = some (.int 0) ∧ w = [(m0, .inr (16, mO r p0 p1 p9 p10 p18 p27 p28 p30 p44 p45 j0 j1 j2 j3 j4 j5 j6 j7 j8 j9 j10 0))] ∧ (inR x0 (-3) 3 && inR x1 (-3) 3) = true) ∨ (∃ j0 : Int32, ∃ j1 : Int32, ∃ j2 : Int32, ∃ j3 : Int32, ∃ j4 : Int32, ∃ j5 : Int32, ∃ j6 : Int32, ∃ j7 : Int32, ∃ j8 : Int32, ∃ j9 : Int32, ∃ j10 : Int32, v = some (.int 0) ∧ w = [(m0, .inr (16, mO r p0 p1 p9 p10 p18 p27 p28 p30 p44 p45 j0 j1 j2 j3 j4 j5 j6 j7 j8 j9 j10 1))] ∧ (inR x0 (-3) 3 && inR x1 (-3) 3) = false)) (fun _ _ => False) := by
  refine kbody (by decide) (Nat.le_of_ble_eq_true rfl) ?_
  intro p e s m args below meth c A H K ht G hP hD hA hS ls hl
  have K : KB p s m meth c RX12 "setTide" prog_14_method_17_code 4 (some .int) := K
  obtain ⟨hx, hb, hml, hown, hlocks, hr, hin⟩ := id K
  have hl : lv_has ls 4 [(0, .ref m0), (1, .int x0), (2, .int x1)] := hl
  refine lv_aload_n hx hb dX12_setTide_0 rfl (lv_at hl 0 rfl) ?_
  refine lv_iload_n hx hb dX12_setTide_1 rfl (lv_at hl 1 rfl) ?_
  refine lv_bipush (v := (-3)) hx hb dX12_setTide_2 (by decide) ?_
  refine lv_iconst (v := 3) hx hb dX12_setTide_4 (by decide) ?_
  refine kcallS (wc := []) (wr := [(m0, .inr (16, mO r p0 p1 p9 p10 p18 p27 p28 p30 p44 p45 0 0 0 0 0 0 0 0 0 0 0 0))]) (As := [.int x0, .int (-3), .int 3]) (rest := [.ref m0]) K G (m_X12_isIn l hl0 g x0 (-3) 3 ) hP hD hS hA hl kw_305 kw_306 kw_308 kw_307 ydX12_isIn [] [0] rfl rfl rfl rfl (by decide) rfl rfl (Nat.le_of_ble_eq_true rfl) dX12_setTide_5 ⟨Nat.le_of_ble_eq_true rfl, Nat.le_of_ble_eq_true rfl⟩ ⟨Nat.le_of_ble_eq_true rfl, Nat.le_of_ble_eq_true rfl⟩ (fun _ _ _ _ _ _ hX _ _ _ _ _ _ => hX.elim) (fun v w1 H locs hQ hP hD hS => ?_)
  rcases hQ with ⟨rfl, rfl, f_2⟩ | ⟨rfl, rfl, f_3⟩
  · have hP : va_P g.1 vwCl [(m0, .inr (16, mO r p0 p1 p9 p10 p18 p27 p28 p30 p44 p45 0 0 0 0 0 0 0 0 0 0 0 0))] H := hP
    have hD : va_D A [(m0, .inr (16, mO r p0 p1 p9 p10 p18 p27 p28 p30 p44 p45 0 0 0 0 0 0 0 0 0 0 0 0))] := hD
    refine W.widen (k := 0) (n := 0) (by decide) (by decide) ?_
    refine W.eq (g2 := F0 m 8 ls [.int 1, .ref m0]) rfl ?_
    refine lv_if_eq (tgt := 21) hx hb dX12_setTide_8 (by decide) (fun c8_4 => absurd c8_4 (by decide)) (fun _ => ?_)
    refine lv_iload_n hx hb dX12_setTide_11 rfl (lv_at hl 2 rfl) ?_
    refine lv_bipush (v := (-3)) hx hb dX12_setTide_12 (by decide) ?_
    refine lv_iconst (v := 3) hx hb dX12_setTide_14 (by decide) ?_
    refine kcallS (wc := []) (wr := [(m0, .inr (16, mO r p0 p1 p9 p10 p18 p27 p28 p30 p44 p45 0 0 0 0 0 0 0 0 0 0 0 0))]) (As := [.int x1, .int (-3), .int 3]) (rest := [.ref m0]) K G (m_X12_isIn l hl0 g x1 (-3) 3 ) hP hD hS hA hl kw_305 kw_306 kw_308 kw_307 ydX12_isIn [] [0] rfl rfl rfl rfl (by decide) rfl rfl (Nat.le_of_ble_eq_true rfl) dX12_setTide_15 ⟨Nat.le_of_ble_eq_true rfl, Nat.le_of_ble_eq_true rfl⟩ ⟨Nat.le_of_ble_eq_true rfl, Nat.le_of_ble_eq_true rfl⟩ (fun _ _ _ _ _ _ hX _ _ _ _ _ _ => hX.elim) (fun v w1 H locs hQ hP hD hS => ?_)
    rcases hQ with ⟨rfl, rfl, f_6⟩ | ⟨rfl, rfl, f_7⟩
    · have hP : va_P g.1 vwCl [(m0, .inr (16, mO r p0 p1 p9 p10 p18 p27 p28 p30 p44 p45 0 0 0 0 0 0 0 0 0 0 0 0))] H := hP
      have hD : va_D A [(m0, .inr (16, mO r p0 p1 p9 p10 p18 p27 p28 p30 p44 p45 0 0 0 0 0 0 0 0 0 0 0 0))] := hD
      refine W.widen (k := 0) (n := 0) (by decide) (by decide) ?_
      refine W.eq (g2 := F0 m 18 ls [.int 1, .ref m0]) rfl ?_
      refine lv_if_ne (tgt := 25) hx hb dX12_setTide_18 (by decide) (fun _ => ?_) (fun c18_8 => absurd c18_8 (by decide))
      refine lv_iconst (v := 0) hx hb dX12_setTide_25 (by decide) ?_
      refine lv_iconst (v := 1) hx hb dX12_setTide_26 (by decide) ?_
      refine kcallV (wc := [(m0, .inr (16, mO r p0 p1 p9 p10 p18 p27 p28 p30 p44 p45 0 0 0 0 0 0 0 0 0 0 0 0))]) (wr := []) (As := [.int 0, .int 1]) (rest := []) K G (m_X12_isThrown0 l hl0 g m0 r p0 p1 p9 p10 p18 p27 p28 p30 p44 p45 0 0 0 0 0 0 0 0 0 0 0 0 1 ) hP hD hS hA hl kw_319 kw_320 kw_321 kw_322 kw_307 ydX12_isThrown [0] [] rfl rfl rfl rfl (by decide) (ci := 16) (q0 := 0) rfl rfl rfl rfl rfl (Nat.le_of_ble_eq_true rfl) dX12_setTide_27 ⟨Nat.le_of_ble_eq_true rfl, Nat.le_of_ble_eq_true rfl⟩ ⟨Nat.le_of_ble_eq_true rfl, Nat.le_of_ble_eq_true rfl⟩ (fun _ _ _ _ _ _ hX _ _ _ _ _ _ => hX.elim) (fun v w1 H locs hQ hP hD hS => ?_)
      obtain ⟨rfl, rfl⟩ := hQ
      have hP : va_P g.1 vwCl [(m0, .inr (16, mO r p0 p1 p9 p10 p18 p27 p28 p30 p44 p45 0 0 0 0 0 0 0 0 0 0 0 0))] H := hP
      have hD : va_D A [(m0, .inr (16, mO r p0 p1 p9 p10 p18 p27 p28 p30 p44 p45 0 0 0 0 0 0 0 0 0 0 0 0))] := hD
      refine W.widen (k := 0) (n := 0) (by decide) (by decide) ?_
      refine W.eq (g2 := F0 m 30 ls [.int 0]) rfl ?_
      refine lv_if_eq (tgt := 35) hx hb dX12_setTide_30 (by decide) (fun _ => ?_) (fun c30_10 => absurd c30_10 (by decide))
      refine lv_aload_n hx hb dX12_setTide_35 rfl (lv_at hl 0 rfl) ?_
      refine va_get (D := g.1) (ci := 16) (v := .int 0) (C := RX12) (T := TX12) (N := 59) hx hb G.ws inX12 hown G.K hP 0 rfl rfl 54 (by decide) (G.w kw_345) (fun _ h9 => h9) rfl dX12_setTide_36 ?_
      refine lv_istore_n (lv' := [(3, .int 0), (0, .ref m0), (1, .int x0), (2, .int x1)]) hx hb dX12_setTide_39 rfl hl (by decide) rfl (fun ls hl => ?_)
      refine lv_aload_n hx hb dX12_setTide_40 rfl (lv_at hl 1 rfl) ?_
      refine lv_iload_n hx hb dX12_setTide_41 rfl (lv_at hl 2 rfl) ?_
      refine va_put (D := g.1) (ci := 16) (v := .int x0) (ty := .int) (C := RX12) (T := TX12) (N := 59) hx hb G.ws inX12 tyX12 tyX12_ok nmX12 hown G.K hP hD hS 0 rfl rfl 54 (by decide) (G.w kw_345) (fun _ h9 => h9) (by decide +kernel) (by decide +kernel) rfl rfl (Nat.le_of_ble_eq_true rfl) dX12_setTide_42 (fun H locs hP hD hS => ?_)
      have hP : va_P g.1 vwCl [(m0, .inr (16, mO r p0 p1 p9 p10 p18 p27 p28 p30 p44 p45 0 0 0 0 0 0 0 x0 0 0 0 0))] H := hP
      have hD : va_D A [(m0, .inr (16, mO r p0 p1 p9 p10 p18 p27 p28 p30 p44 p45 0 0 0 0 0 0 0 x0 0 0 0 0))] := hD
      refine lv_aload_n hx hb dX12_setTide_45 rfl (lv_at hl 1 rfl) ?_
      refine lv_iload_n hx hb dX12_setTide_46 rfl (lv_at hl 3 rfl) ?_
      refine va_put (D := g.1) (ci := 16) (v := .int x1) (ty := .int) (C := RX12) (T := TX12) (N := 59) hx hb G.ws inX12 tyX12 tyX12_ok nmX12 hown G.K hP hD hS 0 rfl rfl 55 (by decide) (G.w kw_346) (fun _ h9 => h9) (by decide +kernel) (by decide +kernel) rfl rfl (Nat.le_of_ble_eq_true rfl) dX12_setTide_47 (fun H locs hP hD hS => ?_)
      have hP : va_P g.1 vwCl [(m0, .inr (16, mO r p0 p1 p9 p10 p18 p27 p28 p30 p44 p45 0 0 0 0 0 0 0 x0 x1 0 0 0))] H := hP
      have hD : va_D A [(m0, .inr (16, mO r p0 p1 p9 p10 p18 p27 p28 p30 p44 p45 0 0 0 0 0 0 0 x0 x1 0 0 0))] := hD
      refine lv_iload_n hx hb dX12_setTide_50 rfl (lv_at hl 0 rfl) ?_
      exact kretI K hP hD hS [0] [(m0, .inr (16, mO r p0 p1 p9 p10 p18 p27 p28 p30 p44 p45 0 0 0 0 0 0 0 x0 x1 0 0 0))] rfl rfl (Or.inl ⟨0, 0, 0, 0, 0, 0, 0, x0, x1, 0, 0, rfl, rfl, (by simp [f_2, f_6])⟩) (by decide) (by decide) dX12_setTide_51
    · have hP : va_P g.1 vwCl [(m0, .inr (16, mO r p0 p1 p9 p10 p18 p27 p28 p30 p44 p45 0 0 0 0 0 0 0 0 0 0 0 0))] H := hP
      have hD : va_D A [(m0, .inr (16, mO r p0 p1 p9 p10 p18 p27 p28 p30 p44 p45 0 0 0 0 0 0 0 0 0 0 0 0))] := hD
      refine W.widen (k := 0) (n := 0) (by decide) (by decide) ?_
      refine W.eq (g2 := F0 m 18 ls [.int 0, .ref m0]) rfl ?_
      refine lv_if_ne (tgt := 25) hx hb dX12_setTide_18 (by decide) (fun c18_11 => absurd c18_11 (by decide)) (fun _ => ?_)
      refine lv_iconst (v := 1) hx hb dX12_setTide_21 (by decide) ?_
      refine lv_goto (tgt := 26) hx hb dX12_setTide_22 (by decide) ?_
      refine lv_iconst (v := 1) hx hb dX12_setTide_26 (by decide) ?_
      refine kcallV (wc := [(m0, .inr (16, mO r p0 p1 p9 p10 p18 p27 p28 p30 p44 p45 0 0 0 0 0 0 0 0 0 0 0 0))]) (wr := []) (As := [.int 1, .int 1]) (rest := []) K G (m_X12_isThrown1 l hl0 g m0 r p0 p1 p9 p10 p18 p27 p28 p30 p44 p45 0 0 0 0 0 0 0 0 0 0 0 0 1 ) hP hD hS hA hl kw_319 kw_320 kw_321 kw_322 kw_307 ydX12_isThrown [0] [] rfl rfl rfl rfl (by decide) (ci := 16) (q0 := 0) rfl rfl rfl rfl rfl (Nat.le_of_ble_eq_true rfl) dX12_setTide_27 ⟨Nat.le_of_ble_eq_true rfl, Nat.le_of_ble_eq_true rfl⟩ ⟨Nat.le_of_ble_eq_true rfl, Nat.le_of_ble_eq_true rfl⟩ (fun _ _ _ _ _ _ hX _ _ _ _ _ _ => hX.elim) (fun v w1 H locs hQ hP hD hS => ?_)
      obtain ⟨rfl, rfl⟩ := hQ
      have hP : va_P g.1 vwCl [(m0, .inr (16, mO r p0 p1 p9 p10 p18 p27 p28 p30 p44 p45 0 0 0 0 0 0 0 0 0 0 0 1))] H := hP
      have hD : va_D A [(m0, .inr (16, mO r p0 p1 p9 p10 p18 p27 p28 p30 p44 p45 0 0 0 0 0 0 0 0 0 0 0 1))] := hD
      refine W.widen (k := 0) (n := 0) (by decide) (by decide) ?_
      refine W.eq (g2 := F0 m 30 ls [.int 1]) rfl ?_
      refine lv_if_eq (tgt := 35) hx hb dX12_setTide_30 (by decide) (fun c30_13 => absurd c30_13 (by decide)) (fun _ => ?_)
      refine lv_iconst (v := 0) hx hb dX12_setTide_33 (by decide) ?_
      exact kretI K hP hD hS [0] [(m0, .inr (16, mO r p0 p1 p9 p10 p18 p27 p28 p30 p44 p45 0 0 0 0 0 0 0 0 0 0 0 1))] rfl rfl (Or.inr (⟨0, 0, 0, 0, 0, 0, 0, 0, 0, 0, 0, rfl, rfl, (by simp [f_2, f_7])⟩)) (by decide) (by decide) dX12_setTide_34
  · have hP : va_P g.1 vwCl [(m0, .inr (16, mO r p0 p1 p9 p10 p18 p27 p28 p30 p44 p45 0 0 0 0 0 0 0 0 0 0 0 0))] H := hP
    have hD : va_D A [(m0, .inr (16, mO r p0 p1 p9 p10 p18 p27 p28 p30 p44 p45 0 0 0 0 0 0 0 0 0 0 0 0))] := hD
    refine W.widen (k := 0) (n := 0) (by decide) (by decide) ?_
    refine W.eq (g2 := F0 m 8 ls [.int 0, .ref m0]) rfl ?_
    refine lv_if_eq (tgt := 21) hx hb dX12_setTide_8 (by decide) (fun _ => ?_) (fun c8_14 => absurd c8_14 (by decide))
    refine lv_iconst (v := 1) hx hb dX12_setTide_21 (by decide) ?_
    refine lv_goto (tgt := 26) hx hb dX12_setTide_22 (by decide) ?_
    refine lv_iconst (v := 1) hx hb dX12_setTide_26 (by decide) ?_
    refine kcallV (wc := [(m0, .inr (16, mO r p0 p1 p9 p10 p18 p27 p28 p30 p44 p45 0 0 0 0 0 0 0 0 0 0 0 0))]) (wr := []) (As := [.int 1, .int 1]) (rest := []) K G (m_X12_isThrown1 l hl0 g m0 r p0 p1 p9 p10 p18 p27 p28 p30 p44 p45 0 0 0 0 0 0 0 0 0 0 0 0 1 ) hP hD hS hA hl kw_319 kw_320 kw_321 kw_322 kw_307 ydX12_isThrown [0] [] rfl rfl rfl rfl (by decide) (ci := 16) (q0 := 0) rfl rfl rfl rfl rfl (Nat.le_of_ble_eq_true rfl) dX12_setTide_27 ⟨Nat.le_of_ble_eq_true rfl, Nat.le_of_ble_eq_true rfl⟩ ⟨Nat.le_of_ble_eq_true rfl, Nat.le_of_ble_eq_true rfl⟩ (fun _ _ _ _ _ _ hX _ _ _ _ _ _ => hX.elim) (fun v w1 H locs hQ hP hD hS => ?_)
    obtain ⟨rfl, rfl⟩ := hQ
    have hP : va_P g.1 vwCl [(m0, .inr (16, mO r p0 p1 p9 p10 p18 p27 p28 p30 p44 p45 0 0 0 0 0 0 0 0 0 0 0 1))] H := hP
    have hD : va_D A [(m0, .inr (16, mO r p0 p1 p9 p10 p18 p27 p28 p30 p44 p45 0 0 0 0 0 0 0 0 0 0 0 1))] := hD
    refine W.widen (k := 0) (n := 0) (by decide) (by decide) ?_
    refine W.eq (g2 := F0 m 30 ls [.int 1]) rfl ?_
    refine lv_if_eq (tgt := 35) hx hb dX12_setTide_30 (by decide) (fun c30_16 => absurd c30_16 (by decide)) (fun _ => ?_)
    refine lv_iconst (v := 0) hx hb dX12_setTide_33 (by decide) ?_
    exact kretI K hP hD hS [0] [(m0, .inr (16, mO r p0 p1 p9 p10 p18 p27 p28 p30 p44 p45 0 0 0 0 0 0 0 0 0 0 0 1))] rfl rfl (Or.inr (⟨0, 0, 0, 0, 0, 0, 0, 0, 0, 0, 0, rfl, rfl, (by simp [f_3])⟩)) (by decide) (by decide) dX12_setTide_34

