set_option maxHeartbeats 4000000 in
set_option maxRecDepth 100000 in
theorem m_X12_addShip (l : Launch) (hl0 : l.stackTraces = false) (g : kG) (m0 : Nat) (r : Nat → Nat) (p0 : Nat) (p1 : Nat) (p9 : Nat) (p10 : Nat) (p18 : Nat) (p27 : Nat) (p28 : Nat) (p30 : Nat) (p44 : Nat) (p45 : Nat) (f0 : Nat → Option Nat) (z0 : Nat) (f9 : Nat → Option Nat) (z9 : Nat) (f10 : Nat → Option Nat) (z10 : Nat) (f27 : Nat → Option Nat) (z27 : Nat) (f45 : Nat → Option Nat) (z45 : Nat) (x0 : Int32) (x1 : Int32)  : kc l g yX12_addShip prog_14_method_19_code 4 (some .int) 2 43 1 2 [.ref m0, .int x0, .int x1] [(m0, .inr (16, mO r p0 p1 p9 p10 p18 p27 p28 p30 p44 p45 0 0 0 0 0 0 0 0 0 0 0 0)), (p9, .inl ((g.2.2.1 5), 4, .inr (.inr (.inr (.inr (va_up f9 0 (some z9))))))), (z9, .inl ((g.2.2.1 0), 2, .inl (fun _ => 0))), (p10, .inl ((g.2.2.1 5), 4, .inr (.inr (.inr (.inr (va_up f10 0 (some z10))))))), (p18, .inl ((g.2.2.1 0), 4, .inl (fun _ => 0))), (p27, .inl ((g.2.2.1 5), 4, .inr (.inr (.inr (.inr (va_up f27 0 (some z27))))))), (z27, .inl ((g.2.2.1 0), 24, .inl (fun _ => 0))), (p28, .inl ((g.2.2.1 0), 4, .inl (fun _ => 0))), (p30, .inl ((g.2.2.1 0), 4, .inl (fun _ => 0)))] (fun v w => (∃ j0 : Int32, ∃ j1 : Int32, ∃ j2 : Int32, ∃ j3 : Int32, ∃ j4 : Int32, ∃ j5 : Int32, ∃ j6 : Int32, ∃ j7 : Int32, ∃ j8 : Int32, ∃ j9 : Int32, ∃ j10 : Int32, v = some (.int 0) ∧ w = [(m0, .inr (16, mO r p0 p1 p9 p10 p18 p27 p28 p30 p44 p45 j0 j1 j2 j3 j4 j5 j6 j7 j8 j9 j10 0))] ∧ (inR x0 (-999) 999 && inR x1 (-999) 999) = true) ∨ (∃ j0 : Int32, ∃ j1 : Int32, ∃ j2 : Int32, ∃ j3 : Int32, ∃ j4 : Int32, ∃ j5 : Int32, ∃ j6 : Int32, ∃ j7 : Int32, ∃ j8 : Int32, ∃ j9 : Int32, ∃ j10 : Int32, v = some (.int 0) ∧ w = [(m0, .inr (16, mO r p0 p1 p9 p10 p18 p27 p28 p30 p44 p45 j0 j1 j2 j3 j4 j5 j6 j7 j8 j9 j10 1))] ∧ (inR x0 (-999) 999 && inR x1 (-999) 999) = false)) (fun _ _ => False) := by
  refine kbody (by decide) (Nat.le_of_ble_eq_true rfl) ?_
  intro p e s m args below meth c A H K ht G hP hD hA hS ls hl
  have K : KB p s m meth c RX12 "addShip" prog_14_method_19_code 4 (some .int) := K
  obtain ⟨hx, hb, hml, hown, hlocks, hr, hin⟩ := id K
  have hl : lv_has ls 4 [(0, .ref m0), (1, .int x0), (2, .int x1)] := hl
  refine lv_aload_n hx hb dX12_addShip_0 rfl (lv_at hl 0 rfl) ?_
  refine lv_iload_n hx hb dX12_addShip_1 rfl (lv_at hl 1 rfl) ?_
  refine lv_iload_n hx hb dX12_addShip_2 rfl (lv_at hl 2 rfl) ?_
  refine kcallS (wc := []) (wr := [(m0, .inr (16, mO r p0 p1 p9 p10 p18 p27 p28 p30 p44 p45 0 0 0 0 0 0 0 0 0 0 0 0)), (p9, .inl ((g.2.2.1 5), 4, .inr (.inr (.inr (.inr (va_up f9 0 (some z9))))))), (z9, .inl ((g.2.2.1 0), 2, .inl (fun _ => 0))), (p10, .inl ((g.2.2.1 5), 4, .inr (.inr (.inr (.inr (va_up f10 0 (some z10))))))), (p18, .inl ((g.2.2.1 0), 4, .inl (fun _ => 0))), (p27, .inl ((g.2.2.1 5), 4, .inr (.inr (.inr (.inr (va_up f27 0 (some z27))))))), (z27, .inl ((g.2.2.1 0), 24, .inl (fun _ => 0))), (p28, .inl ((g.2.2.1 0), 4, .inl (fun _ => 0))), (p30, .inl ((g.2.2.1 0), 4, .inl (fun _ => 0)))]) (As := [.int x0, .int x1]) (rest := [.ref m0]) K G (m_X12_isPlace l hl0 g x0 x1 ) hP hD hS hA hl kw_339 kw_340 kw_341 kw_307 ydX12_isPlace [] [0, 1, 2, 3, 4, 5, 6, 7, 8] rfl rfl rfl rfl (by decide) rfl rfl (Nat.le_of_ble_eq_true rfl) dX12_addShip_3 ⟨Nat.le_of_ble_eq_true rfl, Nat.le_of_ble_eq_true rfl⟩ ⟨Nat.le_of_ble_eq_true rfl, Nat.le_of_ble_eq_true rfl⟩ (fun _ _ _ _ _ _ hX _ _ _ _ _ _ => hX.elim) (fun v w1 H locs hQ hP hD hS => ?_)
  rcases hQ with ⟨rfl, rfl, f_2⟩ | ⟨rfl, rfl, f_3⟩
  · have hP : va_P g.1 vwCl [(m0, .inr (16, mO r p0 p1 p9 p10 p18 p27 p28 p30 p44 p45 0 0 0 0 0 0 0 0 0 0 0 0)), (p9, .inl ((g.2.2.1 5), 4, .inr (.inr (.inr (.inr (va_up f9 0 (some z9))))))), (z9, .inl ((g.2.2.1 0), 2, .inl (fun _ => 0))), (p10, .inl ((g.2.2.1 5), 4, .inr (.inr (.inr (.inr (va_up f10 0 (some z10))))))), (p18, .inl ((g.2.2.1 0), 4, .inl (fun _ => 0))), (p27, .inl ((g.2.2.1 5), 4, .inr (.inr (.inr (.inr (va_up f27 0 (some z27))))))), (z27, .inl ((g.2.2.1 0), 24, .inl (fun _ => 0))), (p28, .inl ((g.2.2.1 0), 4, .inl (fun _ => 0))), (p30, .inl ((g.2.2.1 0), 4, .inl (fun _ => 0)))] H := hP
    have hD : va_D A [(m0, .inr (16, mO r p0 p1 p9 p10 p18 p27 p28 p30 p44 p45 0 0 0 0 0 0 0 0 0 0 0 0)), (p9, .inl ((g.2.2.1 5), 4, .inr (.inr (.inr (.inr (va_up f9 0 (some z9))))))), (z9, .inl ((g.2.2.1 0), 2, .inl (fun _ => 0))), (p10, .inl ((g.2.2.1 5), 4, .inr (.inr (.inr (.inr (va_up f10 0 (some z10))))))), (p18, .inl ((g.2.2.1 0), 4, .inl (fun _ => 0))), (p27, .inl ((g.2.2.1 5), 4, .inr (.inr (.inr (.inr (va_up f27 0 (some z27))))))), (z27, .inl ((g.2.2.1 0), 24, .inl (fun _ => 0))), (p28, .inl ((g.2.2.1 0), 4, .inl (fun _ => 0))), (p30, .inl ((g.2.2.1 0), 4, .inl (fun _ => 0)))] := hD
    refine W.widen (k := 0) (n := 0) (by decide) (by decide) ?_
    refine W.eq (g2 := F0 m 6 ls [.int 1, .ref m0]) rfl ?_
    refine lv_if_ne (tgt := 13) hx hb dX12_addShip_6 (by decide) (fun _ => ?_) (fun c6_4 => absurd c6_4 (by decide))
    refine lv_iconst (v := 0) hx hb dX12_addShip_13 (by decide) ?_
    refine lv_iconst (v := 1) hx hb dX12_addShip_14 (by decide) ?_
    refine kcallV (wc := [(m0, .inr (16, mO r p0 p1 p9 p10 p18 p27 p28 p30 p44 p45 0 0 0 0 0 0 0 0 0 0 0 0))]) (wr := [(p9, .inl ((g.2.2.1 5), 4, .inr (.inr (.inr (.inr (va_up f9 0 (some z9))))))), (z9, .inl ((g.2.2.1 0), 2, .inl (fun _ => 0))), (p10, .inl ((g.2.2.1 5), 4, .inr (.inr (.inr (.inr (va_up f10 0 (some z10))))))), (p18, .inl ((g.2.2.1 0), 4, .inl (fun _ => 0))), (p27, .inl ((g.2.2.1 5), 4, .inr (.inr (.inr (.inr (va_up f27 0 (some z27))))))), (z27, .inl ((g.2.2.1 0), 24, .inl (fun _ => 0))), (p28, .inl ((g.2.2.1 0), 4, .inl (fun _ => 0))), (p30, .inl ((g.2.2.1 0), 4, .inl (fun _ => 0)))]) (As := [.int 0, .int 1]) (rest := []) K G (m_X12_isThrown0 l hl0 g m0 r p0 p1 p9 p10 p18 p27 p28 p30 p44 p45 0 0 0 0 0 0 0 0 0 0 0 0 1 ) hP hD hS hA hl kw_319 kw_320 kw_321 kw_322 kw_307 ydX12_isThrown [0] [1, 2, 3, 4, 5, 6, 7, 8] rfl rfl rfl rfl (by decide) (ci := 16) (q0 := 0) rfl rfl rfl rfl rfl (Nat.le_of_ble_eq_true rfl) dX12_addShip_15 ⟨Nat.le_of_ble_eq_true rfl, Nat.le_of_ble_eq_true rfl⟩ ⟨Nat.le_of_ble_eq_true rfl, Nat.le_of_ble_eq_true rfl⟩ (fun _ _ _ _ _ _ hX _ _ _ _ _ _ => hX.elim) (fun v w1 H locs hQ hP hD hS => ?_)
    obtain ⟨rfl, rfl⟩ := hQ
    have hP : va_P g.1 vwCl [(p9, .inl ((g.2.2.1 5), 4, .inr (.inr (.inr (.inr (va_up f9 0 (some z9))))))), (z9, .inl ((g.2.2.1 0), 2, .inl (fun _ => 0))), (p10, .inl ((g.2.2.1 5), 4, .inr (.inr (.inr (.inr (va_up f10 0 (some z10))))))), (p18, .inl ((g.2.2.1 0), 4, .inl (fun _ => 0))), (p27, .inl ((g.2.2.1 5), 4, .inr (.inr (.inr (.inr (va_up f27 0 (some z27))))))), (z27, .inl ((g.2.2.1 0), 24, .inl (fun _ => 0))), (p28, .inl ((g.2.2.1 0), 4, .inl (fun _ => 0))), (p30, .inl ((g.2.2.1 0), 4, .inl (fun _ => 0))), (m0, .inr (16, mO r p0 p1 p9 p10 p18 p27 p28 p30 p44 p45 0 0 0 0 0 0 0 0 0 0 0 0))] H := hP
    have hD : va_D A [(p9, .inl ((g.2.2.1 5), 4, .inr (.inr (.inr (.inr (va_up f9 0 (some z9))))))), (z9, .inl ((g.2.2.1 0), 2, .inl (fun _ => 0))), (p10, .inl ((g.2.2.1 5), 4, .inr (.inr (.inr (.inr (va_up f10 0 (some z10))))))), (p18, .inl ((g.2.2.1 0), 4, .inl (fun _ => 0))), (p27, .inl ((g.2.2.1 5), 4, .inr (.inr (.inr (.inr (va_up f27 0 (some z27))))))), (z27, .inl ((g.2.2.1 0), 24, .inl (fun _ => 0))), (p28, .inl ((g.2.2.1 0), 4, .inl (fun _ => 0))), (p30, .inl ((g.2.2.1 0), 4, .inl (fun _ => 0))), (m0, .inr (16, mO r p0 p1 p9 p10 p18 p27 p28 p30 p44 p45 0 0 0 0 0 0 0 0 0 0 0 0))] := hD
    refine W.widen (k := 0) (n := 0) (by decide) (by decide) ?_
    refine W.eq (g2 := F0 m 18 ls [.int 0]) rfl ?_
    refine lv_if_ne (tgt := 42) hx hb dX12_addShip_18 (by decide) (fun c18_6 => absurd c18_6 (by decide)) (fun _ => ?_)
    refine lv_aload_n hx hb dX12_addShip_21 rfl (lv_at hl 0 rfl) ?_
    refine lv_aload_n hx hb dX12_addShip_22 rfl (lv_at hl 0 rfl) ?_
    refine va_get (D := g.1) (ci := 16) (v := .int 0) (C := RX12) (T := TX12) (N := 59) hx hb G.ws inX12 hown G.K hP 8 rfl rfl 48 (by decide) (G.w kw_311) (fun _ h9 => h9) rfl dX12_addShip_23 ?_
    refine lv_iconst (v := 4) hx hb dX12_addShip_26 (by decide) ?_
    refine lv_icmp_ne (tgt := 34) hx hb dX12_addShip_27 (by decide) (fun _ => ?_) (fun c27_7 => absurd c27_7 (by decide))
    refine lv_iconst (v := 0) hx hb dX12_addShip_34 (by decide) ?_
    refine lv_iconst (v := 2) hx hb dX12_addShip_35 (by decide) ?_
    refine kcallV (wc := [(m0, .inr (16, mO r p0 p1 p9 p10 p18 p27 p28 p30 p44 p45 0 0 0 0 0 0 0 0 0 0 0 0))]) (wr := [(p9, .inl ((g.2.2.1 5), 4, .inr (.inr (.inr (.inr (va_up f9 0 (some z9))))))), (z9, .inl ((g.2.2.1 0), 2, .inl (fun _ => 0))), (p10, .inl ((g.2.2.1 5), 4, .inr (.inr (.inr (.inr (va_up f10 0 (some z10))))))), (p18, .inl ((g.2.2.1 0), 4, .inl (fun _ => 0))), (p27, .inl ((g.2.2.1 5), 4, .inr (.inr (.inr (.inr (va_up f27 0 (some z27))))))), (z27, .inl ((g.2.2.1 0), 24, .inl (fun _ => 0))), (p28, .inl ((g.2.2.1 0), 4, .inl (fun _ => 0))), (p30, .inl ((g.2.2.1 0), 4, .inl (fun _ => 0)))]) (As := [.int 0, .int 2]) (rest := []) K G (m_X12_isThrown0 l hl0 g m0 r p0 p1 p9 p10 p18 p27 p28 p30 p44 p45 0 0 0 0 0 0 0 0 0 0 0 0 2 ) hP hD hS hA hl kw_319 kw_320 kw_321 kw_322 kw_307 ydX12_isThrown [8] [0, 1, 2, 3, 4, 5, 6, 7] rfl rfl rfl rfl (by decide) (ci := 16) (q0 := 8) rfl rfl rfl rfl rfl (Nat.le_of_ble_eq_true rfl) dX12_addShip_36 ⟨Nat.le_of_ble_eq_true rfl, Nat.le_of_ble_eq_true rfl⟩ ⟨Nat.le_of_ble_eq_true rfl, Nat.le_of_ble_eq_true rfl⟩ (fun _ _ _ _ _ _ hX _ _ _ _ _ _ => hX.elim) (fun v w1 H locs hQ hP hD hS => ?_)
    obtain ⟨rfl, rfl⟩ := hQ
    have hP : va_P g.1 vwCl [(p9, .inl ((g.2.2.1 5), 4, .inr (.inr (.inr (.inr (va_up f9 0 (some z9))))))), (z9, .inl ((g.2.2.1 0), 2, .inl (fun _ => 0))), (p10, .inl ((g.2.2.1 5), 4, .inr (.inr (.inr (.inr (va_up f10 0 (some z10))))))), (p18, .inl ((g.2.2.1 0), 4, .inl (fun _ => 0))), (p27, .inl ((g.2.2.1 5), 4, .inr (.inr (.inr (.inr (va_up f27 0 (some z27))))))), (z27, .inl ((g.2.2.1 0), 24, .inl (fun _ => 0))), (p28, .inl ((g.2.2.1 0), 4, .inl (fun _ => 0))), (p30, .inl ((g.2.2.1 0), 4, .inl (fun _ => 0))), (m0, .inr (16, mO r p0 p1 p9 p10 p18 p27 p28 p30 p44 p45 0 0 0 0 0 0 0 0 0 0 0 0))] H := hP
    have hD : va_D A [(p9, .inl ((g.2.2.1 5), 4, .inr (.inr (.inr (.inr (va_up f9 0 (some z9))))))), (z9, .inl ((g.2.2.1 0), 2, .inl (fun _ => 0))), (p10, .inl ((g.2.2.1 5), 4, .inr (.inr (.inr (.inr (va_up f10 0 (some z10))))))), (p18, .inl ((g.2.2.1 0), 4, .inl (fun _ => 0))), (p27, .inl ((g.2.2.1 5), 4, .inr (.inr (.inr (.inr (va_up f27 0 (some z27))))))), (z27, .inl ((g.2.2.1 0), 24, .inl (fun _ => 0))), (p28, .inl ((g.2.2.1 0), 4, .inl (fun _ => 0))), (p30, .inl ((g.2.2.1 0), 4, .inl (fun _ => 0))), (m0, .inr (16, mO r p0 p1 p9 p10 p18 p27 p28 p30 p44 p45 0 0 0 0 0 0 0 0 0 0 0 0))] := hD
    refine W.widen (k := 0) (n := 0) (by decide) (by decide) ?_
    refine W.eq (g2 := F0 m 39 ls [.int 0]) rfl ?_
    refine lv_if_eq (tgt := 44) hx hb dX12_addShip_39 (by decide) (fun _ => ?_) (fun c39_9 => absurd c39_9 (by decide))
    refine lv_aload_n hx hb dX12_addShip_44 rfl (lv_at hl 0 rfl) ?_
    refine va_get (D := g.1) (ci := 16) (v := .ref p9) (C := RX12) (T := TX12) (N := 59) hx hb G.ws inX12 hown G.K hP 8 rfl rfl 9 (by decide) (G.w kw_353) (fun _ h9 => h9) rfl dX12_addShip_45 ?_
    refine lv_aload_n hx hb dX12_addShip_48 rfl (lv_at hl 0 rfl) ?_
    refine va_get (D := g.1) (ci := 16) (v := .int 0) (C := RX12) (T := TX12) (N := 59) hx hb G.ws inX12 hown G.K hP 8 rfl rfl 48 (by decide) (G.w kw_311) (fun _ h9 => h9) rfl dX12_addShip_49 ?_
    refine kaald (q0 := 0) (v := z9) hx hb G hP rfl (i := 0) (vp_in_iff.mpr ⟨by decide, by decide⟩) rfl dX12_addShip_52 ?_
    refine lv_iconst (v := 0) hx hb dX12_addShip_53 (by decide) ?_
    refine lv_iload_n hx hb dX12_addShip_54 rfl (lv_at hl 1 rfl) ?_
    refine va_iast hx hb G.K hP hD hS 1 0 rfl rfl (i := 0) (vp_in_iff.mpr ⟨by decide, by decide⟩) dX12_addShip_55 (fun H locs hP hD hS => ?_)
    have hP : va_P g.1 vwCl [(p9, .inl ((g.2.2.1 5), 4, .inr (.inr (.inr (.inr (va_up f9 0 (some z9))))))), (z9, .inl ((g.2.2.1 0), 2, .inl (upd (fun _ => 0) 0 x0))), (p10, .inl ((g.2.2.1 5), 4, .inr (.inr (.inr (.inr (va_up f10 0 (some z10))))))), (p18, .inl ((g.2.2.1 0), 4, .inl (fun _ => 0))), (p27, .inl ((g.2.2.1 5), 4, .inr (.inr (.inr (.inr (va_up f27 0 (some z27))))))), (z27, .inl ((g.2.2.1 0), 24, .inl (fun _ => 0))), (p28, .inl ((g.2.2.1 0), 4, .inl (fun _ => 0))), (p30, .inl ((g.2.2.1 0), 4, .inl (fun _ => 0))), (m0, .inr (16, mO r p0 p1 p9 p10 p18 p27 p28 p30 p44 p45 0 0 0 0 0 0 0 0 0 0 0 0))] H := hP
    have hD : va_D A [(p9, .inl ((g.2.2.1 5), 4, .inr (.inr (.inr (.inr (va_up f9 0 (some z9))))))), (z9, .inl ((g.2.2.1 0), 2, .inl (upd (fun _ => 0) 0 x0))), (p10, .inl ((g.2.2.1 5), 4, .inr (.inr (.inr (.inr (va_up f10 0 (some z10))))))), (p18, .inl ((g.2.2.1 0), 4, .inl (fun _ => 0))), (p27, .inl ((g.2.2.1 5), 4, .inr (.inr (.inr (.inr (va_up f27 0 (some z27))))))), (z27, .inl ((g.2.2.1 0), 24, .inl (fun _ => 0))), (p28, .inl ((g.2.2.1 0), 4, .inl (fun _ => 0))), (p30, .inl ((g.2.2.1 0), 4, .inl (fun _ => 0))), (m0, .inr (16, mO r p0 p1 p9 p10 p18 p27 p28 p30 p44 p45 0 0 0 0 0 0 0 0 0 0 0 0))] := hD
    refine lv_aload_n hx hb dX12_addShip_56 rfl (lv_at hl 0 rfl) ?_
    refine va_get (D := g.1) (ci := 16) (v := .ref p9) (C := RX12) (T := TX12) (N := 59) hx hb G.ws inX12 hown G.K hP 8 rfl rfl 9 (by decide) (G.w kw_353) (fun _ h9 => h9) rfl dX12_addShip_57 ?_
    refine lv_aload_n hx hb dX12_addShip_60 rfl (lv_at hl 0 rfl) ?_
    refine va_get (D := g.1) (ci := 16) (v := .int 0) (C := RX12) (T := TX12) (N := 59) hx hb G.ws inX12 hown G.K hP 8 rfl rfl 48 (by decide) (G.w kw_311) (fun _ h9 => h9) rfl dX12_addShip_61 ?_
    refine kaald (q0 := 0) (v := z9) hx hb G hP rfl (i := 0) (vp_in_iff.mpr ⟨by decide, by decide⟩) rfl dX12_addShip_64 ?_
    refine lv_iconst (v := 1) hx hb dX12_addShip_65 (by decide) ?_
    refine lv_iload_n hx hb dX12_addShip_66 rfl (lv_at hl 2 rfl) ?_
    refine va_iast hx hb G.K hP hD hS 1 0 rfl rfl (i := 1) (vp_in_iff.mpr ⟨by decide, by decide⟩) dX12_addShip_67 (fun H locs hP hD hS => ?_)
    have hP : va_P g.1 vwCl [(p9, .inl ((g.2.2.1 5), 4, .inr (.inr (.inr (.inr (va_up f9 0 (some z9))))))), (z9, .inl ((g.2.2.1 0), 2, .inl (upd (upd (fun _ => 0) 0 x0) 1 x1))), (p10, .inl ((g.2.2.1 5), 4, .inr (.inr (.inr (.inr (va_up f10 0 (some z10))))))), (p18, .inl ((g.2.2.1 0), 4, .inl (fun _ => 0))), (p27, .inl ((g.2.2.1 5), 4, .inr (.inr (.inr (.inr (va_up f27 0 (some z27))))))), (z27, .inl ((g.2.2.1 0), 24, .inl (fun _ => 0))), (p28, .inl ((g.2.2.1 0), 4, .inl (fun _ => 0))), (p30, .inl ((g.2.2.1 0), 4, .inl (fun _ => 0))), (m0, .inr (16, mO r p0 p1 p9 p10 p18 p27 p28 p30 p44 p45 0 0 0 0 0 0 0 0 0 0 0 0))] H := hP
    have hD : va_D A [(p9, .inl ((g.2.2.1 5), 4, .inr (.inr (.inr (.inr (va_up f9 0 (some z9))))))), (z9, .inl ((g.2.2.1 0), 2, .inl (upd (upd (fun _ => 0) 0 x0) 1 x1))), (p10, .inl ((g.2.2.1 5), 4, .inr (.inr (.inr (.inr (va_up f10 0 (some z10))))))), (p18, .inl ((g.2.2.1 0), 4, .inl (fun _ => 0))), (p27, .inl ((g.2.2.1 5), 4, .inr (.inr (.inr (.inr (va_up f27 0 (some z27))))))), (z27, .inl ((g.2.2.1 0), 24, .inl (fun _ => 0))), (p28, .inl ((g.2.2.1 0), 4, .inl (fun _ => 0))), (p30, .inl ((g.2.2.1 0), 4, .inl (fun _ => 0))), (m0, .inr (16, mO r p0 p1 p9 p10 p18 p27 p28 p30 p44 p45 0 0 0 0 0 0 0 0 0 0 0 0))] := hD
    refine lv_aload_n hx hb dX12_addShip_68 rfl (lv_at hl 0 rfl) ?_
    refine va_get (D := g.1) (ci := 16) (v := .ref p10) (C := RX12) (T := TX12) (N := 59) hx hb G.ws inX12 hown G.K hP 8 rfl rfl 10 (by decide) (G.w kw_354) (fun _ h9 => h9) rfl dX12_addShip_69 ?_
    refine lv_aload_n hx hb dX12_addShip_72 rfl (lv_at hl 0 rfl) ?_
    refine va_get (D := g.1) (ci := 16) (v := .int 0) (C := RX12) (T := TX12) (N := 59) hx hb G.ws inX12 hown G.K hP 8 rfl rfl 48 (by decide) (G.w kw_311) (fun _ h9 => h9) rfl dX12_addShip_73 ?_
    refine lv_aload_n hx hb dX12_addShip_76 rfl (lv_at hl 0 rfl) ?_
    refine va_get (D := g.1) (ci := 16) (v := .ref p9) (C := RX12) (T := TX12) (N := 59) hx hb G.ws inX12 hown G.K hP 8 rfl rfl 9 (by decide) (G.w kw_353) (fun _ h9 => h9) rfl dX12_addShip_77 ?_
    refine lv_aload_n hx hb dX12_addShip_80 rfl (lv_at hl 0 rfl) ?_
    refine va_get (D := g.1) (ci := 16) (v := .int 0) (C := RX12) (T := TX12) (N := 59) hx hb G.ws inX12 hown G.K hP 8 rfl rfl 48 (by decide) (G.w kw_311) (fun _ h9 => h9) rfl dX12_addShip_81 ?_
    refine kaald (q0 := 0) (v := z9) hx hb G hP rfl (i := 0) (vp_in_iff.mpr ⟨by decide, by decide⟩) rfl dX12_addShip_84 ?_
    refine kclone (q0 := 1) hx hb (by rw [hml]; exact hl.1.symm) hown kw_355 kw_356 kw_357 kw_358 kw_359 kw_360 G hP hD hS hA rfl (Nat.le_of_ble_eq_true rfl) (Nat.le_of_ble_eq_true rfl) (by decide) (by decide) dX12_addShip_85 (fun q_10 H hP hD hS => ?_)
    have hP : va_P g.1 vwCl [(p9, .inl ((g.2.2.1 5), 4, .inr (.inr (.inr (.inr (va_up f9 0 (some z9))))))), (z9, .inl ((g.2.2.1 0), 2, .inl (upd (upd (fun _ => 0) 0 x0) 1 x1))), (p10, .inl ((g.2.2.1 5), 4, .inr (.inr (.inr (.inr (va_up f10 0 (some z10))))))), (p18, .inl ((g.2.2.1 0), 4, .inl (fun _ => 0))), (p27, .inl ((g.2.2.1 5), 4, .inr (.inr (.inr (.inr (va_up f27 0 (some z27))))))), (z27, .inl ((g.2.2.1 0), 24, .inl (fun _ => 0))), (p28, .inl ((g.2.2.1 0), 4, .inl (fun _ => 0))), (p30, .inl ((g.2.2.1 0), 4, .inl (fun _ => 0))), (m0, .inr (16, mO r p0 p1 p9 p10 p18 p27 p28 p30 p44 p45 0 0 0 0 0 0 0 0 0 0 0 0)), (q_10, .inl ((g.2.2.1 0), 2, .inl (upd (upd (fun _ => 0) 0 x0) 1 x1)))] H := hP
    have hD : va_D A [(p9, .inl ((g.2.2.1 5), 4, .inr (.inr (.inr (.inr (va_up f9 0 (some z9))))))), (z9, .inl ((g.2.2.1 0), 2, .inl (upd (upd (fun _ => 0) 0 x0) 1 x1))), (p10, .inl ((g.2.2.1 5), 4, .inr (.inr (.inr (.inr (va_up f10 0 (some z10))))))), (p18, .inl ((g.2.2.1 0), 4, .inl (fun _ => 0))), (p27, .inl ((g.2.2.1 5), 4, .inr (.inr (.inr (.inr (va_up f27 0 (some z27))))))), (z27, .inl ((g.2.2.1 0), 24, .inl (fun _ => 0))), (p28, .inl ((g.2.2.1 0), 4, .inl (fun _ => 0))), (p30, .inl ((g.2.2.1 0), 4, .inl (fun _ => 0))), (m0, .inr (16, mO r p0 p1 p9 p10 p18 p27 p28 p30 p44 p45 0 0 0 0 0 0 0 0 0 0 0 0)), (q_10, .inl ((g.2.2.1 0), 2, .inl (upd (upd (fun _ => 0) 0 x0) 1 x1)))] := hD
    refine W.widen (k := 1) (n := 2) (by decide) (by decide) ?_
    refine va_castA hx hb hown (G.w kw_361) hP 9 rfl (kc0 G) dX12_addShip_88 ?_
    refine kaast (q0 := 2) (qk := 9) hx hb G hP hD hS rfl rfl (i := 0) (vp_in_iff.mpr ⟨by decide, by decide⟩) dX12_addShip_91 (fun H locs hP hD hS => ?_)
    have hP : va_P g.1 vwCl [(p9, .inl ((g.2.2.1 5), 4, .inr (.inr (.inr (.inr (va_up f9 0 (some z9))))))), (z9, .inl ((g.2.2.1 0), 2, .inl (upd (upd (fun _ => 0) 0 x0) 1 x1))), (p10, .inl ((g.2.2.1 5), 4, .inr (.inr (.inr (.inr (va_up (va_up f10 0 (some z10)) 0 (some q_10))))))), (p18, .inl ((g.2.2.1 0), 4, .inl (fun _ => 0))), (p27, .inl ((g.2.2.1 5), 4, .inr (.inr (.inr (.inr (va_up f27 0 (some z27))))))), (z27, .inl ((g.2.2.1 0), 24, .inl (fun _ => 0))), (p28, .inl ((g.2.2.1 0), 4, .inl (fun _ => 0))), (p30, .inl ((g.2.2.1 0), 4, .inl (fun _ => 0))), (m0, .inr (16, mO r p0 p1 p9 p10 p18 p27 p28 p30 p44 p45 0 0 0 0 0 0 0 0 0 0 0 0)), (q_10, .inl ((g.2.2.1 0), 2, .inl (upd (upd (fun _ => 0) 0 x0) 1 x1)))] H := hP
    have hD : va_D A [(p9, .inl ((g.2.2.1 5), 4, .inr (.inr (.inr (.inr (va_up f9 0 (some z9))))))), (z9, .inl ((g.2.2.1 0), 2, .inl (upd (upd (fun _ => 0) 0 x0) 1 x1))), (p10, .inl ((g.2.2.1 5), 4, .inr (.inr (.inr (.inr (va_up (va_up f10 0 (some z10)) 0 (some q_10))))))), (p18, .inl ((g.2.2.1 0), 4, .inl (fun _ => 0))), (p27, .inl ((g.2.2.1 5), 4, .inr (.inr (.inr (.inr (va_up f27 0 (some z27))))))), (z27, .inl ((g.2.2.1 0), 24, .inl (fun _ => 0))), (p28, .inl ((g.2.2.1 0), 4, .inl (fun _ => 0))), (p30, .inl ((g.2.2.1 0), 4, .inl (fun _ => 0))), (m0, .inr (16, mO r p0 p1 p9 p10 p18 p27 p28 p30 p44 p45 0 0 0 0 0 0 0 0 0 0 0 0)), (q_10, .inl ((g.2.2.1 0), 2, .inl (upd (upd (fun _ => 0) 0 x0) 1 x1)))] := hD
    refine lv_aload_n hx hb dX12_addShip_92 rfl (lv_at hl 0 rfl) ?_
    refine va_get (D := g.1) (ci := 16) (v := .ref p18) (C := RX12) (T := TX12) (N := 59) hx hb G.ws inX12 hown G.K hP 8 rfl rfl 18 (by decide) (G.w kw_362) (fun _ h9 => h9) rfl dX12_addShip_93 ?_
    refine lv_aload_n hx hb dX12_addShip_96 rfl (lv_at hl 0 rfl) ?_
    refine va_get (D := g.1) (ci := 16) (v := .int 0) (C := RX12) (T := TX12) (N := 59) hx hb G.ws inX12 hown G.K hP 8 rfl rfl 48 (by decide) (G.w kw_311) (fun _ h9 => h9) rfl dX12_addShip_97 ?_
    refine lv_iconst (v := (-1)) hx hb dX12_addShip_100 (by decide) ?_
    refine va_iast hx hb G.K hP hD hS 3 0 rfl rfl (i := 0) (vp_in_iff.mpr ⟨by decide, by decide⟩) dX12_addShip_101 (fun H locs hP hD hS => ?_)
    have hP : va_P g.1 vwCl [(p9, .inl ((g.2.2.1 5), 4, .inr (.inr (.inr (.inr (va_up f9 0 (some z9))))))), (z9, .inl ((g.2.2.1 0), 2, .inl (upd (upd (fun _ => 0) 0 x0) 1 x1))), (p10, .inl ((g.2.2.1 5), 4, .inr (.inr (.inr (.inr (va_up (va_up f10 0 (some z10)) 0 (some q_10))))))), (p18, .inl ((g.2.2.1 0), 4, .inl (upd (fun _ => 0) 0 (-1)))), (p27, .inl ((g.2.2.1 5), 4, .inr (.inr (.inr (.inr (va_up f27 0 (some z27))))))), (z27, .inl ((g.2.2.1 0), 24, .inl (fun _ => 0))), (p28, .inl ((g.2.2.1 0), 4, .inl (fun _ => 0))), (p30, .inl ((g.2.2.1 0), 4, .inl (fun _ => 0))), (m0, .inr (16, mO r p0 p1 p9 p10 p18 p27 p28 p30 p44 p45 0 0 0 0 0 0 0 0 0 0 0 0)), (q_10, .inl ((g.2.2.1 0), 2, .inl (upd (upd (fun _ => 0) 0 x0) 1 x1)))] H := hP
    have hD : va_D A [(p9, .inl ((g.2.2.1 5), 4, .inr (.inr (.inr (.inr (va_up f9 0 (some z9))))))), (z9, .inl ((g.2.2.1 0), 2, .inl (upd (upd (fun _ => 0) 0 x0) 1 x1))), (p10, .inl ((g.2.2.1 5), 4, .inr (.inr (.inr (.inr (va_up (va_up f10 0 (some z10)) 0 (some q_10))))))), (p18, .inl ((g.2.2.1 0), 4, .inl (upd (fun _ => 0) 0 (-1)))), (p27, .inl ((g.2.2.1 5), 4, .inr (.inr (.inr (.inr (va_up f27 0 (some z27))))))), (z27, .inl ((g.2.2.1 0), 24, .inl (fun _ => 0))), (p28, .inl ((g.2.2.1 0), 4, .inl (fun _ => 0))), (p30, .inl ((g.2.2.1 0), 4, .inl (fun _ => 0))), (m0, .inr (16, mO r p0 p1 p9 p10 p18 p27 p28 p30 p44 p45 0 0 0 0 0 0 0 0 0 0 0 0)), (q_10, .inl ((g.2.2.1 0), 2, .inl (upd (upd (fun _ => 0) 0 x0) 1 x1)))] := hD
    refine lv_aload_n hx hb dX12_addShip_102 rfl (lv_at hl 0 rfl) ?_
    refine va_get (D := g.1) (ci := 16) (v := .ref p28) (C := RX12) (T := TX12) (N := 59) hx hb G.ws inX12 hown G.K hP 8 rfl rfl 28 (by decide) (G.w kw_363) (fun _ h9 => h9) rfl dX12_addShip_103 ?_
    refine lv_aload_n hx hb dX12_addShip_106 rfl (lv_at hl 0 rfl) ?_
    refine va_get (D := g.1) (ci := 16) (v := .int 0) (C := RX12) (T := TX12) (N := 59) hx hb G.ws inX12 hown G.K hP 8 rfl rfl 48 (by decide) (G.w kw_311) (fun _ h9 => h9) rfl dX12_addShip_107 ?_
    refine lv_iconst (v := (-1)) hx hb dX12_addShip_110 (by decide) ?_
    refine va_iast hx hb G.K hP hD hS 6 0 rfl rfl (i := 0) (vp_in_iff.mpr ⟨by decide, by decide⟩) dX12_addShip_111 (fun H locs hP hD hS => ?_)
    have hP : va_P g.1 vwCl [(p9, .inl ((g.2.2.1 5), 4, .inr (.inr (.inr (.inr (va_up f9 0 (some z9))))))), (z9, .inl ((g.2.2.1 0), 2, .inl (upd (upd (fun _ => 0) 0 x0) 1 x1))), (p10, .inl ((g.2.2.1 5), 4, .inr (.inr (.inr (.inr (va_up (va_up f10 0 (some z10)) 0 (some q_10))))))), (p18, .inl ((g.2.2.1 0), 4, .inl (upd (fun _ => 0) 0 (-1)))), (p27, .inl ((g.2.2.1 5), 4, .inr (.inr (.inr (.inr (va_up f27 0 (some z27))))))), (z27, .inl ((g.2.2.1 0), 24, .inl (fun _ => 0))), (p28, .inl ((g.2.2.1 0), 4, .inl (upd (fun _ => 0) 0 (-1)))), (p30, .inl ((g.2.2.1 0), 4, .inl (fun _ => 0))), (m0, .inr (16, mO r p0 p1 p9 p10 p18 p27 p28 p30 p44 p45 0 0 0 0 0 0 0 0 0 0 0 0)), (q_10, .inl ((g.2.2.1 0), 2, .inl (upd (upd (fun _ => 0) 0 x0) 1 x1)))] H := hP
    have hD : va_D A [(p9, .inl ((g.2.2.1 5), 4, .inr (.inr (.inr (.inr (va_up f9 0 (some z9))))))), (z9, .inl ((g.2.2.1 0), 2, .inl (upd (upd (fun _ => 0) 0 x0) 1 x1))), (p10, .inl ((g.2.2.1 5), 4, .inr (.inr (.inr (.inr (va_up (va_up f10 0 (some z10)) 0 (some q_10))))))), (p18, .inl ((g.2.2.1 0), 4, .inl (upd (fun _ => 0) 0 (-1)))), (p27, .inl ((g.2.2.1 5), 4, .inr (.inr (.inr (.inr (va_up f27 0 (some z27))))))), (z27, .inl ((g.2.2.1 0), 24, .inl (fun _ => 0))), (p28, .inl ((g.2.2.1 0), 4, .inl (upd (fun _ => 0) 0 (-1)))), (p30, .inl ((g.2.2.1 0), 4, .inl (fun _ => 0))), (m0, .inr (16, mO r p0 p1 p9 p10 p18 p27 p28 p30 p44 p45 0 0 0 0 0 0 0 0 0 0 0 0)), (q_10, .inl ((g.2.2.1 0), 2, .inl (upd (upd (fun _ => 0) 0 x0) 1 x1)))] := hD
    refine lv_aload_n hx hb dX12_addShip_112 rfl (lv_at hl 0 rfl) ?_
    refine va_get (D := g.1) (ci := 16) (v := .ref p30) (C := RX12) (T := TX12) (N := 59) hx hb G.ws inX12 hown G.K hP 8 rfl rfl 30 (by decide) (G.w kw_364) (fun _ h9 => h9) rfl dX12_addShip_113 ?_
    refine lv_aload_n hx hb dX12_addShip_116 rfl (lv_at hl 0 rfl) ?_
    refine va_get (D := g.1) (ci := 16) (v := .int 0) (C := RX12) (T := TX12) (N := 59) hx hb G.ws inX12 hown G.K hP 8 rfl rfl 48 (by decide) (G.w kw_311) (fun _ h9 => h9) rfl dX12_addShip_117 ?_
    refine lv_iconst (v := (-1)) hx hb dX12_addShip_120 (by decide) ?_
    refine va_iast hx hb G.K hP hD hS 7 0 rfl rfl (i := 0) (vp_in_iff.mpr ⟨by decide, by decide⟩) dX12_addShip_121 (fun H locs hP hD hS => ?_)
    have hP : va_P g.1 vwCl [(p9, .inl ((g.2.2.1 5), 4, .inr (.inr (.inr (.inr (va_up f9 0 (some z9))))))), (z9, .inl ((g.2.2.1 0), 2, .inl (upd (upd (fun _ => 0) 0 x0) 1 x1))), (p10, .inl ((g.2.2.1 5), 4, .inr (.inr (.inr (.inr (va_up (va_up f10 0 (some z10)) 0 (some q_10))))))), (p18, .inl ((g.2.2.1 0), 4, .inl (upd (fun _ => 0) 0 (-1)))), (p27, .inl ((g.2.2.1 5), 4, .inr (.inr (.inr (.inr (va_up f27 0 (some z27))))))), (z27, .inl ((g.2.2.1 0), 24, .inl (fun _ => 0))), (p28, .inl ((g.2.2.1 0), 4, .inl (upd (fun _ => 0) 0 (-1)))), (p30, .inl ((g.2.2.1 0), 4, .inl (upd (fun _ => 0) 0 (-1)))), (m0, .inr (16, mO r p0 p1 p9 p10 p18 p27 p28 p30 p44 p45 0 0 0 0 0 0 0 0 0 0 0 0)), (q_10, .inl ((g.2.2.1 0), 2, .inl (upd (upd (fun _ => 0) 0 x0) 1 x1)))] H := hP
    have hD : va_D A [(p9, .inl ((g.2.2.1 5), 4, .inr (.inr (.inr (.inr (va_up f9 0 (some z9))))))), (z9, .inl ((g.2.2.1 0), 2, .inl (upd (upd (fun _ => 0) 0 x0) 1 x1))), (p10, .inl ((g.2.2.1 5), 4, .inr (.inr (.inr (.inr (va_up (va_up f10 0 (some z10)) 0 (some q_10))))))), (p18, .inl ((g.2.2.1 0), 4, .inl (upd (fun _ => 0) 0 (-1)))), (p27, .inl ((g.2.2.1 5), 4, .inr (.inr (.inr (.inr (va_up f27 0 (some z27))))))), (z27, .inl ((g.2.2.1 0), 24, .inl (fun _ => 0))), (p28, .inl ((g.2.2.1 0), 4, .inl (upd (fun _ => 0) 0 (-1)))), (p30, .inl ((g.2.2.1 0), 4, .inl (upd (fun _ => 0) 0 (-1)))), (m0, .inr (16, mO r p0 p1 p9 p10 p18 p27 p28 p30 p44 p45 0 0 0 0 0 0 0 0 0 0 0 0)), (q_10, .inl ((g.2.2.1 0), 2, .inl (upd (upd (fun _ => 0) 0 x0) 1 x1)))] := hD
    refine lv_iconst (v := 0) hx hb dX12_addShip_122 (by decide) ?_
    refine lv_istore_n (lv' := [(3, .int 0), (0, .ref m0), (1, .int x0), (2, .int x1)]) hx hb dX12_addShip_123 rfl hl (by decide) rfl (fun ls hl => ?_)
    suffices KL : ∀ (k i : Nat), k + i = 24 → ∀ (f : Nat → Int32) (H : Heap) (locs : List Loc), va_P g.1 vwCl [(p27, .inl ((g.2.2.1 5), 4, .inr (.inr (.inr (.inr (va_up f27 0 (some z27))))))), (z27, .inl ((g.2.2.1 0), 24, .inl f)), (m0, .inr (16, mO r p0 p1 p9 p10 p18 p27 p28 p30 p44 p45 0 0 0 0 0 0 0 0 0 0 0 0))] H → va_D A [(p27, .inl ((g.2.2.1 5), 4, .inr (.inr (.inr (.inr (va_up f27 0 (some z27))))))), (z27, .inl ((g.2.2.1 0), 24, .inl f)), (m0, .inr (16, mO r p0 p1 p9 p10 p18 p27 p28 p30 p44 p45 0 0 0 0 0 0 0 0 0 0 0 0))] → va_S A s.heap H locs → ∀ ls : Array Slot, lv_has ls 4 [(0, .ref m0), (3, .int (nI i))] → W p l e (kR 2 43 1 2) s m args below meth c H locs 1 2 (vx_MQ below (kQ g (fun v w => (∃ j0 : Int32, ∃ j1 : Int32, ∃ j2 : Int32, ∃ j3 : Int32, ∃ j4 : Int32, ∃ j5 : Int32, ∃ j6 : Int32, ∃ j7 : Int32, ∃ j8 : Int32, ∃ j9 : Int32, ∃ j10 : Int32, v = some (.int 0) ∧ w = [(m0, .inr (16, mO r p0 p1 p9 p10 p18 p27 p28 p30 p44 p45 j0 j1 j2 j3 j4 j5 j6 j7 j8 j9 j10 0))] ∧ (inR x0 (-999) 999 && inR x1 (-999) 999) = true) ∨ (∃ j0 : Int32, ∃ j1 : Int32, ∃ j2 : Int32, ∃ j3 : Int32, ∃ j4 : Int32, ∃ j5 : Int32, ∃ j6 : Int32, ∃ j7 : Int32, ∃ j8 : Int32, ∃ j9 : Int32, ∃ j10 : Int32, v = some (.int 0) ∧ w = [(m0, .inr (16, mO r p0 p1 p9 p10 p18 p27 p28 p30 p44 p45 j0 j1 j2 j3 j4 j5 j6 j7 j8 j9 j10 1))] ∧ (inR x0 (-999) 999 && inR x1 (-999) 999) = false)) A) (kX g (fun _ _ => False) A) args s 1 2 A) (F0 m 124 ls []) from KL 24 0 rfl (fun _ => 0) _ _ (ksubP hP [4, 5, 8] rfl) (hD.sub [4, 5, 8] rfl rfl) hS _ (lv_sub hl [1, 0] rfl)
    clear hP hD hS hl
    intro k
    induction k with
    | zero =>
      intro i hi f H locs hP hD hS ls hl
      have ei : i = 24 := by omega
      try rw [ei] at hP
      try rw [ei] at hD
      rw [ei] at hl
      have hP : va_P g.1 vwCl [(p27, .inl ((g.2.2.1 5), 4, .inr (.inr (.inr (.inr (va_up f27 0 (some z27))))))), (z27, .inl ((g.2.2.1 0), 24, .inl f)), (m0, .inr (16, mO r p0 p1 p9 p10 p18 p27 p28 p30 p44 p45 0 0 0 0 0 0 0 0 0 0 0 0))] H := hP
      have hD : va_D A [(p27, .inl ((g.2.2.1 5), 4, .inr (.inr (.inr (.inr (va_up f27 0 (some z27))))))), (z27, .inl ((g.2.2.1 0), 24, .inl f)), (m0, .inr (16, mO r p0 p1 p9 p10 p18 p27 p28 p30 p44 p45 0 0 0 0 0 0 0 0 0 0 0 0))] := hD
      have hl : lv_has ls 4 [(0, .ref m0), (3, .int (nI 24))] := hl
      refine lv_iload_n hx hb dX12_addShip_124 rfl (lv_at hl 1 rfl) ?_
      refine lv_bipush (v := 24) hx hb dX12_addShip_125 (by decide) ?_
      refine lv_icmp_ge (tgt := 148) hx hb dX12_addShip_127 (by decide) (fun c127_11 => ?_) (fun c127_11 => ?_)
      · refine lv_aload_n hx hb dX12_addShip_148 rfl (lv_at hl 0 rfl) ?_
        refine lv_dup hx hb dX12_addShip_149 rfl ?_
        refine va_get (D := g.1) (ci := 16) (v := .int 0) (C := RX12) (T := TX12) (N := 59) hx hb G.ws inX12 hown G.K hP 2 rfl rfl 48 (by decide) (G.w kw_311) (fun _ h9 => h9) rfl dX12_addShip_150 ?_
        refine lv_iconst (v := 1) hx hb dX12_addShip_153 (by decide) ?_
        refine lv_iadd hx hb dX12_addShip_154 ?_
        refine lv_topi (fun y_12 ey_12 => ?_)
        obtain rfl : y_12 = 1 := ey_12.trans (by decide)
        refine va_put (D := g.1) (ci := 16) (v := .int 1) (ty := .int) (C := RX12) (T := TX12) (N := 59) hx hb G.ws inX12 tyX12 tyX12_ok nmX12 hown G.K hP hD hS 2 rfl rfl 48 (by decide) (G.w kw_311) (fun _ h9 => h9) (by decide +kernel) (by decide +kernel) rfl rfl (Nat.le_of_ble_eq_true rfl) dX12_addShip_155 (fun H locs hP hD hS => ?_)
        have hP : va_P g.1 vwCl [(p27, .inl ((g.2.2.1 5), 4, .inr (.inr (.inr (.inr (va_up f27 0 (some z27))))))), (z27, .inl ((g.2.2.1 0), 24, .inl f)), (m0, .inr (16, mO r p0 p1 p9 p10 p18 p27 p28 p30 p44 p45 0 1 0 0 0 0 0 0 0 0 0 0))] H := hP
        have hD : va_D A [(p27, .inl ((g.2.2.1 5), 4, .inr (.inr (.inr (.inr (va_up f27 0 (some z27))))))), (z27, .inl ((g.2.2.1 0), 24, .inl f)), (m0, .inr (16, mO r p0 p1 p9 p10 p18 p27 p28 p30 p44 p45 0 1 0 0 0 0 0 0 0 0 0 0))] := hD
        refine lv_aload_n hx hb dX12_addShip_158 rfl (lv_at hl 0 rfl) ?_
        refine va_get (D := g.1) (ci := 16) (v := .int 1) (C := RX12) (T := TX12) (N := 59) hx hb G.ws inX12 hown G.K hP 2 rfl rfl 48 (by decide) (G.w kw_311) (fun _ h9 => h9) rfl dX12_addShip_159 ?_
        refine lv_iconst (v := 1) hx hb dX12_addShip_162 (by decide) ?_
        refine lv_isub hx hb dX12_addShip_163 ?_
        refine lv_topi (fun y_13 ey_13 => ?_)
        obtain rfl : y_13 = 0 := ey_13.trans (by decide)
        exact kretI K hP hD hS [2] [(m0, .inr (16, mO r p0 p1 p9 p10 p18 p27 p28 p30 p44 p45 0 1 0 0 0 0 0 0 0 0 0 0))] rfl rfl (Or.inl ⟨0, 1, 0, 0, 0, 0, 0, 0, 0, 0, 0, rfl, rfl, (by simp [f_2, c127_11])⟩) (by decide) (by decide) dX12_addShip_164
      · exact absurd c127_11 (by exact fun h => h (by decide))
    | succ k ih =>
      intro i hi f H locs hP hD hS ls hl
      refine lv_iload_n hx hb dX12_addShip_124 rfl (lv_at hl 1 rfl) ?_
      refine lv_bipush (v := 24) hx hb dX12_addShip_125 (by decide) ?_
      refine lv_icmp_ge (tgt := 148) hx hb dX12_addShip_127 (by decide) (fun c127_14 => ?_) (fun c127_14 => ?_)
      · exact absurd c127_14 (by exact nI_ge (a := i) (b := 24) (by omega) (by omega))
      · refine lv_aload_n hx hb dX12_addShip_130 rfl (lv_at hl 0 rfl) ?_
        refine va_get (D := g.1) (ci := 16) (v := .ref p27) (C := RX12) (T := TX12) (N := 59) hx hb G.ws inX12 hown G.K hP 2 rfl rfl 27 (by decide) (G.w kw_365) (fun _ h9 => h9) rfl dX12_addShip_131 ?_
        refine lv_aload_n hx hb dX12_addShip_134 rfl (lv_at hl 0 rfl) ?_
        refine va_get (D := g.1) (ci := 16) (v := .int 0) (C := RX12) (T := TX12) (N := 59) hx hb G.ws inX12 hown G.K hP 2 rfl rfl 48 (by decide) (G.w kw_311) (fun _ h9 => h9) rfl dX12_addShip_135 ?_
        refine kaald (q0 := 0) (v := z27) hx hb G hP rfl (i := 0) (vp_in_iff.mpr ⟨by decide, by decide⟩) rfl dX12_addShip_138 ?_
        refine lv_iload_n hx hb dX12_addShip_139 rfl (lv_at hl 1 rfl) ?_
        refine lv_iconst (v := (-1)) hx hb dX12_addShip_140 (by decide) ?_
        refine va_iast hx hb G.K hP hD hS 1 0 rfl rfl (i := nI i) (vp_in_nI (by omega) (by omega)) dX12_addShip_141 (fun H locs hP hD hS => ?_)
        have hP : va_P g.1 vwCl [(p27, .inl ((g.2.2.1 5), 4, .inr (.inr (.inr (.inr (va_up f27 0 (some z27))))))), (z27, .inl ((g.2.2.1 0), 24, .inl (upd f (nI i).toNatClampNeg (-1)))), (m0, .inr (16, mO r p0 p1 p9 p10 p18 p27 p28 p30 p44 p45 0 0 0 0 0 0 0 0 0 0 0 0))] H := hP
        have hD : va_D A [(p27, .inl ((g.2.2.1 5), 4, .inr (.inr (.inr (.inr (va_up f27 0 (some z27))))))), (z27, .inl ((g.2.2.1 0), 24, .inl (upd f (nI i).toNatClampNeg (-1)))), (m0, .inr (16, mO r p0 p1 p9 p10 p18 p27 p28 p30 p44 p45 0 0 0 0 0 0 0 0 0 0 0 0))] := hD
        refine lv_iinc (v := nI (i + 1)) (lv' := [(3, .int (nI (i + 1))), (0, .ref m0)]) hx hb dX12_addShip_142 hl (k := 1) rfl (nI_1 _) (by decide) rfl (fun ls hl => ?_)
        refine lv_goto (tgt := 124) hx hb dX12_addShip_145 (by decide) ?_
        refine ih (i + 1) (by omega) (upd f (nI i).toNatClampNeg (-1)) _ _ ?_ ?_ hS _ ?_
        · exact ksubP hP [0, 1, 2] rfl
        · exact hD.sub [0, 1, 2] rfl rfl
        · exact lv_sub hl [1, 0] rfl
  · have hP : va_P g.1 vwCl [(m0, .inr (16, mO r p0 p1 p9 p10 p18 p27 p28 p30 p44 p45 0 0 0 0 0 0 0 0 0 0 0 0)), (p9, .inl ((g.2.2.1 5), 4, .inr (.inr (.inr (.inr (va_up f9 0 (some z9))))))), (z9, .inl ((g.2.2.1 0), 2, .inl (fun _ => 0))), (p10, .inl ((g.2.2.1 5), 4, .inr (.inr (.inr (.inr (va_up f10 0 (some z10))))))), (p18, .inl ((g.2.2.1 0), 4, .inl (fun _ => 0))), (p27, .inl ((g.2.2.1 5), 4, .inr (.inr (.inr (.inr (va_up f27 0 (some z27))))))), (z27, .inl ((g.2.2.1 0), 24, .inl (fun _ => 0))), (p28, .inl ((g.2.2.1 0), 4, .inl (fun _ => 0))), (p30, .inl ((g.2.2.1 0), 4, .inl (fun _ => 0)))] H := hP
    have hD : va_D A [(m0, .inr (16, mO r p0 p1 p9 p10 p18 p27 p28 p30 p44 p45 0 0 0 0 0 0 0 0 0 0 0 0)), (p9, .inl ((g.2.2.1 5), 4, .inr (.inr (.inr (.inr (va_up f9 0 (some z9))))))), (z9, .inl ((g.2.2.1 0), 2, .inl (fun _ => 0))), (p10, .inl ((g.2.2.1 5), 4, .inr (.inr (.inr (.inr (va_up f10 0 (some z10))))))), (p18, .inl ((g.2.2.1 0), 4, .inl (fun _ => 0))), (p27, .inl ((g.2.2.1 5), 4, .inr (.inr (.inr (.inr (va_up f27 0 (some z27))))))), (z27, .inl ((g.2.2.1 0), 24, .inl (fun _ => 0))), (p28, .inl ((g.2.2.1 0), 4, .inl (fun _ => 0))), (p30, .inl ((g.2.2.1 0), 4, .inl (fun _ => 0)))] := hD
    refine W.widen (k := 0) (n := 0) (by decide) (by decide) ?_
    refine W.eq (g2 := F0 m 6 ls [.int 0, .ref m0]) rfl ?_
    refine lv_if_ne (tgt := 13) hx hb dX12_addShip_6 (by decide) (fun c6_15 => absurd c6_15 (by decide)) (fun _ => ?_)
    refine lv_iconst (v := 1) hx hb dX12_addShip_9 (by decide) ?_
    refine lv_goto (tgt := 14) hx hb dX12_addShip_10 (by decide) ?_
    refine lv_iconst (v := 1) hx hb dX12_addShip_14 (by decide) ?_
    refine kcallV (wc := [(m0, .inr (16, mO r p0 p1 p9 p10 p18 p27 p28 p30 p44 p45 0 0 0 0 0 0 0 0 0 0 0 0))]) (wr := [(p9, .inl ((g.2.2.1 5), 4, .inr (.inr (.inr (.inr (va_up f9 0 (some z9))))))), (z9, .inl ((g.2.2.1 0), 2, .inl (fun _ => 0))), (p10, .inl ((g.2.2.1 5), 4, .inr (.inr (.inr (.inr (va_up f10 0 (some z10))))))), (p18, .inl ((g.2.2.1 0), 4, .inl (fun _ => 0))), (p27, .inl ((g.2.2.1 5), 4, .inr (.inr (.inr (.inr (va_up f27 0 (some z27))))))), (z27, .inl ((g.2.2.1 0), 24, .inl (fun _ => 0))), (p28, .inl ((g.2.2.1 0), 4, .inl (fun _ => 0))), (p30, .inl ((g.2.2.1 0), 4, .inl (fun _ => 0)))]) (As := [.int 1, .int 1]) (rest := []) K G (m_X12_isThrown1 l hl0 g m0 r p0 p1 p9 p10 p18 p27 p28 p30 p44 p45 0 0 0 0 0 0 0 0 0 0 0 0 1 ) hP hD hS hA hl kw_319 kw_320 kw_321 kw_322 kw_307 ydX12_isThrown [0] [1, 2, 3, 4, 5, 6, 7, 8] rfl rfl rfl rfl (by decide) (ci := 16) (q0 := 0) rfl rfl rfl rfl rfl (Nat.le_of_ble_eq_true rfl) dX12_addShip_15 ⟨Nat.le_of_ble_eq_true rfl, Nat.le_of_ble_eq_true rfl⟩ ⟨Nat.le_of_ble_eq_true rfl, Nat.le_of_ble_eq_true rfl⟩ (fun _ _ _ _ _ _ hX _ _ _ _ _ _ => hX.elim) (fun v w1 H locs hQ hP hD hS => ?_)
    obtain ⟨rfl, rfl⟩ := hQ
    have hP : va_P g.1 vwCl [(p9, .inl ((g.2.2.1 5), 4, .inr (.inr (.inr (.inr (va_up f9 0 (some z9))))))), (z9, .inl ((g.2.2.1 0), 2, .inl (fun _ => 0))), (p10, .inl ((g.2.2.1 5), 4, .inr (.inr (.inr (.inr (va_up f10 0 (some z10))))))), (p18, .inl ((g.2.2.1 0), 4, .inl (fun _ => 0))), (p27, .inl ((g.2.2.1 5), 4, .inr (.inr (.inr (.inr (va_up f27 0 (some z27))))))), (z27, .inl ((g.2.2.1 0), 24, .inl (fun _ => 0))), (p28, .inl ((g.2.2.1 0), 4, .inl (fun _ => 0))), (p30, .inl ((g.2.2.1 0), 4, .inl (fun _ => 0))), (m0, .inr (16, mO r p0 p1 p9 p10 p18 p27 p28 p30 p44 p45 0 0 0 0 0 0 0 0 0 0 0 1))] H := hP
    have hD : va_D A [(p9, .inl ((g.2.2.1 5), 4, .inr (.inr (.inr (.inr (va_up f9 0 (some z9))))))), (z9, .inl ((g.2.2.1 0), 2, .inl (fun _ => 0))), (p10, .inl ((g.2.2.1 5), 4, .inr (.inr (.inr (.inr (va_up f10 0 (some z10))))))), (p18, .inl ((g.2.2.1 0), 4, .inl (fun _ => 0))), (p27, .inl ((g.2.2.1 5), 4, .inr (.inr (.inr (.inr (va_up f27 0 (some z27))))))), (z27, .inl ((g.2.2.1 0), 24, .inl (fun _ => 0))), (p28, .inl ((g.2.2.1 0), 4, .inl (fun _ => 0))), (p30, .inl ((g.2.2.1 0), 4, .inl (fun _ => 0))), (m0, .inr (16, mO r p0 p1 p9 p10 p18 p27 p28 p30 p44 p45 0 0 0 0 0 0 0 0 0 0 0 1))] := hD
    refine W.widen (k := 0) (n := 0) (by decide) (by decide) ?_
    refine W.eq (g2 := F0 m 18 ls [.int 1]) rfl ?_
    refine lv_if_ne (tgt := 42) hx hb dX12_addShip_18 (by decide) (fun _ => ?_) (fun c18_17 => absurd c18_17 (by decide))
    refine lv_iconst (v := 0) hx hb dX12_addShip_42 (by decide) ?_
    exact kretI K hP hD hS [8] [(m0, .inr (16, mO r p0 p1 p9 p10 p18 p27 p28 p30 p44 p45 0 0 0 0 0 0 0 0 0 0 0 1))] rfl rfl (Or.inr (⟨0, 0, 0, 0, 0, 0, 0, 0, 0, 0, 0, rfl, rfl, (by simp [f_3])⟩)) (by decide) (by decide) dX12_addShip_43

set_option maxHeartbeats 4000000 in
set_option maxRecDepth 100000 in
theorem m_X12_pass (l : Launch) (hl0 : l.stackTraces = false) (g : kG) (m0 : Nat) (r : Nat → Nat) (p0 : Nat) (p1 : Nat) (p9 : Nat) (p10 : Nat) (p18 : Nat) (p27 : Nat) (p28 : Nat) (p30 : Nat) (p44 : Nat) (p45 : Nat) (x0 : Int32)  : kc l g yX12_pass prog_14_method_51_code 4 (some .int) 1 22 0 0 [.ref m0, .int x0] [(m0, .inr (16, mO r p0 p1 p9 p10 p18 p27 p28 p30 p44 p45 0 0 0 0 0 0 0 0 0 0 0 0))] (fun v w => (∃ j0 : Int32, ∃ j1 : Int32, ∃ j2 : Int32, ∃ j3 : Int32, ∃ j4 : Int32, ∃ j5 : Int32, ∃ j6 : Int32, ∃ j7 : Int32, ∃ j8 : Int32, ∃ j9 : Int32, ∃ j10 : Int32, v = some (.int x0) ∧ w = [(m0, .inr (16, mO r p0 p1 p9 p10 p18 p27 p28 p30 p44 p45 j0 j1 j2 j3 j4 j5 j6 j7 j8 j9 j10 0))] ∧ inR x0 1 96 = true) ∨ (∃ j0 : Int32, ∃ j1 : Int32, ∃ j2 : Int32, ∃ j3 : Int32, ∃ j4 : Int32, ∃ j5 : Int32, ∃ j6 : Int32, ∃ j7 : Int32, ∃ j8 : Int32, ∃ j9 : Int32, ∃ j10 : Int32, v = some (.int 0) ∧ w = [(m0, .inr (16, mO r p0 p1 p9 p10 p18 p27 p28 p30 p44 p45 j0 j1 j2 j3 j4 j5 j6 j7 j8 j9 j10 1))] ∧ inR x0 1 96 = false)) (fun _ _ => False) := by
  refine kbody (by decide) (Nat.le_of_ble_eq_true rfl) ?_
  intro p e s m args below meth c A H K ht G hP hD hA hS ls hl
  have K : KB p s m meth c RX12 "pass" prog_14_method_51_code 4 (some .int) := K
  obtain ⟨hx, hb, hml, hown, hlocks, hr, hin⟩ := id K
  have hl : lv_has ls 4 [(0, .ref m0), (1, .int x0)] := hl
  refine lv_aload_n hx hb dX12_pass_0 rfl (lv_at hl 0 rfl) ?_
  refine lv_iload_n hx hb dX12_pass_1 rfl (lv_at hl 1 rfl) ?_
  refine lv_iconst (v := 1) hx hb dX12_pass_2 (by decide) ?_
  refine lv_bipush (v := 96) hx hb dX12_pass_3 (by decide) ?_
  refine kcallS (wc := []) (wr := [(m0, .inr (16, mO r p0 p1 p9 p10 p18 p27 p28 p30 p44 p45 0 0 0 0 0 0 0 0 0 0 0 0))]) (As := [.int x0, .int 1, .int 96]) (rest := [.ref m0]) K G (m_X12_isIn l hl0 g x0 1 96 ) hP hD hS hA hl kw_305 kw_306 kw_308 kw_307 ydX12_isIn [] [0] rfl rfl rfl rfl (by decide) rfl rfl (Nat.le_of_ble_eq_true rfl) dX12_pass_5 ⟨Nat.le_of_ble_eq_true rfl, Nat.le_of_ble_eq_true rfl⟩ ⟨Nat.le_of_ble_eq_true rfl, Nat.le_of_ble_eq_true rfl⟩ (fun _ _ _ _ _ _ hX _ _ _ _ _ _ => hX.elim) (fun v w1 H locs hQ hP hD hS => ?_)
  rcases hQ with ⟨rfl, rfl, f_2⟩ | ⟨rfl, rfl, f_3⟩
  · have hP : va_P g.1 vwCl [(m0, .inr (16, mO r p0 p1 p9 p10 p18 p27 p28 p30 p44 p45 0 0 0 0 0 0 0 0 0 0 0 0))] H := hP
    have hD : va_D A [(m0, .inr (16, mO r p0 p1 p9 p10 p18 p27 p28 p30 p44 p45 0 0 0 0 0 0 0 0 0 0 0 0))] := hD
    refine W.widen (k := 0) (n := 0) (by decide) (by decide) ?_
    refine W.eq (g2 := F0 m 8 ls [.int 1, .ref m0]) rfl ?_
    refine lv_if_ne (tgt := 15) hx hb dX12_pass_8 (by decide) (fun _ => ?_) (fun c8_4 => absurd c8_4 (by decide))
    refine lv_iconst (v := 0) hx hb dX12_pass_15 (by decide) ?_
    refine lv_iconst (v := 1) hx hb dX12_pass_16 (by decide) ?_
    refine kcallV (wc := [(m0, .inr (16, mO r p0 p1 p9 p10 p18 p27 p28 p30 p44 p45 0 0 0 0 0 0 0 0 0 0 0 0))]) (wr := []) (As := [.int 0, .int 1]) (rest := []) K G (m_X12_isThrown0 l hl0 g m0 r p0 p1 p9 p10 p18 p27 p28 p30 p44 p45 0 0 0 0 0 0 0 0 0 0 0 0 1 ) hP hD hS hA hl kw_319 kw_320 kw_321 kw_322 kw_307 ydX12_isThrown [0] [] rfl rfl rfl rfl (by decide) (ci := 16) (q0 := 0) rfl rfl rfl rfl rfl (Nat.le_of_ble_eq_true rfl) dX12_pass_17 ⟨Nat.le_of_ble_eq_true rfl, Nat.le_of_ble_eq_true rfl⟩ ⟨Nat.le_of_ble_eq_true rfl, Nat.le_of_ble_eq_true rfl⟩ (fun _ _ _ _ _ _ hX _ _ _ _ _ _ => hX.elim) (fun v w1 H locs hQ hP hD hS => ?_)
    obtain ⟨rfl, rfl⟩ := hQ
    have hP : va_P g.1 vwCl [(m0, .inr (16, mO r p0 p1 p9 p10 p18 p27 p28 p30 p44 p45 0 0 0 0 0 0 0 0 0 0 0 0))] H := hP
    have hD : va_D A [(m0, .inr (16, mO r p0 p1 p9 p10 p18 p27 p28 p30 p44 p45 0 0 0 0 0 0 0 0 0 0 0 0))] := hD
    refine W.widen (k := 0) (n := 0) (by decide) (by decide) ?_
    refine W.eq (g2 := F0 m 20 ls [.int 0]) rfl ?_
    refine lv_if_eq (tgt := 25) hx hb dX12_pass_20 (by decide) (fun _ => ?_) (fun c20_6 => absurd c20_6 (by decide))
    refine lv_iconst (v := 0) hx hb dX12_pass_25 (by decide) ?_
    refine lv_istore_n (lv' := [(2, .int 0), (0, .ref m0), (1, .int x0)]) hx hb dX12_pass_26 rfl hl (by decide) rfl (fun ls hl => ?_)
    obtain ⟨n, hn, ex⟩ : ∃ n : Nat, n ≤ 96 ∧ x0 = nI n := inR_n f_2 (by decide) (by decide)
    suffices KL : ∀ (k i : Nat), k + i = n → ∀ (H : Heap) (locs : List Loc), va_P g.1 vwCl [(m0, .inr (16, mO r p0 p1 p9 p10 p18 p27 p28 p30 p44 p45 0 0 0 0 0 0 0 0 0 0 (nI i) 0))] H → va_D A [(m0, .inr (16, mO r p0 p1 p9 p10 p18 p27 p28 p30 p44 p45 0 0 0 0 0 0 0 0 0 0 (nI i) 0))] → va_S A s.heap H locs → ∀ ls : Array Slot, lv_has ls 4 [(0, .ref m0), (1, .int x0), (2, .int (nI i))] → W p l e (kR 1 22 0 0) s m args below meth c H locs 0 0 (vx_MQ below (kQ g (fun v w => (∃ j0 : Int32, ∃ j1 : Int32, ∃ j2 : Int32, ∃ j3 : Int32, ∃ j4 : Int32, ∃ j5 : Int32, ∃ j6 : Int32, ∃ j7 : Int32, ∃ j8 : Int32, ∃ j9 : Int32, ∃ j10 : Int32, v = some (.int x0) ∧ w = [(m0, .inr (16, mO r p0 p1 p9 p10 p18 p27 p28 p30 p44 p45 j0 j1 j2 j3 j4 j5 j6 j7 j8 j9 j10 0))] ∧ inR x0 1 96 = true) ∨ (∃ j0 : Int32, ∃ j1 : Int32, ∃ j2 : Int32, ∃ j3 : Int32, ∃ j4 : Int32, ∃ j5 : Int32, ∃ j6 : Int32, ∃ j7 : Int32, ∃ j8 : Int32, ∃ j9 : Int32, ∃ j10 : Int32, v = some (.int 0) ∧ w = [(m0, .inr (16, mO r p0 p1 p9 p10 p18 p27 p28 p30 p44 p45 j0 j1 j2 j3 j4 j5 j6 j7 j8 j9 j10 1))] ∧ inR x0 1 96 = false)) A) (kX g (fun _ _ => False) A) args s 0 0 A) (F0 m 27 ls []) from KL n 0 rfl  _ _ (ksubP hP [0] rfl) (hD.sub [0] rfl rfl) hS _ (lv_sub hl [1, 2, 0] rfl)
    clear hP hD hS hl
    intro k
    induction k with
    | zero =>
      intro i hi  H locs hP hD hS ls hl
      have ei : i = n := by omega
      try rw [ei] at hP
      try rw [ei] at hD
      rw [ei] at hl
      have hP : va_P g.1 vwCl [(m0, .inr (16, mO r p0 p1 p9 p10 p18 p27 p28 p30 p44 p45 0 0 0 0 0 0 0 0 0 0 (nI n) 0))] H := hP
      have hD : va_D A [(m0, .inr (16, mO r p0 p1 p9 p10 p18 p27 p28 p30 p44 p45 0 0 0 0 0 0 0 0 0 0 (nI n) 0))] := hD
      have hl : lv_has ls 4 [(0, .ref m0), (1, .int x0), (2, .int (nI n))] := hl
      refine lv_iload_n hx hb dX12_pass_27 rfl (lv_at hl 2 rfl) ?_
      refine lv_iload_n hx hb dX12_pass_28 rfl (lv_at hl 1 rfl) ?_
      refine lv_icmp_ge (tgt := 213) hx hb dX12_pass_29 (by decide) (fun c29_7 => ?_) (fun c29_7 => ?_)
      · refine lv_aload_n hx hb dX12_pass_213 rfl (lv_at hl 0 rfl) ?_
        refine va_get (D := g.1) (ci := 16) (v := .int (nI n)) (C := RX12) (T := TX12) (N := 59) hx hb G.ws inX12 hown G.K hP 0 rfl rfl 57 (by decide) (G.w kw_366) (fun _ h9 => h9) rfl dX12_pass_214 ?_
        exact kretI K hP hD hS [0] [(m0, .inr (16, mO r p0 p1 p9 p10 p18 p27 p28 p30 p44 p45 0 0 0 0 0 0 0 0 0 0 (nI n) 0))] rfl rfl (Or.inl ⟨0, 0, 0, 0, 0, 0, 0, 0, 0, 0, nI n, (by rw [ex]), rfl, (by exact f_2)⟩) (by decide) (by decide) dX12_pass_217
      · exact absurd c29_7 (by exact fun h => h (by rw [ex]; exact Int32.le_refl _))
    | succ k ih =>
      intro i hi  H locs hP hD hS ls hl
      refine lv_iload_n hx hb dX12_pass_27 rfl (lv_at hl 2 rfl) ?_
      refine lv_iload_n hx hb dX12_pass_28 rfl (lv_at hl 1 rfl) ?_
      refine lv_icmp_ge (tgt := 213) hx hb dX12_pass_29 (by decide) (fun c29_8 => ?_) (fun c29_8 => ?_)
      · exact absurd c29_8 (by rw [ex]; exact nI_ge (by omega) (by omega))
      · refine lv_iconst (v := 0) hx hb dX12_pass_32 (by decide) ?_
        refine lv_istore_n (lv' := [(3, .int 0), (0, .ref m0), (1, .int x0), (2, .int (nI i))]) hx hb dX12_pass_33 rfl hl (by decide) rfl (fun ls hl => ?_)
        refine lv_iload_n hx hb dX12_pass_34 rfl (lv_at hl 0 rfl) ?_
        refine lv_aload_n hx hb dX12_pass_35 rfl (lv_at hl 1 rfl) ?_
        refine va_get (D := g.1) (ci := 16) (v := .int 0) (C := RX12) (T := TX12) (N := 59) hx hb G.ws inX12 hown G.K hP 0 rfl rfl 48 (by decide) (G.w kw_311) (fun _ h9 => h9) rfl dX12_pass_36 ?_
        refine lv_icmp_ge (tgt := 71) hx hb dX12_pass_39 (by decide) (fun _ => ?_) (fun c39_9 => absurd c39_9 (by decide))
        refine lv_iconst (v := 0) hx hb dX12_pass_71 (by decide) ?_
        refine lv_istore_n (lv' := [(3, .int 0), (0, .ref m0), (1, .int x0), (2, .int (nI i))]) hx hb dX12_pass_72 rfl hl (by decide) rfl (fun ls hl => ?_)
        refine lv_iload_n hx hb dX12_pass_73 rfl (lv_at hl 0 rfl) ?_
        refine lv_aload_n hx hb dX12_pass_74 rfl (lv_at hl 1 rfl) ?_
        refine va_get (D := g.1) (ci := 16) (v := .int 0) (C := RX12) (T := TX12) (N := 59) hx hb G.ws inX12 hown G.K hP 0 rfl rfl 49 (by decide) (G.w kw_312) (fun _ h9 => h9) rfl dX12_pass_75 ?_
        refine lv_icmp_ge (tgt := 92) hx hb dX12_pass_78 (by decide) (fun _ => ?_) (fun c78_10 => absurd c78_10 (by decide))
        refine lv_iconst (v := 0) hx hb dX12_pass_92 (by decide) ?_
        refine lv_istore_n (lv' := [(3, .int 0), (0, .ref m0), (1, .int x0), (2, .int (nI i))]) hx hb dX12_pass_93 rfl hl (by decide) rfl (fun ls hl => ?_)
        refine lv_iload_n hx hb dX12_pass_94 rfl (lv_at hl 0 rfl) ?_
        refine lv_aload_n hx hb dX12_pass_95 rfl (lv_at hl 1 rfl) ?_
        refine va_get (D := g.1) (ci := 16) (v := .int 0) (C := RX12) (T := TX12) (N := 59) hx hb G.ws inX12 hown G.K hP 0 rfl rfl 48 (by decide) (G.w kw_311) (fun _ h9 => h9) rfl dX12_pass_96 ?_
        refine lv_icmp_ge (tgt := 113) hx hb dX12_pass_99 (by decide) (fun _ => ?_) (fun c99_11 => absurd c99_11 (by decide))
        refine lv_iconst (v := 0) hx hb dX12_pass_113 (by decide) ?_
        refine lv_istore_n (lv' := [(3, .int 0), (0, .ref m0), (1, .int x0), (2, .int (nI i))]) hx hb dX12_pass_114 rfl hl (by decide) rfl (fun ls hl => ?_)
        refine lv_iload_n hx hb dX12_pass_115 rfl (lv_at hl 0 rfl) ?_
        refine lv_aload_n hx hb dX12_pass_116 rfl (lv_at hl 1 rfl) ?_
        refine va_get (D := g.1) (ci := 16) (v := .int 0) (C := RX12) (T := TX12) (N := 59) hx hb G.ws inX12 hown G.K hP 0 rfl rfl 48 (by decide) (G.w kw_311) (fun _ h9 => h9) rfl dX12_pass_117 ?_
        refine lv_icmp_ge (tgt := 134) hx hb dX12_pass_120 (by decide) (fun _ => ?_) (fun c120_12 => absurd c120_12 (by decide))
        refine lv_iconst (v := 0) hx hb dX12_pass_134 (by decide) ?_
        refine lv_istore_n (lv' := [(3, .int 0), (0, .ref m0), (1, .int x0), (2, .int (nI i))]) hx hb dX12_pass_135 rfl hl (by decide) rfl (fun ls hl => ?_)
        refine lv_iload_n hx hb dX12_pass_136 rfl (lv_at hl 0 rfl) ?_
        refine lv_aload_n hx hb dX12_pass_137 rfl (lv_at hl 1 rfl) ?_
        refine va_get (D := g.1) (ci := 16) (v := .int 0) (C := RX12) (T := TX12) (N := 59) hx hb G.ws inX12 hown G.K hP 0 rfl rfl 48 (by decide) (G.w kw_311) (fun _ h9 => h9) rfl dX12_pass_138 ?_
        refine lv_icmp_ge (tgt := 197) hx hb dX12_pass_141 (by decide) (fun _ => ?_) (fun c141_13 => absurd c141_13 (by decide))
        refine lv_aload_n hx hb dX12_pass_197 rfl (lv_at hl 1 rfl) ?_
        refine lv_dup hx hb dX12_pass_198 rfl ?_
        refine va_get (D := g.1) (ci := 16) (v := .int (nI i)) (C := RX12) (T := TX12) (N := 59) hx hb G.ws inX12 hown G.K hP 0 rfl rfl 57 (by decide) (G.w kw_366) (fun _ h9 => h9) rfl dX12_pass_199 ?_
        refine lv_iconst (v := 1) hx hb dX12_pass_202 (by decide) ?_
        refine lv_iadd hx hb dX12_pass_203 ?_
        refine va_put (D := g.1) (ci := 16) (v := .int (nI i + 1)) (ty := .int) (C := RX12) (T := TX12) (N := 59) hx hb G.ws inX12 tyX12 tyX12_ok nmX12 hown G.K hP hD hS 0 rfl rfl 57 (by decide) (G.w kw_366) (fun _ h9 => h9) (by decide +kernel) (by decide +kernel) rfl rfl (Nat.le_of_ble_eq_true rfl) dX12_pass_204 (fun H locs hP hD hS => ?_)
        have hP : va_P g.1 vwCl [(m0, .inr (16, mO r p0 p1 p9 p10 p18 p27 p28 p30 p44 p45 0 0 0 0 0 0 0 0 0 0 (nI i + 1) 0))] H := hP
        have hD : va_D A [(m0, .inr (16, mO r p0 p1 p9 p10 p18 p27 p28 p30 p44 p45 0 0 0 0 0 0 0 0 0 0 (nI i + 1) 0))] := hD
        refine lv_iinc (v := nI (i + 1)) (lv' := [(2, .int (nI (i + 1))), (3, .int 0), (0, .ref m0), (1, .int x0)]) hx hb dX12_pass_207 hl (k := 3) rfl (nI_1 _) (by decide) rfl (fun ls hl => ?_)
        refine lv_goto (tgt := 27) hx hb dX12_pass_210 (by decide) ?_
        rw [nI_1] at hP hD
        refine ih (i + 1) (by omega)  _ _ ?_ ?_ hS _ ?_
        · exact ksubP hP [0] rfl
        · exact hD.sub [0] rfl rfl
        · exact lv_sub hl [2, 3, 0] rfl
  · have hP : va_P g.1 vwCl [(m0, .inr (16, mO r p0 p1 p9 p10 p18 p27 p28 p30 p44 p45 0 0 0 0 0 0 0 0 0 0 0 0))] H := hP
    have hD : va_D A [(m0, .inr (16, mO r p0 p1 p9 p10 p18 p27 p28 p30 p44 p45 0 0 0 0 0 0 0 0 0 0 0 0))] := hD
    refine W.widen (k := 0) (n := 0) (by decide) (by decide) ?_
    refine W.eq (g2 := F0 m 8 ls [.int 0, .ref m0]) rfl ?_
    refine lv_if_ne (tgt := 15) hx hb dX12_pass_8 (by decide) (fun c8_14 => absurd c8_14 (by decide)) (fun _ => ?_)
    refine lv_iconst (v := 1) hx hb dX12_pass_11 (by decide) ?_
    refine lv_goto (tgt := 16) hx hb dX12_pass_12 (by decide) ?_
    refine lv_iconst (v := 1) hx hb dX12_pass_16 (by decide) ?_
    refine kcallV (wc := [(m0, .inr (16, mO r p0 p1 p9 p10 p18 p27 p28 p30 p44 p45 0 0 0 0 0 0 0 0 0 0 0 0))]) (wr := []) (As := [.int 1, .int 1]) (rest := []) K G (m_X12_isThrown1 l hl0 g m0 r p0 p1 p9 p10 p18 p27 p28 p30 p44 p45 0 0 0 0 0 0 0 0 0 0 0 0 1 ) hP hD hS hA hl kw_319 kw_320 kw_321 kw_322 kw_307 ydX12_isThrown [0] [] rfl rfl rfl rfl (by decide) (ci := 16) (q0 := 0) rfl rfl rfl rfl rfl (Nat.le_of_ble_eq_true rfl) dX12_pass_17 ⟨Nat.le_of_ble_eq_true rfl, Nat.le_of_ble_eq_true rfl⟩ ⟨Nat.le_of_ble_eq_true rfl, Nat.le_of_ble_eq_true rfl⟩ (fun _ _ _ _ _ _ hX _ _ _ _ _ _ => hX.elim) (fun v w1 H locs hQ hP hD hS => ?_)
    obtain ⟨rfl, rfl⟩ := hQ
    have hP : va_P g.1 vwCl [(m0, .inr (16, mO r p0 p1 p9 p10 p18 p27 p28 p30 p44 p45 0 0 0 0 0 0 0 0 0 0 0 1))] H := hP
    have hD : va_D A [(m0, .inr (16, mO r p0 p1 p9 p10 p18 p27 p28 p30 p44 p45 0 0 0 0 0 0 0 0 0 0 0 1))] := hD
    refine W.widen (k := 0) (n := 0) (by decide) (by decide) ?_
    refine W.eq (g2 := F0 m 20 ls [.int 1]) rfl ?_
    refine lv_if_eq (tgt := 25) hx hb dX12_pass_20 (by decide) (fun c20_16 => absurd c20_16 (by decide)) (fun _ => ?_)
    refine lv_iconst (v := 0) hx hb dX12_pass_23 (by decide) ?_
    exact kretI K hP hD hS [0] [(m0, .inr (16, mO r p0 p1 p9 p10 p18 p27 p28 p30 p44 p45 0 0 0 0 0 0 0 0 0 0 0 1))] rfl rfl (Or.inr (⟨0, 0, 0, 0, 0, 0, 0, 0, 0, 0, 0, rfl, rfl, (by simp [f_3])⟩)) (by decide) (by decide) dX12_pass_24

set_option maxHeartbeats 4000000 in
set_option maxRecDepth 100000 in
theorem m_X12_getMoney (l : Launch) (hl0 : l.stackTraces = false) (g : kG) (m0 : Nat) (r : Nat → Nat) (p0 : Nat) (p1 : Nat) (p9 : Nat) (p10 : Nat) (p18 : Nat) (p27 : Nat) (p28 : Nat) (p30 : Nat) (p44 : Nat) (p45 : Nat)  : kc l g yX12_getMoney prog_14_method_71_code 1 (some .int) 0 0 0 0 [.ref m0] [(m0, .inr (16, mO r p0 p1 p9 p10 p18 p27 p28 p30 p44 p45 0 0 0 0 0 0 0 0 0 0 0 0))] (fun v w => (v = some (.int 0) ∧ w = [])) (fun _ _ => False) := by
  refine kbody (by decide) (Nat.le_of_ble_eq_true rfl) ?_
  intro p e s m args below meth c A H K ht G hP hD hA hS ls hl
  have K : KB p s m meth c RX12 "getMoney" prog_14_method_71_code 1 (some .int) := K
  obtain ⟨hx, hb, hml, hown, hlocks, hr, hin⟩ := id K
  have hl : lv_has ls 1 [(0, .ref m0)] := hl
  refine lv_aload_n hx hb dX12_getMoney_0 rfl (lv_at hl 0 rfl) ?_
  refine lv_iconst (v := 0) hx hb dX12_getMoney_1 (by decide) ?_
  refine va_put (D := g.1) (ci := 16) (v := .int 0) (ty := .int) (C := RX12) (T := TX12) (N := 59) hx hb G.ws inX12 tyX12 tyX12_ok nmX12 hown G.K hP hD hS 0 rfl rfl 58 (by decide) (G.w kw_309) (fun _ h9 => h9) (by decide +kernel) (by decide +kernel) rfl rfl (Nat.le_of_ble_eq_true rfl) dX12_getMoney_2 (fun H locs hP hD hS => ?_)
  have hP : va_P g.1 vwCl [(m0, .inr (16, mO r p0 p1 p9 p10 p18 p27 p28 p30 p44 p45 0 0 0 0 0 0 0 0 0 0 0 0))] H := hP
  have hD : va_D A [(m0, .inr (16, mO r p0 p1 p9 p10 p18 p27 p28 p30 p44 p45 0 0 0 0 0 0 0 0 0 0 0 0))] := hD
  refine lv_aload_n hx hb dX12_getMoney_5 rfl (lv_at hl 0 rfl) ?_
  refine va_get (D := g.1) (ci := 16) (v := .int 0) (C := RX12) (T := TX12) (N := 59) hx hb G.ws inX12 hown G.K hP 0 rfl rfl 56 (by decide) (G.w kw_367) (fun _ h9 => h9) rfl dX12_getMoney_6 ?_
  exact kretI K hP hD hS [] [] rfl rfl (⟨rfl, rfl⟩) (by decide) (by decide) dX12_getMoney_9

set_option maxHeartbeats 4000000 in
set_option maxRecDepth 100000 in
theorem m_X12_getKept (l : Launch) (hl0 : l.stackTraces = false) (g : kG) (m0 : Nat) (r : Nat → Nat) (p0 : Nat) (p1 : Nat) (p9 : Nat) (p10 : Nat) (p18 : Nat) (p27 : Nat) (p28 : Nat) (p30 : Nat) (p44 : Nat) (p45 : Nat)  : kc l g yX12_getKept prog_14_method_75_code 1 (some .int) 1 20 0 0 [.ref m0] [(m0, .inr (16, mO r p0 p1 p9 p10 p18 p27 p28 p30 p44 p45 0 0 0 0 0 0 0 0 0 0 0 0)), (p44, .inr (3, [.int 0, .ref g.2.1, .int 0]))] (fun v w => (v = some (.int 0) ∧ w = [])) (fun _ _ => False) := by
  refine kbody (by decide) (Nat.le_of_ble_eq_true rfl) ?_
  intro p e s m args below meth c A H K ht G hP hD hA hS ls hl
  have K : KB p s m meth c RX12 "getKept" prog_14_method_75_code 1 (some .int) := K
  obtain ⟨hx, hb, hml, hown, hlocks, hr, hin⟩ := id K
  have hl : lv_has ls 1 [(0, .ref m0)] := hl
  refine lv_aload_n hx hb dX12_getKept_0 rfl (lv_at hl 0 rfl) ?_
  refine lv_iconst (v := 0) hx hb dX12_getKept_1 (by decide) ?_
  refine va_put (D := g.1) (ci := 16) (v := .int 0) (ty := .int) (C := RX12) (T := TX12) (N := 59) hx hb G.ws inX12 tyX12 tyX12_ok nmX12 hown G.K hP hD hS 0 rfl rfl 58 (by decide) (G.w kw_309) (fun _ h9 => h9) (by decide +kernel) (by decide +kernel) rfl rfl (Nat.le_of_ble_eq_true rfl) dX12_getKept_2 (fun H locs hP hD hS => ?_)
  have hP : va_P g.1 vwCl [(m0, .inr (16, mO r p0 p1 p9 p10 p18 p27 p28 p30 p44 p45 0 0 0 0 0 0 0 0 0 0 0 0)), (p44, .inr (3, [.int 0, .ref g.2.1, .int 0]))] H := hP
  have hD : va_D A [(m0, .inr (16, mO r p0 p1 p9 p10 p18 p27 p28 p30 p44 p45 0 0 0 0 0 0 0 0 0 0 0 0)), (p44, .inr (3, [.int 0, .ref g.2.1, .int 0]))] := hD
  refine lv_aload_n hx hb dX12_getKept_5 rfl (lv_at hl 0 rfl) ?_
  refine va_get (D := g.1) (ci := 16) (v := .ref p44) (C := RX12) (T := TX12) (N := 59) hx hb G.ws inX12 hown G.K hP 0 rfl rfl 44 (by decide) (G.w kw_368) (fun _ h9 => h9) rfl dX12_getKept_6 ?_
  refine kcallV (wc := [(p44, .inr (3, [.int 0, .ref g.2.1, .int 0]))]) (wr := [(m0, .inr (16, mO r p0 p1 p9 p10 p18 p27 p28 p30 p44 p45 0 0 0 0 0 0 0 0 0 0 0 0))]) (As := []) (rest := []) K G (m_Jx4a65c_size_8abf5 l hl0 g p44 0 g.2.1 0 ) hP hD hS hA hl kw_44 kw_369 kw_46 kw_47 kw_30 ydJx4a65c_size_8abf5 [1] [0] rfl rfl rfl rfl (by decide) (ci := 3) (q0 := 1) rfl rfl rfl rfl rfl (Nat.le_of_ble_eq_true rfl) dX12_getKept_9 ⟨Nat.le_of_ble_eq_true rfl, Nat.le_of_ble_eq_true rfl⟩ ⟨Nat.le_of_ble_eq_true rfl, Nat.le_of_ble_eq_true rfl⟩ (fun _ _ _ _ _ _ hX _ _ _ _ _ _ => hX.elim) (fun v w1 H locs hQ hP hD hS => ?_)
  obtain ⟨rfl, rfl⟩ := hQ
  have hP : va_P g.1 vwCl [(m0, .inr (16, mO r p0 p1 p9 p10 p18 p27 p28 p30 p44 p45 0 0 0 0 0 0 0 0 0 0 0 0)), (p44, .inr (3, [.int 0, .ref g.2.1, .int 0]))] H := hP
  have hD : va_D A [(m0, .inr (16, mO r p0 p1 p9 p10 p18 p27 p28 p30 p44 p45 0 0 0 0 0 0 0 0 0 0 0 0)), (p44, .inr (3, [.int 0, .ref g.2.1, .int 0]))] := hD
  refine W.widen (k := 0) (n := 0) (by decide) (by decide) ?_
  refine W.eq (g2 := F0 m 12 ls [.int 0]) rfl ?_
  exact kretI K hP hD hS [] [] rfl rfl (⟨rfl, rfl⟩) (by decide) (by decide) dX12_getKept_12

