set_option maxHeartbeats 4000000 in
set_option maxRecDepth 100000 in
theorem m_X12_setWind (l : Launch) (hl0 : l.stackTraces = false) (g : kG) (m0 : Nat) (r : Nat → Nat) (p0 : Nat) (p1 : Nat) (p9 : Nat) (p10 : Nat) (p18 : Nat) (p27 : Nat) (p28 : Nat) (p30 : Nat) (p44 : Nat) (p45 : Nat) (f0 : Nat → Option Nat) (z0 : Nat) (f9 : Nat → Option Nat) (z9 : Nat) (f10 : Nat → Option Nat) (z10 : Nat) (f27 : Nat → Option Nat) (z27 : Nat) (f45 : Nat → Option Nat) (z45 : Nat) (x0 : Int32) (x1 : Int32)  : kc l g yX12_setWind prog_14_method_16_code 4 (some .int) 4 91 0 0 [.ref m0, .int x0, .int x1] [(m0, .inr (16, mO r p0 p1 p9 p10 p18 p27 p28 p30 p44 p45 0 0 0 0 0 0 0 0 0 0 0 0))] (fun v w => (∃ j0 : Int32, ∃ j1 : Int32, ∃ j2 : Int32, ∃ j3 : Int32, ∃ j4 : Int32, ∃ j5 : Int32, ∃ j6 : Int32, ∃ j7 : Int32, ∃ j8 : Int32, ∃ j9 : Int32, ∃ j10 : Int32, v = some (.int 0) ∧ w = [(m0, .inr (16, mO r p0 p1 p9 p10 p18 p27 p28 p30 p44 p45 j0 j1 j2 j3 j4 j5 j6 j7 j8 j9 j10 0))] ∧ (inR x0 0 12 && kway x1) = true) ∨ (∃ j0 : Int32, ∃ j1 : Int32, ∃ j2 : Int32, ∃ j3 : Int32, ∃ j4 : Int32, ∃ j5 : Int32, ∃ j6 : Int32, ∃ j7 : Int32, ∃ j8 : Int32, ∃ j9 : Int32, ∃ j10 : Int32, v = some (.int 0) ∧ w = [(m0, .inr (16, mO r p0 p1 p9 p10 p18 p27 p28 p30 p44 p45 j0 j1 j2 j3 j4 j5 j6 j7 j8 j9 j10 1))] ∧ (inR x0 0 12 && kway x1) = false)) (fun _ _ => False) := by
  refine kbody (by decide) (Nat.le_of_ble_eq_true rfl) ?_
  intro p e s m args below meth c A H K ht G hP hD hA hS ls hl
  have K : KB p s m meth c RX12 "setWind" prog_14_method_16_code 4 (some .int) := K
  obtain ⟨hx, hb, hml, hown, hlocks, hr, hin⟩ := id K
  have hl : lv_has ls 4 [(0, .ref m0), (1, .int x0), (2, .int x1)] := hl
  refine lv_aload_n hx hb dX12_setWind_0 rfl (lv_at hl 0 rfl) ?_
  refine va_ldcS hx hb hown G.ways dX12_setWind_1 ?_
  refine lv_iload_n hx hb dX12_setWind_3 rfl (lv_at hl 2 rfl) ?_
  refine kcallVr (wc := []) (wr := [(m0, .inr (16, mO r p0 p1 p9 p10 p18 p27 p28 p30 p44 p45 0 0 0 0 0 0 0 0 0 0 0 0))]) (As := [.int x1]) (rest := [.ref m0]) K G (m_J0_indexOf_0f7a4 l hl0 g x1 ) hP hD hS hA hl kw_347 kw_348 kw_349 kw_350 kw_276 ydJ0_indexOf_0f7a4 [] [0] rfl rfl rfl rfl (by decide) (vk_recv G.st (by decide) hS) rfl rfl (Nat.le_of_ble_eq_true rfl) dX12_setWind_4 ⟨Nat.le_of_ble_eq_true rfl, Nat.le_of_ble_eq_true rfl⟩ ⟨Nat.le_of_ble_eq_true rfl, Nat.le_of_ble_eq_true rfl⟩ (fun _ _ _ _ _ _ hX _ _ _ _ _ _ => hX.elim) (fun v w1 H locs hQ hP hD hS => ?_)
  rcases hQ with ⟨rfl, rfl, f_2⟩ | ⟨rfl, rfl, f_3⟩ | ⟨rfl, rfl, f_4⟩ | ⟨rfl, rfl, f_5⟩ | ⟨rfl, rfl, f_6⟩
  · have hP : va_P g.1 vwCl [(m0, .inr (16, mO r p0 p1 p9 p10 p18 p27 p28 p30 p44 p45 0 0 0 0 0 0 0 0 0 0 0 0))] H := hP
    have hD : va_D A [(m0, .inr (16, mO r p0 p1 p9 p10 p18 p27 p28 p30 p44 p45 0 0 0 0 0 0 0 0 0 0 0 0))] := hD
    refine W.widen (k := 0) (n := 0) (by decide) (by decide) ?_
    refine W.eq (g2 := F0 m 7 ls [.int 0, .ref m0]) rfl ?_
    refine lv_if_lt (tgt := 20) hx hb dX12_setWind_7 (by decide) (fun c7_7 => absurd c7_7 (by decide)) (fun _ => ?_)
    refine lv_iload_n hx hb dX12_setWind_10 rfl (lv_at hl 1 rfl) ?_
    refine lv_iconst (v := 0) hx hb dX12_setWind_11 (by decide) ?_
    refine lv_bipush (v := 12) hx hb dX12_setWind_12 (by decide) ?_
    refine kcallS (wc := []) (wr := [(m0, .inr (16, mO r p0 p1 p9 p10 p18 p27 p28 p30 p44 p45 0 0 0 0 0 0 0 0 0 0 0 0))]) (As := [.int x0, .int 0, .int 12]) (rest := [.ref m0]) K G (m_X12_isIn l hl0 g x0 0 12 ) hP hD hS hA hl kw_305 kw_306 kw_308 kw_307 ydX12_isIn [] [0] rfl rfl rfl rfl (by decide) rfl rfl (Nat.le_of_ble_eq_true rfl) dX12_setWind_14 ⟨Nat.le_of_ble_eq_true rfl, Nat.le_of_ble_eq_true rfl⟩ ⟨Nat.le_of_ble_eq_true rfl, Nat.le_of_ble_eq_true rfl⟩ (fun _ _ _ _ _ _ hX _ _ _ _ _ _ => hX.elim) (fun v w1 H locs hQ hP hD hS => ?_)
    rcases hQ with ⟨rfl, rfl, f_9⟩ | ⟨rfl, rfl, f_10⟩
    · have hP : va_P g.1 vwCl [(m0, .inr (16, mO r p0 p1 p9 p10 p18 p27 p28 p30 p44 p45 0 0 0 0 0 0 0 0 0 0 0 0))] H := hP
      have hD : va_D A [(m0, .inr (16, mO r p0 p1 p9 p10 p18 p27 p28 p30 p44 p45 0 0 0 0 0 0 0 0 0 0 0 0))] := hD
      refine W.widen (k := 0) (n := 0) (by decide) (by decide) ?_
      refine W.eq (g2 := F0 m 17 ls [.int 1, .ref m0]) rfl ?_
      refine lv_if_ne (tgt := 24) hx hb dX12_setWind_17 (by decide) (fun _ => ?_) (fun c17_11 => absurd c17_11 (by decide))
      refine lv_iconst (v := 0) hx hb dX12_setWind_24 (by decide) ?_
      refine lv_iconst (v := 1) hx hb dX12_setWind_25 (by decide) ?_
      refine kcallV (wc := [(m0, .inr (16, mO r p0 p1 p9 p10 p18 p27 p28 p30 p44 p45 0 0 0 0 0 0 0 0 0 0 0 0))]) (wr := []) (As := [.int 0, .int 1]) (rest := []) K G (m_X12_isThrown0 l hl0 g m0 r p0 p1 p9 p10 p18 p27 p28 p30 p44 p45 0 0 0 0 0 0 0 0 0 0 0 0 1 ) hP hD hS hA hl kw_319 kw_320 kw_321 kw_322 kw_307 ydX12_isThrown [0] [] rfl rfl rfl rfl (by decide) (ci := 16) (q0 := 0) rfl rfl rfl rfl rfl (Nat.le_of_ble_eq_true rfl) dX12_setWind_26 ⟨Nat.le_of_ble_eq_true rfl, Nat.le_of_ble_eq_true rfl⟩ ⟨Nat.le_of_ble_eq_true rfl, Nat.le_of_ble_eq_true rfl⟩ (fun _ _ _ _ _ _ hX _ _ _ _ _ _ => hX.elim) (fun v w1 H locs hQ hP hD hS => ?_)
      obtain ⟨rfl, rfl⟩ := hQ
      have hP : va_P g.1 vwCl [(m0, .inr (16, mO r p0 p1 p9 p10 p18 p27 p28 p30 p44 p45 0 0 0 0 0 0 0 0 0 0 0 0))] H := hP
      have hD : va_D A [(m0, .inr (16, mO r p0 p1 p9 p10 p18 p27 p28 p30 p44 p45 0 0 0 0 0 0 0 0 0 0 0 0))] := hD
      refine W.widen (k := 0) (n := 0) (by decide) (by decide) ?_
      refine W.eq (g2 := F0 m 29 ls [.int 0]) rfl ?_
      refine lv_if_eq (tgt := 34) hx hb dX12_setWind_29 (by decide) (fun _ => ?_) (fun c29_13 => absurd c29_13 (by decide))
      refine lv_aload_n hx hb dX12_setWind_34 rfl (lv_at hl 0 rfl) ?_
      refine va_get (D := g.1) (ci := 16) (v := .int 0) (C := RX12) (T := TX12) (N := 59) hx hb G.ws inX12 hown G.K hP 0 rfl rfl 52 (by decide) (G.w kw_351) (fun _ h9 => h9) rfl dX12_setWind_35 ?_
      refine lv_istore_n (lv' := [(3, .int 0), (0, .ref m0), (1, .int x0), (2, .int x1)]) hx hb dX12_setWind_38 rfl hl (by decide) rfl (fun ls hl => ?_)
      refine lv_aload_n hx hb dX12_setWind_39 rfl (lv_at hl 1 rfl) ?_
      refine lv_iload_n hx hb dX12_setWind_40 rfl (lv_at hl 2 rfl) ?_
      refine va_put (D := g.1) (ci := 16) (v := .int x0) (ty := .int) (C := RX12) (T := TX12) (N := 59) hx hb G.ws inX12 tyX12 tyX12_ok nmX12 hown G.K hP hD hS 0 rfl rfl 52 (by decide) (G.w kw_351) (fun _ h9 => h9) (by decide +kernel) (by decide +kernel) rfl rfl (Nat.le_of_ble_eq_true rfl) dX12_setWind_41 (fun H locs hP hD hS => ?_)
      have hP : va_P g.1 vwCl [(m0, .inr (16, mO r p0 p1 p9 p10 p18 p27 p28 p30 p44 p45 0 0 0 0 0 x0 0 0 0 0 0 0))] H := hP
      have hD : va_D A [(m0, .inr (16, mO r p0 p1 p9 p10 p18 p27 p28 p30 p44 p45 0 0 0 0 0 x0 0 0 0 0 0 0))] := hD
      refine lv_aload_n hx hb dX12_setWind_44 rfl (lv_at hl 1 rfl) ?_
      refine va_ldcS hx hb hown G.ways dX12_setWind_45 ?_
      refine lv_iload_n hx hb dX12_setWind_47 rfl (lv_at hl 3 rfl) ?_
      refine kcallVr (wc := []) (wr := [(m0, .inr (16, mO r p0 p1 p9 p10 p18 p27 p28 p30 p44 p45 0 0 0 0 0 x0 0 0 0 0 0 0))]) (As := [.int x1]) (rest := [.ref m0]) K G (m_J0_indexOf_0f7a4 l hl0 g x1 ) hP hD hS hA hl kw_347 kw_348 kw_349 kw_350 kw_276 ydJ0_indexOf_0f7a4 [] [0] rfl rfl rfl rfl (by decide) (vk_recv G.st (by decide) hS) rfl rfl (Nat.le_of_ble_eq_true rfl) dX12_setWind_48 ⟨Nat.le_of_ble_eq_true rfl, Nat.le_of_ble_eq_true rfl⟩ ⟨Nat.le_of_ble_eq_true rfl, Nat.le_of_ble_eq_true rfl⟩ (fun _ _ _ _ _ _ hX _ _ _ _ _ _ => hX.elim) (fun v w1 H locs hQ hP hD hS => ?_)
      rcases hQ with ⟨rfl, rfl, f_15⟩ | ⟨rfl, rfl, f_16⟩ | ⟨rfl, rfl, f_17⟩ | ⟨rfl, rfl, f_18⟩ | ⟨rfl, rfl, f_19⟩
      · have hP : va_P g.1 vwCl [(m0, .inr (16, mO r p0 p1 p9 p10 p18 p27 p28 p30 p44 p45 0 0 0 0 0 x0 0 0 0 0 0 0))] H := hP
        have hD : va_D A [(m0, .inr (16, mO r p0 p1 p9 p10 p18 p27 p28 p30 p44 p45 0 0 0 0 0 x0 0 0 0 0 0 0))] := hD
        refine W.widen (k := 0) (n := 0) (by decide) (by decide) ?_
        refine W.eq (g2 := F0 m 51 ls [.int 0, .ref m0]) rfl ?_
        refine va_put (D := g.1) (ci := 16) (v := .int 0) (ty := .int) (C := RX12) (T := TX12) (N := 59) hx hb G.ws inX12 tyX12 tyX12_ok nmX12 hown G.K hP hD hS 0 rfl rfl 53 (by decide) (G.w kw_352) (fun _ h9 => h9) (by decide +kernel) (by decide +kernel) rfl rfl (Nat.le_of_ble_eq_true rfl) dX12_setWind_51 (fun H locs hP hD hS => ?_)
        have hP : va_P g.1 vwCl [(m0, .inr (16, mO r p0 p1 p9 p10 p18 p27 p28 p30 p44 p45 0 0 0 0 0 x0 0 0 0 0 0 0))] H := hP
        have hD : va_D A [(m0, .inr (16, mO r p0 p1 p9 p10 p18 p27 p28 p30 p44 p45 0 0 0 0 0 x0 0 0 0 0 0 0))] := hD
        refine lv_iload_n hx hb dX12_setWind_54 rfl (lv_at hl 0 rfl) ?_
        exact kretI K hP hD hS [0] [(m0, .inr (16, mO r p0 p1 p9 p10 p18 p27 p28 p30 p44 p45 0 0 0 0 0 x0 0 0 0 0 0 0))] rfl rfl (Or.inl ⟨0, 0, 0, 0, 0, x0, 0, 0, 0, 0, 0, rfl, rfl, (by simp [f_2, f_9, f_15])⟩) (by decide) (by decide) dX12_setWind_55
      · have hP : va_P g.1 vwCl [(m0, .inr (16, mO r p0 p1 p9 p10 p18 p27 p28 p30 p44 p45 0 0 0 0 0 x0 0 0 0 0 0 0))] H := hP
        have hD : va_D A [(m0, .inr (16, mO r p0 p1 p9 p10 p18 p27 p28 p30 p44 p45 0 0 0 0 0 x0 0 0 0 0 0 0))] := hD
        refine W.widen (k := 0) (n := 0) (by decide) (by decide) ?_
        refine W.eq (g2 := F0 m 51 ls [.int 1, .ref m0]) rfl ?_
        refine va_put (D := g.1) (ci := 16) (v := .int 1) (ty := .int) (C := RX12) (T := TX12) (N := 59) hx hb G.ws inX12 tyX12 tyX12_ok nmX12 hown G.K hP hD hS 0 rfl rfl 53 (by decide) (G.w kw_352) (fun _ h9 => h9) (by decide +kernel) (by decide +kernel) rfl rfl (Nat.le_of_ble_eq_true rfl) dX12_setWind_51 (fun H locs hP hD hS => ?_)
        have hP : va_P g.1 vwCl [(m0, .inr (16, mO r p0 p1 p9 p10 p18 p27 p28 p30 p44 p45 0 0 0 0 0 x0 1 0 0 0 0 0))] H := hP
        have hD : va_D A [(m0, .inr (16, mO r p0 p1 p9 p10 p18 p27 p28 p30 p44 p45 0 0 0 0 0 x0 1 0 0 0 0 0))] := hD
        refine lv_iload_n hx hb dX12_setWind_54 rfl (lv_at hl 0 rfl) ?_
        exact kretI K hP hD hS [0] [(m0, .inr (16, mO r p0 p1 p9 p10 p18 p27 p28 p30 p44 p45 0 0 0 0 0 x0 1 0 0 0 0 0))] rfl rfl (Or.inl ⟨0, 0, 0, 0, 0, x0, 1, 0, 0, 0, 0, rfl, rfl, (by simp [f_2, f_9, f_16])⟩) (by decide) (by decide) dX12_setWind_55
      · have hP : va_P g.1 vwCl [(m0, .inr (16, mO r p0 p1 p9 p10 p18 p27 p28 p30 p44 p45 0 0 0 0 0 x0 0 0 0 0 0 0))] H := hP
        have hD : va_D A [(m0, .inr (16, mO r p0 p1 p9 p10 p18 p27 p28 p30 p44 p45 0 0 0 0 0 x0 0 0 0 0 0 0))] := hD
        refine W.widen (k := 0) (n := 0) (by decide) (by decide) ?_
        refine W.eq (g2 := F0 m 51 ls [.int 2, .ref m0]) rfl ?_
        refine va_put (D := g.1) (ci := 16) (v := .int 2) (ty := .int) (C := RX12) (T := TX12) (N := 59) hx hb G.ws inX12 tyX12 tyX12_ok nmX12 hown G.K hP hD hS 0 rfl rfl 53 (by decide) (G.w kw_352) (fun _ h9 => h9) (by decide +kernel) (by decide +kernel) rfl rfl (Nat.le_of_ble_eq_true rfl) dX12_setWind_51 (fun H locs hP hD hS => ?_)
        have hP : va_P g.1 vwCl [(m0, .inr (16, mO r p0 p1 p9 p10 p18 p27 p28 p30 p44 p45 0 0 0 0 0 x0 2 0 0 0 0 0))] H := hP
        have hD : va_D A [(m0, .inr (16, mO r p0 p1 p9 p10 p18 p27 p28 p30 p44 p45 0 0 0 0 0 x0 2 0 0 0 0 0))] := hD
        refine lv_iload_n hx hb dX12_setWind_54 rfl (lv_at hl 0 rfl) ?_
        exact kretI K hP hD hS [0] [(m0, .inr (16, mO r p0 p1 p9 p10 p18 p27 p28 p30 p44 p45 0 0 0 0 0 x0 2 0 0 0 0 0))] rfl rfl (Or.inl ⟨0, 0, 0, 0, 0, x0, 2, 0, 0, 0, 0, rfl, rfl, (by simp [f_2, f_9, f_17])⟩) (by decide) (by decide) dX12_setWind_55
      · have hP : va_P g.1 vwCl [(m0, .inr (16, mO r p0 p1 p9 p10 p18 p27 p28 p30 p44 p45 0 0 0 0 0 x0 0 0 0 0 0 0))] H := hP
        have hD : va_D A [(m0, .inr (16, mO r p0 p1 p9 p10 p18 p27 p28 p30 p44 p45 0 0 0 0 0 x0 0 0 0 0 0 0))] := hD
        refine W.widen (k := 0) (n := 0) (by decide) (by decide) ?_
        refine W.eq (g2 := F0 m 51 ls [.int 3, .ref m0]) rfl ?_
        refine va_put (D := g.1) (ci := 16) (v := .int 3) (ty := .int) (C := RX12) (T := TX12) (N := 59) hx hb G.ws inX12 tyX12 tyX12_ok nmX12 hown G.K hP hD hS 0 rfl rfl 53 (by decide) (G.w kw_352) (fun _ h9 => h9) (by decide +kernel) (by decide +kernel) rfl rfl (Nat.le_of_ble_eq_true rfl) dX12_setWind_51 (fun H locs hP hD hS => ?_)
        have hP : va_P g.1 vwCl [(m0, .inr (16, mO r p0 p1 p9 p10 p18 p27 p28 p30 p44 p45 0 0 0 0 0 x0 3 0 0 0 0 0))] H := hP
        have hD : va_D A [(m0, .inr (16, mO r p0 p1 p9 p10 p18 p27 p28 p30 p44 p45 0 0 0 0 0 x0 3 0 0 0 0 0))] := hD
        refine lv_iload_n hx hb dX12_setWind_54 rfl (lv_at hl 0 rfl) ?_
        exact kretI K hP hD hS [0] [(m0, .inr (16, mO r p0 p1 p9 p10 p18 p27 p28 p30 p44 p45 0 0 0 0 0 x0 3 0 0 0 0 0))] rfl rfl (Or.inl ⟨0, 0, 0, 0, 0, x0, 3, 0, 0, 0, 0, rfl, rfl, (by simp [f_2, f_9, f_18])⟩) (by decide) (by decide) dX12_setWind_55
      · exact absurd (f_2.symm.trans f_19) (by decide)
    · have hP : va_P g.1 vwCl [(m0, .inr (16, mO r p0 p1 p9 p10 p18 p27 p28 p30 p44 p45 0 0 0 0 0 0 0 0 0 0 0 0))] H := hP
      have hD : va_D A [(m0, .inr (16, mO r p0 p1 p9 p10 p18 p27 p28 p30 p44 p45 0 0 0 0 0 0 0 0 0 0 0 0))] := hD
      refine W.widen (k := 0) (n := 0) (by decide) (by decide) ?_
      refine W.eq (g2 := F0 m 17 ls [.int 0, .ref m0]) rfl ?_
      refine lv_if_ne (tgt := 24) hx hb dX12_setWind_17 (by decide) (fun c17_20 => absurd c17_20 (by decide)) (fun _ => ?_)
      refine lv_iconst (v := 1) hx hb dX12_setWind_20 (by decide) ?_
      refine lv_goto (tgt := 25) hx hb dX12_setWind_21 (by decide) ?_
      refine lv_iconst (v := 1) hx hb dX12_setWind_25 (by decide) ?_
      refine kcallV (wc := [(m0, .inr (16, mO r p0 p1 p9 p10 p18 p27 p28 p30 p44 p45 0 0 0 0 0 0 0 0 0 0 0 0))]) (wr := []) (As := [.int 1, .int 1]) (rest := []) K G (m_X12_isThrown1 l hl0 g m0 r p0 p1 p9 p10 p18 p27 p28 p30 p44 p45 0 0 0 0 0 0 0 0 0 0 0 0 1 ) hP hD hS hA hl kw_319 kw_320 kw_321 kw_322 kw_307 ydX12_isThrown [0] [] rfl rfl rfl rfl (by decide) (ci := 16) (q0 := 0) rfl rfl rfl rfl rfl (Nat.le_of_ble_eq_true rfl) dX12_setWind_26 ⟨Nat.le_of_ble_eq_true rfl, Nat.le_of_ble_eq_true rfl⟩ ⟨Nat.le_of_ble_eq_true rfl, Nat.le_of_ble_eq_true rfl⟩ (fun _ _ _ _ _ _ hX _ _ _ _ _ _ => hX.elim) (fun v w1 H locs hQ hP hD hS => ?_)
      obtain ⟨rfl, rfl⟩ := hQ
      have hP : va_P g.1 vwCl [(m0, .inr (16, mO r p0 p1 p9 p10 p18 p27 p28 p30 p44 p45 0 0 0 0 0 0 0 0 0 0 0 1))] H := hP
      have hD : va_D A [(m0, .inr (16, mO r p0 p1 p9 p10 p18 p27 p28 p30 p44 p45 0 0 0 0 0 0 0 0 0 0 0 1))] := hD
      refine W.widen (k := 0) (n := 0) (by decide) (by decide) ?_
      refine W.eq (g2 := F0 m 29 ls [.int 1]) rfl ?_
      refine lv_if_eq (tgt := 34) hx hb dX12_setWind_29 (by decide) (fun c29_22 => absurd c29_22 (by decide)) (fun _ => ?_)
      refine lv_iconst (v := 0) hx hb dX12_setWind_32 (by decide) ?_
      exact kretI K hP hD hS [0] [(m0, .inr (16, mO r p0 p1 p9 p10 p18 p27 p28 p30 p44 p45 0 0 0 0 0 0 0 0 0 0 0 1))] rfl rfl (Or.inr (⟨0, 0, 0, 0, 0, 0, 0, 0, 0, 0, 0, rfl, rfl, (by simp [f_2, f_10])⟩)) (by decide) (by decide) dX12_setWind_33
  · have hP : va_P g.1 vwCl [(m0, .inr (16, mO r p0 p1 p9 p10 p18 p27 p28 p30 p44 p45 0 0 0 0 0 0 0 0 0 0 0 0))] H := hP
    have hD : va_D A [(m0, .inr (16, mO r p0 p1 p9 p10 p18 p27 p28 p30 p44 p45 0 0 0 0 0 0 0 0 0 0 0 0))] := hD
    refine W.widen (k := 0) (n := 0) (by decide) (by decide) ?_
    refine W.eq (g2 := F0 m 7 ls [.int 1, .ref m0]) rfl ?_
    refine lv_if_lt (tgt := 20) hx hb dX12_setWind_7 (by decide) (fun c7_23 => absurd c7_23 (by decide)) (fun _ => ?_)
    refine lv_iload_n hx hb dX12_setWind_10 rfl (lv_at hl 1 rfl) ?_
    refine lv_iconst (v := 0) hx hb dX12_setWind_11 (by decide) ?_
    refine lv_bipush (v := 12) hx hb dX12_setWind_12 (by decide) ?_
    refine kcallS (wc := []) (wr := [(m0, .inr (16, mO r p0 p1 p9 p10 p18 p27 p28 p30 p44 p45 0 0 0 0 0 0 0 0 0 0 0 0))]) (As := [.int x0, .int 0, .int 12]) (rest := [.ref m0]) K G (m_X12_isIn l hl0 g x0 0 12 ) hP hD hS hA hl kw_305 kw_306 kw_308 kw_307 ydX12_isIn [] [0] rfl rfl rfl rfl (by decide) rfl rfl (Nat.le_of_ble_eq_true rfl) dX12_setWind_14 ⟨Nat.le_of_ble_eq_true rfl, Nat.le_of_ble_eq_true rfl⟩ ⟨Nat.le_of_ble_eq_true rfl, Nat.le_of_ble_eq_true rfl⟩ (fun _ _ _ _ _ _ hX _ _ _ _ _ _ => hX.elim) (fun v w1 H locs hQ hP hD hS => ?_)
    rcases hQ with ⟨rfl, rfl, f_25⟩ | ⟨rfl, rfl, f_26⟩
    · have hP : va_P g.1 vwCl [(m0, .inr (16, mO r p0 p1 p9 p10 p18 p27 p28 p30 p44 p45 0 0 0 0 0 0 0 0 0 0 0 0))] H := hP
      have hD : va_D A [(m0, .inr (16, mO r p0 p1 p9 p10 p18 p27 p28 p30 p44 p45 0 0 0 0 0 0 0 0 0 0 0 0))] := hD
      refine W.widen (k := 0) (n := 0) (by decide) (by decide) ?_
      refine W.eq (g2 := F0 m 17 ls [.int 1, .ref m0]) rfl ?_
      refine lv_if_ne (tgt := 24) hx hb dX12_setWind_17 (by decide) (fun _ => ?_) (fun c17_27 => absurd c17_27 (by decide))
      refine lv_iconst (v := 0) hx hb dX12_setWind_24 (by decide) ?_
      refine lv_iconst (v := 1) hx hb dX12_setWind_25 (by decide) ?_
      refine kcallV (wc := [(m0, .inr (16, mO r p0 p1 p9 p10 p18 p27 p28 p30 p44 p45 0 0 0 0 0 0 0 0 0 0 0 0))]) (wr := []) (As := [.int 0, .int 1]) (rest := []) K G (m_X12_isThrown0 l hl0 g m0 r p0 p1 p9 p10 p18 p27 p28 p30 p44 p45 0 0 0 0 0 0 0 0 0 0 0 0 1 ) hP hD hS hA hl kw_319 kw_320 kw_321 kw_322 kw_307 ydX12_isThrown [0] [] rfl rfl rfl rfl (by decide) (ci := 16) (q0 := 0) rfl rfl rfl rfl rfl (Nat.le_of_ble_eq_true rfl) dX12_setWind_26 ⟨Nat.le_of_ble_eq_true rfl, Nat.le_of_ble_eq_true rfl⟩ ⟨Nat.le_of_ble_eq_true rfl, Nat.le_of_ble_eq_true rfl⟩ (fun _ _ _ _ _ _ hX _ _ _ _ _ _ => hX.elim) (fun v w1 H locs hQ hP hD hS => ?_)
      obtain ⟨rfl, rfl⟩ := hQ
      have hP : va_P g.1 vwCl [(m0, .inr (16, mO r p0 p1 p9 p10 p18 p27 p28 p30 p44 p45 0 0 0 0 0 0 0 0 0 0 0 0))] H := hP
      have hD : va_D A [(m0, .inr (16, mO r p0 p1 p9 p10 p18 p27 p28 p30 p44 p45 0 0 0 0 0 0 0 0 0 0 0 0))] := hD
      refine W.widen (k := 0) (n := 0) (by decide) (by decide) ?_
      refine W.eq (g2 := F0 m 29 ls [.int 0]) rfl ?_
      refine lv_if_eq (tgt := 34) hx hb dX12_setWind_29 (by decide) (fun _ => ?_) (fun c29_29 => absurd c29_29 (by decide))
      refine lv_aload_n hx hb dX12_setWind_34 rfl (lv_at hl 0 rfl) ?_
      refine va_get (D := g.1) (ci := 16) (v := .int 0) (C := RX12) (T := TX12) (N := 59) hx hb G.ws inX12 hown G.K hP 0 rfl rfl 52 (by decide) (G.w kw_351) (fun _ h9 => h9) rfl dX12_setWind_35 ?_
      refine lv_istore_n (lv' := [(3, .int 0), (0, .ref m0), (1, .int x0), (2, .int x1)]) hx hb dX12_setWind_38 rfl hl (by decide) rfl (fun ls hl => ?_)
      refine lv_aload_n hx hb dX12_setWind_39 rfl (lv_at hl 1 rfl) ?_
      refine lv_iload_n hx hb dX12_setWind_40 rfl (lv_at hl 2 rfl) ?_
      refine va_put (D := g.1) (ci := 16) (v := .int x0) (ty := .int) (C := RX12) (T := TX12) (N := 59) hx hb G.ws inX12 tyX12 tyX12_ok nmX12 hown G.K hP hD hS 0 rfl rfl 52 (by decide) (G.w kw_351) (fun _ h9 => h9) (by decide +kernel) (by decide +kernel) rfl rfl (Nat.le_of_ble_eq_true rfl) dX12_setWind_41 (fun H locs hP hD hS => ?_)
      have hP : va_P g.1 vwCl [(m0, .inr (16, mO r p0 p1 p9 p10 p18 p27 p28 p30 p44 p45 0 0 0 0 0 x0 0 0 0 0 0 0))] H := hP
      have hD : va_D A [(m0, .inr (16, mO r p0 p1 p9 p10 p18 p27 p28 p30 p44 p45 0 0 0 0 0 x0 0 0 0 0 0 0))] := hD
      refine lv_aload_n hx hb dX12_setWind_44 rfl (lv_at hl 1 rfl) ?_
      refine va_ldcS hx hb hown G.ways dX12_setWind_45 ?_
      refine lv_iload_n hx hb dX12_setWind_47 rfl (lv_at hl 3 rfl) ?_
      refine kcallVr (wc := []) (wr := [(m0, .inr (16, mO r p0 p1 p9 p10 p18 p27 p28 p30 p44 p45 0 0 0 0 0 x0 0 0 0 0 0 0))]) (As := [.int x1]) (rest := [.ref m0]) K G (m_J0_indexOf_0f7a4 l hl0 g x1 ) hP hD hS hA hl kw_347 kw_348 kw_349 kw_350 kw_276 ydJ0_indexOf_0f7a4 [] [0] rfl rfl rfl rfl (by decide) (vk_recv G.st (by decide) hS) rfl rfl (Nat.le_of_ble_eq_true rfl) dX12_setWind_48 ⟨Nat.le_of_ble_eq_true rfl, Nat.le_of_ble_eq_true rfl⟩ ⟨Nat.le_of_ble_eq_true rfl, Nat.le_of_ble_eq_true rfl⟩ (fun _ _ _ _ _ _ hX _ _ _ _ _ _ => hX.elim) (fun v w1 H locs hQ hP hD hS => ?_)
      rcases hQ with ⟨rfl, rfl, f_31⟩ | ⟨rfl, rfl, f_32⟩ | ⟨rfl, rfl, f_33⟩ | ⟨rfl, rfl, f_34⟩ | ⟨rfl, rfl, f_35⟩
      · have hP : va_P g.1 vwCl [(m0, .inr (16, mO r p0 p1 p9 p10 p18 p27 p28 p30 p44 p45 0 0 0 0 0 x0 0 0 0 0 0 0))] H := hP
        have hD : va_D A [(m0, .inr (16, mO r p0 p1 p9 p10 p18 p27 p28 p30 p44 p45 0 0 0 0 0 x0 0 0 0 0 0 0))] := hD
        refine W.widen (k := 0) (n := 0) (by decide) (by decide) ?_
        refine W.eq (g2 := F0 m 51 ls [.int 0, .ref m0]) rfl ?_
        refine va_put (D := g.1) (ci := 16) (v := .int 0) (ty := .int) (C := RX12) (T := TX12) (N := 59) hx hb G.ws inX12 tyX12 tyX12_ok nmX12 hown G.K hP hD hS 0 rfl rfl 53 (by decide) (G.w kw_352) (fun _ h9 => h9) (by decide +kernel) (by decide +kernel) rfl rfl (Nat.le_of_ble_eq_true rfl) dX12_setWind_51 (fun H locs hP hD hS => ?_)
        have hP : va_P g.1 vwCl [(m0, .inr (16, mO r p0 p1 p9 p10 p18 p27 p28 p30 p44 p45 0 0 0 0 0 x0 0 0 0 0 0 0))] H := hP
        have hD : va_D A [(m0, .inr (16, mO r p0 p1 p9 p10 p18 p27 p28 p30 p44 p45 0 0 0 0 0 x0 0 0 0 0 0 0))] := hD
        refine lv_iload_n hx hb dX12_setWind_54 rfl (lv_at hl 0 rfl) ?_
        exact kretI K hP hD hS [0] [(m0, .inr (16, mO r p0 p1 p9 p10 p18 p27 p28 p30 p44 p45 0 0 0 0 0 x0 0 0 0 0 0 0))] rfl rfl (Or.inl ⟨0, 0, 0, 0, 0, x0, 0, 0, 0, 0, 0, rfl, rfl, (by simp [f_3, f_25, f_31])⟩) (by decide) (by decide) dX12_setWind_55
      · have hP : va_P g.1 vwCl [(m0, .inr (16, mO r p0 p1 p9 p10 p18 p27 p28 p30 p44 p45 0 0 0 0 0 x0 0 0 0 0 0 0))] H := hP
        have hD : va_D A [(m0, .inr (16, mO r p0 p1 p9 p10 p18 p27 p28 p30 p44 p45 0 0 0 0 0 x0 0 0 0 0 0 0))] := hD
        refine W.widen (k := 0) (n := 0) (by decide) (by decide) ?_
        refine W.eq (g2 := F0 m 51 ls [.int 1, .ref m0]) rfl ?_
        refine va_put (D := g.1) (ci := 16) (v := .int 1) (ty := .int) (C := RX12) (T := TX12) (N := 59) hx hb G.ws inX12 tyX12 tyX12_ok nmX12 hown G.K hP hD hS 0 rfl rfl 53 (by decide) (G.w kw_352) (fun _ h9 => h9) (by decide +kernel) (by decide +kernel) rfl rfl (Nat.le_of_ble_eq_true rfl) dX12_setWind_51 (fun H locs hP hD hS => ?_)
        have hP : va_P g.1 vwCl [(m0, .inr (16, mO r p0 p1 p9 p10 p18 p27 p28 p30 p44 p45 0 0 0 0 0 x0 1 0 0 0 0 0))] H := hP
        have hD : va_D A [(m0, .inr (16, mO r p0 p1 p9 p10 p18 p27 p28 p30 p44 p45 0 0 0 0 0 x0 1 0 0 0 0 0))] := hD
        refine lv_iload_n hx hb dX12_setWind_54 rfl (lv_at hl 0 rfl) ?_
        exact kretI K hP hD hS [0] [(m0, .inr (16, mO r p0 p1 p9 p10 p18 p27 p28 p30 p44 p45 0 0 0 0 0 x0 1 0 0 0 0 0))] rfl rfl (Or.inl ⟨0, 0, 0, 0, 0, x0, 1, 0, 0, 0, 0, rfl, rfl, (by simp [f_3, f_25, f_32])⟩) (by decide) (by decide) dX12_setWind_55
      · have hP : va_P g.1 vwCl [(m0, .inr (16, mO r p0 p1 p9 p10 p18 p27 p28 p30 p44 p45 0 0 0 0 0 x0 0 0 0 0 0 0))] H := hP
        have hD : va_D A [(m0, .inr (16, mO r p0 p1 p9 p10 p18 p27 p28 p30 p44 p45 0 0 0 0 0 x0 0 0 0 0 0 0))] := hD
        refine W.widen (k := 0) (n := 0) (by decide) (by decide) ?_
        refine W.eq (g2 := F0 m 51 ls [.int 2, .ref m0]) rfl ?_
        refine va_put (D := g.1) (ci := 16) (v := .int 2) (ty := .int) (C := RX12) (T := TX12) (N := 59) hx hb G.ws inX12 tyX12 tyX12_ok nmX12 hown G.K hP hD hS 0 rfl rfl 53 (by decide) (G.w kw_352) (fun _ h9 => h9) (by decide +kernel) (by decide +kernel) rfl rfl (Nat.le_of_ble_eq_true rfl) dX12_setWind_51 (fun H locs hP hD hS => ?_)
        have hP : va_P g.1 vwCl [(m0, .inr (16, mO r p0 p1 p9 p10 p18 p27 p28 p30 p44 p45 0 0 0 0 0 x0 2 0 0 0 0 0))] H := hP
        have hD : va_D A [(m0, .inr (16, mO r p0 p1 p9 p10 p18 p27 p28 p30 p44 p45 0 0 0 0 0 x0 2 0 0 0 0 0))] := hD
        refine lv_iload_n hx hb dX12_setWind_54 rfl (lv_at hl 0 rfl) ?_
        exact kretI K hP hD hS [0] [(m0, .inr (16, mO r p0 p1 p9 p10 p18 p27 p28 p30 p44 p45 0 0 0 0 0 x0 2 0 0 0 0 0))] rfl rfl (Or.inl ⟨0, 0, 0, 0, 0, x0, 2, 0, 0, 0, 0, rfl, rfl, (by simp [f_3, f_25, f_33])⟩) (by decide) (by decide) dX12_setWind_55
      · have hP : va_P g.1 vwCl [(m0, .inr (16, mO r p0 p1 p9 p10 p18 p27 p28 p30 p44 p45 0 0 0 0 0 x0 0 0 0 0 0 0))] H := hP
        have hD : va_D A [(m0, .inr (16, mO r p0 p1 p9 p10 p18 p27 p28 p30 p44 p45 0 0 0 0 0 x0 0 0 0 0 0 0))] := hD
        refine W.widen (k := 0) (n := 0) (by decide) (by decide) ?_
        refine W.eq (g2 := F0 m 51 ls [.int 3, .ref m0]) rfl ?_
        refine va_put (D := g.1) (ci := 16) (v := .int 3) (ty := .int) (C := RX12) (T := TX12) (N := 59) hx hb G.ws inX12 tyX12 tyX12_ok nmX12 hown G.K hP hD hS 0 rfl rfl 53 (by decide) (G.w kw_352) (fun _ h9 => h9) (by decide +kernel) (by decide +kernel) rfl rfl (Nat.le_of_ble_eq_true rfl) dX12_setWind_51 (fun H locs hP hD hS => ?_)
        have hP : va_P g.1 vwCl [(m0, .inr (16, mO r p0 p1 p9 p10 p18 p27 p28 p30 p44 p45 0 0 0 0 0 x0 3 0 0 0 0 0))] H := hP
        have hD : va_D A [(m0, .inr (16, mO r p0 p1 p9 p10 p18 p27 p28 p30 p44 p45 0 0 0 0 0 x0 3 0 0 0 0 0))] := hD
        refine lv_iload_n hx hb dX12_setWind_54 rfl (lv_at hl 0 rfl) ?_
        exact kretI K hP hD hS [0] [(m0, .inr (16, mO r p0 p1 p9 p10 p18 p27 p28 p30 p44 p45 0 0 0 0 0 x0 3 0 0 0 0 0))] rfl rfl (Or.inl ⟨0, 0, 0, 0, 0, x0, 3, 0, 0, 0, 0, rfl, rfl, (by simp [f_3, f_25, f_34])⟩) (by decide) (by decide) dX12_setWind_55
      · exact absurd (f_3.symm.trans f_35) (by decide)
    · have hP : va_P g.1 vwCl [(m0, .inr (16, mO r p0 p1 p9 p10 p18 p27 p28 p30 p44 p45 0 0 0 0 0 0 0 0 0 0 0 0))] H := hP
      have hD : va_D A [(m0, .inr (16, mO r p0 p1 p9 p10 p18 p27 p28 p30 p44 p45 0 0 0 0 0 0 0 0 0 0 0 0))] := hD
      refine W.widen (k := 0) (n := 0) (by decide) (by decide) ?_
      refine W.eq (g2 := F0 m 17 ls [.int 0, .ref m0]) rfl ?_
      refine lv_if_ne (tgt := 24) hx hb dX12_setWind_17 (by decide) (fun c17_36 => absurd c17_36 (by decide)) (fun _ => ?_)
      refine lv_iconst (v := 1) hx hb dX12_setWind_20 (by decide) ?_
      refine lv_goto (tgt := 25) hx hb dX12_setWind_21 (by decide) ?_
      refine lv_iconst (v := 1) hx hb dX12_setWind_25 (by decide) ?_
      refine kcallV (wc := [(m0, .inr (16, mO r p0 p1 p9 p10 p18 p27 p28 p30 p44 p45 0 0 0 0 0 0 0 0 0 0 0 0))]) (wr := []) (As := [.int 1, .int 1]) (rest := []) K G (m_X12_isThrown1 l hl0 g m0 r p0 p1 p9 p10 p18 p27 p28 p30 p44 p45 0 0 0 0 0 0 0 0 0 0 0 0 1 ) hP hD hS hA hl kw_319 kw_320 kw_321 kw_322 kw_307 ydX12_isThrown [0] [] rfl rfl rfl rfl (by decide) (ci := 16) (q0 := 0) rfl rfl rfl rfl rfl (Nat.le_of_ble_eq_true rfl) dX12_setWind_26 ⟨Nat.le_of_ble_eq_true rfl, Nat.le_of_ble_eq_true rfl⟩ ⟨Nat.le_of_ble_eq_true rfl, Nat.le_of_ble_eq_true rfl⟩ (fun _ _ _ _ _ _ hX _ _ _ _ _ _ => hX.elim) (fun v w1 H locs hQ hP hD hS => ?_)
      obtain ⟨rfl, rfl⟩ := hQ
      have hP : va_P g.1 vwCl [(m0, .inr (16, mO r p0 p1 p9 p10 p18 p27 p28 p30 p44 p45 0 0 0 0 0 0 0 0 0 0 0 1))] H := hP
      have hD : va_D A [(m0, .inr (16, mO r p0 p1 p9 p10 p18 p27 p28 p30 p44 p45 0 0 0 0 0 0 0 0 0 0 0 1))] := hD
      refine W.widen (k := 0) (n := 0) (by decide) (by decide) ?_
      refine W.eq (g2 := F0 m 29 ls [.int 1]) rfl ?_
      refine lv_if_eq (tgt := 34) hx hb dX12_setWind_29 (by decide) (fun c29_38 => absurd c29_38 (by decide)) (fun _ => ?_)
      refine lv_iconst (v := 0) hx hb dX12_setWind_32 (by decide) ?_
      exact kretI K hP hD hS [0] [(m0, .inr (16, mO r p0 p1 p9 p10 p18 p27 p28 p30 p44 p45 0 0 0 0 0 0 0 0 0 0 0 1))] rfl rfl (Or.inr (⟨0, 0, 0, 0, 0, 0, 0, 0, 0, 0, 0, rfl, rfl, (by simp [f_3, f_26])⟩)) (by decide) (by decide) dX12_setWind_33
  · have hP : va_P g.1 vwCl [(m0, .inr (16, mO r p0 p1 p9 p10 p18 p27 p28 p30 p44 p45 0 0 0 0 0 0 0 0 0 0 0 0))] H := hP
    have hD : va_D A [(m0, .inr (16, mO r p0 p1 p9 p10 p18 p27 p28 p30 p44 p45 0 0 0 0 0 0 0 0 0 0 0 0))] := hD
    refine W.widen (k := 0) (n := 0) (by decide) (by decide) ?_
    refine W.eq (g2 := F0 m 7 ls [.int 2, .ref m0]) rfl ?_
    refine lv_if_lt (tgt := 20) hx hb dX12_setWind_7 (by decide) (fun c7_39 => absurd c7_39 (by decide)) (fun _ => ?_)
    refine lv_iload_n hx hb dX12_setWind_10 rfl (lv_at hl 1 rfl) ?_
    refine lv_iconst (v := 0) hx hb dX12_setWind_11 (by decide) ?_
    refine lv_bipush (v := 12) hx hb dX12_setWind_12 (by decide) ?_
    refine kcallS (wc := []) (wr := [(m0, .inr (16, mO r p0 p1 p9 p10 p18 p27 p28 p30 p44 p45 0 0 0 0 0 0 0 0 0 0 0 0))]) (As := [.int x0, .int 0, .int 12]) (rest := [.ref m0]) K G (m_X12_isIn l hl0 g x0 0 12 ) hP hD hS hA hl kw_305 kw_306 kw_308 kw_307 ydX12_isIn [] [0] rfl rfl rfl rfl (by decide) rfl rfl (Nat.le_of_ble_eq_true rfl) dX12_setWind_14 ⟨Nat.le_of_ble_eq_true rfl, Nat.le_of_ble_eq_true rfl⟩ ⟨Nat.le_of_ble_eq_true rfl, Nat.le_of_ble_eq_true rfl⟩ (fun _ _ _ _ _ _ hX _ _ _ _ _ _ => hX.elim) (fun v w1 H locs hQ hP hD hS => ?_)
    rcases hQ with ⟨rfl, rfl, f_41⟩ | ⟨rfl, rfl, f_42⟩
    · have hP : va_P g.1 vwCl [(m0, .inr (16, mO r p0 p1 p9 p10 p18 p27 p28 p30 p44 p45 0 0 0 0 0 0 0 0 0 0 0 0))] H := hP
      have hD : va_D A [(m0, .inr (16, mO r p0 p1 p9 p10 p18 p27 p28 p30 p44 p45 0 0 0 0 0 0 0 0 0 0 0 0))] := hD
      refine W.widen (k := 0) (n := 0) (by decide) (by decide) ?_
      refine W.eq (g2 := F0 m 17 ls [.int 1, .ref m0]) rfl ?_
      refine lv_if_ne (tgt := 24) hx hb dX12_setWind_17 (by decide) (fun _ => ?_) (fun c17_43 => absurd c17_43 (by decide))
      refine lv_iconst (v := 0) hx hb dX12_setWind_24 (by decide) ?_
      refine lv_iconst (v := 1) hx hb dX12_setWind_25 (by decide) ?_
      refine kcallV (wc := [(m0, .inr (16, mO r p0 p1 p9 p10 p18 p27 p28 p30 p44 p45 0 0 0 0 0 0 0 0 0 0 0 0))]) (wr := []) (As := [.int 0, .int 1]) (rest := []) K G (m_X12_isThrown0 l hl0 g m0 r p0 p1 p9 p10 p18 p27 p28 p30 p44 p45 0 0 0 0 0 0 0 0 0 0 0 0 1 ) hP hD hS hA hl kw_319 kw_320 kw_321 kw_322 kw_307 ydX12_isThrown [0] [] rfl rfl rfl rfl (by decide) (ci := 16) (q0 := 0) rfl rfl rfl rfl rfl (Nat.le_of_ble_eq_true rfl) dX12_setWind_26 ⟨Nat.le_of_ble_eq_true rfl, Nat.le_of_ble_eq_true rfl⟩ ⟨Nat.le_of_ble_eq_true rfl, Nat.le_of_ble_eq_true rfl⟩ (fun _ _ _ _ _ _ hX _ _ _ _ _ _ => hX.elim) (fun v w1 H locs hQ hP hD hS => ?_)
      obtain ⟨rfl, rfl⟩ := hQ
      have hP : va_P g.1 vwCl [(m0, .inr (16, mO r p0 p1 p9 p10 p18 p27 p28 p30 p44 p45 0 0 0 0 0 0 0 0 0 0 0 0))] H := hP
      have hD : va_D A [(m0, .inr (16, mO r p0 p1 p9 p10 p18 p27 p28 p30 p44 p45 0 0 0 0 0 0 0 0 0 0 0 0))] := hD
      refine W.widen (k := 0) (n := 0) (by decide) (by decide) ?_
      refine W.eq (g2 := F0 m 29 ls [.int 0]) rfl ?_
      refine lv_if_eq (tgt := 34) hx hb dX12_setWind_29 (by decide) (fun _ => ?_) (fun c29_45 => absurd c29_45 (by decide))
      refine lv_aload_n hx hb dX12_setWind_34 rfl (lv_at hl 0 rfl) ?_
      refine va_get (D := g.1) (ci := 16) (v := .int 0) (C := RX12) (T := TX12) (N := 59) hx hb G.ws inX12 hown G.K hP 0 rfl rfl 52 (by decide) (G.w kw_351) (fun _ h9 => h9) rfl dX12_setWind_35 ?_
      refine lv_istore_n (lv' := [(3, .int 0), (0, .ref m0), (1, .int x0), (2, .int x1)]) hx hb dX12_setWind_38 rfl hl (by decide) rfl (fun ls hl => ?_)
      refine lv_aload_n hx hb dX12_setWind_39 rfl (lv_at hl 1 rfl) ?_
      refine lv_iload_n hx hb dX12_setWind_40 rfl (lv_at hl 2 rfl) ?_
      refine va_put (D := g.1) (ci := 16) (v := .int x0) (ty := .int) (C := RX12) (T := TX12) (N := 59) hx hb G.ws inX12 tyX12 tyX12_ok nmX12 hown G.K hP hD hS 0 rfl rfl 52 (by decide) (G.w kw_351) (fun _ h9 => h9) (by decide +kernel) (by decide +kernel) rfl rfl (Nat.le_of_ble_eq_true rfl) dX12_setWind_41 (fun H locs hP hD hS => ?_)
      have hP : va_P g.1 vwCl [(m0, .inr (16, mO r p0 p1 p9 p10 p18 p27 p28 p30 p44 p45 0 0 0 0 0 x0 0 0 0 0 0 0))] H := hP
      have hD : va_D A [(m0, .inr (16, mO r p0 p1 p9 p10 p18 p27 p28 p30 p44 p45 0 0 0 0 0 x0 0 0 0 0 0 0))] := hD
      refine lv_aload_n hx hb dX12_setWind_44 rfl (lv_at hl 1 rfl) ?_
      refine va_ldcS hx hb hown G.ways dX12_setWind_45 ?_
      refine lv_iload_n hx hb dX12_setWind_47 rfl (lv_at hl 3 rfl) ?_
      refine kcallVr (wc := []) (wr := [(m0, .inr (16, mO r p0 p1 p9 p10 p18 p27 p28 p30 p44 p45 0 0 0 0 0 x0 0 0 0 0 0 0))]) (As := [.int x1]) (rest := [.ref m0]) K G (m_J0_indexOf_0f7a4 l hl0 g x1 ) hP hD hS hA hl kw_347 kw_348 kw_349 kw_350 kw_276 ydJ0_indexOf_0f7a4 [] [0] rfl rfl rfl rfl (by decide) (vk_recv G.st (by decide) hS) rfl rfl (Nat.le_of_ble_eq_true rfl) dX12_setWind_48 ⟨Nat.le_of_ble_eq_true rfl, Nat.le_of_ble_eq_true rfl⟩ ⟨Nat.le_of_ble_eq_true rfl, Nat.le_of_ble_eq_true rfl⟩ (fun _ _ _ _ _ _ hX _ _ _ _ _ _ => hX.elim) (fun v w1 H locs hQ hP hD hS => ?_)
      rcases hQ with ⟨rfl, rfl, f_47⟩ | ⟨rfl, rfl, f_48⟩ | ⟨rfl, rfl, f_49⟩ | ⟨rfl, rfl, f_50⟩ | ⟨rfl, rfl, f_51⟩
      · have hP : va_P g.1 vwCl [(m0, .inr (16, mO r p0 p1 p9 p10 p18 p27 p28 p30 p44 p45 0 0 0 0 0 x0 0 0 0 0 0 0))] H := hP
        have hD : va_D A [(m0, .inr (16, mO r p0 p1 p9 p10 p18 p27 p28 p30 p44 p45 0 0 0 0 0 x0 0 0 0 0 0 0))] := hD
        refine W.widen (k := 0) (n := 0) (by decide) (by decide) ?_
        refine W.eq (g2 := F0 m 51 ls [.int 0, .ref m0]) rfl ?_
        refine va_put (D := g.1) (ci := 16) (v := .int 0) (ty := .int) (C := RX12) (T := TX12) (N := 59) hx hb G.ws inX12 tyX12 tyX12_ok nmX12 hown G.K hP hD hS 0 rfl rfl 53 (by decide) (G.w kw_352) (fun _ h9 => h9) (by decide +kernel) (by decide +kernel) rfl rfl (Nat.le_of_ble_eq_true rfl) dX12_setWind_51 (fun H locs hP hD hS => ?_)
        have hP : va_P g.1 vwCl [(m0, .inr (16, mO r p0 p1 p9 p10 p18 p27 p28 p30 p44 p45 0 0 0 0 0 x0 0 0 0 0 0 0))] H := hP
        have hD : va_D A [(m0, .inr (16, mO r p0 p1 p9 p10 p18 p27 p28 p30 p44 p45 0 0 0 0 0 x0 0 0 0 0 0 0))] := hD
        refine lv_iload_n hx hb dX12_setWind_54 rfl (lv_at hl 0 rfl) ?_
        exact kretI K hP hD hS [0] [(m0, .inr (16, mO r p0 p1 p9 p10 p18 p27 p28 p30 p44 p45 0 0 0 0 0 x0 0 0 0 0 0 0))] rfl rfl (Or.inl ⟨0, 0, 0, 0, 0, x0, 0, 0, 0, 0, 0, rfl, rfl, (by simp [f_4, f_41, f_47])⟩) (by decide) (by decide) dX12_setWind_55
      · have hP : va_P g.1 vwCl [(m0, .inr (16, mO r p0 p1 p9 p10 p18 p27 p28 p30 p44 p45 0 0 0 0 0 x0 0 0 0 0 0 0))] H := hP
        have hD : va_D A [(m0, .inr (16, mO r p0 p1 p9 p10 p18 p27 p28 p30 p44 p45 0 0 0 0 0 x0 0 0 0 0 0 0))] := hD
        refine W.widen (k := 0) (n := 0) (by decide) (by decide) ?_
        refine W.eq (g2 := F0 m 51 ls [.int 1, .ref m0]) rfl ?_
        refine va_put (D := g.1) (ci := 16) (v := .int 1) (ty := .int) (C := RX12) (T := TX12) (N := 59) hx hb G.ws inX12 tyX12 tyX12_ok nmX12 hown G.K hP hD hS 0 rfl rfl 53 (by decide) (G.w kw_352) (fun _ h9 => h9) (by decide +kernel) (by decide +kernel) rfl rfl (Nat.le_of_ble_eq_true rfl) dX12_setWind_51 (fun H locs hP hD hS => ?_)
        have hP : va_P g.1 vwCl [(m0, .inr (16, mO r p0 p1 p9 p10 p18 p27 p28 p30 p44 p45 0 0 0 0 0 x0 1 0 0 0 0 0))] H := hP
        have hD : va_D A [(m0, .inr (16, mO r p0 p1 p9 p10 p18 p27 p28 p30 p44 p45 0 0 0 0 0 x0 1 0 0 0 0 0))] := hD
        refine lv_iload_n hx hb dX12_setWind_54 rfl (lv_at hl 0 rfl) ?_
        exact kretI K hP hD hS [0] [(m0, .inr (16, mO r p0 p1 p9 p10 p18 p27 p28 p30 p44 p45 0 0 0 0 0 x0 1 0 0 0 0 0))] rfl rfl (Or.inl ⟨0, 0, 0, 0, 0, x0, 1, 0, 0, 0, 0, rfl, rfl, (by simp [f_4, f_41, f_48])⟩) (by decide) (by decide) dX12_setWind_55
      · have hP : va_P g.1 vwCl [(m0, .inr (16, mO r p0 p1 p9 p10 p18 p27 p28 p30 p44 p45 0 0 0 0 0 x0 0 0 0 0 0 0))] H := hP
        have hD : va_D A [(m0, .inr (16, mO r p0 p1 p9 p10 p18 p27 p28 p30 p44 p45 0 0 0 0 0 x0 0 0 0 0 0 0))] := hD
        refine W.widen (k := 0) (n := 0) (by decide) (by decide) ?_
        refine W.eq (g2 := F0 m 51 ls [.int 2, .ref m0]) rfl ?_
        refine va_put (D := g.1) (ci := 16) (v := .int 2) (ty := .int) (C := RX12) (T := TX12) (N := 59) hx hb G.ws inX12 tyX12 tyX12_ok nmX12 hown G.K hP hD hS 0 rfl rfl 53 (by decide) (G.w kw_352) (fun _ h9 => h9) (by decide +kernel) (by decide +kernel) rfl rfl (Nat.le_of_ble_eq_true rfl) dX12_setWind_51 (fun H locs hP hD hS => ?_)
        have hP : va_P g.1 vwCl [(m0, .inr (16, mO r p0 p1 p9 p10 p18 p27 p28 p30 p44 p45 0 0 0 0 0 x0 2 0 0 0 0 0))] H := hP
        have hD : va_D A [(m0, .inr (16, mO r p0 p1 p9 p10 p18 p27 p28 p30 p44 p45 0 0 0 0 0 x0 2 0 0 0 0 0))] := hD
        refine lv_iload_n hx hb dX12_setWind_54 rfl (lv_at hl 0 rfl) ?_
        exact kretI K hP hD hS [0] [(m0, .inr (16, mO r p0 p1 p9 p10 p18 p27 p28 p30 p44 p45 0 0 0 0 0 x0 2 0 0 0 0 0))] rfl rfl (Or.inl ⟨0, 0, 0, 0, 0, x0, 2, 0, 0, 0, 0, rfl, rfl, (by simp [f_4, f_41, f_49])⟩) (by decide) (by decide) dX12_setWind_55
      · have hP : va_P g.1 vwCl [(m0, .inr (16, mO r p0 p1 p9 p10 p18 p27 p28 p30 p44 p45 0 0 0 0 0 x0 0 0 0 0 0 0))] H := hP
        have hD : va_D A [(m0, .inr (16, mO r p0 p1 p9 p10 p18 p27 p28 p30 p44 p45 0 0 0 0 0 x0 0 0 0 0 0 0))] := hD
        refine W.widen (k := 0) (n := 0) (by decide) (by decide) ?_
        refine W.eq (g2 := F0 m 51 ls [.int 3, .ref m0]) rfl ?_
        refine va_put (D := g.1) (ci := 16) (v := .int 3) (ty := .int) (C := RX12) (T := TX12) (N := 59) hx hb G.ws inX12 tyX12 tyX12_ok nmX12 hown G.K hP hD hS 0 rfl rfl 53 (by decide) (G.w kw_352) (fun _ h9 => h9) (by decide +kernel) (by decide +kernel) rfl rfl (Nat.le_of_ble_eq_true rfl) dX12_setWind_51 (fun H locs hP hD hS => ?_)
        have hP : va_P g.1 vwCl [(m0, .inr (16, mO r p0 p1 p9 p10 p18 p27 p28 p30 p44 p45 0 0 0 0 0 x0 3 0 0 0 0 0))] H := hP
        have hD : va_D A [(m0, .inr (16, mO r p0 p1 p9 p10 p18 p27 p28 p30 p44 p45 0 0 0 0 0 x0 3 0 0 0 0 0))] := hD
        refine lv_iload_n hx hb dX12_setWind_54 rfl (lv_at hl 0 rfl) ?_
        exact kretI K hP hD hS [0] [(m0, .inr (16, mO r p0 p1 p9 p10 p18 p27 p28 p30 p44 p45 0 0 0 0 0 x0 3 0 0 0 0 0))] rfl rfl (Or.inl ⟨0, 0, 0, 0, 0, x0, 3, 0, 0, 0, 0, rfl, rfl, (by simp [f_4, f_41, f_50])⟩) (by decide) (by decide) dX12_setWind_55
      · exact absurd (f_4.symm.trans f_51) (by decide)
    · have hP : va_P g.1 vwCl [(m0, .inr (16, mO r p0 p1 p9 p10 p18 p27 p28 p30 p44 p45 0 0 0 0 0 0 0 0 0 0 0 0))] H := hP
      have hD : va_D A [(m0, .inr (16, mO r p0 p1 p9 p10 p18 p27 p28 p30 p44 p45 0 0 0 0 0 0 0 0 0 0 0 0))] := hD
      refine W.widen (k := 0) (n := 0) (by decide) (by decide) ?_
      refine W.eq (g2 := F0 m 17 ls [.int 0, .ref m0]) rfl ?_
      refine lv_if_ne (tgt := 24) hx hb dX12_setWind_17 (by decide) (fun c17_52 => absurd c17_52 (by decide)) (fun _ => ?_)
      refine lv_iconst (v := 1) hx hb dX12_setWind_20 (by decide) ?_
      refine lv_goto (tgt := 25) hx hb dX12_setWind_21 (by decide) ?_
      refine lv_iconst (v := 1) hx hb dX12_setWind_25 (by decide) ?_
      refine kcallV (wc := [(m0, .inr (16, mO r p0 p1 p9 p10 p18 p27 p28 p30 p44 p45 0 0 0 0 0 0 0 0 0 0 0 0))]) (wr := []) (As := [.int 1, .int 1]) (rest := []) K G (m_X12_isThrown1 l hl0 g m0 r p0 p1 p9 p10 p18 p27 p28 p30 p44 p45 0 0 0 0 0 0 0 0 0 0 0 0 1 ) hP hD hS hA hl kw_319 kw_320 kw_321 kw_322 kw_307 ydX12_isThrown [0] [] rfl rfl rfl rfl (by decide) (ci := 16) (q0 := 0) rfl rfl rfl rfl rfl (Nat.le_of_ble_eq_true rfl) dX12_setWind_26 ⟨Nat.le_of_ble_eq_true rfl, Nat.le_of_ble_eq_true rfl⟩ ⟨Nat.le_of_ble_eq_true rfl, Nat.le_of_ble_eq_true rfl⟩ (fun _ _ _ _ _ _ hX _ _ _ _ _ _ => hX.elim) (fun v w1 H locs hQ hP hD hS => ?_)
      obtain ⟨rfl, rfl⟩ := hQ
      have hP : va_P g.1 vwCl [(m0, .inr (16, mO r p0 p1 p9 p10 p18 p27 p28 p30 p44 p45 0 0 0 0 0 0 0 0 0 0 0 1))] H := hP
      have hD : va_D A [(m0, .inr (16, mO r p0 p1 p9 p10 p18 p27 p28 p30 p44 p45 0 0 0 0 0 0 0 0 0 0 0 1))] := hD
      refine W.widen (k := 0) (n := 0) (by decide) (by decide) ?_
      refine W.eq (g2 := F0 m 29 ls [.int 1]) rfl ?_
      refine lv_if_eq (tgt := 34) hx hb dX12_setWind_29 (by decide) (fun c29_54 => absurd c29_54 (by decide)) (fun _ => ?_)
      refine lv_iconst (v := 0) hx hb dX12_setWind_32 (by decide) ?_
      exact kretI K hP hD hS [0] [(m0, .inr (16, mO r p0 p1 p9 p10 p18 p27 p28 p30 p44 p45 0 0 0 0 0 0 0 0 0 0 0 1))] rfl rfl (Or.inr (⟨0, 0, 0, 0, 0, 0, 0, 0, 0, 0, 0, rfl, rfl, (by simp [f_4, f_42])⟩)) (by decide) (by decide) dX12_setWind_33
  · have hP : va_P g.1 vwCl [(m0, .inr (16, mO r p0 p1 p9 p10 p18 p27 p28 p30 p44 p45 0 0 0 0 0 0 0 0 0 0 0 0))] H := hP
    have hD : va_D A [(m0, .inr (16, mO r p0 p1 p9 p10 p18 p27 p28 p30 p44 p45 0 0 0 0 0 0 0 0 0 0 0 0))] := hD
    refine W.widen (k := 0) (n := 0) (by decide) (by decide) ?_
    refine W.eq (g2 := F0 m 7 ls [.int 3, .ref m0]) rfl ?_
    refine lv_if_lt (tgt := 20) hx hb dX12_setWind_7 (by decide) (fun c7_55 => absurd c7_55 (by decide)) (fun _ => ?_)
    refine lv_iload_n hx hb dX12_setWind_10 rfl (lv_at hl 1 rfl) ?_
    refine lv_iconst (v := 0) hx hb dX12_setWind_11 (by decide) ?_
    refine lv_bipush (v := 12) hx hb dX12_setWind_12 (by decide) ?_
    refine kcallS (wc := []) (wr := [(m0, .inr (16, mO r p0 p1 p9 p10 p18 p27 p28 p30 p44 p45 0 0 0 0 0 0 0 0 0 0 0 0))]) (As := [.int x0, .int 0, .int 12]) (rest := [.ref m0]) K G (m_X12_isIn l hl0 g x0 0 12 ) hP hD hS hA hl kw_305 kw_306 kw_308 kw_307 ydX12_isIn [] [0] rfl rfl rfl rfl (by decide) rfl rfl (Nat.le_of_ble_eq_true rfl) dX12_setWind_14 ⟨Nat.le_of_ble_eq_true rfl, Nat.le_of_ble_eq_true rfl⟩ ⟨Nat.le_of_ble_eq_true rfl, Nat.le_of_ble_eq_true rfl⟩ (fun _ _ _ _ _ _ hX _ _ _ _ _ _ => hX.elim) (fun v w1 H locs hQ hP hD hS => ?_)
    rcases hQ with ⟨rfl, rfl, f_57⟩ | ⟨rfl, rfl, f_58⟩
    · have hP : va_P g.1 vwCl [(m0, .inr (16, mO r p0 p1 p9 p10 p18 p27 p28 p30 p44 p45 0 0 0 0 0 0 0 0 0 0 0 0))] H := hP
      have hD : va_D A [(m0, .inr (16, mO r p0 p1 p9 p10 p18 p27 p28 p30 p44 p45 0 0 0 0 0 0 0 0 0 0 0 0))] := hD
      refine W.widen (k := 0) (n := 0) (by decide) (by decide) ?_
      refine W.eq (g2 := F0 m 17 ls [.int 1, .ref m0]) rfl ?_
      refine lv_if_ne (tgt := 24) hx hb dX12_setWind_17 (by decide) (fun _ => ?_) (fun c17_59 => absurd c17_59 (by decide))
      refine lv_iconst (v := 0) hx hb dX12_setWind_24 (by decide) ?_
      refine lv_iconst (v := 1) hx hb dX12_setWind_25 (by decide) ?_
      refine kcallV (wc := [(m0, .inr (16, mO r p0 p1 p9 p10 p18 p27 p28 p30 p44 p45 0 0 0 0 0 0 0 0 0 0 0 0))]) (wr := []) (As := [.int 0, .int 1]) (rest := []) K G (m_X12_isThrown0 l hl0 g m0 r p0 p1 p9 p10 p18 p27 p28 p30 p44 p45 0 0 0 0 0 0 0 0 0 0 0 0 1 ) hP hD hS hA hl kw_319 kw_320 kw_321 kw_322 kw_307 ydX12_isThrown [0] [] rfl rfl rfl rfl (by decide) (ci := 16) (q0 := 0) rfl rfl rfl rfl rfl (Nat.le_of_ble_eq_true rfl) dX12_setWind_26 ⟨Nat.le_of_ble_eq_true rfl, Nat.le_of_ble_eq_true rfl⟩ ⟨Nat.le_of_ble_eq_true rfl, Nat.le_of_ble_eq_true rfl⟩ (fun _ _ _ _ _ _ hX _ _ _ _ _ _ => hX.elim) (fun v w1 H locs hQ hP hD hS => ?_)
      obtain ⟨rfl, rfl⟩ := hQ
      have hP : va_P g.1 vwCl [(m0, .inr (16, mO r p0 p1 p9 p10 p18 p27 p28 p30 p44 p45 0 0 0 0 0 0 0 0 0 0 0 0))] H := hP
      have hD : va_D A [(m0, .inr (16, mO r p0 p1 p9 p10 p18 p27 p28 p30 p44 p45 0 0 0 0 0 0 0 0 0 0 0 0))] := hD
      refine W.widen (k := 0) (n := 0) (by decide) (by decide) ?_
      refine W.eq (g2 := F0 m 29 ls [.int 0]) rfl ?_
      refine lv_if_eq (tgt := 34) hx hb dX12_setWind_29 (by decide) (fun _ => ?_) (fun c29_61 => absurd c29_61 (by decide))
      refine lv_aload_n hx hb dX12_setWind_34 rfl (lv_at hl 0 rfl) ?_
      refine va_get (D := g.1) (ci := 16) (v := .int 0) (C := RX12) (T := TX12) (N := 59) hx hb G.ws inX12 hown G.K hP 0 rfl rfl 52 (by decide) (G.w kw_351) (fun _ h9 => h9) rfl dX12_setWind_35 ?_
      refine lv_istore_n (lv' := [(3, .int 0), (0, .ref m0), (1, .int x0), (2, .int x1)]) hx hb dX12_setWind_38 rfl hl (by decide) rfl (fun ls hl => ?_)
      refine lv_aload_n hx hb dX12_setWind_39 rfl (lv_at hl 1 rfl) ?_
      refine lv_iload_n hx hb dX12_setWind_40 rfl (lv_at hl 2 rfl) ?_
      refine va_put (D := g.1) (ci := 16) (v := .int x0) (ty := .int) (C := RX12) (T := TX12) (N := 59) hx hb G.ws inX12 tyX12 tyX12_ok nmX12 hown G.K hP hD hS 0 rfl rfl 52 (by decide) (G.w kw_351) (fun _ h9 => h9) (by decide +kernel) (by decide +kernel) rfl rfl (Nat.le_of_ble_eq_true rfl) dX12_setWind_41 (fun H locs hP hD hS => ?_)
      have hP : va_P g.1 vwCl [(m0, .inr (16, mO r p0 p1 p9 p10 p18 p27 p28 p30 p44 p45 0 0 0 0 0 x0 0 0 0 0 0 0))] H := hP
      have hD : va_D A [(m0, .inr (16, mO r p0 p1 p9 p10 p18 p27 p28 p30 p44 p45 0 0 0 0 0 x0 0 0 0 0 0 0))] := hD
      refine lv_aload_n hx hb dX12_setWind_44 rfl (lv_at hl 1 rfl) ?_
      refine va_ldcS hx hb hown G.ways dX12_setWind_45 ?_
      refine lv_iload_n hx hb dX12_setWind_47 rfl (lv_at hl 3 rfl) ?_
      refine kcallVr (wc := []) (wr := [(m0, .inr (16, mO r p0 p1 p9 p10 p18 p27 p28 p30 p44 p45 0 0 0 0 0 x0 0 0 0 0 0 0))]) (As := [.int x1]) (rest := [.ref m0]) K G (m_J0_indexOf_0f7a4 l hl0 g x1 ) hP hD hS hA hl kw_347 kw_348 kw_349 kw_350 kw_276 ydJ0_indexOf_0f7a4 [] [0] rfl rfl rfl rfl (by decide) (vk_recv G.st (by decide) hS) rfl rfl (Nat.le_of_ble_eq_true rfl) dX12_setWind_48 ⟨Nat.le_of_ble_eq_true rfl, Nat.le_of_ble_eq_true rfl⟩ ⟨Nat.le_of_ble_eq_true rfl, Nat.le_of_ble_eq_true rfl⟩ (fun _ _ _ _ _ _ hX _ _ _ _ _ _ => hX.elim) (fun v w1 H locs hQ hP hD hS => ?_)
      rcases hQ with ⟨rfl, rfl, f_63⟩ | ⟨rfl, rfl, f_64⟩ | ⟨rfl, rfl, f_65⟩ | ⟨rfl, rfl, f_66⟩ | ⟨rfl, rfl, f_67⟩
      · have hP : va_P g.1 vwCl [(m0, .inr (16, mO r p0 p1 p9 p10 p18 p27 p28 p30 p44 p45 0 0 0 0 0 x0 0 0 0 0 0 0))] H := hP
        have hD : va_D A [(m0, .inr (16, mO r p0 p1 p9 p10 p18 p27 p28 p30 p44 p45 0 0 0 0 0 x0 0 0 0 0 0 0))] := hD
        refine W.widen (k := 0) (n := 0) (by decide) (by decide) ?_
        refine W.eq (g2 := F0 m 51 ls [.int 0, .ref m0]) rfl ?_
        refine va_put (D := g.1) (ci := 16) (v := .int 0) (ty := .int) (C := RX12) (T := TX12) (N := 59) hx hb G.ws inX12 tyX12 tyX12_ok nmX12 hown G.K hP hD hS 0 rfl rfl 53 (by decide) (G.w kw_352) (fun _ h9 => h9) (by decide +kernel) (by decide +kernel) rfl rfl (Nat.le_of_ble_eq_true rfl) dX12_setWind_51 (fun H locs hP hD hS => ?_)
        have hP : va_P g.1 vwCl [(m0, .inr (16, mO r p0 p1 p9 p10 p18 p27 p28 p30 p44 p45 0 0 0 0 0 x0 0 0 0 0 0 0))] H := hP
        have hD : va_D A [(m0, .inr (16, mO r p0 p1 p9 p10 p18 p27 p28 p30 p44 p45 0 0 0 0 0 x0 0 0 0 0 0 0))] := hD
        refine lv_iload_n hx hb dX12_setWind_54 rfl (lv_at hl 0 rfl) ?_
        exact kretI K hP hD hS [0] [(m0, .inr (16, mO r p0 p1 p9 p10 p18 p27 p28 p30 p44 p45 0 0 0 0 0 x0 0 0 0 0 0 0))] rfl rfl (Or.inl ⟨0, 0, 0, 0, 0, x0, 0, 0, 0, 0, 0, rfl, rfl, (by simp [f_5, f_57, f_63])⟩) (by decide) (by decide) dX12_setWind_55
      · have hP : va_P g.1 vwCl [(m0, .inr (16, mO r p0 p1 p9 p10 p18 p27 p28 p30 p44 p45 0 0 0 0 0 x0 0 0 0 0 0 0))] H := hP
        have hD : va_D A [(m0, .inr (16, mO r p0 p1 p9 p10 p18 p27 p28 p30 p44 p45 0 0 0 0 0 x0 0 0 0 0 0 0))] := hD
        refine W.widen (k := 0) (n := 0) (by decide) (by decide) ?_
        refine W.eq (g2 := F0 m 51 ls [.int 1, .ref m0]) rfl ?_
        refine va_put (D := g.1) (ci := 16) (v := .int 1) (ty := .int) (C := RX12) (T := TX12) (N := 59) hx hb G.ws inX12 tyX12 tyX12_ok nmX12 hown G.K hP hD hS 0 rfl rfl 53 (by decide) (G.w kw_352) (fun _ h9 => h9) (by decide +kernel) (by decide +kernel) rfl rfl (Nat.le_of_ble_eq_true rfl) dX12_setWind_51 (fun H locs hP hD hS => ?_)
        have hP : va_P g.1 vwCl [(m0, .inr (16, mO r p0 p1 p9 p10 p18 p27 p28 p30 p44 p45 0 0 0 0 0 x0 1 0 0 0 0 0))] H := hP
        have hD : va_D A [(m0, .inr (16, mO r p0 p1 p9 p10 p18 p27 p28 p30 p44 p45 0 0 0 0 0 x0 1 0 0 0 0 0))] := hD
        refine lv_iload_n hx hb dX12_setWind_54 rfl (lv_at hl 0 rfl) ?_
        exact kretI K hP hD hS [0] [(m0, .inr (16, mO r p0 p1 p9 p10 p18 p27 p28 p30 p44 p45 0 0 0 0 0 x0 1 0 0 0 0 0))] rfl rfl (Or.inl ⟨0, 0, 0, 0, 0, x0, 1, 0, 0, 0, 0, rfl, rfl, (by simp [f_5, f_57, f_64])⟩) (by decide) (by decide) dX12_setWind_55
      · have hP : va_P g.1 vwCl [(m0, .inr (16, mO r p0 p1 p9 p10 p18 p27 p28 p30 p44 p45 0 0 0 0 0 x0 0 0 0 0 0 0))] H := hP
        have hD : va_D A [(m0, .inr (16, mO r p0 p1 p9 p10 p18 p27 p28 p30 p44 p45 0 0 0 0 0 x0 0 0 0 0 0 0))] := hD
        refine W.widen (k := 0) (n := 0) (by decide) (by decide) ?_
        refine W.eq (g2 := F0 m 51 ls [.int 2, .ref m0]) rfl ?_
        refine va_put (D := g.1) (ci := 16) (v := .int 2) (ty := .int) (C := RX12) (T := TX12) (N := 59) hx hb G.ws inX12 tyX12 tyX12_ok nmX12 hown G.K hP hD hS 0 rfl rfl 53 (by decide) (G.w kw_352) (fun _ h9 => h9) (by decide +kernel) (by decide +kernel) rfl rfl (Nat.le_of_ble_eq_true rfl) dX12_setWind_51 (fun H locs hP hD hS => ?_)
        have hP : va_P g.1 vwCl [(m0, .inr (16, mO r p0 p1 p9 p10 p18 p27 p28 p30 p44 p45 0 0 0 0 0 x0 2 0 0 0 0 0))] H := hP
        have hD : va_D A [(m0, .inr (16, mO r p0 p1 p9 p10 p18 p27 p28 p30 p44 p45 0 0 0 0 0 x0 2 0 0 0 0 0))] := hD
        refine lv_iload_n hx hb dX12_setWind_54 rfl (lv_at hl 0 rfl) ?_
        exact kretI K hP hD hS [0] [(m0, .inr (16, mO r p0 p1 p9 p10 p18 p27 p28 p30 p44 p45 0 0 0 0 0 x0 2 0 0 0 0 0))] rfl rfl (Or.inl ⟨0, 0, 0, 0, 0, x0, 2, 0, 0, 0, 0, rfl, rfl, (by simp [f_5, f_57, f_65])⟩) (by decide) (by decide) dX12_setWind_55
      · have hP : va_P g.1 vwCl [(m0, .inr (16, mO r p0 p1 p9 p10 p18 p27 p28 p30 p44 p45 0 0 0 0 0 x0 0 0 0 0 0 0))] H := hP
        have hD : va_D A [(m0, .inr (16, mO r p0 p1 p9 p10 p18 p27 p28 p30 p44 p45 0 0 0 0 0 x0 0 0 0 0 0 0))] := hD
        refine W.widen (k := 0) (n := 0) (by decide) (by decide) ?_
        refine W.eq (g2 := F0 m 51 ls [.int 3, .ref m0]) rfl ?_
        refine va_put (D := g.1) (ci := 16) (v := .int 3) (ty := .int) (C := RX12) (T := TX12) (N := 59) hx hb G.ws inX12 tyX12 tyX12_ok nmX12 hown G.K hP hD hS 0 rfl rfl 53 (by decide) (G.w kw_352) (fun _ h9 => h9) (by decide +kernel) (by decide +kernel) rfl rfl (Nat.le_of_ble_eq_true rfl) dX12_setWind_51 (fun H locs hP hD hS => ?_)
        have hP : va_P g.1 vwCl [(m0, .inr (16, mO r p0 p1 p9 p10 p18 p27 p28 p30 p44 p45 0 0 0 0 0 x0 3 0 0 0 0 0))] H := hP
        have hD : va_D A [(m0, .inr (16, mO r p0 p1 p9 p10 p18 p27 p28 p30 p44 p45 0 0 0 0 0 x0 3 0 0 0 0 0))] := hD
        refine lv_iload_n hx hb dX12_setWind_54 rfl (lv_at hl 0 rfl) ?_
        exact kretI K hP hD hS [0] [(m0, .inr (16, mO r p0 p1 p9 p10 p18 p27 p28 p30 p44 p45 0 0 0 0 0 x0 3 0 0 0 0 0))] rfl rfl (Or.inl ⟨0, 0, 0, 0, 0, x0, 3, 0, 0, 0, 0, rfl, rfl, (by simp [f_5, f_57, f_66])⟩) (by decide) (by decide) dX12_setWind_55
      · exact absurd (f_5.symm.trans f_67) (by decide)
    · have hP : va_P g.1 vwCl [(m0, .inr (16, mO r p0 p1 p9 p10 p18 p27 p28 p30 p44 p45 0 0 0 0 0 0 0 0 0 0 0 0))] H := hP
      have hD : va_D A [(m0, .inr (16, mO r p0 p1 p9 p10 p18 p27 p28 p30 p44 p45 0 0 0 0 0 0 0 0 0 0 0 0))] := hD
      refine W.widen (k := 0) (n := 0) (by decide) (by decide) ?_
      refine W.eq (g2 := F0 m 17 ls [.int 0, .ref m0]) rfl ?_
      refine lv_if_ne (tgt := 24) hx hb dX12_setWind_17 (by decide) (fun c17_68 => absurd c17_68 (by decide)) (fun _ => ?_)
      refine lv_iconst (v := 1) hx hb dX12_setWind_20 (by decide) ?_
      refine lv_goto (tgt := 25) hx hb dX12_setWind_21 (by decide) ?_
      refine lv_iconst (v := 1) hx hb dX12_setWind_25 (by decide) ?_
      refine kcallV (wc := [(m0, .inr (16, mO r p0 p1 p9 p10 p18 p27 p28 p30 p44 p45 0 0 0 0 0 0 0 0 0 0 0 0))]) (wr := []) (As := [.int 1, .int 1]) (rest := []) K G (m_X12_isThrown1 l hl0 g m0 r p0 p1 p9 p10 p18 p27 p28 p30 p44 p45 0 0 0 0 0 0 0 0 0 0 0 0 1 ) hP hD hS hA hl kw_319 kw_320 kw_321 kw_322 kw_307 ydX12_isThrown [0] [] rfl rfl rfl rfl (by decide) (ci := 16) (q0 := 0) rfl rfl rfl rfl rfl (Nat.le_of_ble_eq_true rfl) dX12_setWind_26 ⟨Nat.le_of_ble_eq_true rfl, Nat.le_of_ble_eq_true rfl⟩ ⟨Nat.le_of_ble_eq_true rfl, Nat.le_of_ble_eq_true rfl⟩ (fun _ _ _ _ _ _ hX _ _ _ _ _ _ => hX.elim) (fun v w1 H locs hQ hP hD hS => ?_)
      obtain ⟨rfl, rfl⟩ := hQ
      have hP : va_P g.1 vwCl [(m0, .inr (16, mO r p0 p1 p9 p10 p18 p27 p28 p30 p44 p45 0 0 0 0 0 0 0 0 0 0 0 1))] H := hP
      have hD : va_D A [(m0, .inr (16, mO r p0 p1 p9 p10 p18 p27 p28 p30 p44 p45 0 0 0 0 0 0 0 0 0 0 0 1))] := hD
      refine W.widen (k := 0) (n := 0) (by decide) (by decide) ?_
      refine W.eq (g2 := F0 m 29 ls [.int 1]) rfl ?_
      refine lv_if_eq (tgt := 34) hx hb dX12_setWind_29 (by decide) (fun c29_70 => absurd c29_70 (by decide)) (fun _ => ?_)
      refine lv_iconst (v := 0) hx hb dX12_setWind_32 (by decide) ?_
      exact kretI K hP hD hS [0] [(m0, .inr (16, mO r p0 p1 p9 p10 p18 p27 p28 p30 p44 p45 0 0 0 0 0 0 0 0 0 0 0 1))] rfl rfl (Or.inr (⟨0, 0, 0, 0, 0, 0, 0, 0, 0, 0, 0, rfl, rfl, (by simp [f_5, f_58])⟩)) (by decide) (by decide) dX12_setWind_33
  · have hP : va_P g.1 vwCl [(m0, .inr (16, mO r p0 p1 p9 p10 p18 p27 p28 p30 p44 p45 0 0 0 0 0 0 0 0 0 0 0 0))] H := hP
    have hD : va_D A [(m0, .inr (16, mO r p0 p1 p9 p10 p18 p27 p28 p30 p44 p45 0 0 0 0 0 0 0 0 0 0 0 0))] := hD
    refine W.widen (k := 0) (n := 0) (by decide) (by decide) ?_
    refine W.eq (g2 := F0 m 7 ls [.int (-1), .ref m0]) rfl ?_
    refine lv_if_lt (tgt := 20) hx hb dX12_setWind_7 (by decide) (fun _ => ?_) (fun c7_71 => absurd c7_71 (by decide))
    refine lv_iconst (v := 1) hx hb dX12_setWind_20 (by decide) ?_
    refine lv_goto (tgt := 25) hx hb dX12_setWind_21 (by decide) ?_
    refine lv_iconst (v := 1) hx hb dX12_setWind_25 (by decide) ?_
    refine kcallV (wc := [(m0, .inr (16, mO r p0 p1 p9 p10 p18 p27 p28 p30 p44 p45 0 0 0 0 0 0 0 0 0 0 0 0))]) (wr := []) (As := [.int 1, .int 1]) (rest := []) K G (m_X12_isThrown1 l hl0 g m0 r p0 p1 p9 p10 p18 p27 p28 p30 p44 p45 0 0 0 0 0 0 0 0 0 0 0 0 1 ) hP hD hS hA hl kw_319 kw_320 kw_321 kw_322 kw_307 ydX12_isThrown [0] [] rfl rfl rfl rfl (by decide) (ci := 16) (q0 := 0) rfl rfl rfl rfl rfl (Nat.le_of_ble_eq_true rfl) dX12_setWind_26 ⟨Nat.le_of_ble_eq_true rfl, Nat.le_of_ble_eq_true rfl⟩ ⟨Nat.le_of_ble_eq_true rfl, Nat.le_of_ble_eq_true rfl⟩ (fun _ _ _ _ _ _ hX _ _ _ _ _ _ => hX.elim) (fun v w1 H locs hQ hP hD hS => ?_)
    obtain ⟨rfl, rfl⟩ := hQ
    have hP : va_P g.1 vwCl [(m0, .inr (16, mO r p0 p1 p9 p10 p18 p27 p28 p30 p44 p45 0 0 0 0 0 0 0 0 0 0 0 1))] H := hP
    have hD : va_D A [(m0, .inr (16, mO r p0 p1 p9 p10 p18 p27 p28 p30 p44 p45 0 0 0 0 0 0 0 0 0 0 0 1))] := hD
    refine W.widen (k := 0) (n := 0) (by decide) (by decide) ?_
    refine W.eq (g2 := F0 m 29 ls [.int 1]) rfl ?_
    refine lv_if_eq (tgt := 34) hx hb dX12_setWind_29 (by decide) (fun c29_73 => absurd c29_73 (by decide)) (fun _ => ?_)
    refine lv_iconst (v := 0) hx hb dX12_setWind_32 (by decide) ?_
    exact kretI K hP hD hS [0] [(m0, .inr (16, mO r p0 p1 p9 p10 p18 p27 p28 p30 p44 p45 0 0 0 0 0 0 0 0 0 0 0 1))] rfl rfl (Or.inr (⟨0, 0, 0, 0, 0, 0, 0, 0, 0, 0, 0, rfl, rfl, (by simp [f_6])⟩)) (by decide) (by decide) dX12_setWind_33

