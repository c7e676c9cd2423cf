set_option maxHeartbeats 4000000 in
set_option maxRecDepth 100000 in
theorem m_X12_addRecording (l : Launch) (hl0 : l.stackTraces = false) (g : kG) (m0 : Nat) (r : Nat → Nat) (p0 : Nat) (p1 : Nat) (p9 : Nat) (p10 : Nat) (p18 : Nat) (p27 : Nat) (p28 : Nat) (p30 : Nat) (p44 : Nat) (p45 : Nat) (f0 : Nat → Option Nat) (z0 : Nat) (f9 : Nat → Option Nat) (z9 : Nat) (f10 : Nat → Option Nat) (z10 : Nat) (f27 : Nat → Option Nat) (z27 : Nat) (f45 : Nat → Option Nat) (z45 : Nat) (x0 : Int32) (x1 : Int32) (x2 : Int32)  : kc l g yX12_addRecording prog_14_method_76_code 5 (some .int) 2 43 0 0 [.ref m0, .int x0, .int x1, .int x2] [(m0, .inr (16, mO r p0 p1 p9 p10 p18 p27 p28 p30 p44 p45 0 0 0 0 0 0 0 0 0 0 0 0)), (p45, .inl ((g.2.2.1 5), 6, .inr (.inr (.inr (.inr (va_up f45 0 (some z45))))))), (z45, .inl ((g.2.2.1 0), 3, .inl (fun _ => 0)))] (fun v w => (∃ j0 : Int32, ∃ j1 : Int32, ∃ j2 : Int32, ∃ j3 : Int32, ∃ j4 : Int32, ∃ j5 : Int32, ∃ j6 : Int32, ∃ j7 : Int32, ∃ j8 : Int32, ∃ j9 : Int32, ∃ j10 : Int32, v = some (.int 0) ∧ w = [(m0, .inr (16, mO r p0 p1 p9 p10 p18 p27 p28 p30 p44 p45 j0 j1 j2 j3 j4 j5 j6 j7 j8 j9 j10 0))] ∧ (inR x0 (-1) 9 && inR x1 (-1) 3 && (decide (x2 = -1) || decide (x2 = 200) || inR x2 100 199)) = true) ∨ (∃ j0 : Int32, ∃ j1 : Int32, ∃ j2 : Int32, ∃ j3 : Int32, ∃ j4 : Int32, ∃ j5 : Int32, ∃ j6 : Int32, ∃ j7 : Int32, ∃ j8 : Int32, ∃ j9 : Int32, ∃ j10 : Int32, v = some (.int 0) ∧ w = [(m0, .inr (16, mO r p0 p1 p9 p10 p18 p27 p28 p30 p44 p45 j0 j1 j2 j3 j4 j5 j6 j7 j8 j9 j10 1))] ∧ (inR x0 (-1) 9 && inR x1 (-1) 3 && (decide (x2 = -1) || decide (x2 = 200) || inR x2 100 199)) = false)) (fun _ _ => False) := by
  refine kbody (by decide) (Nat.le_of_ble_eq_true rfl) ?_
  intro p e s m args below meth c A H K ht G hP hD hA hS ls hl
  have K : KB p s m meth c RX12 "addRecording" prog_14_method_76_code 5 (some .int) := K
  obtain ⟨hx, hb, hml, hown, hlocks, hr, hin⟩ := id K
  have hl : lv_has ls 5 [(0, .ref m0), (1, .int x0), (2, .int x1), (3, .int x2)] := hl
  refine lv_iload_n hx hb dX12_addRecording_0 rfl (lv_at hl 3 rfl) ?_
  refine lv_iconst (v := (-1)) hx hb dX12_addRecording_1 (by decide) ?_
  refine lv_icmp_eq (tgt := 25) hx hb dX12_addRecording_2 (by decide) (fun c2_1 => ?_) (fun c2_1 => ?_)
  · refine lv_iconst (v := 1) hx hb dX12_addRecording_25 (by decide) ?_
    refine lv_goto (tgt := 30) hx hb dX12_addRecording_26 (by decide) ?_
    refine lv_istore (lv' := [(4, .int 1), (0, .ref m0), (1, .int x0), (2, .int x1), (3, .int x2)]) hx hb dX12_addRecording_30 hl (by decide) rfl (fun ls hl => ?_)
    refine lv_aload_n hx hb dX12_addRecording_32 rfl (lv_at hl 1 rfl) ?_
    refine lv_iload_n hx hb dX12_addRecording_33 rfl (lv_at hl 2 rfl) ?_
    refine lv_iconst (v := (-1)) hx hb dX12_addRecording_34 (by decide) ?_
    refine lv_bipush (v := 9) hx hb dX12_addRecording_35 (by decide) ?_
    refine kcallS (wc := []) (wr := [(m0, .inr (16, mO r p0 p1 p9 p10 p18 p27 p28 p30 p44 p45 0 0 0 0 0 0 0 0 0 0 0 0)), (p45, .inl ((g.2.2.1 5), 6, .inr (.inr (.inr (.inr (va_up f45 0 (some z45))))))), (z45, .inl ((g.2.2.1 0), 3, .inl (fun _ => 0)))]) (As := [.int x0, .int (-1), .int 9]) (rest := [.ref m0]) K G (m_X12_isIn l hl0 g x0 (-1) 9 ) hP hD hS hA hl kw_305 kw_306 kw_308 kw_307 ydX12_isIn [] [0, 1, 2] rfl rfl rfl rfl (by decide) rfl rfl (Nat.le_of_ble_eq_true rfl) dX12_addRecording_37 ⟨Nat.le_of_ble_eq_true rfl, Nat.le_of_ble_eq_true rfl⟩ ⟨Nat.le_of_ble_eq_true rfl, Nat.le_of_ble_eq_true rfl⟩ (fun _ _ _ _ _ _ hX _ _ _ _ _ _ => hX.elim) (fun v w1 H locs hQ hP hD hS => ?_)
    rcases hQ with ⟨rfl, rfl, f_3⟩ | ⟨rfl, rfl, f_4⟩
    · have hP : va_P g.1 vwCl [(m0, .inr (16, mO r p0 p1 p9 p10 p18 p27 p28 p30 p44 p45 0 0 0 0 0 0 0 0 0 0 0 0)), (p45, .inl ((g.2.2.1 5), 6, .inr (.inr (.inr (.inr (va_up f45 0 (some z45))))))), (z45, .inl ((g.2.2.1 0), 3, .inl (fun _ => 0)))] H := hP
      have hD : va_D A [(m0, .inr (16, mO r p0 p1 p9 p10 p18 p27 p28 p30 p44 p45 0 0 0 0 0 0 0 0 0 0 0 0)), (p45, .inl ((g.2.2.1 5), 6, .inr (.inr (.inr (.inr (va_up f45 0 (some z45))))))), (z45, .inl ((g.2.2.1 0), 3, .inl (fun _ => 0)))] := hD
      refine W.widen (k := 0) (n := 0) (by decide) (by decide) ?_
      refine W.eq (g2 := F0 m 40 ls [.int 1, .ref m0]) rfl ?_
      refine lv_if_eq (tgt := 57) hx hb dX12_addRecording_40 (by decide) (fun c40_5 => absurd c40_5 (by decide)) (fun _ => ?_)
      refine lv_iload_n hx hb dX12_addRecording_43 rfl (lv_at hl 3 rfl) ?_
      refine lv_iconst (v := (-1)) hx hb dX12_addRecording_44 (by decide) ?_
      refine lv_iconst (v := 3) hx hb dX12_addRecording_45 (by decide) ?_
      refine kcallS (wc := []) (wr := [(m0, .inr (16, mO r p0 p1 p9 p10 p18 p27 p28 p30 p44 p45 0 0 0 0 0 0 0 0 0 0 0 0)), (p45, .inl ((g.2.2.1 5), 6, .inr (.inr (.inr (.inr (va_up f45 0 (some z45))))))), (z45, .inl ((g.2.2.1 0), 3, .inl (fun _ => 0)))]) (As := [.int x1, .int (-1), .int 3]) (rest := [.ref m0]) K G (m_X12_isIn l hl0 g x1 (-1) 3 ) hP hD hS hA hl kw_305 kw_306 kw_308 kw_307 ydX12_isIn [] [0, 1, 2] rfl rfl rfl rfl (by decide) rfl rfl (Nat.le_of_ble_eq_true rfl) dX12_addRecording_46 ⟨Nat.le_of_ble_eq_true rfl, Nat.le_of_ble_eq_true rfl⟩ ⟨Nat.le_of_ble_eq_true rfl, Nat.le_of_ble_eq_true rfl⟩ (fun _ _ _ _ _ _ hX _ _ _ _ _ _ => hX.elim) (fun v w1 H locs hQ hP hD hS => ?_)
      rcases hQ with ⟨rfl, rfl, f_7⟩ | ⟨rfl, rfl, f_8⟩
      · have hP : va_P g.1 vwCl [(m0, .inr (16, mO r p0 p1 p9 p10 p18 p27 p28 p30 p44 p45 0 0 0 0 0 0 0 0 0 0 0 0)), (p45, .inl ((g.2.2.1 5), 6, .inr (.inr (.inr (.inr (va_up f45 0 (some z45))))))), (z45, .inl ((g.2.2.1 0), 3, .inl (fun _ => 0)))] H := hP
        have hD : va_D A [(m0, .inr (16, mO r p0 p1 p9 p10 p18 p27 p28 p30 p44 p45 0 0 0 0 0 0 0 0 0 0 0 0)), (p45, .inl ((g.2.2.1 5), 6, .inr (.inr (.inr (.inr (va_up f45 0 (some z45))))))), (z45, .inl ((g.2.2.1 0), 3, .inl (fun _ => 0)))] := hD
        refine W.widen (k := 0) (n := 0) (by decide) (by decide) ?_
        refine W.eq (g2 := F0 m 49 ls [.int 1, .ref m0]) rfl ?_
        refine lv_if_eq (tgt := 57) hx hb dX12_addRecording_49 (by decide) (fun c49_9 => absurd c49_9 (by decide)) (fun _ => ?_)
        refine lv_iload hx hb dX12_addRecording_52 (lv_at hl 0 rfl) ?_
        refine lv_if_ne (tgt := 61) hx hb dX12_addRecording_54 (by decide) (fun _ => ?_) (fun c54_10 => absurd c54_10 (by decide))
        refine lv_iconst (v := 0) hx hb dX12_addRecording_61 (by decide) ?_
        refine lv_iconst (v := 1) hx hb dX12_addRecording_62 (by decide) ?_
        refine kcallV (wc := [(m0, .inr (16, mO r p0 p1 p9 p10 p18 p27 p28 p30 p44 p45 0 0 0 0 0 0 0 0 0 0 0 0))]) (wr := [(p45, .inl ((g.2.2.1 5), 6, .inr (.inr (.inr (.inr (va_up f45 0 (some z45))))))), (z45, .inl ((g.2.2.1 0), 3, .inl (fun _ => 0)))]) (As := [.int 0, .int 1]) (rest := []) K G (m_X12_isThrown0 l hl0 g m0 r p0 p1 p9 p10 p18 p27 p28 p30 p44 p45 0 0 0 0 0 0 0 0 0 0 0 0 1 ) hP hD hS hA hl kw_319 kw_320 kw_321 kw_322 kw_307 ydX12_isThrown [0] [1, 2] rfl rfl rfl rfl (by decide) (ci := 16) (q0 := 0) rfl rfl rfl rfl rfl (Nat.le_of_ble_eq_true rfl) dX12_addRecording_63 ⟨Nat.le_of_ble_eq_true rfl, Nat.le_of_ble_eq_true rfl⟩ ⟨Nat.le_of_ble_eq_true rfl, Nat.le_of_ble_eq_true rfl⟩ (fun _ _ _ _ _ _ hX _ _ _ _ _ _ => hX.elim) (fun v w1 H locs hQ hP hD hS => ?_)
        obtain ⟨rfl, rfl⟩ := hQ
        have hP : va_P g.1 vwCl [(p45, .inl ((g.2.2.1 5), 6, .inr (.inr (.inr (.inr (va_up f45 0 (some z45))))))), (z45, .inl ((g.2.2.1 0), 3, .inl (fun _ => 0))), (m0, .inr (16, mO r p0 p1 p9 p10 p18 p27 p28 p30 p44 p45 0 0 0 0 0 0 0 0 0 0 0 0))] H := hP
        have hD : va_D A [(p45, .inl ((g.2.2.1 5), 6, .inr (.inr (.inr (.inr (va_up f45 0 (some z45))))))), (z45, .inl ((g.2.2.1 0), 3, .inl (fun _ => 0))), (m0, .inr (16, mO r p0 p1 p9 p10 p18 p27 p28 p30 p44 p45 0 0 0 0 0 0 0 0 0 0 0 0))] := hD
        refine W.widen (k := 0) (n := 0) (by decide) (by decide) ?_
        refine W.eq (g2 := F0 m 66 ls [.int 0]) rfl ?_
        refine lv_if_ne (tgt := 91) hx hb dX12_addRecording_66 (by decide) (fun c66_12 => absurd c66_12 (by decide)) (fun _ => ?_)
        refine lv_aload_n hx hb dX12_addRecording_69 rfl (lv_at hl 1 rfl) ?_
        refine lv_aload_n hx hb dX12_addRecording_70 rfl (lv_at hl 1 rfl) ?_
        refine va_get (D := g.1) (ci := 16) (v := .int 0) (C := RX12) (T := TX12) (N := 59) hx hb G.ws inX12 hown G.K hP 2 rfl rfl 51 (by decide) (G.w kw_314) (fun _ h9 => h9) rfl dX12_addRecording_71 ?_
        refine lv_bipush (v := 6) hx hb dX12_addRecording_74 (by decide) ?_
        refine lv_icmp_ne (tgt := 83) hx hb dX12_addRecording_76 (by decide) (fun _ => ?_) (fun c76_13 => absurd c76_13 (by decide))
        refine lv_iconst (v := 0) hx hb dX12_addRecording_83 (by decide) ?_
        refine lv_iconst (v := 2) hx hb dX12_addRecording_84 (by decide) ?_
        refine kcallV (wc := [(m0, .inr (16, mO r p0 p1 p9 p10 p18 p27 p28 p30 p44 p45 0 0 0 0 0 0 0 0 0 0 0 0))]) (wr := [(p45, .inl ((g.2.2.1 5), 6, .inr (.inr (.inr (.inr (va_up f45 0 (some z45))))))), (z45, .inl ((g.2.2.1 0), 3, .inl (fun _ => 0)))]) (As := [.int 0, .int 2]) (rest := []) K G (m_X12_isThrown0 l hl0 g m0 r p0 p1 p9 p10 p18 p27 p28 p30 p44 p45 0 0 0 0 0 0 0 0 0 0 0 0 2 ) hP hD hS hA hl kw_319 kw_320 kw_321 kw_322 kw_307 ydX12_isThrown [2] [0, 1] rfl rfl rfl rfl (by decide) (ci := 16) (q0 := 2) rfl rfl rfl rfl rfl (Nat.le_of_ble_eq_true rfl) dX12_addRecording_85 ⟨Nat.le_of_ble_eq_true rfl, Nat.le_of_ble_eq_true rfl⟩ ⟨Nat.le_of_ble_eq_true rfl, Nat.le_of_ble_eq_true rfl⟩ (fun _ _ _ _ _ _ hX _ _ _ _ _ _ => hX.elim) (fun v w1 H locs hQ hP hD hS => ?_)
        obtain ⟨rfl, rfl⟩ := hQ
        have hP : va_P g.1 vwCl [(p45, .inl ((g.2.2.1 5), 6, .inr (.inr (.inr (.inr (va_up f45 0 (some z45))))))), (z45, .inl ((g.2.2.1 0), 3, .inl (fun _ => 0))), (m0, .inr (16, mO r p0 p1 p9 p10 p18 p27 p28 p30 p44 p45 0 0 0 0 0 0 0 0 0 0 0 0))] H := hP
        have hD : va_D A [(p45, .inl ((g.2.2.1 5), 6, .inr (.inr (.inr (.inr (va_up f45 0 (some z45))))))), (z45, .inl ((g.2.2.1 0), 3, .inl (fun _ => 0))), (m0, .inr (16, mO r p0 p1 p9 p10 p18 p27 p28 p30 p44 p45 0 0 0 0 0 0 0 0 0 0 0 0))] := hD
        refine W.widen (k := 0) (n := 0) (by decide) (by decide) ?_
        refine W.eq (g2 := F0 m 88 ls [.int 0]) rfl ?_
        refine lv_if_eq (tgt := 93) hx hb dX12_addRecording_88 (by decide) (fun _ => ?_) (fun c88_15 => absurd c88_15 (by decide))
        refine lv_aload_n hx hb dX12_addRecording_93 rfl (lv_at hl 1 rfl) ?_
        refine va_get (D := g.1) (ci := 16) (v := .ref p45) (C := RX12) (T := TX12) (N := 59) hx hb G.ws inX12 hown G.K hP 2 rfl rfl 45 (by decide) (G.w kw_344) (fun _ h9 => h9) rfl dX12_addRecording_94 ?_
        refine lv_aload_n hx hb dX12_addRecording_97 rfl (lv_at hl 1 rfl) ?_
        refine va_get (D := g.1) (ci := 16) (v := .int 0) (C := RX12) (T := TX12) (N := 59) hx hb G.ws inX12 hown G.K hP 2 rfl rfl 51 (by decide) (G.w kw_314) (fun _ h9 => h9) rfl dX12_addRecording_98 ?_
        refine kaald (q0 := 0) (v := z45) hx hb G hP rfl (i := 0) (vp_in_iff.mpr ⟨by decide, by decide⟩) rfl dX12_addRecording_101 ?_
        refine lv_iconst (v := 0) hx hb dX12_addRecording_102 (by decide) ?_
        refine lv_iload_n hx hb dX12_addRecording_103 rfl (lv_at hl 2 rfl) ?_
        refine va_iast hx hb G.K hP hD hS 1 0 rfl rfl (i := 0) (vp_in_iff.mpr ⟨by decide, by decide⟩) dX12_addRecording_104 (fun H locs hP hD hS => ?_)
        have hP : va_P g.1 vwCl [(p45, .inl ((g.2.2.1 5), 6, .inr (.inr (.inr (.inr (va_up f45 0 (some z45))))))), (z45, .inl ((g.2.2.1 0), 3, .inl (upd (fun _ => 0) 0 x0))), (m0, .inr (16, mO r p0 p1 p9 p10 p18 p27 p28 p30 p44 p45 0 0 0 0 0 0 0 0 0 0 0 0))] H := hP
        have hD : va_D A [(p45, .inl ((g.2.2.1 5), 6, .inr (.inr (.inr (.inr (va_up f45 0 (some z45))))))), (z45, .inl ((g.2.2.1 0), 3, .inl (upd (fun _ => 0) 0 x0))), (m0, .inr (16, mO r p0 p1 p9 p10 p18 p27 p28 p30 p44 p45 0 0 0 0 0 0 0 0 0 0 0 0))] := hD
        refine lv_aload_n hx hb dX12_addRecording_105 rfl (lv_at hl 1 rfl) ?_
        refine va_get (D := g.1) (ci := 16) (v := .ref p45) (C := RX12) (T := TX12) (N := 59) hx hb G.ws inX12 hown G.K hP 2 rfl rfl 45 (by decide) (G.w kw_344) (fun _ h9 => h9) rfl dX12_addRecording_106 ?_
        refine lv_aload_n hx hb dX12_addRecording_109 rfl (lv_at hl 1 rfl) ?_
        refine va_get (D := g.1) (ci := 16) (v := .int 0) (C := RX12) (T := TX12) (N := 59) hx hb G.ws inX12 hown G.K hP 2 rfl rfl 51 (by decide) (G.w kw_314) (fun _ h9 => h9) rfl dX12_addRecording_110 ?_
        refine kaald (q0 := 0) (v := z45) hx hb G hP rfl (i := 0) (vp_in_iff.mpr ⟨by decide, by decide⟩) rfl dX12_addRecording_113 ?_
        refine lv_iconst (v := 1) hx hb dX12_addRecording_114 (by decide) ?_
        refine lv_iload_n hx hb dX12_addRecording_115 rfl (lv_at hl 3 rfl) ?_
        refine va_iast hx hb G.K hP hD hS 1 0 rfl rfl (i := 1) (vp_in_iff.mpr ⟨by decide, by decide⟩) dX12_addRecording_116 (fun H locs hP hD hS => ?_)
        have hP : va_P g.1 vwCl [(p45, .inl ((g.2.2.1 5), 6, .inr (.inr (.inr (.inr (va_up f45 0 (some z45))))))), (z45, .inl ((g.2.2.1 0), 3, .inl (upd (upd (fun _ => 0) 0 x0) 1 x1))), (m0, .inr (16, mO r p0 p1 p9 p10 p18 p27 p28 p30 p44 p45 0 0 0 0 0 0 0 0 0 0 0 0))] H := hP
        have hD : va_D A [(p45, .inl ((g.2.2.1 5), 6, .inr (.inr (.inr (.inr (va_up f45 0 (some z45))))))), (z45, .inl ((g.2.2.1 0), 3, .inl (upd (upd (fun _ => 0) 0 x0) 1 x1))), (m0, .inr (16, mO r p0 p1 p9 p10 p18 p27 p28 p30 p44 p45 0 0 0 0 0 0 0 0 0 0 0 0))] := hD
        refine lv_aload_n hx hb dX12_addRecording_117 rfl (lv_at hl 1 rfl) ?_
        refine va_get (D := g.1) (ci := 16) (v := .ref p45) (C := RX12) (T := TX12) (N := 59) hx hb G.ws inX12 hown G.K hP 2 rfl rfl 45 (by decide) (G.w kw_344) (fun _ h9 => h9) rfl dX12_addRecording_118 ?_
        refine lv_aload_n hx hb dX12_addRecording_121 rfl (lv_at hl 1 rfl) ?_
        refine va_get (D := g.1) (ci := 16) (v := .int 0) (C := RX12) (T := TX12) (N := 59) hx hb G.ws inX12 hown G.K hP 2 rfl rfl 51 (by decide) (G.w kw_314) (fun _ h9 => h9) rfl dX12_addRecording_122 ?_
        refine kaald (q0 := 0) (v := z45) hx hb G hP rfl (i := 0) (vp_in_iff.mpr ⟨by decide, by decide⟩) rfl dX12_addRecording_125 ?_
        refine lv_iconst (v := 2) hx hb dX12_addRecording_126 (by decide) ?_
        refine lv_iload_n hx hb dX12_addRecording_127 rfl (lv_at hl 4 rfl) ?_
        refine va_iast hx hb G.K hP hD hS 1 0 rfl rfl (i := 2) (vp_in_iff.mpr ⟨by decide, by decide⟩) dX12_addRecording_128 (fun H locs hP hD hS => ?_)
        have hP : va_P g.1 vwCl [(p45, .inl ((g.2.2.1 5), 6, .inr (.inr (.inr (.inr (va_up f45 0 (some z45))))))), (z45, .inl ((g.2.2.1 0), 3, .inl (upd (upd (upd (fun _ => 0) 0 x0) 1 x1) 2 x2))), (m0, .inr (16, mO r p0 p1 p9 p10 p18 p27 p28 p30 p44 p45 0 0 0 0 0 0 0 0 0 0 0 0))] H := hP
        have hD : va_D A [(p45, .inl ((g.2.2.1 5), 6, .inr (.inr (.inr (.inr (va_up f45 0 (some z45))))))), (z45, .inl ((g.2.2.1 0), 3, .inl (upd (upd (upd (fun _ => 0) 0 x0) 1 x1) 2 x2))), (m0, .inr (16, mO r p0 p1 p9 p10 p18 p27 p28 p30 p44 p45 0 0 0 0 0 0 0 0 0 0 0 0))] := hD
        refine lv_aload_n hx hb dX12_addRecording_129 rfl (lv_at hl 1 rfl) ?_
        refine lv_dup hx hb dX12_addRecording_130 rfl ?_
        refine va_get (D := g.1) (ci := 16) (v := .int 0) (C := RX12) (T := TX12) (N := 59) hx hb G.ws inX12 hown G.K hP 2 rfl rfl 51 (by decide) (G.w kw_314) (fun _ h9 => h9) rfl dX12_addRecording_131 ?_
        refine lv_iconst (v := 1) hx hb dX12_addRecording_134 (by decide) ?_
        refine lv_iadd hx hb dX12_addRecording_135 ?_
        refine lv_topi (fun y_16 ey_16 => ?_)
        obtain rfl : y_16 = 1 := ey_16.trans (by decide)
        refine va_put (D := g.1) (ci := 16) (v := .int 1) (ty := .int) (C := RX12) (T := TX12) (N := 59) hx hb G.ws inX12 tyX12 tyX12_ok nmX12 hown G.K hP hD hS 2 rfl rfl 51 (by decide) (G.w kw_314) (fun _ h9 => h9) (by decide +kernel) (by decide +kernel) rfl rfl (Nat.le_of_ble_eq_true rfl) dX12_addRecording_136 (fun H locs hP hD hS => ?_)
        have hP : va_P g.1 vwCl [(p45, .inl ((g.2.2.1 5), 6, .inr (.inr (.inr (.inr (va_up f45 0 (some z45))))))), (z45, .inl ((g.2.2.1 0), 3, .inl (upd (upd (upd (fun _ => 0) 0 x0) 1 x1) 2 x2))), (m0, .inr (16, mO r p0 p1 p9 p10 p18 p27 p28 p30 p44 p45 0 0 0 0 1 0 0 0 0 0 0 0))] H := hP
        have hD : va_D A [(p45, .inl ((g.2.2.1 5), 6, .inr (.inr (.inr (.inr (va_up f45 0 (some z45))))))), (z45, .inl ((g.2.2.1 0), 3, .inl (upd (upd (upd (fun _ => 0) 0 x0) 1 x1) 2 x2))), (m0, .inr (16, mO r p0 p1 p9 p10 p18 p27 p28 p30 p44 p45 0 0 0 0 1 0 0 0 0 0 0 0))] := hD
        refine lv_aload_n hx hb dX12_addRecording_139 rfl (lv_at hl 1 rfl) ?_
        refine va_get (D := g.1) (ci := 16) (v := .int 1) (C := RX12) (T := TX12) (N := 59) hx hb G.ws inX12 hown G.K hP 2 rfl rfl 51 (by decide) (G.w kw_314) (fun _ h9 => h9) rfl dX12_addRecording_140 ?_
        refine lv_iconst (v := 1) hx hb dX12_addRecording_143 (by decide) ?_
        refine lv_isub hx hb dX12_addRecording_144 ?_
        refine lv_topi (fun y_17 ey_17 => ?_)
        obtain rfl : y_17 = 0 := ey_17.trans (by decide)
        exact kretI K hP hD hS [2] [(m0, .inr (16, mO r p0 p1 p9 p10 p18 p27 p28 p30 p44 p45 0 0 0 0 1 0 0 0 0 0 0 0))] rfl rfl (Or.inl ⟨0, 0, 0, 0, 1, 0, 0, 0, 0, 0, 0, rfl, rfl, (by rw [← okR_eq]; simp [c2_1, f_3, f_7])⟩) (by decide) (by decide) dX12_addRecording_145
      · have hP : va_P g.1 vwCl [(m0, .inr (16, mO r p0 p1 p9 p10 p18 p27 p28 p30 p44 p45 0 0 0 0 0 0 0 0 0 0 0 0)), (p45, .inl ((g.2.2.1 5), 6, .inr (.inr (.inr (.inr (va_up f45 0 (some z45))))))), (z45, .inl ((g.2.2.1 0), 3, .inl (fun _ => 0)))] H := hP
        have hD : va_D A [(m0, .inr (16, mO r p0 p1 p9 p10 p18 p27 p28 p30 p44 p45 0 0 0 0 0 0 0 0 0 0 0 0)), (p45, .inl ((g.2.2.1 5), 6, .inr (.inr (.inr (.inr (va_up f45 0 (some z45))))))), (z45, .inl ((g.2.2.1 0), 3, .inl (fun _ => 0)))] := hD
        refine W.widen (k := 0) (n := 0) (by decide) (by decide) ?_
        refine W.eq (g2 := F0 m 49 ls [.int 0, .ref m0]) rfl ?_
        refine lv_if_eq (tgt := 57) hx hb dX12_addRecording_49 (by decide) (fun _ => ?_) (fun c49_18 => absurd c49_18 (by decide))
        refine lv_iconst (v := 1) hx hb dX12_addRecording_57 (by decide) ?_
        refine lv_goto (tgt := 62) hx hb dX12_addRecording_58 (by decide) ?_
        refine lv_iconst (v := 1) hx hb dX12_addRecording_62 (by decide) ?_
        refine kcallV (wc := [(m0, .inr (16, mO r p0 p1 p9 p10 p18 p27 p28 p30 p44 p45 0 0 0 0 0 0 0 0 0 0 0 0))]) (wr := [(p45, .inl ((g.2.2.1 5), 6, .inr (.inr (.inr (.inr (va_up f45 0 (some z45))))))), (z45, .inl ((g.2.2.1 0), 3, .inl (fun _ => 0)))]) (As := [.int 1, .int 1]) (rest := []) K G (m_X12_isThrown1 l hl0 g m0 r p0 p1 p9 p10 p18 p27 p28 p30 p44 p45 0 0 0 0 0 0 0 0 0 0 0 0 1 ) hP hD hS hA hl kw_319 kw_320 kw_321 kw_322 kw_307 ydX12_isThrown [0] [1, 2] rfl rfl rfl rfl (by decide) (ci := 16) (q0 := 0) rfl rfl rfl rfl rfl (Nat.le_of_ble_eq_true rfl) dX12_addRecording_63 ⟨Nat.le_of_ble_eq_true rfl, Nat.le_of_ble_eq_true rfl⟩ ⟨Nat.le_of_ble_eq_true rfl, Nat.le_of_ble_eq_true rfl⟩ (fun _ _ _ _ _ _ hX _ _ _ _ _ _ => hX.elim) (fun v w1 H locs hQ hP hD hS => ?_)
        obtain ⟨rfl, rfl⟩ := hQ
        have hP : va_P g.1 vwCl [(p45, .inl ((g.2.2.1 5), 6, .inr (.inr (.inr (.inr (va_up f45 0 (some z45))))))), (z45, .inl ((g.2.2.1 0), 3, .inl (fun _ => 0))), (m0, .inr (16, mO r p0 p1 p9 p10 p18 p27 p28 p30 p44 p45 0 0 0 0 0 0 0 0 0 0 0 1))] H := hP
        have hD : va_D A [(p45, .inl ((g.2.2.1 5), 6, .inr (.inr (.inr (.inr (va_up f45 0 (some z45))))))), (z45, .inl ((g.2.2.1 0), 3, .inl (fun _ => 0))), (m0, .inr (16, mO r p0 p1 p9 p10 p18 p27 p28 p30 p44 p45 0 0 0 0 0 0 0 0 0 0 0 1))] := hD
        refine W.widen (k := 0) (n := 0) (by decide) (by decide) ?_
        refine W.eq (g2 := F0 m 66 ls [.int 1]) rfl ?_
        refine lv_if_ne (tgt := 91) hx hb dX12_addRecording_66 (by decide) (fun _ => ?_) (fun c66_20 => absurd c66_20 (by decide))
        refine lv_iconst (v := 0) hx hb dX12_addRecording_91 (by decide) ?_
        exact kretI K hP hD hS [2] [(m0, .inr (16, mO r p0 p1 p9 p10 p18 p27 p28 p30 p44 p45 0 0 0 0 0 0 0 0 0 0 0 1))] rfl rfl (Or.inr (⟨0, 0, 0, 0, 0, 0, 0, 0, 0, 0, 0, rfl, rfl, (by rw [← okR_eq]; simp [c2_1, f_3, f_8])⟩)) (by decide) (by decide) dX12_addRecording_92
    · have hP : va_P g.1 vwCl [(m0, .inr (16, mO r p0 p1 p9 p10 p18 p27 p28 p30 p44 p45 0 0 0 0 0 0 0 0 0 0 0 0)), (p45, .inl ((g.2.2.1 5), 6, .inr (.inr (.inr (.inr (va_up f45 0 (some z45))))))), (z45, .inl ((g.2.2.1 0), 3, .inl (fun _ => 0)))] H := hP
      have hD : va_D A [(m0, .inr (16, mO r p0 p1 p9 p10 p18 p27 p28 p30 p44 p45 0 0 0 0 0 0 0 0 0 0 0 0)), (p45, .inl ((g.2.2.1 5), 6, .inr (.inr (.inr (.inr (va_up f45 0 (some z45))))))), (z45, .inl ((g.2.2.1 0), 3, .inl (fun _ => 0)))] := hD
      refine W.widen (k := 0) (n := 0) (by decide) (by decide) ?_
      refine W.eq (g2 := F0 m 40 ls [.int 0, .ref m0]) rfl ?_
      refine lv_if_eq (tgt := 57) hx hb dX12_addRecording_40 (by decide) (fun _ => ?_) (fun c40_21 => absurd c40_21 (by decide))
      refine lv_iconst (v := 1) hx hb dX12_addRecording_57 (by decide) ?_
      refine lv_goto (tgt := 62) hx hb dX12_addRecording_58 (by decide) ?_
      refine lv_iconst (v := 1) hx hb dX12_addRecording_62 (by decide) ?_
      refine kcallV (wc := [(m0, .inr (16, mO r p0 p1 p9 p10 p18 p27 p28 p30 p44 p45 0 0 0 0 0 0 0 0 0 0 0 0))]) (wr := [(p45, .inl ((g.2.2.1 5), 6, .inr (.inr (.inr (.inr (va_up f45 0 (some z45))))))), (z45, .inl ((g.2.2.1 0), 3, .inl (fun _ => 0)))]) (As := [.int 1, .int 1]) (rest := []) K G (m_X12_isThrown1 l hl0 g m0 r p0 p1 p9 p10 p18 p27 p28 p30 p44 p45 0 0 0 0 0 0 0 0 0 0 0 0 1 ) hP hD hS hA hl kw_319 kw_320 kw_321 kw_322 kw_307 ydX12_isThrown [0] [1, 2] rfl rfl rfl rfl (by decide) (ci := 16) (q0 := 0) rfl rfl rfl rfl rfl (Nat.le_of_ble_eq_true rfl) dX12_addRecording_63 ⟨Nat.le_of_ble_eq_true rfl, Nat.le_of_ble_eq_true rfl⟩ ⟨Nat.le_of_ble_eq_true rfl, Nat.le_of_ble_eq_true rfl⟩ (fun _ _ _ _ _ _ hX _ _ _ _ _ _ => hX.elim) (fun v w1 H locs hQ hP hD hS => ?_)
      obtain ⟨rfl, rfl⟩ := hQ
      have hP : va_P g.1 vwCl [(p45, .inl ((g.2.2.1 5), 6, .inr (.inr (.inr (.inr (va_up f45 0 (some z45))))))), (z45, .inl ((g.2.2.1 0), 3, .inl (fun _ => 0))), (m0, .inr (16, mO r p0 p1 p9 p10 p18 p27 p28 p30 p44 p45 0 0 0 0 0 0 0 0 0 0 0 1))] H := hP
      have hD : va_D A [(p45, .inl ((g.2.2.1 5), 6, .inr (.inr (.inr (.inr (va_up f45 0 (some z45))))))), (z45, .inl ((g.2.2.1 0), 3, .inl (fun _ => 0))), (m0, .inr (16, mO r p0 p1 p9 p10 p18 p27 p28 p30 p44 p45 0 0 0 0 0 0 0 0 0 0 0 1))] := hD
      refine W.widen (k := 0) (n := 0) (by decide) (by decide) ?_
      refine W.eq (g2 := F0 m 66 ls [.int 1]) rfl ?_
      refine lv_if_ne (tgt := 91) hx hb dX12_addRecording_66 (by decide) (fun _ => ?_) (fun c66_23 => absurd c66_23 (by decide))
      refine lv_iconst (v := 0) hx hb dX12_addRecording_91 (by decide) ?_
      exact kretI K hP hD hS [2] [(m0, .inr (16, mO r p0 p1 p9 p10 p18 p27 p28 p30 p44 p45 0 0 0 0 0 0 0 0 0 0 0 1))] rfl rfl (Or.inr (⟨0, 0, 0, 0, 0, 0, 0, 0, 0, 0, 0, rfl, rfl, (by rw [← okR_eq]; simp [c2_1, f_4])⟩)) (by decide) (by decide) dX12_addRecording_92
  · refine lv_aload_n hx hb dX12_addRecording_5 rfl (lv_at hl 0 rfl) ?_
    refine lv_iload_n hx hb dX12_addRecording_6 rfl (lv_at hl 3 rfl) ?_
    refine kcallV (wc := [(m0, .inr (16, mO r p0 p1 p9 p10 p18 p27 p28 p30 p44 p45 0 0 0 0 0 0 0 0 0 0 0 0))]) (wr := [(p45, .inl ((g.2.2.1 5), 6, .inr (.inr (.inr (.inr (va_up f45 0 (some z45))))))), (z45, .inl ((g.2.2.1 0), 3, .inl (fun _ => 0)))]) (As := [.int x2]) (rest := []) K G (m_X12_isNobody l hl0 g m0 r p0 p1 p9 p10 p18 p27 p28 p30 p44 p45 x2 0 ) hP hD hS hA hl kw_331 kw_332 kw_333 kw_334 kw_307 ydX12_isNobody [0] [1, 2] rfl rfl rfl rfl (by decide) (ci := 16) (q0 := 0) rfl rfl rfl rfl rfl (Nat.le_of_ble_eq_true rfl) dX12_addRecording_7 ⟨Nat.le_of_ble_eq_true rfl, Nat.le_of_ble_eq_true rfl⟩ ⟨Nat.le_of_ble_eq_true rfl, Nat.le_of_ble_eq_true rfl⟩ (fun _ _ _ _ _ _ hX _ _ _ _ _ _ => hX.elim) (fun v w1 H locs hQ hP hD hS => ?_)
    obtain ⟨rfl, rfl⟩ := hQ
    have hP : va_P g.1 vwCl [(p45, .inl ((g.2.2.1 5), 6, .inr (.inr (.inr (.inr (va_up f45 0 (some z45))))))), (z45, .inl ((g.2.2.1 0), 3, .inl (fun _ => 0))), (m0, .inr (16, mO r p0 p1 p9 p10 p18 p27 p28 p30 p44 p45 0 0 0 0 0 0 0 0 0 0 0 0))] H := hP
    have hD : va_D A [(p45, .inl ((g.2.2.1 5), 6, .inr (.inr (.inr (.inr (va_up f45 0 (some z45))))))), (z45, .inl ((g.2.2.1 0), 3, .inl (fun _ => 0))), (m0, .inr (16, mO r p0 p1 p9 p10 p18 p27 p28 p30 p44 p45 0 0 0 0 0 0 0 0 0 0 0 0))] := hD
    refine W.widen (k := 0) (n := 0) (by decide) (by decide) ?_
    refine W.eq (g2 := F0 m 10 ls [.int 1]) rfl ?_
    refine lv_if_eq (tgt := 25) hx hb dX12_addRecording_10 (by decide) (fun c10_25 => absurd c10_25 (by decide)) (fun _ => ?_)
    refine lv_iload_n hx hb dX12_addRecording_13 rfl (lv_at hl 3 rfl) ?_
    refine lv_bipush (v := 100) hx hb dX12_addRecording_14 (by decide) ?_
    refine lv_sipush (v := 200) hx hb dX12_addRecording_16 (by decide) ?_
    refine kcallS (wc := []) (wr := [(p45, .inl ((g.2.2.1 5), 6, .inr (.inr (.inr (.inr (va_up f45 0 (some z45))))))), (z45, .inl ((g.2.2.1 0), 3, .inl (fun _ => 0))), (m0, .inr (16, mO r p0 p1 p9 p10 p18 p27 p28 p30 p44 p45 0 0 0 0 0 0 0 0 0 0 0 0))]) (As := [.int x2, .int 100, .int 200]) (rest := []) K G (m_X12_isIn l hl0 g x2 100 200 ) hP hD hS hA hl kw_305 kw_306 kw_308 kw_307 ydX12_isIn [] [0, 1, 2] rfl rfl rfl rfl (by decide) rfl rfl (Nat.le_of_ble_eq_true rfl) dX12_addRecording_19 ⟨Nat.le_of_ble_eq_true rfl, Nat.le_of_ble_eq_true rfl⟩ ⟨Nat.le_of_ble_eq_true rfl, Nat.le_of_ble_eq_true rfl⟩ (fun _ _ _ _ _ _ hX _ _ _ _ _ _ => hX.elim) (fun v w1 H locs hQ hP hD hS => ?_)
    rcases hQ with ⟨rfl, rfl, f_27⟩ | ⟨rfl, rfl, f_28⟩
    · have hP : va_P g.1 vwCl [(p45, .inl ((g.2.2.1 5), 6, .inr (.inr (.inr (.inr (va_up f45 0 (some z45))))))), (z45, .inl ((g.2.2.1 0), 3, .inl (fun _ => 0))), (m0, .inr (16, mO r p0 p1 p9 p10 p18 p27 p28 p30 p44 p45 0 0 0 0 0 0 0 0 0 0 0 0))] H := hP
      have hD : va_D A [(p45, .inl ((g.2.2.1 5), 6, .inr (.inr (.inr (.inr (va_up f45 0 (some z45))))))), (z45, .inl ((g.2.2.1 0), 3, .inl (fun _ => 0))), (m0, .inr (16, mO r p0 p1 p9 p10 p18 p27 p28 p30 p44 p45 0 0 0 0 0 0 0 0 0 0 0 0))] := hD
      refine W.widen (k := 0) (n := 0) (by decide) (by decide) ?_
      refine W.eq (g2 := F0 m 22 ls [.int 1]) rfl ?_
      refine lv_if_eq (tgt := 29) hx hb dX12_addRecording_22 (by decide) (fun c22_29 => absurd c22_29 (by decide)) (fun _ => ?_)
      refine lv_iconst (v := 1) hx hb dX12_addRecording_25 (by decide) ?_
      refine lv_goto (tgt := 30) hx hb dX12_addRecording_26 (by decide) ?_
      refine lv_istore (lv' := [(4, .int 1), (0, .ref m0), (1, .int x0), (2, .int x1), (3, .int x2)]) hx hb dX12_addRecording_30 hl (by decide) rfl (fun ls hl => ?_)
      refine lv_aload_n hx hb dX12_addRecording_32 rfl (lv_at hl 1 rfl) ?_
      refine lv_iload_n hx hb dX12_addRecording_33 rfl (lv_at hl 2 rfl) ?_
      refine lv_iconst (v := (-1)) hx hb dX12_addRecording_34 (by decide) ?_
      refine lv_bipush (v := 9) hx hb dX12_addRecording_35 (by decide) ?_
      refine kcallS (wc := []) (wr := [(p45, .inl ((g.2.2.1 5), 6, .inr (.inr (.inr (.inr (va_up f45 0 (some z45))))))), (z45, .inl ((g.2.2.1 0), 3, .inl (fun _ => 0))), (m0, .inr (16, mO r p0 p1 p9 p10 p18 p27 p28 p30 p44 p45 0 0 0 0 0 0 0 0 0 0 0 0))]) (As := [.int x0, .int (-1), .int 9]) (rest := [.ref m0]) K G (m_X12_isIn l hl0 g x0 (-1) 9 ) hP hD hS hA hl kw_305 kw_306 kw_308 kw_307 ydX12_isIn [] [0, 1, 2] rfl rfl rfl rfl (by decide) rfl rfl (Nat.le_of_ble_eq_true rfl) dX12_addRecording_37 ⟨Nat.le_of_ble_eq_true rfl, Nat.le_of_ble_eq_true rfl⟩ ⟨Nat.le_of_ble_eq_true rfl, Nat.le_of_ble_eq_true rfl⟩ (fun _ _ _ _ _ _ hX _ _ _ _ _ _ => hX.elim) (fun v w1 H locs hQ hP hD hS => ?_)
      rcases hQ with ⟨rfl, rfl, f_31⟩ | ⟨rfl, rfl, f_32⟩
      · have hP : va_P g.1 vwCl [(p45, .inl ((g.2.2.1 5), 6, .inr (.inr (.inr (.inr (va_up f45 0 (some z45))))))), (z45, .inl ((g.2.2.1 0), 3, .inl (fun _ => 0))), (m0, .inr (16, mO r p0 p1 p9 p10 p18 p27 p28 p30 p44 p45 0 0 0 0 0 0 0 0 0 0 0 0))] H := hP
        have hD : va_D A [(p45, .inl ((g.2.2.1 5), 6, .inr (.inr (.inr (.inr (va_up f45 0 (some z45))))))), (z45, .inl ((g.2.2.1 0), 3, .inl (fun _ => 0))), (m0, .inr (16, mO r p0 p1 p9 p10 p18 p27 p28 p30 p44 p45 0 0 0 0 0 0 0 0 0 0 0 0))] := hD
        refine W.widen (k := 0) (n := 0) (by decide) (by decide) ?_
        refine W.eq (g2 := F0 m 40 ls [.int 1, .ref m0]) rfl ?_
        refine lv_if_eq (tgt := 57) hx hb dX12_addRecording_40 (by decide) (fun c40_33 => absurd c40_33 (by decide)) (fun _ => ?_)
        refine lv_iload_n hx hb dX12_addRecording_43 rfl (lv_at hl 3 rfl) ?_
        refine lv_iconst (v := (-1)) hx hb dX12_addRecording_44 (by decide) ?_
        refine lv_iconst (v := 3) hx hb dX12_addRecording_45 (by decide) ?_
        refine kcallS (wc := []) (wr := [(p45, .inl ((g.2.2.1 5), 6, .inr (.inr (.inr (.inr (va_up f45 0 (some z45))))))), (z45, .inl ((g.2.2.1 0), 3, .inl (fun _ => 0))), (m0, .inr (16, mO r p0 p1 p9 p10 p18 p27 p28 p30 p44 p45 0 0 0 0 0 0 0 0 0 0 0 0))]) (As := [.int x1, .int (-1), .int 3]) (rest := [.ref m0]) K G (m_X12_isIn l hl0 g x1 (-1) 3 ) hP hD hS hA hl kw_305 kw_306 kw_308 kw_307 ydX12_isIn [] [0, 1, 2] rfl rfl rfl rfl (by decide) rfl rfl (Nat.le_of_ble_eq_true rfl) dX12_addRecording_46 ⟨Nat.le_of_ble_eq_true rfl, Nat.le_of_ble_eq_true rfl⟩ ⟨Nat.le_of_ble_eq_true rfl, Nat.le_of_ble_eq_true rfl⟩ (fun _ _ _ _ _ _ hX _ _ _ _ _ _ => hX.elim) (fun v w1 H locs hQ hP hD hS => ?_)
        rcases hQ with ⟨rfl, rfl, f_35⟩ | ⟨rfl, rfl, f_36⟩
        · have hP : va_P g.1 vwCl [(p45, .inl ((g.2.2.1 5), 6, .inr (.inr (.inr (.inr (va_up f45 0 (some z45))))))), (z45, .inl ((g.2.2.1 0), 3, .inl (fun _ => 0))), (m0, .inr (16, mO r p0 p1 p9 p10 p18 p27 p28 p30 p44 p45 0 0 0 0 0 0 0 0 0 0 0 0))] H := hP
          have hD : va_D A [(p45, .inl ((g.2.2.1 5), 6, .inr (.inr (.inr (.inr (va_up f45 0 (some z45))))))), (z45, .inl ((g.2.2.1 0), 3, .inl (fun _ => 0))), (m0, .inr (16, mO r p0 p1 p9 p10 p18 p27 p28 p30 p44 p45 0 0 0 0 0 0 0 0 0 0 0 0))] := hD
          refine W.widen (k := 0) (n := 0) (by decide) (by decide) ?_
          refine W.eq (g2 := F0 m 49 ls [.int 1, .ref m0]) rfl ?_
          refine lv_if_eq (tgt := 57) hx hb dX12_addRecording_49 (by decide) (fun c49_37 => absurd c49_37 (by decide)) (fun _ => ?_)
          refine lv_iload hx hb dX12_addRecording_52 (lv_at hl 0 rfl) ?_
          refine lv_if_ne (tgt := 61) hx hb dX12_addRecording_54 (by decide) (fun _ => ?_) (fun c54_38 => absurd c54_38 (by decide))
          refine lv_iconst (v := 0) hx hb dX12_addRecording_61 (by decide) ?_
          refine lv_iconst (v := 1) hx hb dX12_addRecording_62 (by decide) ?_
          refine kcallV (wc := [(m0, .inr (16, mO r p0 p1 p9 p10 p18 p27 p28 p30 p44 p45 0 0 0 0 0 0 0 0 0 0 0 0))]) (wr := [(p45, .inl ((g.2.2.1 5), 6, .inr (.inr (.inr (.inr (va_up f45 0 (some z45))))))), (z45, .inl ((g.2.2.1 0), 3, .inl (fun _ => 0)))]) (As := [.int 0, .int 1]) (rest := []) K G (m_X12_isThrown0 l hl0 g m0 r p0 p1 p9 p10 p18 p27 p28 p30 p44 p45 0 0 0 0 0 0 0 0 0 0 0 0 1 ) hP hD hS hA hl kw_319 kw_320 kw_321 kw_322 kw_307 ydX12_isThrown [2] [0, 1] rfl rfl rfl rfl (by decide) (ci := 16) (q0 := 2) rfl rfl rfl rfl rfl (Nat.le_of_ble_eq_true rfl) dX12_addRecording_63 ⟨Nat.le_of_ble_eq_true rfl, Nat.le_of_ble_eq_true rfl⟩ ⟨Nat.le_of_ble_eq_true rfl, Nat.le_of_ble_eq_true rfl⟩ (fun _ _ _ _ _ _ hX _ _ _ _ _ _ => hX.elim) (fun v w1 H locs hQ hP hD hS => ?_)
          obtain ⟨rfl, rfl⟩ := hQ
          have hP : va_P g.1 vwCl [(p45, .inl ((g.2.2.1 5), 6, .inr (.inr (.inr (.inr (va_up f45 0 (some z45))))))), (z45, .inl ((g.2.2.1 0), 3, .inl (fun _ => 0))), (m0, .inr (16, mO r p0 p1 p9 p10 p18 p27 p28 p30 p44 p45 0 0 0 0 0 0 0 0 0 0 0 0))] H := hP
          have hD : va_D A [(p45, .inl ((g.2.2.1 5), 6, .inr (.inr (.inr (.inr (va_up f45 0 (some z45))))))), (z45, .inl ((g.2.2.1 0), 3, .inl (fun _ => 0))), (m0, .inr (16, mO r p0 p1 p9 p10 p18 p27 p28 p30 p44 p45 0 0 0 0 0 0 0 0 0 0 0 0))] := hD
          refine W.widen (k := 0) (n := 0) (by decide) (by decide) ?_
          refine W.eq (g2 := F0 m 66 ls [.int 0]) rfl ?_
          refine lv_if_ne (tgt := 91) hx hb dX12_addRecording_66 (by decide) (fun c66_40 => absurd c66_40 (by decide)) (fun _ => ?_)
          refine lv_aload_n hx hb dX12_addRecording_69 rfl (lv_at hl 1 rfl) ?_
          refine lv_aload_n hx hb dX12_addRecording_70 rfl (lv_at hl 1 rfl) ?_
          refine va_get (D := g.1) (ci := 16) (v := .int 0) (C := RX12) (T := TX12) (N := 59) hx hb G.ws inX12 hown G.K hP 2 rfl rfl 51 (by decide) (G.w kw_314) (fun _ h9 => h9) rfl dX12_addRecording_71 ?_
          refine lv_bipush (v := 6) hx hb dX12_addRecording_74 (by decide) ?_
          refine lv_icmp_ne (tgt := 83) hx hb dX12_addRecording_76 (by decide) (fun _ => ?_) (fun c76_41 => absurd c76_41 (by decide))
          refine lv_iconst (v := 0) hx hb dX12_addRecording_83 (by decide) ?_
          refine lv_iconst (v := 2) hx hb dX12_addRecording_84 (by decide) ?_
          refine kcallV (wc := [(m0, .inr (16, mO r p0 p1 p9 p10 p18 p27 p28 p30 p44 p45 0 0 0 0 0 0 0 0 0 0 0 0))]) (wr := [(p45, .inl ((g.2.2.1 5), 6, .inr (.inr (.inr (.inr (va_up f45 0 (some z45))))))), (z45, .inl ((g.2.2.1 0), 3, .inl (fun _ => 0)))]) (As := [.int 0, .int 2]) (rest := []) K G (m_X12_isThrown0 l hl0 g m0 r p0 p1 p9 p10 p18 p27 p28 p30 p44 p45 0 0 0 0 0 0 0 0 0 0 0 0 2 ) hP hD hS hA hl kw_319 kw_320 kw_321 kw_322 kw_307 ydX12_isThrown [2] [0, 1] rfl rfl rfl rfl (by decide) (ci := 16) (q0 := 2) rfl rfl rfl rfl rfl (Nat.le_of_ble_eq_true rfl) dX12_addRecording_85 ⟨Nat.le_of_ble_eq_true rfl, Nat.le_of_ble_eq_true rfl⟩ ⟨Nat.le_of_ble_eq_true rfl, Nat.le_of_ble_eq_true rfl⟩ (fun _ _ _ _ _ _ hX _ _ _ _ _ _ => hX.elim) (fun v w1 H locs hQ hP hD hS => ?_)
          obtain ⟨rfl, rfl⟩ := hQ
          have hP : va_P g.1 vwCl [(p45, .inl ((g.2.2.1 5), 6, .inr (.inr (.inr (.inr (va_up f45 0 (some z45))))))), (z45, .inl ((g.2.2.1 0), 3, .inl (fun _ => 0))), (m0, .inr (16, mO r p0 p1 p9 p10 p18 p27 p28 p30 p44 p45 0 0 0 0 0 0 0 0 0 0 0 0))] H := hP
          have hD : va_D A [(p45, .inl ((g.2.2.1 5), 6, .inr (.inr (.inr (.inr (va_up f45 0 (some z45))))))), (z45, .inl ((g.2.2.1 0), 3, .inl (fun _ => 0))), (m0, .inr (16, mO r p0 p1 p9 p10 p18 p27 p28 p30 p44 p45 0 0 0 0 0 0 0 0 0 0 0 0))] := hD
          refine W.widen (k := 0) (n := 0) (by decide) (by decide) ?_
          refine W.eq (g2 := F0 m 88 ls [.int 0]) rfl ?_
          refine lv_if_eq (tgt := 93) hx hb dX12_addRecording_88 (by decide) (fun _ => ?_) (fun c88_43 => absurd c88_43 (by decide))
          refine lv_aload_n hx hb dX12_addRecording_93 rfl (lv_at hl 1 rfl) ?_
          refine va_get (D := g.1) (ci := 16) (v := .ref p45) (C := RX12) (T := TX12) (N := 59) hx hb G.ws inX12 hown G.K hP 2 rfl rfl 45 (by decide) (G.w kw_344) (fun _ h9 => h9) rfl dX12_addRecording_94 ?_
          refine lv_aload_n hx hb dX12_addRecording_97 rfl (lv_at hl 1 rfl) ?_
          refine va_get (D := g.1) (ci := 16) (v := .int 0) (C := RX12) (T := TX12) (N := 59) hx hb G.ws inX12 hown G.K hP 2 rfl rfl 51 (by decide) (G.w kw_314) (fun _ h9 => h9) rfl dX12_addRecording_98 ?_
          refine kaald (q0 := 0) (v := z45) hx hb G hP rfl (i := 0) (vp_in_iff.mpr ⟨by decide, by decide⟩) rfl dX12_addRecording_101 ?_
          refine lv_iconst (v := 0) hx hb dX12_addRecording_102 (by decide) ?_
          refine lv_iload_n hx hb dX12_addRecording_103 rfl (lv_at hl 2 rfl) ?_
          refine va_iast hx hb G.K hP hD hS 1 0 rfl rfl (i := 0) (vp_in_iff.mpr ⟨by decide, by decide⟩) dX12_addRecording_104 (fun H locs hP hD hS => ?_)
          have hP : va_P g.1 vwCl [(p45, .inl ((g.2.2.1 5), 6, .inr (.inr (.inr (.inr (va_up f45 0 (some z45))))))), (z45, .inl ((g.2.2.1 0), 3, .inl (upd (fun _ => 0) 0 x0))), (m0, .inr (16, mO r p0 p1 p9 p10 p18 p27 p28 p30 p44 p45 0 0 0 0 0 0 0 0 0 0 0 0))] H := hP
          have hD : va_D A [(p45, .inl ((g.2.2.1 5), 6, .inr (.inr (.inr (.inr (va_up f45 0 (some z45))))))), (z45, .inl ((g.2.2.1 0), 3, .inl (upd (fun _ => 0) 0 x0))), (m0, .inr (16, mO r p0 p1 p9 p10 p18 p27 p28 p30 p44 p45 0 0 0 0 0 0 0 0 0 0 0 0))] := hD
          refine lv_aload_n hx hb dX12_addRecording_105 rfl (lv_at hl 1 rfl) ?_
          refine va_get (D := g.1) (ci := 16) (v := .ref p45) (C := RX12) (T := TX12) (N := 59) hx hb G.ws inX12 hown G.K hP 2 rfl rfl 45 (by decide) (G.w kw_344) (fun _ h9 => h9) rfl dX12_addRecording_106 ?_
          refine lv_aload_n hx hb dX12_addRecording_109 rfl (lv_at hl 1 rfl) ?_
          refine va_get (D := g.1) (ci := 16) (v := .int 0) (C := RX12) (T := TX12) (N := 59) hx hb G.ws inX12 hown G.K hP 2 rfl rfl 51 (by decide) (G.w kw_314) (fun _ h9 => h9) rfl dX12_addRecording_110 ?_
          refine kaald (q0 := 0) (v := z45) hx hb G hP rfl (i := 0) (vp_in_iff.mpr ⟨by decide, by decide⟩) rfl dX12_addRecording_113 ?_
          refine lv_iconst (v := 1) hx hb dX12_addRecording_114 (by decide) ?_
          refine lv_iload_n hx hb dX12_addRecording_115 rfl (lv_at hl 3 rfl) ?_
          refine va_iast hx hb G.K hP hD hS 1 0 rfl rfl (i := 1) (vp_in_iff.mpr ⟨by decide, by decide⟩) dX12_addRecording_116 (fun H locs hP hD hS => ?_)
          have hP : va_P g.1 vwCl [(p45, .inl ((g.2.2.1 5), 6, .inr (.inr (.inr (.inr (va_up f45 0 (some z45))))))), (z45, .inl ((g.2.2.1 0), 3, .inl (upd (upd (fun _ => 0) 0 x0) 1 x1))), (m0, .inr (16, mO r p0 p1 p9 p10 p18 p27 p28 p30 p44 p45 0 0 0 0 0 0 0 0 0 0 0 0))] H := hP
          have hD : va_D A [(p45, .inl ((g.2.2.1 5), 6, .inr (.inr (.inr (.inr (va_up f45 0 (some z45))))))), (z45, .inl ((g.2.2.1 0), 3, .inl (upd (upd (fun _ => 0) 0 x0) 1 x1))), (m0, .inr (16, mO r p0 p1 p9 p10 p18 p27 p28 p30 p44 p45 0 0 0 0 0 0 0 0 0 0 0 0))] := hD
          refine lv_aload_n hx hb dX12_addRecording_117 rfl (lv_at hl 1 rfl) ?_
          refine va_get (D := g.1) (ci := 16) (v := .ref p45) (C := RX12) (T := TX12) (N := 59) hx hb G.ws inX12 hown G.K hP 2 rfl rfl 45 (by decide) (G.w kw_344) (fun _ h9 => h9) rfl dX12_addRecording_118 ?_
          refine lv_aload_n hx hb dX12_addRecording_121 rfl (lv_at hl 1 rfl) ?_
          refine va_get (D := g.1) (ci := 16) (v := .int 0) (C := RX12) (T := TX12) (N := 59) hx hb G.ws inX12 hown G.K hP 2 rfl rfl 51 (by decide) (G.w kw_314) (fun _ h9 => h9) rfl dX12_addRecording_122 ?_
          refine kaald (q0 := 0) (v := z45) hx hb G hP rfl (i := 0) (vp_in_iff.mpr ⟨by decide, by decide⟩) rfl dX12_addRecording_125 ?_
          refine lv_iconst (v := 2) hx hb dX12_addRecording_126 (by decide) ?_
          refine lv_iload_n hx hb dX12_addRecording_127 rfl (lv_at hl 4 rfl) ?_
          refine va_iast hx hb G.K hP hD hS 1 0 rfl rfl (i := 2) (vp_in_iff.mpr ⟨by decide, by decide⟩) dX12_addRecording_128 (fun H locs hP hD hS => ?_)
          have hP : va_P g.1 vwCl [(p45, .inl ((g.2.2.1 5), 6, .inr (.inr (.inr (.inr (va_up f45 0 (some z45))))))), (z45, .inl ((g.2.2.1 0), 3, .inl (upd (upd (upd (fun _ => 0) 0 x0) 1 x1) 2 x2))), (m0, .inr (16, mO r p0 p1 p9 p10 p18 p27 p28 p30 p44 p45 0 0 0 0 0 0 0 0 0 0 0 0))] H := hP
          have hD : va_D A [(p45, .inl ((g.2.2.1 5), 6, .inr (.inr (.inr (.inr (va_up f45 0 (some z45))))))), (z45, .inl ((g.2.2.1 0), 3, .inl (upd (upd (upd (fun _ => 0) 0 x0) 1 x1) 2 x2))), (m0, .inr (16, mO r p0 p1 p9 p10 p18 p27 p28 p30 p44 p45 0 0 0 0 0 0 0 0 0 0 0 0))] := hD
          refine lv_aload_n hx hb dX12_addRecording_129 rfl (lv_at hl 1 rfl) ?_
          refine lv_dup hx hb dX12_addRecording_130 rfl ?_
          refine va_get (D := g.1) (ci := 16) (v := .int 0) (C := RX12) (T := TX12) (N := 59) hx hb G.ws inX12 hown G.K hP 2 rfl rfl 51 (by decide) (G.w kw_314) (fun _ h9 => h9) rfl dX12_addRecording_131 ?_
          refine lv_iconst (v := 1) hx hb dX12_addRecording_134 (by decide) ?_
          refine lv_iadd hx hb dX12_addRecording_135 ?_
          refine lv_topi (fun y_44 ey_44 => ?_)
          obtain rfl : y_44 = 1 := ey_44.trans (by decide)
          refine va_put (D := g.1) (ci := 16) (v := .int 1) (ty := .int) (C := RX12) (T := TX12) (N := 59) hx hb G.ws inX12 tyX12 tyX12_ok nmX12 hown G.K hP hD hS 2 rfl rfl 51 (by decide) (G.w kw_314) (fun _ h9 => h9) (by decide +kernel) (by decide +kernel) rfl rfl (Nat.le_of_ble_eq_true rfl) dX12_addRecording_136 (fun H locs hP hD hS => ?_)
          have hP : va_P g.1 vwCl [(p45, .inl ((g.2.2.1 5), 6, .inr (.inr (.inr (.inr (va_up f45 0 (some z45))))))), (z45, .inl ((g.2.2.1 0), 3, .inl (upd (upd (upd (fun _ => 0) 0 x0) 1 x1) 2 x2))), (m0, .inr (16, mO r p0 p1 p9 p10 p18 p27 p28 p30 p44 p45 0 0 0 0 1 0 0 0 0 0 0 0))] H := hP
          have hD : va_D A [(p45, .inl ((g.2.2.1 5), 6, .inr (.inr (.inr (.inr (va_up f45 0 (some z45))))))), (z45, .inl ((g.2.2.1 0), 3, .inl (upd (upd (upd (fun _ => 0) 0 x0) 1 x1) 2 x2))), (m0, .inr (16, mO r p0 p1 p9 p10 p18 p27 p28 p30 p44 p45 0 0 0 0 1 0 0 0 0 0 0 0))] := hD
          refine lv_aload_n hx hb dX12_addRecording_139 rfl (lv_at hl 1 rfl) ?_
          refine va_get (D := g.1) (ci := 16) (v := .int 1) (C := RX12) (T := TX12) (N := 59) hx hb G.ws inX12 hown G.K hP 2 rfl rfl 51 (by decide) (G.w kw_314) (fun _ h9 => h9) rfl dX12_addRecording_140 ?_
          refine lv_iconst (v := 1) hx hb dX12_addRecording_143 (by decide) ?_
          refine lv_isub hx hb dX12_addRecording_144 ?_
          refine lv_topi (fun y_45 ey_45 => ?_)
          obtain rfl : y_45 = 0 := ey_45.trans (by decide)
          exact kretI K hP hD hS [2] [(m0, .inr (16, mO r p0 p1 p9 p10 p18 p27 p28 p30 p44 p45 0 0 0 0 1 0 0 0 0 0 0 0))] rfl rfl (Or.inl ⟨0, 0, 0, 0, 1, 0, 0, 0, 0, 0, 0, rfl, rfl, (by rw [← okR_eq]; simp [c2_1, f_27, f_31, f_35])⟩) (by decide) (by decide) dX12_addRecording_145
        · have hP : va_P g.1 vwCl [(p45, .inl ((g.2.2.1 5), 6, .inr (.inr (.inr (.inr (va_up f45 0 (some z45))))))), (z45, .inl ((g.2.2.1 0), 3, .inl (fun _ => 0))), (m0, .inr (16, mO r p0 p1 p9 p10 p18 p27 p28 p30 p44 p45 0 0 0 0 0 0 0 0 0 0 0 0))] H := hP
          have hD : va_D A [(p45, .inl ((g.2.2.1 5), 6, .inr (.inr (.inr (.inr (va_up f45 0 (some z45))))))), (z45, .inl ((g.2.2.1 0), 3, .inl (fun _ => 0))), (m0, .inr (16, mO r p0 p1 p9 p10 p18 p27 p28 p30 p44 p45 0 0 0 0 0 0 0 0 0 0 0 0))] := hD
          refine W.widen (k := 0) (n := 0) (by decide) (by decide) ?_
          refine W.eq (g2 := F0 m 49 ls [.int 0, .ref m0]) rfl ?_
          refine lv_if_eq (tgt := 57) hx hb dX12_addRecording_49 (by decide) (fun _ => ?_) (fun c49_46 => absurd c49_46 (by decide))
          refine lv_iconst (v := 1) hx hb dX12_addRecording_57 (by decide) ?_
          refine lv_goto (tgt := 62) hx hb dX12_addRecording_58 (by decide) ?_
          refine lv_iconst (v := 1) hx hb dX12_addRecording_62 (by decide) ?_
          refine kcallV (wc := [(m0, .inr (16, mO r p0 p1 p9 p10 p18 p27 p28 p30 p44 p45 0 0 0 0 0 0 0 0 0 0 0 0))]) (wr := [(p45, .inl ((g.2.2.1 5), 6, .inr (.inr (.inr (.inr (va_up f45 0 (some z45))))))), (z45, .inl ((g.2.2.1 0), 3, .inl (fun _ => 0)))]) (As := [.int 1, .int 1]) (rest := []) K G (m_X12_isThrown1 l hl0 g m0 r p0 p1 p9 p10 p18 p27 p28 p30 p44 p45 0 0 0 0 0 0 0 0 0 0 0 0 1 ) hP hD hS hA hl kw_319 kw_320 kw_321 kw_322 kw_307 ydX12_isThrown [2] [0, 1] rfl rfl rfl rfl (by decide) (ci := 16) (q0 := 2) rfl rfl rfl rfl rfl (Nat.le_of_ble_eq_true rfl) dX12_addRecording_63 ⟨Nat.le_of_ble_eq_true rfl, Nat.le_of_ble_eq_true rfl⟩ ⟨Nat.le_of_ble_eq_true rfl, Nat.le_of_ble_eq_true rfl⟩ (fun _ _ _ _ _ _ hX _ _ _ _ _ _ => hX.elim) (fun v w1 H locs hQ hP hD hS => ?_)
          obtain ⟨rfl, rfl⟩ := hQ
          have hP : va_P g.1 vwCl [(p45, .inl ((g.2.2.1 5), 6, .inr (.inr (.inr (.inr (va_up f45 0 (some z45))))))), (z45, .inl ((g.2.2.1 0), 3, .inl (fun _ => 0))), (m0, .inr (16, mO r p0 p1 p9 p10 p18 p27 p28 p30 p44 p45 0 0 0 0 0 0 0 0 0 0 0 1))] H := hP
          have hD : va_D A [(p45, .inl ((g.2.2.1 5), 6, .inr (.inr (.inr (.inr (va_up f45 0 (some z45))))))), (z45, .inl ((g.2.2.1 0), 3, .inl (fun _ => 0))), (m0, .inr (16, mO r p0 p1 p9 p10 p18 p27 p28 p30 p44 p45 0 0 0 0 0 0 0 0 0 0 0 1))] := hD
          refine W.widen (k := 0) (n := 0) (by decide) (by decide) ?_
          refine W.eq (g2 := F0 m 66 ls [.int 1]) rfl ?_
          refine lv_if_ne (tgt := 91) hx hb dX12_addRecording_66 (by decide) (fun _ => ?_) (fun c66_48 => absurd c66_48 (by decide))
          refine lv_iconst (v := 0) hx hb dX12_addRecording_91 (by decide) ?_
          exact kretI K hP hD hS [2] [(m0, .inr (16, mO r p0 p1 p9 p10 p18 p27 p28 p30 p44 p45 0 0 0 0 0 0 0 0 0 0 0 1))] rfl rfl (Or.inr (⟨0, 0, 0, 0, 0, 0, 0, 0, 0, 0, 0, rfl, rfl, (by rw [← okR_eq]; simp [c2_1, f_27, f_31, f_36])⟩)) (by decide) (by decide) dX12_addRecording_92
      · have hP : va_P g.1 vwCl [(p45, .inl ((g.2.2.1 5), 6, .inr (.inr (.inr (.inr (va_up f45 0 (some z45))))))), (z45, .inl ((g.2.2.1 0), 3, .inl (fun _ => 0))), (m0, .inr (16, mO r p0 p1 p9 p10 p18 p27 p28 p30 p44 p45 0 0 0 0 0 0 0 0 0 0 0 0))] H := hP
        have hD : va_D A [(p45, .inl ((g.2.2.1 5), 6, .inr (.inr (.inr (.inr (va_up f45 0 (some z45))))))), (z45, .inl ((g.2.2.1 0), 3, .inl (fun _ => 0))), (m0, .inr (16, mO r p0 p1 p9 p10 p18 p27 p28 p30 p44 p45 0 0 0 0 0 0 0 0 0 0 0 0))] := hD
        refine W.widen (k := 0) (n := 0) (by decide) (by decide) ?_
        refine W.eq (g2 := F0 m 40 ls [.int 0, .ref m0]) rfl ?_
        refine lv_if_eq (tgt := 57) hx hb dX12_addRecording_40 (by decide) (fun _ => ?_) (fun c40_49 => absurd c40_49 (by decide))
        refine lv_iconst (v := 1) hx hb dX12_addRecording_57 (by decide) ?_
        refine lv_goto (tgt := 62) hx hb dX12_addRecording_58 (by decide) ?_
        refine lv_iconst (v := 1) hx hb dX12_addRecording_62 (by decide) ?_
        refine kcallV (wc := [(m0, .inr (16, mO r p0 p1 p9 p10 p18 p27 p28 p30 p44 p45 0 0 0 0 0 0 0 0 0 0 0 0))]) (wr := [(p45, .inl ((g.2.2.1 5), 6, .inr (.inr (.inr (.inr (va_up f45 0 (some z45))))))), (z45, .inl ((g.2.2.1 0), 3, .inl (fun _ => 0)))]) (As := [.int 1, .int 1]) (rest := []) K G (m_X12_isThrown1 l hl0 g m0 r p0 p1 p9 p10 p18 p27 p28 p30 p44 p45 0 0 0 0 0 0 0 0 0 0 0 0 1 ) hP hD hS hA hl kw_319 kw_320 kw_321 kw_322 kw_307 ydX12_isThrown [2] [0, 1] rfl rfl rfl rfl (by decide) (ci := 16) (q0 := 2) rfl rfl rfl rfl rfl (Nat.le_of_ble_eq_true rfl) dX12_addRecording_63 ⟨Nat.le_of_ble_eq_true rfl, Nat.le_of_ble_eq_true rfl⟩ ⟨Nat.le_of_ble_eq_true rfl, Nat.le_of_ble_eq_true rfl⟩ (fun _ _ _ _ _ _ hX _ _ _ _ _ _ => hX.elim) (fun v w1 H locs hQ hP hD hS => ?_)
        obtain ⟨rfl, rfl⟩ := hQ
        have hP : va_P g.1 vwCl [(p45, .inl ((g.2.2.1 5), 6, .inr (.inr (.inr (.inr (va_up f45 0 (some z45))))))), (z45, .inl ((g.2.2.1 0), 3, .inl (fun _ => 0))), (m0, .inr (16, mO r p0 p1 p9 p10 p18 p27 p28 p30 p44 p45 0 0 0 0 0 0 0 0 0 0 0 1))] H := hP
        have hD : va_D A [(p45, .inl ((g.2.2.1 5), 6, .inr (.inr (.inr (.inr (va_up f45 0 (some z45))))))), (z45, .inl ((g.2.2.1 0), 3, .inl (fun _ => 0))), (m0, .inr (16, mO r p0 p1 p9 p10 p18 p27 p28 p30 p44 p45 0 0 0 0 0 0 0 0 0 0 0 1))] := hD
        refine W.widen (k := 0) (n := 0) (by decide) (by decide) ?_
        refine W.eq (g2 := F0 m 66 ls [.int 1]) rfl ?_
        refine lv_if_ne (tgt := 91) hx hb dX12_addRecording_66 (by decide) (fun _ => ?_) (fun c66_51 => absurd c66_51 (by decide))
        refine lv_iconst (v := 0) hx hb dX12_addRecording_91 (by decide) ?_
        exact kretI K hP hD hS [2] [(m0, .inr (16, mO r p0 p1 p9 p10 p18 p27 p28 p30 p44 p45 0 0 0 0 0 0 0 0 0 0 0 1))] rfl rfl (Or.inr (⟨0, 0, 0, 0, 0, 0, 0, 0, 0, 0, 0, rfl, rfl, (by rw [← okR_eq]; simp [c2_1, f_27, f_32])⟩)) (by decide) (by decide) dX12_addRecording_92
    · have hP : va_P g.1 vwCl [(p45, .inl ((g.2.2.1 5), 6, .inr (.inr (.inr (.inr (va_up f45 0 (some z45))))))), (z45, .inl ((g.2.2.1 0), 3, .inl (fun _ => 0))), (m0, .inr (16, mO r p0 p1 p9 p10 p18 p27 p28 p30 p44 p45 0 0 0 0 0 0 0 0 0 0 0 0))] H := hP
      have hD : va_D A [(p45, .inl ((g.2.2.1 5), 6, .inr (.inr (.inr (.inr (va_up f45 0 (some z45))))))), (z45, .inl ((g.2.2.1 0), 3, .inl (fun _ => 0))), (m0, .inr (16, mO r p0 p1 p9 p10 p18 p27 p28 p30 p44 p45 0 0 0 0 0 0 0 0 0 0 0 0))] := hD
      refine W.widen (k := 0) (n := 0) (by decide) (by decide) ?_
      refine W.eq (g2 := F0 m 22 ls [.int 0]) rfl ?_
      refine lv_if_eq (tgt := 29) hx hb dX12_addRecording_22 (by decide) (fun _ => ?_) (fun c22_52 => absurd c22_52 (by decide))
      refine lv_iconst (v := 0) hx hb dX12_addRecording_29 (by decide) ?_
      refine lv_istore (lv' := [(4, .int 0), (0, .ref m0), (1, .int x0), (2, .int x1), (3, .int x2)]) hx hb dX12_addRecording_30 hl (by decide) rfl (fun ls hl => ?_)
      refine lv_aload_n hx hb dX12_addRecording_32 rfl (lv_at hl 1 rfl) ?_
      refine lv_iload_n hx hb dX12_addRecording_33 rfl (lv_at hl 2 rfl) ?_
      refine lv_iconst (v := (-1)) hx hb dX12_addRecording_34 (by decide) ?_
      refine lv_bipush (v := 9) hx hb dX12_addRecording_35 (by decide) ?_
      refine kcallS (wc := []) (wr := [(p45, .inl ((g.2.2.1 5), 6, .inr (.inr (.inr (.inr (va_up f45 0 (some z45))))))), (z45, .inl ((g.2.2.1 0), 3, .inl (fun _ => 0))), (m0, .inr (16, mO r p0 p1 p9 p10 p18 p27 p28 p30 p44 p45 0 0 0 0 0 0 0 0 0 0 0 0))]) (As := [.int x0, .int (-1), .int 9]) (rest := [.ref m0]) K G (m_X12_isIn l hl0 g x0 (-1) 9 ) hP hD hS hA hl kw_305 kw_306 kw_308 kw_307 ydX12_isIn [] [0, 1, 2] rfl rfl rfl rfl (by decide) rfl rfl (Nat.le_of_ble_eq_true rfl) dX12_addRecording_37 ⟨Nat.le_of_ble_eq_true rfl, Nat.le_of_ble_eq_true rfl⟩ ⟨Nat.le_of_ble_eq_true rfl, Nat.le_of_ble_eq_true rfl⟩ (fun _ _ _ _ _ _ hX _ _ _ _ _ _ => hX.elim) (fun v w1 H locs hQ hP hD hS => ?_)
      rcases hQ with ⟨rfl, rfl, f_54⟩ | ⟨rfl, rfl, f_55⟩
      · have hP : va_P g.1 vwCl [(p45, .inl ((g.2.2.1 5), 6, .inr (.inr (.inr (.inr (va_up f45 0 (some z45))))))), (z45, .inl ((g.2.2.1 0), 3, .inl (fun _ => 0))), (m0, .inr (16, mO r p0 p1 p9 p10 p18 p27 p28 p30 p44 p45 0 0 0 0 0 0 0 0 0 0 0 0))] H := hP
        have hD : va_D A [(p45, .inl ((g.2.2.1 5), 6, .inr (.inr (.inr (.inr (va_up f45 0 (some z45))))))), (z45, .inl ((g.2.2.1 0), 3, .inl (fun _ => 0))), (m0, .inr (16, mO r p0 p1 p9 p10 p18 p27 p28 p30 p44 p45 0 0 0 0 0 0 0 0 0 0 0 0))] := hD
        refine W.widen (k := 0) (n := 0) (by decide) (by decide) ?_
        refine W.eq (g2 := F0 m 40 ls [.int 1, .ref m0]) rfl ?_
        refine lv_if_eq (tgt := 57) hx hb dX12_addRecording_40 (by decide) (fun c40_56 => absurd c40_56 (by decide)) (fun _ => ?_)
        refine lv_iload_n hx hb dX12_addRecording_43 rfl (lv_at hl 3 rfl) ?_
        refine lv_iconst (v := (-1)) hx hb dX12_addRecording_44 (by decide) ?_
        refine lv_iconst (v := 3) hx hb dX12_addRecording_45 (by decide) ?_
        refine kcallS (wc := []) (wr := [(p45, .inl ((g.2.2.1 5), 6, .inr (.inr (.inr (.inr (va_up f45 0 (some z45))))))), (z45, .inl ((g.2.2.1 0), 3, .inl (fun _ => 0))), (m0, .inr (16, mO r p0 p1 p9 p10 p18 p27 p28 p30 p44 p45 0 0 0 0 0 0 0 0 0 0 0 0))]) (As := [.int x1, .int (-1), .int 3]) (rest := [.ref m0]) K G (m_X12_isIn l hl0 g x1 (-1) 3 ) hP hD hS hA hl kw_305 kw_306 kw_308 kw_307 ydX12_isIn [] [0, 1, 2] rfl rfl rfl rfl (by decide) rfl rfl (Nat.le_of_ble_eq_true rfl) dX12_addRecording_46 ⟨Nat.le_of_ble_eq_true rfl, Nat.le_of_ble_eq_true rfl⟩ ⟨Nat.le_of_ble_eq_true rfl, Nat.le_of_ble_eq_true rfl⟩ (fun _ _ _ _ _ _ hX _ _ _ _ _ _ => hX.elim) (fun v w1 H locs hQ hP hD hS => ?_)
        rcases hQ with ⟨rfl, rfl, f_58⟩ | ⟨rfl, rfl, f_59⟩
        · have hP : va_P g.1 vwCl [(p45, .inl ((g.2.2.1 5), 6, .inr (.inr (.inr (.inr (va_up f45 0 (some z45))))))), (z45, .inl ((g.2.2.1 0), 3, .inl (fun _ => 0))), (m0, .inr (16, mO r p0 p1 p9 p10 p18 p27 p28 p30 p44 p45 0 0 0 0 0 0 0 0 0 0 0 0))] H := hP
          have hD : va_D A [(p45, .inl ((g.2.2.1 5), 6, .inr (.inr (.inr (.inr (va_up f45 0 (some z45))))))), (z45, .inl ((g.2.2.1 0), 3, .inl (fun _ => 0))), (m0, .inr (16, mO r p0 p1 p9 p10 p18 p27 p28 p30 p44 p45 0 0 0 0 0 0 0 0 0 0 0 0))] := hD
          refine W.widen (k := 0) (n := 0) (by decide) (by decide) ?_
          refine W.eq (g2 := F0 m 49 ls [.int 1, .ref m0]) rfl ?_
          refine lv_if_eq (tgt := 57) hx hb dX12_addRecording_49 (by decide) (fun c49_60 => absurd c49_60 (by decide)) (fun _ => ?_)
          refine lv_iload hx hb dX12_addRecording_52 (lv_at hl 0 rfl) ?_
          refine lv_if_ne (tgt := 61) hx hb dX12_addRecording_54 (by decide) (fun c54_61 => absurd c54_61 (by decide)) (fun _ => ?_)
          refine lv_iconst (v := 1) hx hb dX12_addRecording_57 (by decide) ?_
          refine lv_goto (tgt := 62) hx hb dX12_addRecording_58 (by decide) ?_
          refine lv_iconst (v := 1) hx hb dX12_addRecording_62 (by decide) ?_
          refine kcallV (wc := [(m0, .inr (16, mO r p0 p1 p9 p10 p18 p27 p28 p30 p44 p45 0 0 0 0 0 0 0 0 0 0 0 0))]) (wr := [(p45, .inl ((g.2.2.1 5), 6, .inr (.inr (.inr (.inr (va_up f45 0 (some z45))))))), (z45, .inl ((g.2.2.1 0), 3, .inl (fun _ => 0)))]) (As := [.int 1, .int 1]) (rest := []) K G (m_X12_isThrown1 l hl0 g m0 r p0 p1 p9 p10 p18 p27 p28 p30 p44 p45 0 0 0 0 0 0 0 0 0 0 0 0 1 ) hP hD hS hA hl kw_319 kw_320 kw_321 kw_322 kw_307 ydX12_isThrown [2] [0, 1] rfl rfl rfl rfl (by decide) (ci := 16) (q0 := 2) rfl rfl rfl rfl rfl (Nat.le_of_ble_eq_true rfl) dX12_addRecording_63 ⟨Nat.le_of_ble_eq_true rfl, Nat.le_of_ble_eq_true rfl⟩ ⟨Nat.le_of_ble_eq_true rfl, Nat.le_of_ble_eq_true rfl⟩ (fun _ _ _ _ _ _ hX _ _ _ _ _ _ => hX.elim) (fun v w1 H locs hQ hP hD hS => ?_)
          obtain ⟨rfl, rfl⟩ := hQ
          have hP : va_P g.1 vwCl [(p45, .inl ((g.2.2.1 5), 6, .inr (.inr (.inr (.inr (va_up f45 0 (some z45))))))), (z45, .inl ((g.2.2.1 0), 3, .inl (fun _ => 0))), (m0, .inr (16, mO r p0 p1 p9 p10 p18 p27 p28 p30 p44 p45 0 0 0 0 0 0 0 0 0 0 0 1))] H := hP
          have hD : va_D A [(p45, .inl ((g.2.2.1 5), 6, .inr (.inr (.inr (.inr (va_up f45 0 (some z45))))))), (z45, .inl ((g.2.2.1 0), 3, .inl (fun _ => 0))), (m0, .inr (16, mO r p0 p1 p9 p10 p18 p27 p28 p30 p44 p45 0 0 0 0 0 0 0 0 0 0 0 1))] := hD
          refine W.widen (k := 0) (n := 0) (by decide) (by decide) ?_
          refine W.eq (g2 := F0 m 66 ls [.int 1]) rfl ?_
          refine lv_if_ne (tgt := 91) hx hb dX12_addRecording_66 (by decide) (fun _ => ?_) (fun c66_63 => absurd c66_63 (by decide))
          refine lv_iconst (v := 0) hx hb dX12_addRecording_91 (by decide) ?_
          exact kretI K hP hD hS [2] [(m0, .inr (16, mO r p0 p1 p9 p10 p18 p27 p28 p30 p44 p45 0 0 0 0 0 0 0 0 0 0 0 1))] rfl rfl (Or.inr (⟨0, 0, 0, 0, 0, 0, 0, 0, 0, 0, 0, rfl, rfl, (by rw [← okR_eq]; simp [c2_1, f_28, f_54, f_58])⟩)) (by decide) (by decide) dX12_addRecording_92
        · have hP : va_P g.1 vwCl [(p45, .inl ((g.2.2.1 5), 6, .inr (.inr (.inr (.inr (va_up f45 0 (some z45))))))), (z45, .inl ((g.2.2.1 0), 3, .inl (fun _ => 0))), (m0, .inr (16, mO r p0 p1 p9 p10 p18 p27 p28 p30 p44 p45 0 0 0 0 0 0 0 0 0 0 0 0))] H := hP
          have hD : va_D A [(p45, .inl ((g.2.2.1 5), 6, .inr (.inr (.inr (.inr (va_up f45 0 (some z45))))))), (z45, .inl ((g.2.2.1 0), 3, .inl (fun _ => 0))), (m0, .inr (16, mO r p0 p1 p9 p10 p18 p27 p28 p30 p44 p45 0 0 0 0 0 0 0 0 0 0 0 0))] := hD
          refine W.widen (k := 0) (n := 0) (by decide) (by decide) ?_
          refine W.eq (g2 := F0 m 49 ls [.int 0, .ref m0]) rfl ?_
          refine lv_if_eq (tgt := 57) hx hb dX12_addRecording_49 (by decide) (fun _ => ?_) (fun c49_64 => absurd c49_64 (by decide))
          refine lv_iconst (v := 1) hx hb dX12_addRecording_57 (by decide) ?_
          refine lv_goto (tgt := 62) hx hb dX12_addRecording_58 (by decide) ?_
          refine lv_iconst (v := 1) hx hb dX12_addRecording_62 (by decide) ?_
          refine kcallV (wc := [(m0, .inr (16, mO r p0 p1 p9 p10 p18 p27 p28 p30 p44 p45 0 0 0 0 0 0 0 0 0 0 0 0))]) (wr := [(p45, .inl ((g.2.2.1 5), 6, .inr (.inr (.inr (.inr (va_up f45 0 (some z45))))))), (z45, .inl ((g.2.2.1 0), 3, .inl (fun _ => 0)))]) (As := [.int 1, .int 1]) (rest := []) K G (m_X12_isThrown1 l hl0 g m0 r p0 p1 p9 p10 p18 p27 p28 p30 p44 p45 0 0 0 0 0 0 0 0 0 0 0 0 1 ) hP hD hS hA hl kw_319 kw_320 kw_321 kw_322 kw_307 ydX12_isThrown [2] [0, 1] rfl rfl rfl rfl (by decide) (ci := 16) (q0 := 2) rfl rfl rfl rfl rfl (Nat.le_of_ble_eq_true rfl) dX12_addRecording_63 ⟨Nat.le_of_ble_eq_true rfl, Nat.le_of_ble_eq_true rfl⟩ ⟨Nat.le_of_ble_eq_true rfl, Nat.le_of_ble_eq_true rfl⟩ (fun _ _ _ _ _ _ hX _ _ _ _ _ _ => hX.elim) (fun v w1 H locs hQ hP hD hS => ?_)
          obtain ⟨rfl, rfl⟩ := hQ
          have hP : va_P g.1 vwCl [(p45, .inl ((g.2.2.1 5), 6, .inr (.inr (.inr (.inr (va_up f45 0 (some z45))))))), (z45, .inl ((g.2.2.1 0), 3, .inl (fun _ => 0))), (m0, .inr (16, mO r p0 p1 p9 p10 p18 p27 p28 p30 p44 p45 0 0 0 0 0 0 0 0 0 0 0 1))] H := hP
          have hD : va_D A [(p45, .inl ((g.2.2.1 5), 6, .inr (.inr (.inr (.inr (va_up f45 0 (some z45))))))), (z45, .inl ((g.2.2.1 0), 3, .inl (fun _ => 0))), (m0, .inr (16, mO r p0 p1 p9 p10 p18 p27 p28 p30 p44 p45 0 0 0 0 0 0 0 0 0 0 0 1))] := hD
          refine W.widen (k := 0) (n := 0) (by decide) (by decide) ?_
          refine W.eq (g2 := F0 m 66 ls [.int 1]) rfl ?_
          refine lv_if_ne (tgt := 91) hx hb dX12_addRecording_66 (by decide) (fun _ => ?_) (fun c66_66 => absurd c66_66 (by decide))
          refine lv_iconst (v := 0) hx hb dX12_addRecording_91 (by decide) ?_
          exact kretI K hP hD hS [2] [(m0, .inr (16, mO r p0 p1 p9 p10 p18 p27 p28 p30 p44 p45 0 0 0 0 0 0 0 0 0 0 0 1))] rfl rfl (Or.inr (⟨0, 0, 0, 0, 0, 0, 0, 0, 0, 0, 0, rfl, rfl, (by rw [← okR_eq]; simp [c2_1, f_28, f_54, f_59])⟩)) (by decide) (by decide) dX12_addRecording_92
      · have hP : va_P g.1 vwCl [(p45, .inl ((g.2.2.1 5), 6, .inr (.inr (.inr (.inr (va_up f45 0 (some z45))))))), (z45, .inl ((g.2.2.1 0), 3, .inl (fun _ => 0))), (m0, .inr (16, mO r p0 p1 p9 p10 p18 p27 p28 p30 p44 p45 0 0 0 0 0 0 0 0 0 0 0 0))] H := hP
        have hD : va_D A [(p45, .inl ((g.2.2.1 5), 6, .inr (.inr (.inr (.inr (va_up f45 0 (some z45))))))), (z45, .inl ((g.2.2.1 0), 3, .inl (fun _ => 0))), (m0, .inr (16, mO r p0 p1 p9 p10 p18 p27 p28 p30 p44 p45 0 0 0 0 0 0 0 0 0 0 0 0))] := hD
        refine W.widen (k := 0) (n := 0) (by decide) (by decide) ?_
        refine W.eq (g2 := F0 m 40 ls [.int 0, .ref m0]) rfl ?_
        refine lv_if_eq (tgt := 57) hx hb dX12_addRecording_40 (by decide) (fun _ => ?_) (fun c40_67 => absurd c40_67 (by decide))
        refine lv_iconst (v := 1) hx hb dX12_addRecording_57 (by decide) ?_
        refine lv_goto (tgt := 62) hx hb dX12_addRecording_58 (by decide) ?_
        refine lv_iconst (v := 1) hx hb dX12_addRecording_62 (by decide) ?_
        refine kcallV (wc := [(m0, .inr (16, mO r p0 p1 p9 p10 p18 p27 p28 p30 p44 p45 0 0 0 0 0 0 0 0 0 0 0 0))]) (wr := [(p45, .inl ((g.2.2.1 5), 6, .inr (.inr (.inr (.inr (va_up f45 0 (some z45))))))), (z45, .inl ((g.2.2.1 0), 3, .inl (fun _ => 0)))]) (As := [.int 1, .int 1]) (rest := []) K G (m_X12_isThrown1 l hl0 g m0 r p0 p1 p9 p10 p18 p27 p28 p30 p44 p45 0 0 0 0 0 0 0 0 0 0 0 0 1 ) hP hD hS hA hl kw_319 kw_320 kw_321 kw_322 kw_307 ydX12_isThrown [2] [0, 1] rfl rfl rfl rfl (by decide) (ci := 16) (q0 := 2) rfl rfl rfl rfl rfl (Nat.le_of_ble_eq_true rfl) dX12_addRecording_63 ⟨Nat.le_of_ble_eq_true rfl, Nat.le_of_ble_eq_true rfl⟩ ⟨Nat.le_of_ble_eq_true rfl, Nat.le_of_ble_eq_true rfl⟩ (fun _ _ _ _ _ _ hX _ _ _ _ _ _ => hX.elim) (fun v w1 H locs hQ hP hD hS => ?_)
        obtain ⟨rfl, rfl⟩ := hQ
        have hP : va_P g.1 vwCl [(p45, .inl ((g.2.2.1 5), 6, .inr (.inr (.inr (.inr (va_up f45 0 (some z45))))))), (z45, .inl ((g.2.2.1 0), 3, .inl (fun _ => 0))), (m0, .inr (16, mO r p0 p1 p9 p10 p18 p27 p28 p30 p44 p45 0 0 0 0 0 0 0 0 0 0 0 1))] H := hP
        have hD : va_D A [(p45, .inl ((g.2.2.1 5), 6, .inr (.inr (.inr (.inr (va_up f45 0 (some z45))))))), (z45, .inl ((g.2.2.1 0), 3, .inl (fun _ => 0))), (m0, .inr (16, mO r p0 p1 p9 p10 p18 p27 p28 p30 p44 p45 0 0 0 0 0 0 0 0 0 0 0 1))] := hD
        refine W.widen (k := 0) (n := 0) (by decide) (by decide) ?_
        refine W.eq (g2 := F0 m 66 ls [.int 1]) rfl ?_
        refine lv_if_ne (tgt := 91) hx hb dX12_addRecording_66 (by decide) (fun _ => ?_) (fun c66_69 => absurd c66_69 (by decide))
        refine lv_iconst (v := 0) hx hb dX12_addRecording_91 (by decide) ?_
        exact kretI K hP hD hS [2] [(m0, .inr (16, mO r p0 p1 p9 p10 p18 p27 p28 p30 p44 p45 0 0 0 0 0 0 0 0 0 0 0 1))] rfl rfl (Or.inr (⟨0, 0, 0, 0, 0, 0, 0, 0, 0, 0, 0, rfl, rfl, (by rw [← okR_eq]; simp [c2_1, f_28, f_55])⟩)) (by decide) (by decide) dX12_addRecording_92

