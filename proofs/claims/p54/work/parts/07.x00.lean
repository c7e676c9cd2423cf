theorem kvp24 {x : Int32} (h0 : ¬ x < 0) (h1 : ¬ 24 ≤ x) : vp_in x 24 := by
  have a := Int32.le_iff_toInt_le.mp (Int32.not_lt.mp h0)
  have b := Int32.lt_iff_toInt_lt.mp (Int32.not_le.mp h1)
  rw [show (0 : Int32).toInt = 0 from by decide] at a
  rw [show (24 : Int32).toInt = 24 from by decide] at b
  exact vp_in_iff.mpr ⟨a, b⟩
theorem kin24 {x : Int32} (h0 : ¬ x < 0) (h1 : ¬ 24 ≤ x) : x.toNatClampNeg < 24 := Nat.not_le.mp fun q => kvp24 h0 h1 (Or.inr q)

set_option maxHeartbeats 4000000 in
set_option maxRecDepth 100000 in
theorem m_X6_at (l : Launch) (hl0 : l.stackTraces = false) (g : kG) (sP : Nat) (hq : Nat) (hf : Nat → Int32) (x : Int32) (h24 : ∀ j : Nat, j < 24 → hf j = -1) : kc l g yX6_at prog_8_method_2_code 2 (some .int) 0 0 0 0 [.ref sP, .int x] [(sP, .inr (9, [.ref hq, .int (-1)])), (hq, .inl ((g.2.2.1 0), 24, .inl hf))] (fun v w => (v = some (.int (-1)) ∧ w = [(sP, .inr (9, [.ref hq, .int (-1)])), (hq, .inl ((g.2.2.1 0), 24, .inl hf))])) (fun _ _ => False) := by
  refine kbody (by decide) (Nat.le_of_ble_eq_true rfl) ?_
  intro p e s m args below meth c A H K ht G hP hD hA hS ls hl
  have K : KB p s m meth c RX6 "at" prog_8_method_2_code 2 (some .int) := K
  obtain ⟨hx, hb, hml, hown, hlocks, hr, hin⟩ := id K
  have hl : lv_has ls 2 [(0, .ref sP), (1, .int x)] := hl
  refine lv_iload_n hx hb dX6_at_0 rfl (lv_at hl 1 rfl) ?_
  refine lv_if_lt (tgt := 19) hx hb dX6_at_1 (by decide) (fun c1_1 => ?_) (fun c1_1 => ?_)
  · refine lv_iconst (v := (-1)) hx hb dX6_at_19 (by decide) ?_
    exact kretI K hP hD hS [0, 1] [(sP, .inr (9, [.ref hq, .int (-1)])), (hq, .inl ((g.2.2.1 0), 24, .inl hf))] rfl rfl (⟨(by first | rfl | (subst_vars; exact congrArg (fun z => some (Value.int z)) (h24 _ (kin24 (by assumption) (by assumption))))), rfl⟩) (by decide) (by decide) dX6_at_20
  · refine lv_iload_n hx hb dX6_at_4 rfl (lv_at hl 1 rfl) ?_
    refine lv_bipush (v := 24) hx hb dX6_at_5 (by decide) ?_
    refine lv_icmp_ge (tgt := 19) hx hb dX6_at_7 (by decide) (fun c7_2 => ?_) (fun c7_2 => ?_)
    · refine lv_iconst (v := (-1)) hx hb dX6_at_19 (by decide) ?_
      exact kretI K hP hD hS [0, 1] [(sP, .inr (9, [.ref hq, .int (-1)])), (hq, .inl ((g.2.2.1 0), 24, .inl hf))] rfl rfl (⟨(by first | rfl | (subst_vars; exact congrArg (fun z => some (Value.int z)) (h24 _ (kin24 (by assumption) (by assumption))))), rfl⟩) (by decide) (by decide) dX6_at_20
    · refine lv_aload_n hx hb dX6_at_10 rfl (lv_at hl 0 rfl) ?_
      refine va_get (D := g.1) (ci := 9) (v := .ref hq) (C := RX6) (T := TX6) (N := 2) hx hb G.ws inX6 hown G.K hP 0 rfl rfl 0 (by decide) (G.w kw_173) (fun _ h9 => h9) rfl dX6_at_11 ?_
      refine lv_iload_n hx hb dX6_at_14 rfl (lv_at hl 1 rfl) ?_
      refine va_iald hx hb G.K hP 1 0 rfl rfl (i := x) (kvp24 c1_1 c7_2) dX6_at_15 ?_
      refine lv_topi (fun y_3 ey_3 => ?_)
      refine lv_goto (tgt := 20) hx hb dX6_at_16 (by decide) ?_
      exact kretI K hP hD hS [0, 1] [(sP, .inr (9, [.ref hq, .int (-1)])), (hq, .inl ((g.2.2.1 0), 24, .inl hf))] rfl rfl (⟨(by first | rfl | (subst_vars; exact congrArg (fun z => some (Value.int z)) (h24 _ (kin24 (by assumption) (by assumption))))), rfl⟩) (by decide) (by decide) dX6_at_20

set_option maxHeartbeats 4000000 in
set_option maxRecDepth 100000 in
theorem m_X11_chooseSpeaker (l : Launch) (hl0 : l.stackTraces = false) (g : kG) (h0 : Nat) (a1 : Nat) (a2 : Nat) (a3 : Nat) (a4 : Nat) (a5 : Nat) (zh : Int32) (zf : Int32) (zw : Int32) (ze : Int32) (zn : Int32) (zm : Int32) (e0 : Nat) (e0b : Nat) (q4 : Nat) (eh : Int32) (ehb : Int32) (mc4 : Int32) (f4 : Nat → Option Nat) (sP : Nat) (hq : Nat) (hf : Nat → Int32) (y : Int32) (h24 : ∀ j : Nat, j < 24 → hf j = -1) : kc l g yX11_chooseSpeaker prog_1_method_82_code 6 (some .int) 4 87 0 0 [.ref h0, .int y, .ref sP] [(h0, .inr (13, [.ref a1, .ref a2, .ref a3, .ref a4, .ref a5, .int zh, .int zf, .int zw, .int ze, .int zn, .int zm])), (a4, .inr (2, [.int mc4, .ref q4, .int 2])), (q4, .inl ((g.2.2.1 4), 10, .inr (.inr (.inr (.inr (va_up (va_up f4 0 (some e0)) 1 (some e0b))))))), (e0, .inr (8, [.int 0, .int 0, .int 0, .int eh, .int (-1)])), (e0b, .inr (8, [.int 0, .int 0, .int 1, .int ehb, .int (-1)])), (sP, .inr (9, [.ref hq, .int (-1)])), (hq, .inl ((g.2.2.1 0), 24, .inl hf))] (fun v w => (v = some (.int 200) ∧ w = [(h0, .inr (13, [.ref a1, .ref a2, .ref a3, .ref a4, .ref a5, .int zh, .int zf, .int zw, .int ze, .int zn, .int zm])), (a4, .inr (2, [.int mc4, .ref q4, .int 2])), (q4, .inl ((g.2.2.1 4), 10, .inr (.inr (.inr (.inr (va_up (va_up f4 0 (some e0)) 1 (some e0b))))))), (e0, .inr (8, [.int 0, .int 0, .int 0, .int eh, .int (-1)])), (e0b, .inr (8, [.int 0, .int 0, .int 1, .int ehb, .int (-1)])), (sP, .inr (9, [.ref hq, .int (-1)])), (hq, .inl ((g.2.2.1 0), 24, .inl hf))])) (fun _ _ => False) := by
  refine kbody (by decide) (Nat.le_of_ble_eq_true rfl) ?_
  intro p e s m args below meth c A H K ht G hP hD hA hS ls hl
  have K : KB p s m meth c RX11 "chooseSpeaker" prog_1_method_82_code 6 (some .int) := K
  obtain ⟨hx, hb, hml, hown, hlocks, hr, hin⟩ := id K
  have hl : lv_has ls 6 [(0, .ref h0), (1, .int y), (2, .ref sP)] := hl
  refine lv_aload_n hx hb dX11_chooseSpeaker_0 rfl (lv_at hl 0 rfl) ?_
  refine va_get (D := g.1) (ci := 13) (v := .int zh) (C := RX11) (T := TX11) (N := 11) hx hb G.ws inX11 hown G.K hP 0 rfl rfl 5 (by decide) (G.w kw_77) (fun _ h9 => h9) rfl dX11_chooseSpeaker_1 ?_
  refine lv_bipush (v := 24) hx hb dX11_chooseSpeaker_4 (by decide) ?_
  refine lv_irem hx hb dX11_chooseSpeaker_6 (by decide) ?_
  refine lv_istore_n (lv' := [(3, .int (zh - zh / 24 * 24)), (0, .ref h0), (1, .int y), (2, .ref sP)]) hx hb dX11_chooseSpeaker_7 rfl hl (by decide) rfl (fun ls hl => ?_)
  refine lv_aload_n hx hb dX11_chooseSpeaker_8 rfl (lv_at hl 3 rfl) ?_
  refine lv_iload_n hx hb dX11_chooseSpeaker_9 rfl (lv_at hl 0 rfl) ?_
  refine kcallV (wc := [(sP, .inr (9, [.ref hq, .int (-1)])), (hq, .inl ((g.2.2.1 0), 24, .inl hf))]) (wr := [(h0, .inr (13, [.ref a1, .ref a2, .ref a3, .ref a4, .ref a5, .int zh, .int zf, .int zw, .int ze, .int zn, .int zm])), (a4, .inr (2, [.int mc4, .ref q4, .int 2])), (q4, .inl ((g.2.2.1 4), 10, .inr (.inr (.inr (.inr (va_up (va_up f4 0 (some e0)) 1 (some e0b))))))), (e0, .inr (8, [.int 0, .int 0, .int 0, .int eh, .int (-1)])), (e0b, .inr (8, [.int 0, .int 0, .int 1, .int ehb, .int (-1)]))]) (As := [.int (zh - zh / 24 * 24)]) (rest := []) K G (m_X6_at l hl0 g sP hq hf (zh - zh / 24 * 24) h24) hP hD hS hA hl kw_174 kw_175 kw_177 kw_178 kw_176 ydX6_at [5, 6] [0, 1, 2, 3, 4] rfl rfl rfl rfl (by decide) (ci := 9) (q0 := 5) rfl rfl rfl rfl rfl (Nat.le_of_ble_eq_true rfl) dX11_chooseSpeaker_10 ⟨Nat.le_of_ble_eq_true rfl, Nat.le_of_ble_eq_true rfl⟩ ⟨Nat.le_of_ble_eq_true rfl, Nat.le_of_ble_eq_true rfl⟩ (fun _ _ _ _ _ _ hX _ _ _ _ _ _ => hX.elim) (fun v w1 H locs hQ hP hD hS => ?_)
  obtain ⟨rfl, rfl⟩ := hQ
  have hP : va_P g.1 vwCl [(h0, .inr (13, [.ref a1, .ref a2, .ref a3, .ref a4, .ref a5, .int zh, .int zf, .int zw, .int ze, .int zn, .int zm])), (a4, .inr (2, [.int mc4, .ref q4, .int 2])), (q4, .inl ((g.2.2.1 4), 10, .inr (.inr (.inr (.inr (va_up (va_up f4 0 (some e0)) 1 (some e0b))))))), (e0, .inr (8, [.int 0, .int 0, .int 0, .int eh, .int (-1)])), (e0b, .inr (8, [.int 0, .int 0, .int 1, .int ehb, .int (-1)])), (sP, .inr (9, [.ref hq, .int (-1)])), (hq, .inl ((g.2.2.1 0), 24, .inl hf))] H := hP
  have hD : va_D A [(h0, .inr (13, [.ref a1, .ref a2, .ref a3, .ref a4, .ref a5, .int zh, .int zf, .int zw, .int ze, .int zn, .int zm])), (a4, .inr (2, [.int mc4, .ref q4, .int 2])), (q4, .inl ((g.2.2.1 4), 10, .inr (.inr (.inr (.inr (va_up (va_up f4 0 (some e0)) 1 (some e0b))))))), (e0, .inr (8, [.int 0, .int 0, .int 0, .int eh, .int (-1)])), (e0b, .inr (8, [.int 0, .int 0, .int 1, .int ehb, .int (-1)])), (sP, .inr (9, [.ref hq, .int (-1)])), (hq, .inl ((g.2.2.1 0), 24, .inl hf))] := hD
  refine W.widen (k := 0) (n := 0) (by decide) (by decide) ?_
  refine W.eq (g2 := F0 m 13 ls [.int (-1)]) rfl ?_
  refine lv_istore (lv' := [(4, .int (-1)), (3, .int (zh - zh / 24 * 24)), (0, .ref h0), (1, .int y), (2, .ref sP)]) hx hb dX11_chooseSpeaker_13 hl (by decide) rfl (fun ls hl => ?_)
  refine lv_iload hx hb dX11_chooseSpeaker_15 (lv_at hl 0 rfl) ?_
  refine kcallS (wc := []) (wr := [(h0, .inr (13, [.ref a1, .ref a2, .ref a3, .ref a4, .ref a5, .int zh, .int zf, .int zw, .int ze, .int zn, .int zm])), (a4, .inr (2, [.int mc4, .ref q4, .int 2])), (q4, .inl ((g.2.2.1 4), 10, .inr (.inr (.inr (.inr (va_up (va_up f4 0 (some e0)) 1 (some e0b))))))), (e0, .inr (8, [.int 0, .int 0, .int 0, .int eh, .int (-1)])), (e0b, .inr (8, [.int 0, .int 0, .int 1, .int ehb, .int (-1)])), (sP, .inr (9, [.ref hq, .int (-1)])), (hq, .inl ((g.2.2.1 0), 24, .inl hf))]) (As := [.int (-1)]) (rest := []) K G (m_X11_isTapem l hl0 g  ) hP hD hS hA hl kw_179 kw_180 kw_181 kw_63 ydX11_isTape [] [0, 1, 2, 3, 4, 5, 6] rfl rfl rfl rfl (by decide) rfl rfl (Nat.le_of_ble_eq_true rfl) dX11_chooseSpeaker_17 ⟨Nat.le_of_ble_eq_true rfl, Nat.le_of_ble_eq_true rfl⟩ ⟨Nat.le_of_ble_eq_true rfl, Nat.le_of_ble_eq_true rfl⟩ (fun _ _ _ _ _ _ hX _ _ _ _ _ _ => hX.elim) (fun v w1 H locs hQ hP hD hS => ?_)
  obtain ⟨rfl, rfl⟩ := hQ
  have hP : va_P g.1 vwCl [(h0, .inr (13, [.ref a1, .ref a2, .ref a3, .ref a4, .ref a5, .int zh, .int zf, .int zw, .int ze, .int zn, .int zm])), (a4, .inr (2, [.int mc4, .ref q4, .int 2])), (q4, .inl ((g.2.2.1 4), 10, .inr (.inr (.inr (.inr (va_up (va_up f4 0 (some e0)) 1 (some e0b))))))), (e0, .inr (8, [.int 0, .int 0, .int 0, .int eh, .int (-1)])), (e0b, .inr (8, [.int 0, .int 0, .int 1, .int ehb, .int (-1)])), (sP, .inr (9, [.ref hq, .int (-1)])), (hq, .inl ((g.2.2.1 0), 24, .inl hf))] H := hP
  have hD : va_D A [(h0, .inr (13, [.ref a1, .ref a2, .ref a3, .ref a4, .ref a5, .int zh, .int zf, .int zw, .int ze, .int zn, .int zm])), (a4, .inr (2, [.int mc4, .ref q4, .int 2])), (q4, .inl ((g.2.2.1 4), 10, .inr (.inr (.inr (.inr (va_up (va_up f4 0 (some e0)) 1 (some e0b))))))), (e0, .inr (8, [.int 0, .int 0, .int 0, .int eh, .int (-1)])), (e0b, .inr (8, [.int 0, .int 0, .int 1, .int ehb, .int (-1)])), (sP, .inr (9, [.ref hq, .int (-1)])), (hq, .inl ((g.2.2.1 0), 24, .inl hf))] := hD
  refine W.widen (k := 0) (n := 0) (by decide) (by decide) ?_
  refine W.eq (g2 := F0 m 20 ls [.int 0]) rfl ?_
  refine lv_if_ne (tgt := 33) hx hb dX11_chooseSpeaker_20 (by decide) (fun c20_3 => absurd c20_3 (by decide)) (fun _ => ?_)
  refine lv_aload_n hx hb dX11_chooseSpeaker_23 rfl (lv_at hl 2 rfl) ?_
  refine lv_iload hx hb dX11_chooseSpeaker_24 (lv_at hl 0 rfl) ?_
  refine lv_iload_n hx hb dX11_chooseSpeaker_26 rfl (lv_at hl 3 rfl) ?_
  refine kcallV (wc := [(h0, .inr (13, [.ref a1, .ref a2, .ref a3, .ref a4, .ref a5, .int zh, .int zf, .int zw, .int ze, .int zn, .int zm])), (a4, .inr (2, [.int mc4, .ref q4, .int 2])), (q4, .inl ((g.2.2.1 4), 10, .inr (.inr (.inr (.inr (va_up (va_up f4 0 (some e0)) 1 (some e0b))))))), (e0, .inr (8, [.int 0, .int 0, .int 0, .int eh, .int (-1)])), (e0b, .inr (8, [.int 0, .int 0, .int 1, .int ehb, .int (-1)]))]) (wr := [(sP, .inr (9, [.ref hq, .int (-1)])), (hq, .inl ((g.2.2.1 0), 24, .inl hf))]) (As := [.int (-1), .int y]) (rest := []) K G (m_X11_canSpeakm l hl0 g h0 a1 a2 a3 a4 a5 zh zf zw ze zn zm e0 e0b q4 eh ehb mc4 f4 y ) hP hD hS hA hl kw_182 kw_183 kw_184 kw_185 kw_63 ydX11_canSpeak [0, 1, 2, 3, 4] [5, 6] rfl rfl rfl rfl (by decide) (ci := 13) (q0 := 0) rfl rfl rfl rfl rfl (Nat.le_of_ble_eq_true rfl) dX11_chooseSpeaker_27 ⟨Nat.le_of_ble_eq_true rfl, Nat.le_of_ble_eq_true rfl⟩ ⟨Nat.le_of_ble_eq_true rfl, Nat.le_of_ble_eq_true rfl⟩ (fun _ _ _ _ _ _ hX _ _ _ _ _ _ => hX.elim) (fun v w1 H locs hQ hP hD hS => ?_)
  obtain ⟨rfl, rfl⟩ := hQ
  have hP : va_P g.1 vwCl [(sP, .inr (9, [.ref hq, .int (-1)])), (hq, .inl ((g.2.2.1 0), 24, .inl hf)), (h0, .inr (13, [.ref a1, .ref a2, .ref a3, .ref a4, .ref a5, .int zh, .int zf, .int zw, .int ze, .int zn, .int zm])), (a4, .inr (2, [.int mc4, .ref q4, .int 2])), (q4, .inl ((g.2.2.1 4), 10, .inr (.inr (.inr (.inr (va_up (va_up f4 0 (some e0)) 1 (some e0b))))))), (e0, .inr (8, [.int 0, .int 0, .int 0, .int eh, .int (-1)])), (e0b, .inr (8, [.int 0, .int 0, .int 1, .int ehb, .int (-1)]))] H := hP
  have hD : va_D A [(sP, .inr (9, [.ref hq, .int (-1)])), (hq, .inl ((g.2.2.1 0), 24, .inl hf)), (h0, .inr (13, [.ref a1, .ref a2, .ref a3, .ref a4, .ref a5, .int zh, .int zf, .int zw, .int ze, .int zn, .int zm])), (a4, .inr (2, [.int mc4, .ref q4, .int 2])), (q4, .inl ((g.2.2.1 4), 10, .inr (.inr (.inr (.inr (va_up (va_up f4 0 (some e0)) 1 (some e0b))))))), (e0, .inr (8, [.int 0, .int 0, .int 0, .int eh, .int (-1)])), (e0b, .inr (8, [.int 0, .int 0, .int 1, .int ehb, .int (-1)]))] := hD
  refine W.widen (k := 0) (n := 0) (by decide) (by decide) ?_
  refine W.eq (g2 := F0 m 30 ls [.int 0]) rfl ?_
  refine lv_if_eq (tgt := 36) hx hb dX11_chooseSpeaker_30 (by decide) (fun _ => ?_) (fun c30_5 => absurd c30_5 (by decide))
  refine lv_iconst (v := 0) hx hb dX11_chooseSpeaker_36 (by decide) ?_
  refine lv_istore (lv' := [(5, .int 0), (4, .int (-1)), (3, .int (zh - zh / 24 * 24)), (0, .ref h0), (1, .int y), (2, .ref sP)]) hx hb dX11_chooseSpeaker_37 hl (by decide) rfl (fun ls hl => ?_)
  refine lv_iload hx hb dX11_chooseSpeaker_39 (lv_at hl 0 rfl) ?_
  refine lv_aload_n hx hb dX11_chooseSpeaker_41 rfl (lv_at hl 3 rfl) ?_
  refine va_get (D := g.1) (ci := 13) (v := .ref a4) (C := RX11) (T := TX11) (N := 11) hx hb G.ws inX11 hown G.K hP 2 rfl rfl 3 (by decide) (G.w kw_122) (fun _ h9 => h9) rfl dX11_chooseSpeaker_42 ?_
  refine kcallV (wc := [(a4, .inr (2, [.int mc4, .ref q4, .int 2]))]) (wr := [(sP, .inr (9, [.ref hq, .int (-1)])), (hq, .inl ((g.2.2.1 0), 24, .inl hf)), (h0, .inr (13, [.ref a1, .ref a2, .ref a3, .ref a4, .ref a5, .int zh, .int zf, .int zw, .int ze, .int zn, .int zm])), (q4, .inl ((g.2.2.1 4), 10, .inr (.inr (.inr (.inr (va_up (va_up f4 0 (some e0)) 1 (some e0b))))))), (e0, .inr (8, [.int 0, .int 0, .int 0, .int eh, .int (-1)])), (e0b, .inr (8, [.int 0, .int 0, .int 1, .int ehb, .int (-1)]))]) (As := []) (rest := [.int 0]) K G (m_Jx4a65c_size_8abf5 l hl0 g a4 q4 mc4 2 ) hP hD hS hA hl kw_31 kw_82 kw_33 kw_34 kw_22 ydJx4a65c_size_8abf5 [3] [0, 1, 2, 4, 5, 6] rfl rfl rfl rfl (by decide) (ci := 2) (q0 := 3) rfl rfl rfl rfl rfl (Nat.le_of_ble_eq_true rfl) dX11_chooseSpeaker_45 ⟨Nat.le_of_ble_eq_true rfl, Nat.le_of_ble_eq_true rfl⟩ ⟨Nat.le_of_ble_eq_true rfl, Nat.le_of_ble_eq_true rfl⟩ (fun _ _ _ _ _ _ hX _ _ _ _ _ _ => hX.elim) (fun v w1 H locs hQ hP hD hS => ?_)
  obtain ⟨rfl, rfl⟩ := hQ
  have hP : va_P g.1 vwCl [(sP, .inr (9, [.ref hq, .int (-1)])), (hq, .inl ((g.2.2.1 0), 24, .inl hf)), (h0, .inr (13, [.ref a1, .ref a2, .ref a3, .ref a4, .ref a5, .int zh, .int zf, .int zw, .int ze, .int zn, .int zm])), (q4, .inl ((g.2.2.1 4), 10, .inr (.inr (.inr (.inr (va_up (va_up f4 0 (some e0)) 1 (some e0b))))))), (e0, .inr (8, [.int 0, .int 0, .int 0, .int eh, .int (-1)])), (e0b, .inr (8, [.int 0, .int 0, .int 1, .int ehb, .int (-1)])), (a4, .inr (2, [.int mc4, .ref q4, .int 2]))] H := hP
  have hD : va_D A [(sP, .inr (9, [.ref hq, .int (-1)])), (hq, .inl ((g.2.2.1 0), 24, .inl hf)), (h0, .inr (13, [.ref a1, .ref a2, .ref a3, .ref a4, .ref a5, .int zh, .int zf, .int zw, .int ze, .int zn, .int zm])), (q4, .inl ((g.2.2.1 4), 10, .inr (.inr (.inr (.inr (va_up (va_up f4 0 (some e0)) 1 (some e0b))))))), (e0, .inr (8, [.int 0, .int 0, .int 0, .int eh, .int (-1)])), (e0b, .inr (8, [.int 0, .int 0, .int 1, .int ehb, .int (-1)])), (a4, .inr (2, [.int mc4, .ref q4, .int 2]))] := hD
  refine W.widen (k := 0) (n := 0) (by decide) (by decide) ?_
  refine W.eq (g2 := F0 m 48 ls [.int 2, .int 0]) rfl ?_
  refine lv_icmp_ge (tgt := 80) hx hb dX11_chooseSpeaker_48 (by decide) (fun c48_7 => absurd c48_7 (by decide)) (fun _ => ?_)
  refine lv_aload_n hx hb dX11_chooseSpeaker_51 rfl (lv_at hl 3 rfl) ?_
  refine lv_iload hx hb dX11_chooseSpeaker_52 (lv_at hl 0 rfl) ?_
  refine lv_iload_n hx hb dX11_chooseSpeaker_54 rfl (lv_at hl 4 rfl) ?_
  refine kcallV (wc := [(h0, .inr (13, [.ref a1, .ref a2, .ref a3, .ref a4, .ref a5, .int zh, .int zf, .int zw, .int ze, .int zn, .int zm])), (a4, .inr (2, [.int mc4, .ref q4, .int 2])), (q4, .inl ((g.2.2.1 4), 10, .inr (.inr (.inr (.inr (va_up (va_up f4 0 (some e0)) 1 (some e0b))))))), (e0, .inr (8, [.int 0, .int 0, .int 0, .int eh, .int (-1)])), (e0b, .inr (8, [.int 0, .int 0, .int 1, .int ehb, .int (-1)]))]) (wr := [(sP, .inr (9, [.ref hq, .int (-1)])), (hq, .inl ((g.2.2.1 0), 24, .inl hf))]) (As := [.int 0, .int y]) (rest := []) K G (m_X11_canSpeak0 l hl0 g h0 a1 a2 a3 a4 a5 zh zf zw ze zn zm e0 e0b q4 eh ehb mc4 f4 y ) hP hD hS hA hl kw_182 kw_183 kw_184 kw_185 kw_63 ydX11_canSpeak [2, 6, 3, 4, 5] [0, 1] rfl rfl rfl rfl (by decide) (ci := 13) (q0 := 2) rfl rfl rfl rfl rfl (Nat.le_of_ble_eq_true rfl) dX11_chooseSpeaker_55 ⟨Nat.le_of_ble_eq_true rfl, Nat.le_of_ble_eq_true rfl⟩ ⟨Nat.le_of_ble_eq_true rfl, Nat.le_of_ble_eq_true rfl⟩ (fun _ _ _ _ _ _ hX _ _ _ _ _ _ => hX.elim) (fun v w1 H locs hQ hP hD hS => ?_)
  obtain ⟨rfl, rfl⟩ := hQ
  have hP : va_P g.1 vwCl [(sP, .inr (9, [.ref hq, .int (-1)])), (hq, .inl ((g.2.2.1 0), 24, .inl hf)), (h0, .inr (13, [.ref a1, .ref a2, .ref a3, .ref a4, .ref a5, .int zh, .int zf, .int zw, .int ze, .int zn, .int zm])), (a4, .inr (2, [.int mc4, .ref q4, .int 2])), (q4, .inl ((g.2.2.1 4), 10, .inr (.inr (.inr (.inr (va_up (va_up f4 0 (some e0)) 1 (some e0b))))))), (e0, .inr (8, [.int 0, .int 0, .int 0, .int eh, .int (-1)])), (e0b, .inr (8, [.int 0, .int 0, .int 1, .int ehb, .int (-1)]))] H := hP
  have hD : va_D A [(sP, .inr (9, [.ref hq, .int (-1)])), (hq, .inl ((g.2.2.1 0), 24, .inl hf)), (h0, .inr (13, [.ref a1, .ref a2, .ref a3, .ref a4, .ref a5, .int zh, .int zf, .int zw, .int ze, .int zn, .int zm])), (a4, .inr (2, [.int mc4, .ref q4, .int 2])), (q4, .inl ((g.2.2.1 4), 10, .inr (.inr (.inr (.inr (va_up (va_up f4 0 (some e0)) 1 (some e0b))))))), (e0, .inr (8, [.int 0, .int 0, .int 0, .int eh, .int (-1)])), (e0b, .inr (8, [.int 0, .int 0, .int 1, .int ehb, .int (-1)]))] := hD
  refine W.widen (k := 0) (n := 0) (by decide) (by decide) ?_
  refine W.eq (g2 := F0 m 58 ls [.int 0]) rfl ?_
  refine lv_if_eq (tgt := 74) hx hb dX11_chooseSpeaker_58 (by decide) (fun _ => ?_) (fun c58_9 => absurd c58_9 (by decide))
  refine lv_iinc (v := 1) (lv' := [(5, .int 1), (4, .int (-1)), (3, .int (zh - zh / 24 * 24)), (0, .ref h0), (1, .int y), (2, .ref sP)]) hx hb dX11_chooseSpeaker_74 hl (k := 0) rfl (by decide) (by decide) rfl (fun ls hl => ?_)
  refine lv_goto (tgt := 39) hx hb dX11_chooseSpeaker_77 (by decide) ?_
  refine lv_iload hx hb dX11_chooseSpeaker_39 (lv_at hl 0 rfl) ?_
  refine lv_aload_n hx hb dX11_chooseSpeaker_41 rfl (lv_at hl 3 rfl) ?_
  refine va_get (D := g.1) (ci := 13) (v := .ref a4) (C := RX11) (T := TX11) (N := 11) hx hb G.ws inX11 hown G.K hP 2 rfl rfl 3 (by decide) (G.w kw_122) (fun _ h9 => h9) rfl dX11_chooseSpeaker_42 ?_
  refine kcallV (wc := [(a4, .inr (2, [.int mc4, .ref q4, .int 2]))]) (wr := [(sP, .inr (9, [.ref hq, .int (-1)])), (hq, .inl ((g.2.2.1 0), 24, .inl hf)), (h0, .inr (13, [.ref a1, .ref a2, .ref a3, .ref a4, .ref a5, .int zh, .int zf, .int zw, .int ze, .int zn, .int zm])), (q4, .inl ((g.2.2.1 4), 10, .inr (.inr (.inr (.inr (va_up (va_up f4 0 (some e0)) 1 (some e0b))))))), (e0, .inr (8, [.int 0, .int 0, .int 0, .int eh, .int (-1)])), (e0b, .inr (8, [.int 0, .int 0, .int 1, .int ehb, .int (-1)]))]) (As := []) (rest := [.int 1]) K G (m_Jx4a65c_size_8abf5 l hl0 g a4 q4 mc4 2 ) hP hD hS hA hl kw_31 kw_82 kw_33 kw_34 kw_22 ydJx4a65c_size_8abf5 [3] [0, 1, 2, 4, 5, 6] rfl rfl rfl rfl (by decide) (ci := 2) (q0 := 3) rfl rfl rfl rfl rfl (Nat.le_of_ble_eq_true rfl) dX11_chooseSpeaker_45 ⟨Nat.le_of_ble_eq_true rfl, Nat.le_of_ble_eq_true rfl⟩ ⟨Nat.le_of_ble_eq_true rfl, Nat.le_of_ble_eq_true rfl⟩ (fun _ _ _ _ _ _ hX _ _ _ _ _ _ => hX.elim) (fun v w1 H locs hQ hP hD hS => ?_)
  obtain ⟨rfl, rfl⟩ := hQ
  have hP : va_P g.1 vwCl [(sP, .inr (9, [.ref hq, .int (-1)])), (hq, .inl ((g.2.2.1 0), 24, .inl hf)), (h0, .inr (13, [.ref a1, .ref a2, .ref a3, .ref a4, .ref a5, .int zh, .int zf, .int zw, .int ze, .int zn, .int zm])), (q4, .inl ((g.2.2.1 4), 10, .inr (.inr (.inr (.inr (va_up (va_up f4 0 (some e0)) 1 (some e0b))))))), (e0, .inr (8, [.int 0, .int 0, .int 0, .int eh, .int (-1)])), (e0b, .inr (8, [.int 0, .int 0, .int 1, .int ehb, .int (-1)])), (a4, .inr (2, [.int mc4, .ref q4, .int 2]))] H := hP
  have hD : va_D A [(sP, .inr (9, [.ref hq, .int (-1)])), (hq, .inl ((g.2.2.1 0), 24, .inl hf)), (h0, .inr (13, [.ref a1, .ref a2, .ref a3, .ref a4, .ref a5, .int zh, .int zf, .int zw, .int ze, .int zn, .int zm])), (q4, .inl ((g.2.2.1 4), 10, .inr (.inr (.inr (.inr (va_up (va_up f4 0 (some e0)) 1 (some e0b))))))), (e0, .inr (8, [.int 0, .int 0, .int 0, .int eh, .int (-1)])), (e0b, .inr (8, [.int 0, .int 0, .int 1, .int ehb, .int (-1)])), (a4, .inr (2, [.int mc4, .ref q4, .int 2]))] := hD
  refine W.widen (k := 0) (n := 0) (by decide) (by decide) ?_
  refine W.eq (g2 := F0 m 48 ls [.int 2, .int 1]) rfl ?_
  refine lv_icmp_ge (tgt := 80) hx hb dX11_chooseSpeaker_48 (by decide) (fun c48_11 => absurd c48_11 (by decide)) (fun _ => ?_)
  refine lv_aload_n hx hb dX11_chooseSpeaker_51 rfl (lv_at hl 3 rfl) ?_
  refine lv_iload hx hb dX11_chooseSpeaker_52 (lv_at hl 0 rfl) ?_
  refine lv_iload_n hx hb dX11_chooseSpeaker_54 rfl (lv_at hl 4 rfl) ?_
  refine kcallV (wc := [(h0, .inr (13, [.ref a1, .ref a2, .ref a3, .ref a4, .ref a5, .int zh, .int zf, .int zw, .int ze, .int zn, .int zm])), (a4, .inr (2, [.int mc4, .ref q4, .int 2])), (q4, .inl ((g.2.2.1 4), 10, .inr (.inr (.inr (.inr (va_up (va_up f4 0 (some e0)) 1 (some e0b))))))), (e0, .inr (8, [.int 0, .int 0, .int 0, .int eh, .int (-1)])), (e0b, .inr (8, [.int 0, .int 0, .int 1, .int ehb, .int (-1)]))]) (wr := [(sP, .inr (9, [.ref hq, .int (-1)])), (hq, .inl ((g.2.2.1 0), 24, .inl hf))]) (As := [.int 1, .int y]) (rest := []) K G (m_X11_canSpeak1 l hl0 g h0 a1 a2 a3 a4 a5 zh zf zw ze zn zm e0 e0b q4 eh ehb mc4 f4 y ) hP hD hS hA hl kw_182 kw_183 kw_184 kw_185 kw_63 ydX11_canSpeak [2, 6, 3, 4, 5] [0, 1] rfl rfl rfl rfl (by decide) (ci := 13) (q0 := 2) rfl rfl rfl rfl rfl (Nat.le_of_ble_eq_true rfl) dX11_chooseSpeaker_55 ⟨Nat.le_of_ble_eq_true rfl, Nat.le_of_ble_eq_true rfl⟩ ⟨Nat.le_of_ble_eq_true rfl, Nat.le_of_ble_eq_true rfl⟩ (fun _ _ _ _ _ _ hX _ _ _ _ _ _ => hX.elim) (fun v w1 H locs hQ hP hD hS => ?_)
  obtain ⟨rfl, rfl⟩ := hQ
  have hP : va_P g.1 vwCl [(sP, .inr (9, [.ref hq, .int (-1)])), (hq, .inl ((g.2.2.1 0), 24, .inl hf)), (h0, .inr (13, [.ref a1, .ref a2, .ref a3, .ref a4, .ref a5, .int zh, .int zf, .int zw, .int ze, .int zn, .int zm])), (a4, .inr (2, [.int mc4, .ref q4, .int 2])), (q4, .inl ((g.2.2.1 4), 10, .inr (.inr (.inr (.inr (va_up (va_up f4 0 (some e0)) 1 (some e0b))))))), (e0, .inr (8, [.int 0, .int 0, .int 0, .int eh, .int (-1)])), (e0b, .inr (8, [.int 0, .int 0, .int 1, .int ehb, .int (-1)]))] H := hP
  have hD : va_D A [(sP, .inr (9, [.ref hq, .int (-1)])), (hq, .inl ((g.2.2.1 0), 24, .inl hf)), (h0, .inr (13, [.ref a1, .ref a2, .ref a3, .ref a4, .ref a5, .int zh, .int zf, .int zw, .int ze, .int zn, .int zm])), (a4, .inr (2, [.int mc4, .ref q4, .int 2])), (q4, .inl ((g.2.2.1 4), 10, .inr (.inr (.inr (.inr (va_up (va_up f4 0 (some e0)) 1 (some e0b))))))), (e0, .inr (8, [.int 0, .int 0, .int 0, .int eh, .int (-1)])), (e0b, .inr (8, [.int 0, .int 0, .int 1, .int ehb, .int (-1)]))] := hD
  refine W.widen (k := 0) (n := 0) (by decide) (by decide) ?_
  refine W.eq (g2 := F0 m 58 ls [.int 0]) rfl ?_
  refine lv_if_eq (tgt := 74) hx hb dX11_chooseSpeaker_58 (by decide) (fun _ => ?_) (fun c58_13 => absurd c58_13 (by decide))
  refine lv_iinc (v := 2) (lv' := [(5, .int 2), (4, .int (-1)), (3, .int (zh - zh / 24 * 24)), (0, .ref h0), (1, .int y), (2, .ref sP)]) hx hb dX11_chooseSpeaker_74 hl (k := 0) rfl (by decide) (by decide) rfl (fun ls hl => ?_)
  refine lv_goto (tgt := 39) hx hb dX11_chooseSpeaker_77 (by decide) ?_
  refine lv_iload hx hb dX11_chooseSpeaker_39 (lv_at hl 0 rfl) ?_
  refine lv_aload_n hx hb dX11_chooseSpeaker_41 rfl (lv_at hl 3 rfl) ?_
  refine va_get (D := g.1) (ci := 13) (v := .ref a4) (C := RX11) (T := TX11) (N := 11) hx hb G.ws inX11 hown G.K hP 2 rfl rfl 3 (by decide) (G.w kw_122) (fun _ h9 => h9) rfl dX11_chooseSpeaker_42 ?_
  refine kcallV (wc := [(a4, .inr (2, [.int mc4, .ref q4, .int 2]))]) (wr := [(sP, .inr (9, [.ref hq, .int (-1)])), (hq, .inl ((g.2.2.1 0), 24, .inl hf)), (h0, .inr (13, [.ref a1, .ref a2, .ref a3, .ref a4, .ref a5, .int zh, .int zf, .int zw, .int ze, .int zn, .int zm])), (q4, .inl ((g.2.2.1 4), 10, .inr (.inr (.inr (.inr (va_up (va_up f4 0 (some e0)) 1 (some e0b))))))), (e0, .inr (8, [.int 0, .int 0, .int 0, .int eh, .int (-1)])), (e0b, .inr (8, [.int 0, .int 0, .int 1, .int ehb, .int (-1)]))]) (As := []) (rest := [.int 2]) K G (m_Jx4a65c_size_8abf5 l hl0 g a4 q4 mc4 2 ) hP hD hS hA hl kw_31 kw_82 kw_33 kw_34 kw_22 ydJx4a65c_size_8abf5 [3] [0, 1, 2, 4, 5, 6] rfl rfl rfl rfl (by decide) (ci := 2) (q0 := 3) rfl rfl rfl rfl rfl (Nat.le_of_ble_eq_true rfl) dX11_chooseSpeaker_45 ⟨Nat.le_of_ble_eq_true rfl, Nat.le_of_ble_eq_true rfl⟩ ⟨Nat.le_of_ble_eq_true rfl, Nat.le_of_ble_eq_true rfl⟩ (fun _ _ _ _ _ _ hX _ _ _ _ _ _ => hX.elim) (fun v w1 H locs hQ hP hD hS => ?_)
  obtain ⟨rfl, rfl⟩ := hQ
  have hP : va_P g.1 vwCl [(sP, .inr (9, [.ref hq, .int (-1)])), (hq, .inl ((g.2.2.1 0), 24, .inl hf)), (h0, .inr (13, [.ref a1, .ref a2, .ref a3, .ref a4, .ref a5, .int zh, .int zf, .int zw, .int ze, .int zn, .int zm])), (q4, .inl ((g.2.2.1 4), 10, .inr (.inr (.inr (.inr (va_up (va_up f4 0 (some e0)) 1 (some e0b))))))), (e0, .inr (8, [.int 0, .int 0, .int 0, .int eh, .int (-1)])), (e0b, .inr (8, [.int 0, .int 0, .int 1, .int ehb, .int (-1)])), (a4, .inr (2, [.int mc4, .ref q4, .int 2]))] H := hP
  have hD : va_D A [(sP, .inr (9, [.ref hq, .int (-1)])), (hq, .inl ((g.2.2.1 0), 24, .inl hf)), (h0, .inr (13, [.ref a1, .ref a2, .ref a3, .ref a4, .ref a5, .int zh, .int zf, .int zw, .int ze, .int zn, .int zm])), (q4, .inl ((g.2.2.1 4), 10, .inr (.inr (.inr (.inr (va_up (va_up f4 0 (some e0)) 1 (some e0b))))))), (e0, .inr (8, [.int 0, .int 0, .int 0, .int eh, .int (-1)])), (e0b, .inr (8, [.int 0, .int 0, .int 1, .int ehb, .int (-1)])), (a4, .inr (2, [.int mc4, .ref q4, .int 2]))] := hD
  refine W.widen (k := 0) (n := 0) (by decide) (by decide) ?_
  refine W.eq (g2 := F0 m 48 ls [.int 2, .int 2]) rfl ?_
  refine lv_icmp_ge (tgt := 80) hx hb dX11_chooseSpeaker_48 (by decide) (fun _ => ?_) (fun c48_15 => absurd c48_15 (by decide))
  refine lv_aload_n hx hb dX11_chooseSpeaker_80 rfl (lv_at hl 5 rfl) ?_
  refine va_get (D := g.1) (ci := 9) (v := .int (-1)) (C := RX6) (T := TX6) (N := 2) hx hb G.ws inX6 hown G.K hP 0 rfl rfl 1 (by decide) (G.w kw_186) (fun _ h9 => h9) rfl dX11_chooseSpeaker_81 ?_
  refine lv_iconst (v := (-1)) hx hb dX11_chooseSpeaker_84 (by decide) ?_
  refine lv_icmp_ne (tgt := 94) hx hb dX11_chooseSpeaker_85 (by decide) (fun c85_16 => absurd c85_16 (by decide)) (fun _ => ?_)
  refine lv_sipush (v := 200) hx hb dX11_chooseSpeaker_88 (by decide) ?_
  refine lv_goto (tgt := 98) hx hb dX11_chooseSpeaker_91 (by decide) ?_
  exact kretI K hP hD hS [2, 6, 3, 4, 5, 0, 1] [(h0, .inr (13, [.ref a1, .ref a2, .ref a3, .ref a4, .ref a5, .int zh, .int zf, .int zw, .int ze, .int zn, .int zm])), (a4, .inr (2, [.int mc4, .ref q4, .int 2])), (q4, .inl ((g.2.2.1 4), 10, .inr (.inr (.inr (.inr (va_up (va_up f4 0 (some e0)) 1 (some e0b))))))), (e0, .inr (8, [.int 0, .int 0, .int 0, .int eh, .int (-1)])), (e0b, .inr (8, [.int 0, .int 0, .int 1, .int ehb, .int (-1)])), (sP, .inr (9, [.ref hq, .int (-1)])), (hq, .inl ((g.2.2.1 0), 24, .inl hf))] rfl rfl ⟨rfl, rfl⟩ (by decide) (by decide) dX11_chooseSpeaker_98

theorem kslot {kn : Nat} (h : kn < 200) : (0 + nI kn) - (0 + nI kn) / 200 * 200 = nI kn := (by decide +kernel : ∀ z : Fin 200, (0 + nI z) - (0 + nI z) / 200 * 200 = nI z) ⟨kn, h⟩

set_option maxHeartbeats 4000000 in
set_option maxRecDepth 100000 in
theorem m_X3_slotOf (l : Launch) (hl0 : l.stackTraces = false) (g : kG) (k0 : Nat) (b6 : Nat) (b7 : Nat) (b8 : Nat) (b9 : Nat) (b10 : Nat) (kn : Nat) (hk : kn < 200) : kc l g yX3_slotOf prog_5_method_2_code 2 (some .int) 0 0 0 0 [.ref k0, .int (nI kn)] [(k0, .inr (6, [.ref b6, .ref b7, .ref b8, .ref b9, .ref b10, .int 0, .int (nI kn)]))] (fun v w => (v = some (.int (nI kn)) ∧ w = [(k0, .inr (6, [.ref b6, .ref b7, .ref b8, .ref b9, .ref b10, .int 0, .int (nI kn)]))])) (fun _ _ => False) := by
  refine kbody (by decide) (Nat.le_of_ble_eq_true rfl) ?_
  intro p e s m args below meth c A H K ht G hP hD hA hS ls hl
  have K : KB p s m meth c RX3 "slotOf" prog_5_method_2_code 2 (some .int) := K
  obtain ⟨hx, hb, hml, hown, hlocks, hr, hin⟩ := id K
  have hl : lv_has ls 2 [(0, .ref k0), (1, .int (nI kn))] := hl
  refine lv_aload_n hx hb dX3_slotOf_0 rfl (lv_at hl 0 rfl) ?_
  refine va_get (D := g.1) (ci := 6) (v := .int 0) (C := RX3) (T := TX3) (N := 7) hx hb G.ws inX3 hown G.K hP 0 rfl rfl 5 (by decide) (G.w kw_187) (fun _ h9 => h9) rfl dX3_slotOf_1 ?_
  refine lv_iload_n hx hb dX3_slotOf_4 rfl (lv_at hl 1 rfl) ?_
  refine lv_iadd hx hb dX3_slotOf_5 ?_
  refine lv_sipush (v := 200) hx hb dX3_slotOf_6 (by decide) ?_
  refine lv_irem hx hb dX3_slotOf_9 (by decide) ?_
  exact kretI K hP hD hS [0] [(k0, .inr (6, [.ref b6, .ref b7, .ref b8, .ref b9, .ref b10, .int 0, .int (nI kn)]))] rfl rfl ⟨(congrArg (fun z => some (Value.int z)) (kslot hk)), rfl⟩ (by decide) (by decide) dX3_slotOf_10

def r_X3_keep_b6 (kn : Nat) (f6 : Nat → Int32) (x1 : Int32) : Nat → Int32 := upd f6 (nI kn).toNatClampNeg x1
def r_X3_keep_b7 (kn : Nat) (f7 : Nat → Int32) (x2 : Int32) : Nat → Int32 := upd f7 (nI kn).toNatClampNeg x2
def r_X3_keep_b8 (kn : Nat) (f8 : Nat → Int32) (x3 : Int32) : Nat → Int32 := upd f8 (nI kn).toNatClampNeg x3
def r_X3_keep_b9 (kn : Nat) (f9 : Nat → Int32) (x4 : Int32) : Nat → Int32 := upd f9 (nI kn).toNatClampNeg x4
def r_X3_keep_b10 (kn : Nat) (f10 : Nat → Int32) (x5 : Int32) : Nat → Int32 := upd f10 (nI kn).toNatClampNeg x5
set_option maxHeartbeats 4000000 in
set_option maxRecDepth 100000 in
theorem m_X3_keep (l : Launch) (hl0 : l.stackTraces = false) (g : kG) (k0 : Nat) (b6 : Nat) (b7 : Nat) (b8 : Nat) (b9 : Nat) (b10 : Nat) (kn : Nat) (f6 : Nat → Int32) (f7 : Nat → Int32) (f8 : Nat → Int32) (f9 : Nat → Int32) (f10 : Nat → Int32) (x1 : Int32) (x2 : Int32) (x3 : Int32) (x4 : Int32) (x5 : Int32) (hk : kn < 200) : kc l g yX3_keep prog_5_method_3_code 7 none 1 21 0 0 [.ref k0, .int x1, .int x2, .int x3, .int x4, .int x5] [(k0, .inr (6, [.ref b6, .ref b7, .ref b8, .ref b9, .ref b10, .int 0, .int (nI kn)])), (b6, .inl ((g.2.2.1 0), 200, .inl f6)), (b7, .inl ((g.2.2.1 0), 200, .inl f7)), (b8, .inl ((g.2.2.1 0), 200, .inl f8)), (b9, .inl ((g.2.2.1 0), 200, .inl f9)), (b10, .inl ((g.2.2.1 0), 200, .inl f10))] (fun v w => (v = none ∧ w = [(k0, .inr (6, [.ref b6, .ref b7, .ref b8, .ref b9, .ref b10, .int 0, .int (nI (kn + 1))])), (b6, .inl ((g.2.2.1 0), 200, .inl (r_X3_keep_b6 kn f6 x1))), (b7, .inl ((g.2.2.1 0), 200, .inl (r_X3_keep_b7 kn f7 x2))), (b8, .inl ((g.2.2.1 0), 200, .inl (r_X3_keep_b8 kn f8 x3))), (b9, .inl ((g.2.2.1 0), 200, .inl (r_X3_keep_b9 kn f9 x4))), (b10, .inl ((g.2.2.1 0), 200, .inl (r_X3_keep_b10 kn f10 x5)))])) (fun _ _ => False) := by
  refine kbody (by decide) (Nat.le_of_ble_eq_true rfl) ?_
  intro p e s m args below meth c A H K ht G hP hD hA hS ls hl
  have K : KB p s m meth c RX3 "keep" prog_5_method_3_code 7 none := K
  obtain ⟨hx, hb, hml, hown, hlocks, hr, hin⟩ := id K
  have hl : lv_has ls 7 [(0, .ref k0), (1, .int x1), (2, .int x2), (3, .int x3), (4, .int x4), (5, .int x5)] := hl
  refine lv_aload_n hx hb dX3_keep_0 rfl (lv_at hl 0 rfl) ?_
  refine lv_aload_n hx hb dX3_keep_1 rfl (lv_at hl 0 rfl) ?_
  refine va_get (D := g.1) (ci := 6) (v := .int (nI kn)) (C := RX3) (T := TX3) (N := 7) hx hb G.ws inX3 hown G.K hP 0 rfl rfl 6 (by decide) (G.w kw_188) (fun _ h9 => h9) rfl dX3_keep_2 ?_
  refine kcallV (wc := [(k0, .inr (6, [.ref b6, .ref b7, .ref b8, .ref b9, .ref b10, .int 0, .int (nI kn)]))]) (wr := [(b6, .inl ((g.2.2.1 0), 200, .inl f6)), (b7, .inl ((g.2.2.1 0), 200, .inl f7)), (b8, .inl ((g.2.2.1 0), 200, .inl f8)), (b9, .inl ((g.2.2.1 0), 200, .inl f9)), (b10, .inl ((g.2.2.1 0), 200, .inl f10))]) (As := [.int (nI kn)]) (rest := []) K G (m_X3_slotOf l hl0 g k0 b6 b7 b8 b9 b10 kn hk) hP hD hS hA hl kw_189 kw_190 kw_192 kw_193 kw_191 ydX3_slotOf [0] [1, 2, 3, 4, 5] rfl rfl rfl rfl (by decide) (ci := 6) (q0 := 0) rfl rfl rfl rfl rfl (Nat.le_of_ble_eq_true rfl) dX3_keep_5 ⟨Nat.le_of_ble_eq_true rfl, Nat.le_of_ble_eq_true rfl⟩ ⟨Nat.le_of_ble_eq_true rfl, Nat.le_of_ble_eq_true rfl⟩ (fun _ _ _ _ _ _ hX _ _ _ _ _ _ => hX.elim) (fun v w1 H locs hQ hP hD hS => ?_)
  obtain ⟨rfl, rfl⟩ := hQ
  have hP : va_P g.1 vwCl [(b6, .inl ((g.2.2.1 0), 200, .inl f6)), (b7, .inl ((g.2.2.1 0), 200, .inl f7)), (b8, .inl ((g.2.2.1 0), 200, .inl f8)), (b9, .inl ((g.2.2.1 0), 200, .inl f9)), (b10, .inl ((g.2.2.1 0), 200, .inl f10)), (k0, .inr (6, [.ref b6, .ref b7, .ref b8, .ref b9, .ref b10, .int 0, .int (nI kn)]))] H := hP
  have hD : va_D A [(b6, .inl ((g.2.2.1 0), 200, .inl f6)), (b7, .inl ((g.2.2.1 0), 200, .inl f7)), (b8, .inl ((g.2.2.1 0), 200, .inl f8)), (b9, .inl ((g.2.2.1 0), 200, .inl f9)), (b10, .inl ((g.2.2.1 0), 200, .inl f10)), (k0, .inr (6, [.ref b6, .ref b7, .ref b8, .ref b9, .ref b10, .int 0, .int (nI kn)]))] := hD
  refine W.widen (k := 0) (n := 0) (by decide) (by decide) ?_
  refine W.eq (g2 := F0 m 8 ls [.int (nI kn)]) rfl ?_
  refine lv_istore (lv' := [(6, .int (nI kn)), (0, .ref k0), (1, .int x1), (2, .int x2), (3, .int x3), (4, .int x4), (5, .int x5)]) hx hb dX3_keep_8 hl (by decide) rfl (fun ls hl => ?_)
  refine lv_aload_n hx hb dX3_keep_10 rfl (lv_at hl 1 rfl) ?_
  refine va_get (D := g.1) (ci := 6) (v := .ref b6) (C := RX3) (T := TX3) (N := 7) hx hb G.ws inX3 hown G.K hP 5 rfl rfl 0 (by decide) (G.w kw_194) (fun _ h9 => h9) rfl dX3_keep_11 ?_
  refine lv_iload hx hb dX3_keep_14 (lv_at hl 0 rfl) ?_
  refine lv_iload_n hx hb dX3_keep_16 rfl (lv_at hl 2 rfl) ?_
  refine va_iast hx hb G.K hP hD hS 0 0 rfl rfl (i := nI kn) (vp_in_nI hk (by decide)) dX3_keep_17 (fun H locs hP hD hS => ?_)
  have hP : va_P g.1 vwCl [(b6, .inl ((g.2.2.1 0), 200, .inl (upd f6 (nI kn).toNatClampNeg x1))), (b7, .inl ((g.2.2.1 0), 200, .inl f7)), (b8, .inl ((g.2.2.1 0), 200, .inl f8)), (b9, .inl ((g.2.2.1 0), 200, .inl f9)), (b10, .inl ((g.2.2.1 0), 200, .inl f10)), (k0, .inr (6, [.ref b6, .ref b7, .ref b8, .ref b9, .ref b10, .int 0, .int (nI kn)]))] H := hP
  have hD : va_D A [(b6, .inl ((g.2.2.1 0), 200, .inl (upd f6 (nI kn).toNatClampNeg x1))), (b7, .inl ((g.2.2.1 0), 200, .inl f7)), (b8, .inl ((g.2.2.1 0), 200, .inl f8)), (b9, .inl ((g.2.2.1 0), 200, .inl f9)), (b10, .inl ((g.2.2.1 0), 200, .inl f10)), (k0, .inr (6, [.ref b6, .ref b7, .ref b8, .ref b9, .ref b10, .int 0, .int (nI kn)]))] := hD
  refine lv_aload_n hx hb dX3_keep_18 rfl (lv_at hl 1 rfl) ?_
  refine va_get (D := g.1) (ci := 6) (v := .ref b7) (C := RX3) (T := TX3) (N := 7) hx hb G.ws inX3 hown G.K hP 5 rfl rfl 1 (by decide) (G.w kw_195) (fun _ h9 => h9) rfl dX3_keep_19 ?_
  refine lv_iload hx hb dX3_keep_22 (lv_at hl 0 rfl) ?_
  refine lv_iload_n hx hb dX3_keep_24 rfl (lv_at hl 3 rfl) ?_
  refine va_iast hx hb G.K hP hD hS 1 0 rfl rfl (i := nI kn) (vp_in_nI hk (by decide)) dX3_keep_25 (fun H locs hP hD hS => ?_)
  have hP : va_P g.1 vwCl [(b6, .inl ((g.2.2.1 0), 200, .inl (upd f6 (nI kn).toNatClampNeg x1))), (b7, .inl ((g.2.2.1 0), 200, .inl (upd f7 (nI kn).toNatClampNeg x2))), (b8, .inl ((g.2.2.1 0), 200, .inl f8)), (b9, .inl ((g.2.2.1 0), 200, .inl f9)), (b10, .inl ((g.2.2.1 0), 200, .inl f10)), (k0, .inr (6, [.ref b6, .ref b7, .ref b8, .ref b9, .ref b10, .int 0, .int (nI kn)]))] H := hP
  have hD : va_D A [(b6, .inl ((g.2.2.1 0), 200, .inl (upd f6 (nI kn).toNatClampNeg x1))), (b7, .inl ((g.2.2.1 0), 200, .inl (upd f7 (nI kn).toNatClampNeg x2))), (b8, .inl ((g.2.2.1 0), 200, .inl f8)), (b9, .inl ((g.2.2.1 0), 200, .inl f9)), (b10, .inl ((g.2.2.1 0), 200, .inl f10)), (k0, .inr (6, [.ref b6, .ref b7, .ref b8, .ref b9, .ref b10, .int 0, .int (nI kn)]))] := hD
  refine lv_aload_n hx hb dX3_keep_26 rfl (lv_at hl 1 rfl) ?_
  refine va_get (D := g.1) (ci := 6) (v := .ref b8) (C := RX3) (T := TX3) (N := 7) hx hb G.ws inX3 hown G.K hP 5 rfl rfl 2 (by decide) (G.w kw_196) (fun _ h9 => h9) rfl dX3_keep_27 ?_
  refine lv_iload hx hb dX3_keep_30 (lv_at hl 0 rfl) ?_
  refine lv_iload_n hx hb dX3_keep_32 rfl (lv_at hl 4 rfl) ?_
  refine va_iast hx hb G.K hP hD hS 2 0 rfl rfl (i := nI kn) (vp_in_nI hk (by decide)) dX3_keep_33 (fun H locs hP hD hS => ?_)
  have hP : va_P g.1 vwCl [(b6, .inl ((g.2.2.1 0), 200, .inl (upd f6 (nI kn).toNatClampNeg x1))), (b7, .inl ((g.2.2.1 0), 200, .inl (upd f7 (nI kn).toNatClampNeg x2))), (b8, .inl ((g.2.2.1 0), 200, .inl (upd f8 (nI kn).toNatClampNeg x3))), (b9, .inl ((g.2.2.1 0), 200, .inl f9)), (b10, .inl ((g.2.2.1 0), 200, .inl f10)), (k0, .inr (6, [.ref b6, .ref b7, .ref b8, .ref b9, .ref b10, .int 0, .int (nI kn)]))] H := hP
  have hD : va_D A [(b6, .inl ((g.2.2.1 0), 200, .inl (upd f6 (nI kn).toNatClampNeg x1))), (b7, .inl ((g.2.2.1 0), 200, .inl (upd f7 (nI kn).toNatClampNeg x2))), (b8, .inl ((g.2.2.1 0), 200, .inl (upd f8 (nI kn).toNatClampNeg x3))), (b9, .inl ((g.2.2.1 0), 200, .inl f9)), (b10, .inl ((g.2.2.1 0), 200, .inl f10)), (k0, .inr (6, [.ref b6, .ref b7, .ref b8, .ref b9, .ref b10, .int 0, .int (nI kn)]))] := hD
  refine lv_aload_n hx hb dX3_keep_34 rfl (lv_at hl 1 rfl) ?_
  refine va_get (D := g.1) (ci := 6) (v := .ref b9) (C := RX3) (T := TX3) (N := 7) hx hb G.ws inX3 hown G.K hP 5 rfl rfl 3 (by decide) (G.w kw_197) (fun _ h9 => h9) rfl dX3_keep_35 ?_
  refine lv_iload hx hb dX3_keep_38 (lv_at hl 0 rfl) ?_
  refine lv_iload hx hb dX3_keep_40 (lv_at hl 5 rfl) ?_
  refine va_iast hx hb G.K hP hD hS 3 0 rfl rfl (i := nI kn) (vp_in_nI hk (by decide)) dX3_keep_42 (fun H locs hP hD hS => ?_)
  have hP : va_P g.1 vwCl [(b6, .inl ((g.2.2.1 0), 200, .inl (upd f6 (nI kn).toNatClampNeg x1))), (b7, .inl ((g.2.2.1 0), 200, .inl (upd f7 (nI kn).toNatClampNeg x2))), (b8, .inl ((g.2.2.1 0), 200, .inl (upd f8 (nI kn).toNatClampNeg x3))), (b9, .inl ((g.2.2.1 0), 200, .inl (upd f9 (nI kn).toNatClampNeg x4))), (b10, .inl ((g.2.2.1 0), 200, .inl f10)), (k0, .inr (6, [.ref b6, .ref b7, .ref b8, .ref b9, .ref b10, .int 0, .int (nI kn)]))] H := hP
  have hD : va_D A [(b6, .inl ((g.2.2.1 0), 200, .inl (upd f6 (nI kn).toNatClampNeg x1))), (b7, .inl ((g.2.2.1 0), 200, .inl (upd f7 (nI kn).toNatClampNeg x2))), (b8, .inl ((g.2.2.1 0), 200, .inl (upd f8 (nI kn).toNatClampNeg x3))), (b9, .inl ((g.2.2.1 0), 200, .inl (upd f9 (nI kn).toNatClampNeg x4))), (b10, .inl ((g.2.2.1 0), 200, .inl f10)), (k0, .inr (6, [.ref b6, .ref b7, .ref b8, .ref b9, .ref b10, .int 0, .int (nI kn)]))] := hD
  refine lv_aload_n hx hb dX3_keep_43 rfl (lv_at hl 1 rfl) ?_
  refine va_get (D := g.1) (ci := 6) (v := .ref b10) (C := RX3) (T := TX3) (N := 7) hx hb G.ws inX3 hown G.K hP 5 rfl rfl 4 (by decide) (G.w kw_198) (fun _ h9 => h9) rfl dX3_keep_44 ?_
  refine lv_iload hx hb dX3_keep_47 (lv_at hl 0 rfl) ?_
  refine lv_iload hx hb dX3_keep_49 (lv_at hl 6 rfl) ?_
  refine va_iast hx hb G.K hP hD hS 4 0 rfl rfl (i := nI kn) (vp_in_nI hk (by decide)) dX3_keep_51 (fun H locs hP hD hS => ?_)
  have hP : va_P g.1 vwCl [(b6, .inl ((g.2.2.1 0), 200, .inl (upd f6 (nI kn).toNatClampNeg x1))), (b7, .inl ((g.2.2.1 0), 200, .inl (upd f7 (nI kn).toNatClampNeg x2))), (b8, .inl ((g.2.2.1 0), 200, .inl (upd f8 (nI kn).toNatClampNeg x3))), (b9, .inl ((g.2.2.1 0), 200, .inl (upd f9 (nI kn).toNatClampNeg x4))), (b10, .inl ((g.2.2.1 0), 200, .inl (upd f10 (nI kn).toNatClampNeg x5))), (k0, .inr (6, [.ref b6, .ref b7, .ref b8, .ref b9, .ref b10, .int 0, .int (nI kn)]))] H := hP
  have hD : va_D A [(b6, .inl ((g.2.2.1 0), 200, .inl (upd f6 (nI kn).toNatClampNeg x1))), (b7, .inl ((g.2.2.1 0), 200, .inl (upd f7 (nI kn).toNatClampNeg x2))), (b8, .inl ((g.2.2.1 0), 200, .inl (upd f8 (nI kn).toNatClampNeg x3))), (b9, .inl ((g.2.2.1 0), 200, .inl (upd f9 (nI kn).toNatClampNeg x4))), (b10, .inl ((g.2.2.1 0), 200, .inl (upd f10 (nI kn).toNatClampNeg x5))), (k0, .inr (6, [.ref b6, .ref b7, .ref b8, .ref b9, .ref b10, .int 0, .int (nI kn)]))] := hD
  refine lv_aload_n hx hb dX3_keep_52 rfl (lv_at hl 1 rfl) ?_
  refine va_get (D := g.1) (ci := 6) (v := .int (nI kn)) (C := RX3) (T := TX3) (N := 7) hx hb G.ws inX3 hown G.K hP 5 rfl rfl 6 (by decide) (G.w kw_188) (fun _ h9 => h9) rfl dX3_keep_53 ?_
  refine lv_sipush (v := 200) hx hb dX3_keep_56 (by decide) ?_
  refine lv_icmp_ge (tgt := 75) hx hb dX3_keep_59 (by decide) (fun c59_2 => ?_) (fun c59_2 => ?_)
  · exact absurd c59_2 (by exact nI_ge (a := kn) (b := 200) hk (by decide))
  · refine lv_aload_n hx hb dX3_keep_62 rfl (lv_at hl 1 rfl) ?_
    refine lv_dup hx hb dX3_keep_63 rfl ?_
    refine va_get (D := g.1) (ci := 6) (v := .int (nI kn)) (C := RX3) (T := TX3) (N := 7) hx hb G.ws inX3 hown G.K hP 5 rfl rfl 6 (by decide) (G.w kw_188) (fun _ h9 => h9) rfl dX3_keep_64 ?_
    refine lv_iconst (v := 1) hx hb dX3_keep_67 (by decide) ?_
    refine lv_iadd hx hb dX3_keep_68 ?_
    refine W.eq (g2 := F0 m 69 ls [.int (nI (kn + 1)), .ref k0]) (by rw [nI_1]) ?_
    refine va_put (D := g.1) (ci := 6) (v := .int (nI (kn + 1))) (ty := .int) (C := RX3) (T := TX3) (N := 7) hx hb G.ws inX3 tyX3 tyX3_ok nmX3 hown G.K hP hD hS 5 rfl rfl 6 (by decide) (G.w kw_188) (fun _ h9 => h9) (by decide +kernel) (by decide +kernel) rfl rfl (Nat.le_of_ble_eq_true rfl) dX3_keep_69 (fun H locs hP hD hS => ?_)
    have hP : va_P g.1 vwCl [(b6, .inl ((g.2.2.1 0), 200, .inl (upd f6 (nI kn).toNatClampNeg x1))), (b7, .inl ((g.2.2.1 0), 200, .inl (upd f7 (nI kn).toNatClampNeg x2))), (b8, .inl ((g.2.2.1 0), 200, .inl (upd f8 (nI kn).toNatClampNeg x3))), (b9, .inl ((g.2.2.1 0), 200, .inl (upd f9 (nI kn).toNatClampNeg x4))), (b10, .inl ((g.2.2.1 0), 200, .inl (upd f10 (nI kn).toNatClampNeg x5))), (k0, .inr (6, [.ref b6, .ref b7, .ref b8, .ref b9, .ref b10, .int 0, .int (nI (kn + 1))]))] H := hP
    have hD : va_D A [(b6, .inl ((g.2.2.1 0), 200, .inl (upd f6 (nI kn).toNatClampNeg x1))), (b7, .inl ((g.2.2.1 0), 200, .inl (upd f7 (nI kn).toNatClampNeg x2))), (b8, .inl ((g.2.2.1 0), 200, .inl (upd f8 (nI kn).toNatClampNeg x3))), (b9, .inl ((g.2.2.1 0), 200, .inl (upd f9 (nI kn).toNatClampNeg x4))), (b10, .inl ((g.2.2.1 0), 200, .inl (upd f10 (nI kn).toNatClampNeg x5))), (k0, .inr (6, [.ref b6, .ref b7, .ref b8, .ref b9, .ref b10, .int 0, .int (nI (kn + 1))]))] := hD
    refine lv_goto (tgt := 84) hx hb dX3_keep_72 (by decide) ?_
    exact kretV K hP hD hS [5, 0, 1, 2, 3, 4] [(k0, .inr (6, [.ref b6, .ref b7, .ref b8, .ref b9, .ref b10, .int 0, .int (nI (kn + 1))])), (b6, .inl ((g.2.2.1 0), 200, .inl (upd f6 (nI kn).toNatClampNeg x1))), (b7, .inl ((g.2.2.1 0), 200, .inl (upd f7 (nI kn).toNatClampNeg x2))), (b8, .inl ((g.2.2.1 0), 200, .inl (upd f8 (nI kn).toNatClampNeg x3))), (b9, .inl ((g.2.2.1 0), 200, .inl (upd f9 (nI kn).toNatClampNeg x4))), (b10, .inl ((g.2.2.1 0), 200, .inl (upd f10 (nI kn).toNatClampNeg x5)))] rfl rfl ⟨(by first | simp only [r_X3_keep_b6, r_X3_keep_b7, r_X3_keep_b8, r_X3_keep_b9, r_X3_keep_b10] | rfl | simp [r_X3_keep_b6, r_X3_keep_b7, r_X3_keep_b8, r_X3_keep_b9, r_X3_keep_b10]), (by first | simp only [r_X3_keep_b6, r_X3_keep_b7, r_X3_keep_b8, r_X3_keep_b9, r_X3_keep_b10] | rfl | simp [r_X3_keep_b6, r_X3_keep_b7, r_X3_keep_b8, r_X3_keep_b9, r_X3_keep_b10])⟩ (by decide) (by decide) dX3_keep_84

