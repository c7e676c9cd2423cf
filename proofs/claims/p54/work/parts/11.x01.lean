set_option maxHeartbeats 4000000 in
set_option maxRecDepth 100000 in
theorem m_X4_init (l : Launch) (hl0 : l.stackTraces = false) (g : kG) (h0 : Nat) (x0 : Int32) (x1 : Int32) (x2 : Int32)  : kc l g yX4_init prog_6_method_1_code 4 none 1 20 3 24 [.ref h0, .int x0, .int x1, .int x2] [(h0, .inr (7, [.int 0, .int 0, .int 0, .null, .null, .null, .int 0, .int 0, .int 0, .int 0, .int 0]))] (fun v w => (∃ d1 : Nat, ∃ d2 : Nat, ∃ d3 : Nat, v = none ∧ w = [(h0, .inr (7, [.int x0, .int x1, .int x2, .ref d1, .ref d2, .ref d3, .int 0, .int 0, .int 0, .int 0, .int (-1)]))])) (fun _ _ => False) := by
  refine kbody (by decide) (Nat.le_of_ble_eq_true rfl) ?_
  intro p e s m args below meth c A H K ht G hP hD hA hS ls hl
  have K : KB p s m meth c RX4 "<init>" prog_6_method_1_code 4 none := K
  obtain ⟨hx, hb, hml, hown, hlocks, hr, hin⟩ := id K
  have hl : lv_has ls 4 [(0, .ref h0), (1, .int x0), (2, .int x1), (3, .int x2)] := hl
  refine lv_aload_n hx hb dX4_init_0 rfl (lv_at hl 0 rfl) ?_
  refine W.objInit hx hb hown (G.w kw_332) (G.w kw_288) (G.w kw_289) rfl (by rw [hml]; exact hl.1) rfl dX4_init_1 (Nat.le_of_ble_eq_true rfl) (Nat.le_of_ble_eq_true rfl) ?_
  refine W.eq (g2 := F0 m 4 ls []) rfl ?_
  refine lv_aload_n hx hb dX4_init_4 rfl (lv_at hl 0 rfl) ?_
  refine lv_iload_n hx hb dX4_init_5 rfl (lv_at hl 1 rfl) ?_
  refine va_putF (D := g.1) (ci := 7) (v := .int x0) (ty := .int) (C := RX4) (T := TX4) (N := 11) hx hb G.ws inX4 tyX4 tyX4_ok nmX4 hown G.K hP hD hS 0 rfl rfl 0 (by decide) (G.w kw_333) (fun _ h9 => h9) rfl hin rfl (by decide +kernel) rfl rfl (Nat.le_of_ble_eq_true rfl) dX4_init_6 (fun H locs hP hD hS => ?_)
  have hP : va_P g.1 vwCl [(h0, .inr (7, [.int x0, .int 0, .int 0, .null, .null, .null, .int 0, .int 0, .int 0, .int 0, .int 0]))] H := hP
  have hD : va_D A [(h0, .inr (7, [.int x0, .int 0, .int 0, .null, .null, .null, .int 0, .int 0, .int 0, .int 0, .int 0]))] := hD
  refine lv_aload_n hx hb dX4_init_9 rfl (lv_at hl 0 rfl) ?_
  refine lv_iload_n hx hb dX4_init_10 rfl (lv_at hl 2 rfl) ?_
  refine va_putF (D := g.1) (ci := 7) (v := .int x1) (ty := .int) (C := RX4) (T := TX4) (N := 11) hx hb G.ws inX4 tyX4 tyX4_ok nmX4 hown G.K hP hD hS 0 rfl rfl 1 (by decide) (G.w kw_334) (fun _ h9 => h9) rfl hin rfl (by decide +kernel) rfl rfl (Nat.le_of_ble_eq_true rfl) dX4_init_11 (fun H locs hP hD hS => ?_)
  have hP : va_P g.1 vwCl [(h0, .inr (7, [.int x0, .int x1, .int 0, .null, .null, .null, .int 0, .int 0, .int 0, .int 0, .int 0]))] H := hP
  have hD : va_D A [(h0, .inr (7, [.int x0, .int x1, .int 0, .null, .null, .null, .int 0, .int 0, .int 0, .int 0, .int 0]))] := hD
  refine lv_aload_n hx hb dX4_init_14 rfl (lv_at hl 0 rfl) ?_
  refine lv_iload_n hx hb dX4_init_15 rfl (lv_at hl 3 rfl) ?_
  refine va_putF (D := g.1) (ci := 7) (v := .int x2) (ty := .int) (C := RX4) (T := TX4) (N := 11) hx hb G.ws inX4 tyX4 tyX4_ok nmX4 hown G.K hP hD hS 0 rfl rfl 2 (by decide) (G.w kw_335) (fun _ h9 => h9) rfl hin rfl (by decide +kernel) rfl rfl (Nat.le_of_ble_eq_true rfl) dX4_init_16 (fun H locs hP hD hS => ?_)
  have hP : va_P g.1 vwCl [(h0, .inr (7, [.int x0, .int x1, .int x2, .null, .null, .null, .int 0, .int 0, .int 0, .int 0, .int 0]))] H := hP
  have hD : va_D A [(h0, .inr (7, [.int x0, .int x1, .int x2, .null, .null, .null, .int 0, .int 0, .int 0, .int 0, .int 0]))] := hD
  refine lv_aload_n hx hb dX4_init_19 rfl (lv_at hl 0 rfl) ?_
  refine lv_bipush (v := 8) hx hb dX4_init_20 (by decide) ?_
  refine kNewa0 hx hb (G.w kw_336) G hP hD hS hA (n := 8) (N := 8) (by decide) (by decide) (by decide) (by decide) (by decide) dX4_init_22 (fun q_1 H hP hD hS => ?_)
  have hP : va_P g.1 vwCl [(h0, .inr (7, [.int x0, .int x1, .int x2, .null, .null, .null, .int 0, .int 0, .int 0, .int 0, .int 0])), (q_1, .inl ((g.2.2.1 0), 8, .inl (fun _ => 0)))] H := hP
  have hD : va_D A [(h0, .inr (7, [.int x0, .int x1, .int x2, .null, .null, .null, .int 0, .int 0, .int 0, .int 0, .int 0])), (q_1, .inl ((g.2.2.1 0), 8, .inl (fun _ => 0)))] := hD
  refine W.widen (k := 1) (n := 8) (by decide) (by decide) ?_
  refine va_putF (D := g.1) (ci := 7) (v := .ref q_1) (ty := (.array .int)) (C := RX4) (T := TX4) (N := 11) hx hb G.ws inX4 tyX4 tyX4_ok nmX4 hown G.K hP hD hS 0 rfl rfl 3 (by decide) (G.w kw_337) (fun _ h9 => h9) rfl hin rfl (by decide +kernel) rfl rfl (Nat.le_of_ble_eq_true rfl) dX4_init_24 (fun H locs hP hD hS => ?_)
  have hP : va_P g.1 vwCl [(h0, .inr (7, [.int x0, .int x1, .int x2, .ref q_1, .null, .null, .int 0, .int 0, .int 0, .int 0, .int 0])), (q_1, .inl ((g.2.2.1 0), 8, .inl (fun _ => 0)))] H := hP
  have hD : va_D A [(h0, .inr (7, [.int x0, .int x1, .int x2, .ref q_1, .null, .null, .int 0, .int 0, .int 0, .int 0, .int 0])), (q_1, .inl ((g.2.2.1 0), 8, .inl (fun _ => 0)))] := hD
  refine lv_aload_n hx hb dX4_init_27 rfl (lv_at hl 0 rfl) ?_
  refine lv_bipush (v := 8) hx hb dX4_init_28 (by decide) ?_
  refine kNewa0 hx hb (G.w kw_336) G hP hD hS hA (n := 8) (N := 8) (by decide) (by decide) (by decide) (by decide) (by decide) dX4_init_30 (fun q_2 H hP hD hS => ?_)
  have hP : va_P g.1 vwCl [(h0, .inr (7, [.int x0, .int x1, .int x2, .ref q_1, .null, .null, .int 0, .int 0, .int 0, .int 0, .int 0])), (q_1, .inl ((g.2.2.1 0), 8, .inl (fun _ => 0))), (q_2, .inl ((g.2.2.1 0), 8, .inl (fun _ => 0)))] H := hP
  have hD : va_D A [(h0, .inr (7, [.int x0, .int x1, .int x2, .ref q_1, .null, .null, .int 0, .int 0, .int 0, .int 0, .int 0])), (q_1, .inl ((g.2.2.1 0), 8, .inl (fun _ => 0))), (q_2, .inl ((g.2.2.1 0), 8, .inl (fun _ => 0)))] := hD
  refine W.widen (k := 2) (n := 16) (by decide) (by decide) ?_
  refine va_putF (D := g.1) (ci := 7) (v := .ref q_2) (ty := (.array .int)) (C := RX4) (T := TX4) (N := 11) hx hb G.ws inX4 tyX4 tyX4_ok nmX4 hown G.K hP hD hS 0 rfl rfl 4 (by decide) (G.w kw_338) (fun _ h9 => h9) rfl hin rfl (by decide +kernel) rfl rfl (Nat.le_of_ble_eq_true rfl) dX4_init_32 (fun H locs hP hD hS => ?_)
  have hP : va_P g.1 vwCl [(h0, .inr (7, [.int x0, .int x1, .int x2, .ref q_1, .ref q_2, .null, .int 0, .int 0, .int 0, .int 0, .int 0])), (q_1, .inl ((g.2.2.1 0), 8, .inl (fun _ => 0))), (q_2, .inl ((g.2.2.1 0), 8, .inl (fun _ => 0)))] H := hP
  have hD : va_D A [(h0, .inr (7, [.int x0, .int x1, .int x2, .ref q_1, .ref q_2, .null, .int 0, .int 0, .int 0, .int 0, .int 0])), (q_1, .inl ((g.2.2.1 0), 8, .inl (fun _ => 0))), (q_2, .inl ((g.2.2.1 0), 8, .inl (fun _ => 0)))] := hD
  refine lv_aload_n hx hb dX4_init_35 rfl (lv_at hl 0 rfl) ?_
  refine lv_bipush (v := 8) hx hb dX4_init_36 (by decide) ?_
  refine kNewa0 hx hb (G.w kw_336) G hP hD hS hA (n := 8) (N := 8) (by decide) (by decide) (by decide) (by decide) (by decide) dX4_init_38 (fun q_3 H hP hD hS => ?_)
  have hP : va_P g.1 vwCl [(h0, .inr (7, [.int x0, .int x1, .int x2, .ref q_1, .ref q_2, .null, .int 0, .int 0, .int 0, .int 0, .int 0])), (q_1, .inl ((g.2.2.1 0), 8, .inl (fun _ => 0))), (q_2, .inl ((g.2.2.1 0), 8, .inl (fun _ => 0))), (q_3, .inl ((g.2.2.1 0), 8, .inl (fun _ => 0)))] H := hP
  have hD : va_D A [(h0, .inr (7, [.int x0, .int x1, .int x2, .ref q_1, .ref q_2, .null, .int 0, .int 0, .int 0, .int 0, .int 0])), (q_1, .inl ((g.2.2.1 0), 8, .inl (fun _ => 0))), (q_2, .inl ((g.2.2.1 0), 8, .inl (fun _ => 0))), (q_3, .inl ((g.2.2.1 0), 8, .inl (fun _ => 0)))] := hD
  refine W.widen (k := 3) (n := 24) (by decide) (by decide) ?_
  refine va_putF (D := g.1) (ci := 7) (v := .ref q_3) (ty := (.array .int)) (C := RX4) (T := TX4) (N := 11) hx hb G.ws inX4 tyX4 tyX4_ok nmX4 hown G.K hP hD hS 0 rfl rfl 5 (by decide) (G.w kw_339) (fun _ h9 => h9) rfl hin rfl (by decide +kernel) rfl rfl (Nat.le_of_ble_eq_true rfl) dX4_init_40 (fun H locs hP hD hS => ?_)
  have hP : va_P g.1 vwCl [(h0, .inr (7, [.int x0, .int x1, .int x2, .ref q_1, .ref q_2, .ref q_3, .int 0, .int 0, .int 0, .int 0, .int 0])), (q_1, .inl ((g.2.2.1 0), 8, .inl (fun _ => 0))), (q_2, .inl ((g.2.2.1 0), 8, .inl (fun _ => 0))), (q_3, .inl ((g.2.2.1 0), 8, .inl (fun _ => 0)))] H := hP
  have hD : va_D A [(h0, .inr (7, [.int x0, .int x1, .int x2, .ref q_1, .ref q_2, .ref q_3, .int 0, .int 0, .int 0, .int 0, .int 0])), (q_1, .inl ((g.2.2.1 0), 8, .inl (fun _ => 0))), (q_2, .inl ((g.2.2.1 0), 8, .inl (fun _ => 0))), (q_3, .inl ((g.2.2.1 0), 8, .inl (fun _ => 0)))] := hD
  refine lv_aload_n hx hb dX4_init_43 rfl (lv_at hl 0 rfl) ?_
  refine lv_iconst (v := (-1)) hx hb dX4_init_44 (by decide) ?_
  refine va_put (D := g.1) (ci := 7) (v := .int (-1)) (ty := .int) (C := RX4) (T := TX4) (N := 11) hx hb G.ws inX4 tyX4 tyX4_ok nmX4 hown G.K hP hD hS 0 rfl rfl 10 (by decide) (G.w kw_340) (fun _ h9 => h9) (by decide +kernel) (by decide +kernel) rfl rfl (Nat.le_of_ble_eq_true rfl) dX4_init_45 (fun H locs hP hD hS => ?_)
  have hP : va_P g.1 vwCl [(h0, .inr (7, [.int x0, .int x1, .int x2, .ref q_1, .ref q_2, .ref q_3, .int 0, .int 0, .int 0, .int 0, .int (-1)])), (q_1, .inl ((g.2.2.1 0), 8, .inl (fun _ => 0))), (q_2, .inl ((g.2.2.1 0), 8, .inl (fun _ => 0))), (q_3, .inl ((g.2.2.1 0), 8, .inl (fun _ => 0)))] H := hP
  have hD : va_D A [(h0, .inr (7, [.int x0, .int x1, .int x2, .ref q_1, .ref q_2, .ref q_3, .int 0, .int 0, .int 0, .int 0, .int (-1)])), (q_1, .inl ((g.2.2.1 0), 8, .inl (fun _ => 0))), (q_2, .inl ((g.2.2.1 0), 8, .inl (fun _ => 0))), (q_3, .inl ((g.2.2.1 0), 8, .inl (fun _ => 0)))] := hD
  exact kretV K hP hD hS [0] [(h0, .inr (7, [.int x0, .int x1, .int x2, .ref q_1, .ref q_2, .ref q_3, .int 0, .int 0, .int 0, .int 0, .int (-1)]))] rfl rfl (⟨q_1, q_2, q_3, rfl, rfl⟩) (by decide) (by decide) dX4_init_48

theorem kprog {i : Nat} {f : Nat → Int32} (hf : ∀ j : Nat, j < i → f j = -1) (hi : i < 24) : ∀ j : Nat, j < i + 1 → upd f (nI i).toNatClampNeg (-1) j = -1 := by
  intro j hj
  rw [knat i (by omega)]
  by_cases q : j = i
  · simp [upd, q]
  · simp [upd, q]; exact hf j (by omega)

set_option maxHeartbeats 4000000 in
set_option maxRecDepth 100000 in
theorem m_X6_init (l : Launch) (hl0 : l.stackTraces = false) (g : kG) (h0 : Nat)  : kc l g yX6_init prog_8_method_1_code 2 none 1 20 1 24 [.ref h0] [(h0, .inr (9, [.null, .int 0]))] (fun v w => (∃ hq : Nat, ∃ hf : Nat → Int32, v = none ∧ w = [(h0, .inr (9, [.ref hq, .int (-1)])), (hq, .inl ((g.2.2.1 0), 24, .inl hf))] ∧ ∀ j : Nat, j < 24 → hf j = -1)) (fun _ _ => False) := by
  refine kbody (by decide) (Nat.le_of_ble_eq_true rfl) ?_
  intro p e s m args below meth c A H K ht G hP hD hA hS ls hl
  have K : KB p s m meth c RX6 "<init>" prog_8_method_1_code 2 none := K
  obtain ⟨hx, hb, hml, hown, hlocks, hr, hin⟩ := id K
  have hl : lv_has ls 2 [(0, .ref h0)] := hl
  refine lv_aload_n hx hb dX6_init_0 rfl (lv_at hl 0 rfl) ?_
  refine W.objInit hx hb hown (G.w kw_341) (G.w kw_288) (G.w kw_289) rfl (by rw [hml]; exact hl.1) rfl dX6_init_1 (Nat.le_of_ble_eq_true rfl) (Nat.le_of_ble_eq_true rfl) ?_
  refine W.eq (g2 := F0 m 4 ls []) rfl ?_
  refine lv_aload_n hx hb dX6_init_4 rfl (lv_at hl 0 rfl) ?_
  refine lv_bipush (v := 24) hx hb dX6_init_5 (by decide) ?_
  refine kNewa0 hx hb (G.w kw_336) G hP hD hS hA (n := 24) (N := 24) (by decide) (by decide) (by decide) (by decide) (by decide) dX6_init_7 (fun q_1 H hP hD hS => ?_)
  have hP : va_P g.1 vwCl [(h0, .inr (9, [.null, .int 0])), (q_1, .inl ((g.2.2.1 0), 24, .inl (fun _ => 0)))] H := hP
  have hD : va_D A [(h0, .inr (9, [.null, .int 0])), (q_1, .inl ((g.2.2.1 0), 24, .inl (fun _ => 0)))] := hD
  refine W.widen (k := 1) (n := 24) (by decide) (by decide) ?_
  refine va_putF (D := g.1) (ci := 9) (v := .ref q_1) (ty := (.array .int)) (C := RX6) (T := TX6) (N := 2) hx hb G.ws inX6 tyX6 tyX6_ok nmX6 hown G.K hP hD hS 0 rfl rfl 0 (by decide) (G.w kw_173) (fun _ h9 => h9) rfl hin rfl (by decide +kernel) rfl rfl (Nat.le_of_ble_eq_true rfl) dX6_init_9 (fun H locs hP hD hS => ?_)
  have hP : va_P g.1 vwCl [(h0, .inr (9, [.ref q_1, .int 0])), (q_1, .inl ((g.2.2.1 0), 24, .inl (fun _ => 0)))] H := hP
  have hD : va_D A [(h0, .inr (9, [.ref q_1, .int 0])), (q_1, .inl ((g.2.2.1 0), 24, .inl (fun _ => 0)))] := hD
  refine lv_iconst (v := 0) hx hb dX6_init_12 (by decide) ?_
  refine lv_istore_n (lv' := [(1, .int 0), (0, .ref h0)]) hx hb dX6_init_13 rfl hl (by decide) rfl (fun ls hl => ?_)
  suffices KL : ∀ (k i : Nat), k + i = 24 → ∀ (f : Nat → Int32) (hf : ∀ j : Nat, j < i → f j = -1) (H : Heap) (locs : List Loc), va_P g.1 vwCl [(h0, .inr (9, [.ref q_1, .int 0])), (q_1, .inl ((g.2.2.1 0), 24, .inl f))] H → va_D A [(h0, .inr (9, [.ref q_1, .int 0])), (q_1, .inl ((g.2.2.1 0), 24, .inl f))] → va_S A s.heap H locs → ∀ ls : Array Slot, lv_has ls 2 [(0, .ref h0), (1, .int (nI i))] → W p l e (kR 1 20 1 24) s m args below meth c H locs 1 24 (vx_MQ below (kQ g (fun v w => (∃ hq : Nat, ∃ hf : Nat → Int32, v = none ∧ w = [(h0, .inr (9, [.ref hq, .int (-1)])), (hq, .inl ((g.2.2.1 0), 24, .inl hf))] ∧ ∀ j : Nat, j < 24 → hf j = -1)) A) (kX g (fun _ _ => False) A) args s 1 24 A) (F0 m 14 ls []) from KL 24 0 rfl (fun _ => 0) (fun j h => absurd h (Nat.not_lt_zero j)) _ _ (ksubP hP [0, 1] rfl) (hD.sub [0, 1] rfl rfl) hS _ (lv_sub hl [1, 0] rfl)
  clear hP hD hS hl
  intro k
  induction k with
  | zero =>
    intro i hi f hf H locs hP hD hS ls hl
    have ei : i = 24 := by omega
    try rw [ei] at hP
    try rw [ei] at hD
    rw [ei] at hl
    have hP : va_P g.1 vwCl [(h0, .inr (9, [.ref q_1, .int 0])), (q_1, .inl ((g.2.2.1 0), 24, .inl f))] H := hP
    have hD : va_D A [(h0, .inr (9, [.ref q_1, .int 0])), (q_1, .inl ((g.2.2.1 0), 24, .inl f))] := hD
    have hl : lv_has ls 2 [(0, .ref h0), (1, .int (nI 24))] := hl
    refine lv_iload_n hx hb dX6_init_14 rfl (lv_at hl 1 rfl) ?_
    refine lv_bipush (v := 24) hx hb dX6_init_15 (by decide) ?_
    refine lv_icmp_ge (tgt := 33) hx hb dX6_init_17 (by decide) (fun c17_2 => ?_) (fun c17_2 => ?_)
    · refine lv_aload_n hx hb dX6_init_33 rfl (lv_at hl 0 rfl) ?_
      refine lv_iconst (v := (-1)) hx hb dX6_init_34 (by decide) ?_
      refine va_put (D := g.1) (ci := 9) (v := .int (-1)) (ty := .int) (C := RX6) (T := TX6) (N := 2) hx hb G.ws inX6 tyX6 tyX6_ok nmX6 hown G.K hP hD hS 0 rfl rfl 1 (by decide) (G.w kw_342) (fun _ h9 => h9) (by decide +kernel) (by decide +kernel) rfl rfl (Nat.le_of_ble_eq_true rfl) dX6_init_35 (fun H locs hP hD hS => ?_)
      have hP : va_P g.1 vwCl [(h0, .inr (9, [.ref q_1, .int (-1)])), (q_1, .inl ((g.2.2.1 0), 24, .inl f))] H := hP
      have hD : va_D A [(h0, .inr (9, [.ref q_1, .int (-1)])), (q_1, .inl ((g.2.2.1 0), 24, .inl f))] := hD
      exact kretV K hP hD hS [0, 1] [(h0, .inr (9, [.ref q_1, .int (-1)])), (q_1, .inl ((g.2.2.1 0), 24, .inl f))] rfl rfl (⟨q_1, f, rfl, rfl, (by exact fun j hj => hf j (by omega))⟩) (by decide) (by decide) dX6_init_38
    · exact absurd c17_2 (by exact fun h => h (by decide))
  | succ k ih =>
    intro i hi f hf H locs hP hD hS ls hl
    refine lv_iload_n hx hb dX6_init_14 rfl (lv_at hl 1 rfl) ?_
    refine lv_bipush (v := 24) hx hb dX6_init_15 (by decide) ?_
    refine lv_icmp_ge (tgt := 33) hx hb dX6_init_17 (by decide) (fun c17_3 => ?_) (fun c17_3 => ?_)
    · exact absurd c17_3 (by exact nI_ge (a := i) (b := 24) (by omega) (by omega))
    · refine lv_aload_n hx hb dX6_init_20 rfl (lv_at hl 0 rfl) ?_
      refine va_get (D := g.1) (ci := 9) (v := .ref q_1) (C := RX6) (T := TX6) (N := 2) hx hb G.ws inX6 hown G.K hP 0 rfl rfl 0 (by decide) (G.w kw_173) (fun _ h9 => h9) rfl dX6_init_21 ?_
      refine lv_iload_n hx hb dX6_init_24 rfl (lv_at hl 1 rfl) ?_
      refine lv_iconst (v := (-1)) hx hb dX6_init_25 (by decide) ?_
      refine va_iast hx hb G.K hP hD hS 1 0 rfl rfl (i := nI i) (vp_in_nI (by omega) (by omega)) dX6_init_26 (fun H locs hP hD hS => ?_)
      have hP : va_P g.1 vwCl [(h0, .inr (9, [.ref q_1, .int 0])), (q_1, .inl ((g.2.2.1 0), 24, .inl (upd f (nI i).toNatClampNeg (-1))))] H := hP
      have hD : va_D A [(h0, .inr (9, [.ref q_1, .int 0])), (q_1, .inl ((g.2.2.1 0), 24, .inl (upd f (nI i).toNatClampNeg (-1))))] := hD
      refine lv_iinc (v := nI (i + 1)) (lv' := [(1, .int (nI (i + 1))), (0, .ref h0)]) hx hb dX6_init_27 hl (k := 1) rfl (nI_1 _) (by decide) rfl (fun ls hl => ?_)
      refine lv_goto (tgt := 14) hx hb dX6_init_30 (by decide) ?_
      refine ih (i + 1) (by omega) (upd f (nI i).toNatClampNeg (-1)) (kprog hf (by omega)) _ _ ?_ ?_ hS _ ?_
      · exact ksubP hP [0, 1] rfl
      · exact hD.sub [0, 1] rfl rfl
      · exact lv_sub hl [1, 0] rfl

set_option maxHeartbeats 4000000 in
set_option maxRecDepth 100000 in
theorem m_X8_init (l : Launch) (hl0 : l.stackTraces = false) (g : kG) (h0 : Nat) (x0 : Int32) (x1 : Int32)  : kc l g yX8_init prog_10_method_1_code 3 none 4 80 5 38 [.ref h0, .int x0, .int x1] [(h0, .inr (10, [.null, .null, .null, .null, .int 0, .int 0, .int 0, .int 0, .int 0, .int 0, .int 0, .int 0, .int 0, .int 0, .int 0, .int 0, .int 0]))] (fun v w => (∃ sA : Nat, ∃ sL : Nat, ∃ sP : Nat, ∃ sS : Nat, ∃ hq : Nat, ∃ hf : Nat → Int32, v = none ∧ w = [(h0, .inr (10, [.ref sA, .ref sL, .ref sP, .ref sS, .int x0, .int x1, .int 0, .int 0, .int 0, .int 0, .int (-1), .int 0, .int 0, .int 0, .int (-1), .int 0, .int 0])), (sA, .inr (3, [.int x0, .int x1, .int 0, .int 0, .int 0])), (sL, .inr (2, [.int 0, .ref g.2.1, .int 0])), (sP, .inr (9, [.ref hq, .int (-1)])), (hq, .inl ((g.2.2.1 0), 24, .inl hf)), (sS, .inr (11, [.int 0, .int 0, .int 0, .int 0]))] ∧ ∀ j : Nat, j < 24 → hf j = -1)) (fun _ _ => False) := by
  refine kbody (by decide) (Nat.le_of_ble_eq_true rfl) ?_
  intro p e s m args below meth c A H K ht G hP hD hA hS ls hl
  have K : KB p s m meth c RX8 "<init>" prog_10_method_1_code 3 none := K
  obtain ⟨hx, hb, hml, hown, hlocks, hr, hin⟩ := id K
  have hl : lv_has ls 3 [(0, .ref h0), (1, .int x0), (2, .int x1)] := hl
  refine lv_aload_n hx hb dX8_init_0 rfl (lv_at hl 0 rfl) ?_
  refine W.objInit hx hb hown (G.w kw_343) (G.w kw_288) (G.w kw_289) rfl (by rw [hml]; exact hl.1) rfl dX8_init_1 (Nat.le_of_ble_eq_true rfl) (Nat.le_of_ble_eq_true rfl) ?_
  refine W.eq (g2 := F0 m 4 ls []) rfl ?_
  refine lv_aload_n hx hb dX8_init_4 rfl (lv_at hl 0 rfl) ?_
  refine va_new (D := g.1) (ci := 3) (fs := [.int 0, .int 0, .int 0, .int 0, .int 0]) (C := RX0) (T := TX0) (N := 5) hx hb G.ws inX0 tyX0 tyX0_ok hown (G.w kw_344) (G.w kw_345) (G.w kw_346) G.K hP hD hS hA rfl (fun j hj => by rcases (show j = 0 ∨ j = 1 ∨ j = 2 ∨ j = 3 ∨ j = 4 by omega) with rfl | rfl | rfl | rfl | rfl <;> rfl) (by decide) (by decide) dX8_init_5 (fun q_1 H hP hD hS => ?_)
  have hP : va_P g.1 vwCl [(h0, .inr (10, [.null, .null, .null, .null, .int 0, .int 0, .int 0, .int 0, .int 0, .int 0, .int 0, .int 0, .int 0, .int 0, .int 0, .int 0, .int 0])), (q_1, .inr (3, [.int 0, .int 0, .int 0, .int 0, .int 0]))] H := hP
  have hD : va_D A [(h0, .inr (10, [.null, .null, .null, .null, .int 0, .int 0, .int 0, .int 0, .int 0, .int 0, .int 0, .int 0, .int 0, .int 0, .int 0, .int 0, .int 0])), (q_1, .inr (3, [.int 0, .int 0, .int 0, .int 0, .int 0]))] := hD
  refine W.widen (k := 1) (n := 5) (by decide) (by decide) ?_
  refine lv_dup hx hb dX8_init_8 rfl ?_
  refine lv_iload_n hx hb dX8_init_9 rfl (lv_at hl 1 rfl) ?_
  refine lv_iload_n hx hb dX8_init_10 rfl (lv_at hl 2 rfl) ?_
  refine kcallI (wc := [(q_1, .inr (3, [.int 0, .int 0, .int 0, .int 0, .int 0]))]) (wr := [(h0, .inr (10, [.null, .null, .null, .null, .int 0, .int 0, .int 0, .int 0, .int 0, .int 0, .int 0, .int 0, .int 0, .int 0, .int 0, .int 0, .int 0]))]) (As := [.int x0, .int x1]) (rest := [.ref q_1, .ref h0]) K G (m_X0_init l hl0 g q_1 x0 x1 ) hP hD hS hA hl kw_347 kw_348 kw_349 kw_346 rfl ydX0_init [1] [0] rfl rfl rfl rfl (by decide) rfl rfl (Nat.le_of_ble_eq_true rfl) dX8_init_11 ⟨Nat.le_of_ble_eq_true rfl, Nat.le_of_ble_eq_true rfl⟩ ⟨Nat.le_of_ble_eq_true rfl, Nat.le_of_ble_eq_true rfl⟩ (fun _ _ _ _ _ _ hX _ _ _ _ _ _ => hX.elim) (fun v w1 H locs hQ hP hD hS => ?_)
  obtain ⟨rfl, rfl⟩ := hQ
  have hP : va_P g.1 vwCl [(h0, .inr (10, [.null, .null, .null, .null, .int 0, .int 0, .int 0, .int 0, .int 0, .int 0, .int 0, .int 0, .int 0, .int 0, .int 0, .int 0, .int 0])), (q_1, .inr (3, [.int x0, .int x1, .int 0, .int 0, .int 0]))] H := hP
  have hD : va_D A [(h0, .inr (10, [.null, .null, .null, .null, .int 0, .int 0, .int 0, .int 0, .int 0, .int 0, .int 0, .int 0, .int 0, .int 0, .int 0, .int 0, .int 0])), (q_1, .inr (3, [.int x0, .int x1, .int 0, .int 0, .int 0]))] := hD
  refine W.widen (k := 1) (n := 5) (by decide) (by decide) ?_
  refine W.eq (g2 := F0 m 14 ls [.ref q_1, .ref h0]) rfl ?_
  refine va_putF (D := g.1) (ci := 10) (v := .ref q_1) (ty := (.object "GalleonWave$Anchor")) (C := RX8) (T := TX8) (N := 17) hx hb G.ws inX8 tyX8 tyX8_ok nmX8 hown G.K hP hD hS 0 rfl rfl 0 (by decide) (G.w kw_350) (fun _ h9 => h9) rfl hin rfl (by decide +kernel) rfl rfl (Nat.le_of_ble_eq_true rfl) dX8_init_14 (fun H locs hP hD hS => ?_)
  have hP : va_P g.1 vwCl [(h0, .inr (10, [.ref q_1, .null, .null, .null, .int 0, .int 0, .int 0, .int 0, .int 0, .int 0, .int 0, .int 0, .int 0, .int 0, .int 0, .int 0, .int 0])), (q_1, .inr (3, [.int x0, .int x1, .int 0, .int 0, .int 0]))] H := hP
  have hD : va_D A [(h0, .inr (10, [.ref q_1, .null, .null, .null, .int 0, .int 0, .int 0, .int 0, .int 0, .int 0, .int 0, .int 0, .int 0, .int 0, .int 0, .int 0, .int 0])), (q_1, .inr (3, [.int x0, .int x1, .int 0, .int 0, .int 0]))] := hD
  refine lv_aload_n hx hb dX8_init_17 rfl (lv_at hl 0 rfl) ?_
  refine va_new (D := g.1) (ci := 2) (fs := [.int 0, .null, .int 0]) (C := RJx4a65c) (T := TJx4a65c) (N := 3) hx hb G.ws inJx4a65c tyJx4a65c tyJx4a65c_ok hown (G.w kw_351) (G.w kw_352) (G.w kw_22) G.K hP hD hS hA rfl (fun j hj => by rcases (show j = 0 ∨ j = 1 ∨ j = 2 by omega) with rfl | rfl | rfl <;> rfl) (by decide) (by decide) dX8_init_18 (fun q_3 H hP hD hS => ?_)
  have hP : va_P g.1 vwCl [(h0, .inr (10, [.ref q_1, .null, .null, .null, .int 0, .int 0, .int 0, .int 0, .int 0, .int 0, .int 0, .int 0, .int 0, .int 0, .int 0, .int 0, .int 0])), (q_1, .inr (3, [.int x0, .int x1, .int 0, .int 0, .int 0])), (q_3, .inr (2, [.int 0, .null, .int 0]))] H := hP
  have hD : va_D A [(h0, .inr (10, [.ref q_1, .null, .null, .null, .int 0, .int 0, .int 0, .int 0, .int 0, .int 0, .int 0, .int 0, .int 0, .int 0, .int 0, .int 0, .int 0])), (q_1, .inr (3, [.int x0, .int x1, .int 0, .int 0, .int 0])), (q_3, .inr (2, [.int 0, .null, .int 0]))] := hD
  refine W.widen (k := 2) (n := 8) (by decide) (by decide) ?_
  refine lv_dup hx hb dX8_init_21 rfl ?_
  refine kcallI (wc := [(q_3, .inr (2, [.int 0, .null, .int 0]))]) (wr := [(h0, .inr (10, [.ref q_1, .null, .null, .null, .int 0, .int 0, .int 0, .int 0, .int 0, .int 0, .int 0, .int 0, .int 0, .int 0, .int 0, .int 0, .int 0])), (q_1, .inr (3, [.int x0, .int x1, .int 0, .int 0, .int 0]))]) (As := []) (rest := [.ref q_3, .ref h0]) K G (m_Jx4a65c_init_da8c8 l hl0 g q_3 ) hP hD hS hA hl kw_353 kw_354 kw_355 kw_22 rfl ydJx4a65c_init_da8c8 [2] [0, 1] rfl rfl rfl rfl (by decide) rfl rfl (Nat.le_of_ble_eq_true rfl) dX8_init_22 ⟨Nat.le_of_ble_eq_true rfl, Nat.le_of_ble_eq_true rfl⟩ ⟨Nat.le_of_ble_eq_true rfl, Nat.le_of_ble_eq_true rfl⟩ (fun _ _ _ _ _ _ hX _ _ _ _ _ _ => hX.elim) (fun v w1 H locs hQ hP hD hS => ?_)
  obtain ⟨rfl, rfl⟩ := hQ
  have hP : va_P g.1 vwCl [(h0, .inr (10, [.ref q_1, .null, .null, .null, .int 0, .int 0, .int 0, .int 0, .int 0, .int 0, .int 0, .int 0, .int 0, .int 0, .int 0, .int 0, .int 0])), (q_1, .inr (3, [.int x0, .int x1, .int 0, .int 0, .int 0])), (q_3, .inr (2, [.int 0, .ref g.2.1, .int 0]))] H := hP
  have hD : va_D A [(h0, .inr (10, [.ref q_1, .null, .null, .null, .int 0, .int 0, .int 0, .int 0, .int 0, .int 0, .int 0, .int 0, .int 0, .int 0, .int 0, .int 0, .int 0])), (q_1, .inr (3, [.int x0, .int x1, .int 0, .int 0, .int 0])), (q_3, .inr (2, [.int 0, .ref g.2.1, .int 0]))] := hD
  refine W.widen (k := 2) (n := 8) (by decide) (by decide) ?_
  refine W.eq (g2 := F0 m 25 ls [.ref q_3, .ref h0]) rfl ?_
  refine va_putF (D := g.1) (ci := 10) (v := .ref q_3) (ty := (.object "java/util/ArrayList")) (C := RX8) (T := TX8) (N := 17) hx hb G.ws inX8 tyX8 tyX8_ok nmX8 hown G.K hP hD hS 0 rfl rfl 1 (by decide) (G.w kw_30) (fun _ h9 => h9) rfl hin rfl (by decide +kernel) rfl rfl (Nat.le_of_ble_eq_true rfl) dX8_init_25 (fun H locs hP hD hS => ?_)
  have hP : va_P g.1 vwCl [(h0, .inr (10, [.ref q_1, .ref q_3, .null, .null, .int 0, .int 0, .int 0, .int 0, .int 0, .int 0, .int 0, .int 0, .int 0, .int 0, .int 0, .int 0, .int 0])), (q_1, .inr (3, [.int x0, .int x1, .int 0, .int 0, .int 0])), (q_3, .inr (2, [.int 0, .ref g.2.1, .int 0]))] H := hP
  have hD : va_D A [(h0, .inr (10, [.ref q_1, .ref q_3, .null, .null, .int 0, .int 0, .int 0, .int 0, .int 0, .int 0, .int 0, .int 0, .int 0, .int 0, .int 0, .int 0, .int 0])), (q_1, .inr (3, [.int x0, .int x1, .int 0, .int 0, .int 0])), (q_3, .inr (2, [.int 0, .ref g.2.1, .int 0]))] := hD
  refine lv_aload_n hx hb dX8_init_28 rfl (lv_at hl 0 rfl) ?_
  refine va_new (D := g.1) (ci := 9) (fs := [.null, .int 0]) (C := RX6) (T := TX6) (N := 2) hx hb G.ws inX6 tyX6 tyX6_ok hown (G.w kw_356) (G.w kw_357) (G.w kw_176) G.K hP hD hS hA rfl (fun j hj => by rcases (show j = 0 ∨ j = 1 by omega) with rfl | rfl <;> rfl) (by decide) (by decide) dX8_init_29 (fun q_5 H hP hD hS => ?_)
  have hP : va_P g.1 vwCl [(h0, .inr (10, [.ref q_1, .ref q_3, .null, .null, .int 0, .int 0, .int 0, .int 0, .int 0, .int 0, .int 0, .int 0, .int 0, .int 0, .int 0, .int 0, .int 0])), (q_1, .inr (3, [.int x0, .int x1, .int 0, .int 0, .int 0])), (q_3, .inr (2, [.int 0, .ref g.2.1, .int 0])), (q_5, .inr (9, [.null, .int 0]))] H := hP
  have hD : va_D A [(h0, .inr (10, [.ref q_1, .ref q_3, .null, .null, .int 0, .int 0, .int 0, .int 0, .int 0, .int 0, .int 0, .int 0, .int 0, .int 0, .int 0, .int 0, .int 0])), (q_1, .inr (3, [.int x0, .int x1, .int 0, .int 0, .int 0])), (q_3, .inr (2, [.int 0, .ref g.2.1, .int 0])), (q_5, .inr (9, [.null, .int 0]))] := hD
  refine W.widen (k := 3) (n := 10) (by decide) (by decide) ?_
  refine lv_dup hx hb dX8_init_32 rfl ?_
  refine kcallI (wc := [(q_5, .inr (9, [.null, .int 0]))]) (wr := [(h0, .inr (10, [.ref q_1, .ref q_3, .null, .null, .int 0, .int 0, .int 0, .int 0, .int 0, .int 0, .int 0, .int 0, .int 0, .int 0, .int 0, .int 0, .int 0])), (q_1, .inr (3, [.int x0, .int x1, .int 0, .int 0, .int 0])), (q_3, .inr (2, [.int 0, .ref g.2.1, .int 0]))]) (As := []) (rest := [.ref q_5, .ref h0]) K G (m_X6_init l hl0 g q_5 ) hP hD hS hA hl kw_358 kw_359 kw_360 kw_176 rfl ydX6_init [3] [0, 1, 2] rfl rfl rfl rfl (by decide) rfl rfl (Nat.le_of_ble_eq_true rfl) dX8_init_33 ⟨Nat.le_of_ble_eq_true rfl, Nat.le_of_ble_eq_true rfl⟩ ⟨Nat.le_of_ble_eq_true rfl, Nat.le_of_ble_eq_true rfl⟩ (fun _ _ _ _ _ _ hX _ _ _ _ _ _ => hX.elim) (fun v w1 H locs hQ hP hD hS => ?_)
  obtain ⟨hq_7, hf_8, rfl, rfl, f_9⟩ := hQ
  have hP : va_P g.1 vwCl [(h0, .inr (10, [.ref q_1, .ref q_3, .null, .null, .int 0, .int 0, .int 0, .int 0, .int 0, .int 0, .int 0, .int 0, .int 0, .int 0, .int 0, .int 0, .int 0])), (q_1, .inr (3, [.int x0, .int x1, .int 0, .int 0, .int 0])), (q_3, .inr (2, [.int 0, .ref g.2.1, .int 0])), (q_5, .inr (9, [.ref hq_7, .int (-1)])), (hq_7, .inl ((g.2.2.1 0), 24, .inl hf_8))] H := hP
  have hD : va_D A [(h0, .inr (10, [.ref q_1, .ref q_3, .null, .null, .int 0, .int 0, .int 0, .int 0, .int 0, .int 0, .int 0, .int 0, .int 0, .int 0, .int 0, .int 0, .int 0])), (q_1, .inr (3, [.int x0, .int x1, .int 0, .int 0, .int 0])), (q_3, .inr (2, [.int 0, .ref g.2.1, .int 0])), (q_5, .inr (9, [.ref hq_7, .int (-1)])), (hq_7, .inl ((g.2.2.1 0), 24, .inl hf_8))] := hD
  refine W.widen (k := 4) (n := 34) (by decide) (by decide) ?_
  refine W.eq (g2 := F0 m 36 ls [.ref q_5, .ref h0]) rfl ?_
  refine va_putF (D := g.1) (ci := 10) (v := .ref q_5) (ty := (.object "GalleonWave$Programme")) (C := RX8) (T := TX8) (N := 17) hx hb G.ws inX8 tyX8 tyX8_ok nmX8 hown G.K hP hD hS 0 rfl rfl 2 (by decide) (G.w kw_361) (fun _ h9 => h9) rfl hin rfl (by decide +kernel) rfl rfl (Nat.le_of_ble_eq_true rfl) dX8_init_36 (fun H locs hP hD hS => ?_)
  have hP : va_P g.1 vwCl [(h0, .inr (10, [.ref q_1, .ref q_3, .ref q_5, .null, .int 0, .int 0, .int 0, .int 0, .int 0, .int 0, .int 0, .int 0, .int 0, .int 0, .int 0, .int 0, .int 0])), (q_1, .inr (3, [.int x0, .int x1, .int 0, .int 0, .int 0])), (q_3, .inr (2, [.int 0, .ref g.2.1, .int 0])), (q_5, .inr (9, [.ref hq_7, .int (-1)])), (hq_7, .inl ((g.2.2.1 0), 24, .inl hf_8))] H := hP
  have hD : va_D A [(h0, .inr (10, [.ref q_1, .ref q_3, .ref q_5, .null, .int 0, .int 0, .int 0, .int 0, .int 0, .int 0, .int 0, .int 0, .int 0, .int 0, .int 0, .int 0, .int 0])), (q_1, .inr (3, [.int x0, .int x1, .int 0, .int 0, .int 0])), (q_3, .inr (2, [.int 0, .ref g.2.1, .int 0])), (q_5, .inr (9, [.ref hq_7, .int (-1)])), (hq_7, .inl ((g.2.2.1 0), 24, .inl hf_8))] := hD
  refine lv_aload_n hx hb dX8_init_39 rfl (lv_at hl 0 rfl) ?_
  refine va_new (D := g.1) (ci := 11) (fs := [.int 0, .int 0, .int 0, .int 0]) (C := RX9) (T := TX9) (N := 4) hx hb G.ws inX9 tyX9 tyX9_ok hown (G.w kw_362) (G.w kw_363) (G.w kw_215) G.K hP hD hS hA rfl (fun j hj => by rcases (show j = 0 ∨ j = 1 ∨ j = 2 ∨ j = 3 by omega) with rfl | rfl | rfl | rfl <;> rfl) (by decide) (by decide) dX8_init_40 (fun q_10 H hP hD hS => ?_)
  have hP : va_P g.1 vwCl [(h0, .inr (10, [.ref q_1, .ref q_3, .ref q_5, .null, .int 0, .int 0, .int 0, .int 0, .int 0, .int 0, .int 0, .int 0, .int 0, .int 0, .int 0, .int 0, .int 0])), (q_1, .inr (3, [.int x0, .int x1, .int 0, .int 0, .int 0])), (q_3, .inr (2, [.int 0, .ref g.2.1, .int 0])), (q_5, .inr (9, [.ref hq_7, .int (-1)])), (hq_7, .inl ((g.2.2.1 0), 24, .inl hf_8)), (q_10, .inr (11, [.int 0, .int 0, .int 0, .int 0]))] H := hP
  have hD : va_D A [(h0, .inr (10, [.ref q_1, .ref q_3, .ref q_5, .null, .int 0, .int 0, .int 0, .int 0, .int 0, .int 0, .int 0, .int 0, .int 0, .int 0, .int 0, .int 0, .int 0])), (q_1, .inr (3, [.int x0, .int x1, .int 0, .int 0, .int 0])), (q_3, .inr (2, [.int 0, .ref g.2.1, .int 0])), (q_5, .inr (9, [.ref hq_7, .int (-1)])), (hq_7, .inl ((g.2.2.1 0), 24, .inl hf_8)), (q_10, .inr (11, [.int 0, .int 0, .int 0, .int 0]))] := hD
  refine W.widen (k := 5) (n := 38) (by decide) (by decide) ?_
  refine lv_dup hx hb dX8_init_43 rfl ?_
  refine kcallI (wc := [(q_10, .inr (11, [.int 0, .int 0, .int 0, .int 0]))]) (wr := [(h0, .inr (10, [.ref q_1, .ref q_3, .ref q_5, .null, .int 0, .int 0, .int 0, .int 0, .int 0, .int 0, .int 0, .int 0, .int 0, .int 0, .int 0, .int 0, .int 0])), (q_1, .inr (3, [.int x0, .int x1, .int 0, .int 0, .int 0])), (q_3, .inr (2, [.int 0, .ref g.2.1, .int 0])), (q_5, .inr (9, [.ref hq_7, .int (-1)])), (hq_7, .inl ((g.2.2.1 0), 24, .inl hf_8))]) (As := []) (rest := [.ref q_10, .ref h0]) K G (m_X9_init l hl0 g q_10 ) hP hD hS hA hl kw_364 kw_365 kw_366 kw_215 rfl ydX9_init [5] [0, 1, 2, 3, 4] rfl rfl rfl rfl (by decide) rfl rfl (Nat.le_of_ble_eq_true rfl) dX8_init_44 ⟨Nat.le_of_ble_eq_true rfl, Nat.le_of_ble_eq_true rfl⟩ ⟨Nat.le_of_ble_eq_true rfl, Nat.le_of_ble_eq_true rfl⟩ (fun _ _ _ _ _ _ hX _ _ _ _ _ _ => hX.elim) (fun v w1 H locs hQ hP hD hS => ?_)
  obtain ⟨rfl, rfl⟩ := hQ
  have hP : va_P g.1 vwCl [(h0, .inr (10, [.ref q_1, .ref q_3, .ref q_5, .null, .int 0, .int 0, .int 0, .int 0, .int 0, .int 0, .int 0, .int 0, .int 0, .int 0, .int 0, .int 0, .int 0])), (q_1, .inr (3, [.int x0, .int x1, .int 0, .int 0, .int 0])), (q_3, .inr (2, [.int 0, .ref g.2.1, .int 0])), (q_5, .inr (9, [.ref hq_7, .int (-1)])), (hq_7, .inl ((g.2.2.1 0), 24, .inl hf_8)), (q_10, .inr (11, [.int 0, .int 0, .int 0, .int 0]))] H := hP
  have hD : va_D A [(h0, .inr (10, [.ref q_1, .ref q_3, .ref q_5, .null, .int 0, .int 0, .int 0, .int 0, .int 0, .int 0, .int 0, .int 0, .int 0, .int 0, .int 0, .int 0, .int 0])), (q_1, .inr (3, [.int x0, .int x1, .int 0, .int 0, .int 0])), (q_3, .inr (2, [.int 0, .ref g.2.1, .int 0])), (q_5, .inr (9, [.ref hq_7, .int (-1)])), (hq_7, .inl ((g.2.2.1 0), 24, .inl hf_8)), (q_10, .inr (11, [.int 0, .int 0, .int 0, .int 0]))] := hD
  refine W.widen (k := 5) (n := 38) (by decide) (by decide) ?_
  refine W.eq (g2 := F0 m 47 ls [.ref q_10, .ref h0]) rfl ?_
  refine va_putF (D := g.1) (ci := 10) (v := .ref q_10) (ty := (.object "GalleonWave$Spots")) (C := RX8) (T := TX8) (N := 17) hx hb G.ws inX8 tyX8 tyX8_ok nmX8 hown G.K hP hD hS 0 rfl rfl 3 (by decide) (G.w kw_367) (fun _ h9 => h9) rfl hin rfl (by decide +kernel) rfl rfl (Nat.le_of_ble_eq_true rfl) dX8_init_47 (fun H locs hP hD hS => ?_)
  have hP : va_P g.1 vwCl [(h0, .inr (10, [.ref q_1, .ref q_3, .ref q_5, .ref q_10, .int 0, .int 0, .int 0, .int 0, .int 0, .int 0, .int 0, .int 0, .int 0, .int 0, .int 0, .int 0, .int 0])), (q_1, .inr (3, [.int x0, .int x1, .int 0, .int 0, .int 0])), (q_3, .inr (2, [.int 0, .ref g.2.1, .int 0])), (q_5, .inr (9, [.ref hq_7, .int (-1)])), (hq_7, .inl ((g.2.2.1 0), 24, .inl hf_8)), (q_10, .inr (11, [.int 0, .int 0, .int 0, .int 0]))] H := hP
  have hD : va_D A [(h0, .inr (10, [.ref q_1, .ref q_3, .ref q_5, .ref q_10, .int 0, .int 0, .int 0, .int 0, .int 0, .int 0, .int 0, .int 0, .int 0, .int 0, .int 0, .int 0, .int 0])), (q_1, .inr (3, [.int x0, .int x1, .int 0, .int 0, .int 0])), (q_3, .inr (2, [.int 0, .ref g.2.1, .int 0])), (q_5, .inr (9, [.ref hq_7, .int (-1)])), (hq_7, .inl ((g.2.2.1 0), 24, .inl hf_8)), (q_10, .inr (11, [.int 0, .int 0, .int 0, .int 0]))] := hD
  refine lv_aload_n hx hb dX8_init_50 rfl (lv_at hl 0 rfl) ?_
  refine lv_iload_n hx hb dX8_init_51 rfl (lv_at hl 1 rfl) ?_
  refine va_put (D := g.1) (ci := 10) (v := .int x0) (ty := .int) (C := RX8) (T := TX8) (N := 17) hx hb G.ws inX8 tyX8 tyX8_ok nmX8 hown G.K hP hD hS 0 rfl rfl 4 (by decide) (G.w kw_60) (fun _ h9 => h9) (by decide +kernel) (by decide +kernel) rfl rfl (Nat.le_of_ble_eq_true rfl) dX8_init_52 (fun H locs hP hD hS => ?_)
  have hP : va_P g.1 vwCl [(h0, .inr (10, [.ref q_1, .ref q_3, .ref q_5, .ref q_10, .int x0, .int 0, .int 0, .int 0, .int 0, .int 0, .int 0, .int 0, .int 0, .int 0, .int 0, .int 0, .int 0])), (q_1, .inr (3, [.int x0, .int x1, .int 0, .int 0, .int 0])), (q_3, .inr (2, [.int 0, .ref g.2.1, .int 0])), (q_5, .inr (9, [.ref hq_7, .int (-1)])), (hq_7, .inl ((g.2.2.1 0), 24, .inl hf_8)), (q_10, .inr (11, [.int 0, .int 0, .int 0, .int 0]))] H := hP
  have hD : va_D A [(h0, .inr (10, [.ref q_1, .ref q_3, .ref q_5, .ref q_10, .int x0, .int 0, .int 0, .int 0, .int 0, .int 0, .int 0, .int 0, .int 0, .int 0, .int 0, .int 0, .int 0])), (q_1, .inr (3, [.int x0, .int x1, .int 0, .int 0, .int 0])), (q_3, .inr (2, [.int 0, .ref g.2.1, .int 0])), (q_5, .inr (9, [.ref hq_7, .int (-1)])), (hq_7, .inl ((g.2.2.1 0), 24, .inl hf_8)), (q_10, .inr (11, [.int 0, .int 0, .int 0, .int 0]))] := hD
  refine lv_aload_n hx hb dX8_init_55 rfl (lv_at hl 0 rfl) ?_
  refine lv_iload_n hx hb dX8_init_56 rfl (lv_at hl 2 rfl) ?_
  refine va_put (D := g.1) (ci := 10) (v := .int x1) (ty := .int) (C := RX8) (T := TX8) (N := 17) hx hb G.ws inX8 tyX8 tyX8_ok nmX8 hown G.K hP hD hS 0 rfl rfl 5 (by decide) (G.w kw_65) (fun _ h9 => h9) (by decide +kernel) (by decide +kernel) rfl rfl (Nat.le_of_ble_eq_true rfl) dX8_init_57 (fun H locs hP hD hS => ?_)
  have hP : va_P g.1 vwCl [(h0, .inr (10, [.ref q_1, .ref q_3, .ref q_5, .ref q_10, .int x0, .int x1, .int 0, .int 0, .int 0, .int 0, .int 0, .int 0, .int 0, .int 0, .int 0, .int 0, .int 0])), (q_1, .inr (3, [.int x0, .int x1, .int 0, .int 0, .int 0])), (q_3, .inr (2, [.int 0, .ref g.2.1, .int 0])), (q_5, .inr (9, [.ref hq_7, .int (-1)])), (hq_7, .inl ((g.2.2.1 0), 24, .inl hf_8)), (q_10, .inr (11, [.int 0, .int 0, .int 0, .int 0]))] H := hP
  have hD : va_D A [(h0, .inr (10, [.ref q_1, .ref q_3, .ref q_5, .ref q_10, .int x0, .int x1, .int 0, .int 0, .int 0, .int 0, .int 0, .int 0, .int 0, .int 0, .int 0, .int 0, .int 0])), (q_1, .inr (3, [.int x0, .int x1, .int 0, .int 0, .int 0])), (q_3, .inr (2, [.int 0, .ref g.2.1, .int 0])), (q_5, .inr (9, [.ref hq_7, .int (-1)])), (hq_7, .inl ((g.2.2.1 0), 24, .inl hf_8)), (q_10, .inr (11, [.int 0, .int 0, .int 0, .int 0]))] := hD
  refine lv_aload_n hx hb dX8_init_60 rfl (lv_at hl 0 rfl) ?_
  refine lv_iconst (v := (-1)) hx hb dX8_init_61 (by decide) ?_
  refine va_put (D := g.1) (ci := 10) (v := .int (-1)) (ty := .int) (C := RX8) (T := TX8) (N := 17) hx hb G.ws inX8 tyX8 tyX8_ok nmX8 hown G.K hP hD hS 0 rfl rfl 10 (by decide) (G.w kw_48) (fun _ h9 => h9) (by decide +kernel) (by decide +kernel) rfl rfl (Nat.le_of_ble_eq_true rfl) dX8_init_62 (fun H locs hP hD hS => ?_)
  have hP : va_P g.1 vwCl [(h0, .inr (10, [.ref q_1, .ref q_3, .ref q_5, .ref q_10, .int x0, .int x1, .int 0, .int 0, .int 0, .int 0, .int (-1), .int 0, .int 0, .int 0, .int 0, .int 0, .int 0])), (q_1, .inr (3, [.int x0, .int x1, .int 0, .int 0, .int 0])), (q_3, .inr (2, [.int 0, .ref g.2.1, .int 0])), (q_5, .inr (9, [.ref hq_7, .int (-1)])), (hq_7, .inl ((g.2.2.1 0), 24, .inl hf_8)), (q_10, .inr (11, [.int 0, .int 0, .int 0, .int 0]))] H := hP
  have hD : va_D A [(h0, .inr (10, [.ref q_1, .ref q_3, .ref q_5, .ref q_10, .int x0, .int x1, .int 0, .int 0, .int 0, .int 0, .int (-1), .int 0, .int 0, .int 0, .int 0, .int 0, .int 0])), (q_1, .inr (3, [.int x0, .int x1, .int 0, .int 0, .int 0])), (q_3, .inr (2, [.int 0, .ref g.2.1, .int 0])), (q_5, .inr (9, [.ref hq_7, .int (-1)])), (hq_7, .inl ((g.2.2.1 0), 24, .inl hf_8)), (q_10, .inr (11, [.int 0, .int 0, .int 0, .int 0]))] := hD
  refine lv_aload_n hx hb dX8_init_65 rfl (lv_at hl 0 rfl) ?_
  refine lv_iconst (v := (-1)) hx hb dX8_init_66 (by decide) ?_
  refine va_put (D := g.1) (ci := 10) (v := .int (-1)) (ty := .int) (C := RX8) (T := TX8) (N := 17) hx hb G.ws inX8 tyX8 tyX8_ok nmX8 hown G.K hP hD hS 0 rfl rfl 14 (by decide) (G.w kw_368) (fun _ h9 => h9) (by decide +kernel) (by decide +kernel) rfl rfl (Nat.le_of_ble_eq_true rfl) dX8_init_67 (fun H locs hP hD hS => ?_)
  have hP : va_P g.1 vwCl [(h0, .inr (10, [.ref q_1, .ref q_3, .ref q_5, .ref q_10, .int x0, .int x1, .int 0, .int 0, .int 0, .int 0, .int (-1), .int 0, .int 0, .int 0, .int (-1), .int 0, .int 0])), (q_1, .inr (3, [.int x0, .int x1, .int 0, .int 0, .int 0])), (q_3, .inr (2, [.int 0, .ref g.2.1, .int 0])), (q_5, .inr (9, [.ref hq_7, .int (-1)])), (hq_7, .inl ((g.2.2.1 0), 24, .inl hf_8)), (q_10, .inr (11, [.int 0, .int 0, .int 0, .int 0]))] H := hP
  have hD : va_D A [(h0, .inr (10, [.ref q_1, .ref q_3, .ref q_5, .ref q_10, .int x0, .int x1, .int 0, .int 0, .int 0, .int 0, .int (-1), .int 0, .int 0, .int 0, .int (-1), .int 0, .int 0])), (q_1, .inr (3, [.int x0, .int x1, .int 0, .int 0, .int 0])), (q_3, .inr (2, [.int 0, .ref g.2.1, .int 0])), (q_5, .inr (9, [.ref hq_7, .int (-1)])), (hq_7, .inl ((g.2.2.1 0), 24, .inl hf_8)), (q_10, .inr (11, [.int 0, .int 0, .int 0, .int 0]))] := hD
  exact kretV K hP hD hS [0, 1, 2, 3, 4, 5] [(h0, .inr (10, [.ref q_1, .ref q_3, .ref q_5, .ref q_10, .int x0, .int x1, .int 0, .int 0, .int 0, .int 0, .int (-1), .int 0, .int 0, .int 0, .int (-1), .int 0, .int 0])), (q_1, .inr (3, [.int x0, .int x1, .int 0, .int 0, .int 0])), (q_3, .inr (2, [.int 0, .ref g.2.1, .int 0])), (q_5, .inr (9, [.ref hq_7, .int (-1)])), (hq_7, .inl ((g.2.2.1 0), 24, .inl hf_8)), (q_10, .inr (11, [.int 0, .int 0, .int 0, .int 0]))] rfl rfl (⟨q_1, q_3, q_5, q_10, hq_7, hf_8, rfl, rfl, (by exact f_9)⟩) (by decide) (by decide) dX8_init_70

set_option maxHeartbeats 4000000 in
set_option maxRecDepth 100000 in
theorem m_X3_init (l : Launch) (hl0 : l.stackTraces = false) (g : kG) (h0 : Nat)  : kc l g yX3_init prog_5_method_1_code 1 none 1 20 5 1000 [.ref h0] [(h0, .inr (6, [.null, .null, .null, .null, .null, .int 0, .int 0]))] (fun v w => (∃ b6 : Nat, ∃ b7 : Nat, ∃ b8 : Nat, ∃ b9 : Nat, ∃ b10 : Nat, v = none ∧ w = [(h0, .inr (6, [.ref b6, .ref b7, .ref b8, .ref b9, .ref b10, .int 0, .int 0])), (b6, .inl ((g.2.2.1 0), 200, .inl (fun _ => 0))), (b7, .inl ((g.2.2.1 0), 200, .inl (fun _ => 0))), (b8, .inl ((g.2.2.1 0), 200, .inl (fun _ => 0))), (b9, .inl ((g.2.2.1 0), 200, .inl (fun _ => 0))), (b10, .inl ((g.2.2.1 0), 200, .inl (fun _ => 0)))])) (fun _ _ => False) := by
  refine kbody (by decide) (Nat.le_of_ble_eq_true rfl) ?_
  intro p e s m args below meth c A H K ht G hP hD hA hS ls hl
  have K : KB p s m meth c RX3 "<init>" prog_5_method_1_code 1 none := K
  obtain ⟨hx, hb, hml, hown, hlocks, hr, hin⟩ := id K
  have hl : lv_has ls 1 [(0, .ref h0)] := hl
  refine lv_aload_n hx hb dX3_init_0 rfl (lv_at hl 0 rfl) ?_
  refine W.objInit hx hb hown (G.w kw_369) (G.w kw_288) (G.w kw_289) rfl (by rw [hml]; exact hl.1) rfl dX3_init_1 (Nat.le_of_ble_eq_true rfl) (Nat.le_of_ble_eq_true rfl) ?_
  refine W.eq (g2 := F0 m 4 ls []) rfl ?_
  refine lv_aload_n hx hb dX3_init_4 rfl (lv_at hl 0 rfl) ?_
  refine lv_sipush (v := 200) hx hb dX3_init_5 (by decide) ?_
  refine kNewa0 hx hb (G.w kw_336) G hP hD hS hA (n := 200) (N := 200) (by decide) (by decide) (by decide) (by decide) (by decide) dX3_init_8 (fun q_1 H hP hD hS => ?_)
  have hP : va_P g.1 vwCl [(h0, .inr (6, [.null, .null, .null, .null, .null, .int 0, .int 0])), (q_1, .inl ((g.2.2.1 0), 200, .inl (fun _ => 0)))] H := hP
  have hD : va_D A [(h0, .inr (6, [.null, .null, .null, .null, .null, .int 0, .int 0])), (q_1, .inl ((g.2.2.1 0), 200, .inl (fun _ => 0)))] := hD
  refine W.widen (k := 1) (n := 200) (by decide) (by decide) ?_
  refine va_putF (D := g.1) (ci := 6) (v := .ref q_1) (ty := (.array .int)) (C := RX3) (T := TX3) (N := 7) hx hb G.ws inX3 tyX3 tyX3_ok nmX3 hown G.K hP hD hS 0 rfl rfl 0 (by decide) (G.w kw_194) (fun _ h9 => h9) rfl hin rfl (by decide +kernel) rfl rfl (Nat.le_of_ble_eq_true rfl) dX3_init_10 (fun H locs hP hD hS => ?_)
  have hP : va_P g.1 vwCl [(h0, .inr (6, [.ref q_1, .null, .null, .null, .null, .int 0, .int 0])), (q_1, .inl ((g.2.2.1 0), 200, .inl (fun _ => 0)))] H := hP
  have hD : va_D A [(h0, .inr (6, [.ref q_1, .null, .null, .null, .null, .int 0, .int 0])), (q_1, .inl ((g.2.2.1 0), 200, .inl (fun _ => 0)))] := hD
  refine lv_aload_n hx hb dX3_init_13 rfl (lv_at hl 0 rfl) ?_
  refine lv_sipush (v := 200) hx hb dX3_init_14 (by decide) ?_
  refine kNewa0 hx hb (G.w kw_336) G hP hD hS hA (n := 200) (N := 200) (by decide) (by decide) (by decide) (by decide) (by decide) dX3_init_17 (fun q_2 H hP hD hS => ?_)
  have hP : va_P g.1 vwCl [(h0, .inr (6, [.ref q_1, .null, .null, .null, .null, .int 0, .int 0])), (q_1, .inl ((g.2.2.1 0), 200, .inl (fun _ => 0))), (q_2, .inl ((g.2.2.1 0), 200, .inl (fun _ => 0)))] H := hP
  have hD : va_D A [(h0, .inr (6, [.ref q_1, .null, .null, .null, .null, .int 0, .int 0])), (q_1, .inl ((g.2.2.1 0), 200, .inl (fun _ => 0))), (q_2, .inl ((g.2.2.1 0), 200, .inl (fun _ => 0)))] := hD
  refine W.widen (k := 2) (n := 400) (by decide) (by decide) ?_
  refine va_putF (D := g.1) (ci := 6) (v := .ref q_2) (ty := (.array .int)) (C := RX3) (T := TX3) (N := 7) hx hb G.ws inX3 tyX3 tyX3_ok nmX3 hown G.K hP hD hS 0 rfl rfl 1 (by decide) (G.w kw_195) (fun _ h9 => h9) rfl hin rfl (by decide +kernel) rfl rfl (Nat.le_of_ble_eq_true rfl) dX3_init_19 (fun H locs hP hD hS => ?_)
  have hP : va_P g.1 vwCl [(h0, .inr (6, [.ref q_1, .ref q_2, .null, .null, .null, .int 0, .int 0])), (q_1, .inl ((g.2.2.1 0), 200, .inl (fun _ => 0))), (q_2, .inl ((g.2.2.1 0), 200, .inl (fun _ => 0)))] H := hP
  have hD : va_D A [(h0, .inr (6, [.ref q_1, .ref q_2, .null, .null, .null, .int 0, .int 0])), (q_1, .inl ((g.2.2.1 0), 200, .inl (fun _ => 0))), (q_2, .inl ((g.2.2.1 0), 200, .inl (fun _ => 0)))] := hD
  refine lv_aload_n hx hb dX3_init_22 rfl (lv_at hl 0 rfl) ?_
  refine lv_sipush (v := 200) hx hb dX3_init_23 (by decide) ?_
  refine kNewa0 hx hb (G.w kw_336) G hP hD hS hA (n := 200) (N := 200) (by decide) (by decide) (by decide) (by decide) (by decide) dX3_init_26 (fun q_3 H hP hD hS => ?_)
  have hP : va_P g.1 vwCl [(h0, .inr (6, [.ref q_1, .ref q_2, .null, .null, .null, .int 0, .int 0])), (q_1, .inl ((g.2.2.1 0), 200, .inl (fun _ => 0))), (q_2, .inl ((g.2.2.1 0), 200, .inl (fun _ => 0))), (q_3, .inl ((g.2.2.1 0), 200, .inl (fun _ => 0)))] H := hP
  have hD : va_D A [(h0, .inr (6, [.ref q_1, .ref q_2, .null, .null, .null, .int 0, .int 0])), (q_1, .inl ((g.2.2.1 0), 200, .inl (fun _ => 0))), (q_2, .inl ((g.2.2.1 0), 200, .inl (fun _ => 0))), (q_3, .inl ((g.2.2.1 0), 200, .inl (fun _ => 0)))] := hD
  refine W.widen (k := 3) (n := 600) (by decide) (by decide) ?_
  refine va_putF (D := g.1) (ci := 6) (v := .ref q_3) (ty := (.array .int)) (C := RX3) (T := TX3) (N := 7) hx hb G.ws inX3 tyX3 tyX3_ok nmX3 hown G.K hP hD hS 0 rfl rfl 2 (by decide) (G.w kw_196) (fun _ h9 => h9) rfl hin rfl (by decide +kernel) rfl rfl (Nat.le_of_ble_eq_true rfl) dX3_init_28 (fun H locs hP hD hS => ?_)
  have hP : va_P g.1 vwCl [(h0, .inr (6, [.ref q_1, .ref q_2, .ref q_3, .null, .null, .int 0, .int 0])), (q_1, .inl ((g.2.2.1 0), 200, .inl (fun _ => 0))), (q_2, .inl ((g.2.2.1 0), 200, .inl (fun _ => 0))), (q_3, .inl ((g.2.2.1 0), 200, .inl (fun _ => 0)))] H := hP
  have hD : va_D A [(h0, .inr (6, [.ref q_1, .ref q_2, .ref q_3, .null, .null, .int 0, .int 0])), (q_1, .inl ((g.2.2.1 0), 200, .inl (fun _ => 0))), (q_2, .inl ((g.2.2.1 0), 200, .inl (fun _ => 0))), (q_3, .inl ((g.2.2.1 0), 200, .inl (fun _ => 0)))] := hD
  refine lv_aload_n hx hb dX3_init_31 rfl (lv_at hl 0 rfl) ?_
  refine lv_sipush (v := 200) hx hb dX3_init_32 (by decide) ?_
  refine kNewa0 hx hb (G.w kw_336) G hP hD hS hA (n := 200) (N := 200) (by decide) (by decide) (by decide) (by decide) (by decide) dX3_init_35 (fun q_4 H hP hD hS => ?_)
  have hP : va_P g.1 vwCl [(h0, .inr (6, [.ref q_1, .ref q_2, .ref q_3, .null, .null, .int 0, .int 0])), (q_1, .inl ((g.2.2.1 0), 200, .inl (fun _ => 0))), (q_2, .inl ((g.2.2.1 0), 200, .inl (fun _ => 0))), (q_3, .inl ((g.2.2.1 0), 200, .inl (fun _ => 0))), (q_4, .inl ((g.2.2.1 0), 200, .inl (fun _ => 0)))] H := hP
  have hD : va_D A [(h0, .inr (6, [.ref q_1, .ref q_2, .ref q_3, .null, .null, .int 0, .int 0])), (q_1, .inl ((g.2.2.1 0), 200, .inl (fun _ => 0))), (q_2, .inl ((g.2.2.1 0), 200, .inl (fun _ => 0))), (q_3, .inl ((g.2.2.1 0), 200, .inl (fun _ => 0))), (q_4, .inl ((g.2.2.1 0), 200, .inl (fun _ => 0)))] := hD
  refine W.widen (k := 4) (n := 800) (by decide) (by decide) ?_
  refine va_putF (D := g.1) (ci := 6) (v := .ref q_4) (ty := (.array .int)) (C := RX3) (T := TX3) (N := 7) hx hb G.ws inX3 tyX3 tyX3_ok nmX3 hown G.K hP hD hS 0 rfl rfl 3 (by decide) (G.w kw_197) (fun _ h9 => h9) rfl hin rfl (by decide +kernel) rfl rfl (Nat.le_of_ble_eq_true rfl) dX3_init_37 (fun H locs hP hD hS => ?_)
  have hP : va_P g.1 vwCl [(h0, .inr (6, [.ref q_1, .ref q_2, .ref q_3, .ref q_4, .null, .int 0, .int 0])), (q_1, .inl ((g.2.2.1 0), 200, .inl (fun _ => 0))), (q_2, .inl ((g.2.2.1 0), 200, .inl (fun _ => 0))), (q_3, .inl ((g.2.2.1 0), 200, .inl (fun _ => 0))), (q_4, .inl ((g.2.2.1 0), 200, .inl (fun _ => 0)))] H := hP
  have hD : va_D A [(h0, .inr (6, [.ref q_1, .ref q_2, .ref q_3, .ref q_4, .null, .int 0, .int 0])), (q_1, .inl ((g.2.2.1 0), 200, .inl (fun _ => 0))), (q_2, .inl ((g.2.2.1 0), 200, .inl (fun _ => 0))), (q_3, .inl ((g.2.2.1 0), 200, .inl (fun _ => 0))), (q_4, .inl ((g.2.2.1 0), 200, .inl (fun _ => 0)))] := hD
  refine lv_aload_n hx hb dX3_init_40 rfl (lv_at hl 0 rfl) ?_
  refine lv_sipush (v := 200) hx hb dX3_init_41 (by decide) ?_
  refine kNewa0 hx hb (G.w kw_336) G hP hD hS hA (n := 200) (N := 200) (by decide) (by decide) (by decide) (by decide) (by decide) dX3_init_44 (fun q_5 H hP hD hS => ?_)
  have hP : va_P g.1 vwCl [(h0, .inr (6, [.ref q_1, .ref q_2, .ref q_3, .ref q_4, .null, .int 0, .int 0])), (q_1, .inl ((g.2.2.1 0), 200, .inl (fun _ => 0))), (q_2, .inl ((g.2.2.1 0), 200, .inl (fun _ => 0))), (q_3, .inl ((g.2.2.1 0), 200, .inl (fun _ => 0))), (q_4, .inl ((g.2.2.1 0), 200, .inl (fun _ => 0))), (q_5, .inl ((g.2.2.1 0), 200, .inl (fun _ => 0)))] H := hP
  have hD : va_D A [(h0, .inr (6, [.ref q_1, .ref q_2, .ref q_3, .ref q_4, .null, .int 0, .int 0])), (q_1, .inl ((g.2.2.1 0), 200, .inl (fun _ => 0))), (q_2, .inl ((g.2.2.1 0), 200, .inl (fun _ => 0))), (q_3, .inl ((g.2.2.1 0), 200, .inl (fun _ => 0))), (q_4, .inl ((g.2.2.1 0), 200, .inl (fun _ => 0))), (q_5, .inl ((g.2.2.1 0), 200, .inl (fun _ => 0)))] := hD
  refine W.widen (k := 5) (n := 1000) (by decide) (by decide) ?_
  refine va_putF (D := g.1) (ci := 6) (v := .ref q_5) (ty := (.array .int)) (C := RX3) (T := TX3) (N := 7) hx hb G.ws inX3 tyX3 tyX3_ok nmX3 hown G.K hP hD hS 0 rfl rfl 4 (by decide) (G.w kw_198) (fun _ h9 => h9) rfl hin rfl (by decide +kernel) rfl rfl (Nat.le_of_ble_eq_true rfl) dX3_init_46 (fun H locs hP hD hS => ?_)
  have hP : va_P g.1 vwCl [(h0, .inr (6, [.ref q_1, .ref q_2, .ref q_3, .ref q_4, .ref q_5, .int 0, .int 0])), (q_1, .inl ((g.2.2.1 0), 200, .inl (fun _ => 0))), (q_2, .inl ((g.2.2.1 0), 200, .inl (fun _ => 0))), (q_3, .inl ((g.2.2.1 0), 200, .inl (fun _ => 0))), (q_4, .inl ((g.2.2.1 0), 200, .inl (fun _ => 0))), (q_5, .inl ((g.2.2.1 0), 200, .inl (fun _ => 0)))] H := hP
  have hD : va_D A [(h0, .inr (6, [.ref q_1, .ref q_2, .ref q_3, .ref q_4, .ref q_5, .int 0, .int 0])), (q_1, .inl ((g.2.2.1 0), 200, .inl (fun _ => 0))), (q_2, .inl ((g.2.2.1 0), 200, .inl (fun _ => 0))), (q_3, .inl ((g.2.2.1 0), 200, .inl (fun _ => 0))), (q_4, .inl ((g.2.2.1 0), 200, .inl (fun _ => 0))), (q_5, .inl ((g.2.2.1 0), 200, .inl (fun _ => 0)))] := hD
  exact kretV K hP hD hS [0, 1, 2, 3, 4, 5] [(h0, .inr (6, [.ref q_1, .ref q_2, .ref q_3, .ref q_4, .ref q_5, .int 0, .int 0])), (q_1, .inl ((g.2.2.1 0), 200, .inl (fun _ => 0))), (q_2, .inl ((g.2.2.1 0), 200, .inl (fun _ => 0))), (q_3, .inl ((g.2.2.1 0), 200, .inl (fun _ => 0))), (q_4, .inl ((g.2.2.1 0), 200, .inl (fun _ => 0))), (q_5, .inl ((g.2.2.1 0), 200, .inl (fun _ => 0)))] rfl rfl (⟨q_1, q_2, q_3, q_4, q_5, rfl, rfl⟩) (by decide) (by decide) dX3_init_49

