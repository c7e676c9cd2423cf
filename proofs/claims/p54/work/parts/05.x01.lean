def r_X8_powerOf (gp : Int32) (x : Int32) : Int32 := (if (x &&& 1) = 0 then 0 else (0 + gp))
set_option maxHeartbeats 4000000 in
set_option maxRecDepth 100000 in
theorem m_X8_powerOf (l : Launch) (hl0 : l.stackTraces = false) (g : kG) (s0 : Nat) (sA : Nat) (sL : Nat) (sP : Nat) (sS : Nat) (ea : Int32) (no : Int32) (fu : Int32) (fo : Int32) (sa : Int32) (po : Int32) (ch : Int32) (rb : Int32) (on : Int32) (li : Int32) (sp : Int32) (hu : Int32) (mu : Int32) (g0 : Nat) (gp : Int32) (gl : Int32) (go : Int32) (gr : Int32) (gq : Nat) (gmc : Int32) (gf : Nat → Option Nat) (x : Int32)  : kc l g yX8_powerOf prog_10_method_3_code 4 (some .int) 3 64 0 0 [.ref s0, .int x] [(s0, .inr (10, [.ref sA, .ref sL, .ref sP, .ref sS, .int ea, .int no, .int fu, .int fo, .int sa, .int po, .int ch, .int rb, .int on, .int li, .int sp, .int hu, .int mu])), (g0, .inr (5, [.int gp, .int gl, .int go, .int gr])), (sL, .inr (2, [.int gmc, .ref gq, .int 1])), (gq, .inl ((g.2.2.1 4), 10, .inr (.inr (.inr (.inr (va_up gf 0 (some g0)))))))] (fun v w => (v = some (.int (r_X8_powerOf gp x)) ∧ w = [(s0, .inr (10, [.ref sA, .ref sL, .ref sP, .ref sS, .int ea, .int no, .int fu, .int fo, .int sa, .int po, .int ch, .int rb, .int on, .int li, .int sp, .int hu, .int mu])), (g0, .inr (5, [.int gp, .int gl, .int go, .int gr])), (sL, .inr (2, [.int gmc, .ref gq, .int 1])), (gq, .inl ((g.2.2.1 4), 10, .inr (.inr (.inr (.inr (va_up gf 0 (some g0)))))))])) (fun _ _ => False) := by
  refine kbody (by decide) (Nat.le_of_ble_eq_true rfl) ?_
  intro p e s m args below meth c A H K ht G hP hD hA hS ls hl
  have K : KB p s m meth c RX8 "powerOf" prog_10_method_3_code 4 (some .int) := K
  obtain ⟨hx, hb, hml, hown, hlocks, hr, hin⟩ := id K
  have hl : lv_has ls 4 [(0, .ref s0), (1, .int x)] := hl
  refine lv_iconst (v := 0) hx hb dX8_powerOf_0 (by decide) ?_
  refine lv_istore_n (lv' := [(2, .int 0), (0, .ref s0), (1, .int x)]) hx hb dX8_powerOf_1 rfl hl (by decide) rfl (fun ls hl => ?_)
  refine lv_iconst (v := 0) hx hb dX8_powerOf_2 (by decide) ?_
  refine lv_istore_n (lv' := [(3, .int 0), (2, .int 0), (0, .ref s0), (1, .int x)]) hx hb dX8_powerOf_3 rfl hl (by decide) rfl (fun ls hl => ?_)
  refine lv_iload_n hx hb dX8_powerOf_4 rfl (lv_at hl 0 rfl) ?_
  refine lv_aload_n hx hb dX8_powerOf_5 rfl (lv_at hl 2 rfl) ?_
  refine va_get (D := g.1) (ci := 10) (v := .ref sL) (C := RX8) (T := TX8) (N := 17) hx hb G.ws inX8 hown G.K hP 0 rfl rfl 1 (by decide) (G.w kw_30) (fun _ h9 => h9) rfl dX8_powerOf_6 ?_
  refine kcallV (wc := [(sL, .inr (2, [.int gmc, .ref gq, .int 1]))]) (wr := [(s0, .inr (10, [.ref sA, .ref sL, .ref sP, .ref sS, .int ea, .int no, .int fu, .int fo, .int sa, .int po, .int ch, .int rb, .int on, .int li, .int sp, .int hu, .int mu])), (g0, .inr (5, [.int gp, .int gl, .int go, .int gr])), (gq, .inl ((g.2.2.1 4), 10, .inr (.inr (.inr (.inr (va_up gf 0 (some g0)))))))]) (As := []) (rest := [.int 0]) K G (m_Jx4a65c_size_8abf5 l hl0 g sL gq gmc 1 ) hP hD hS hA hl kw_31 kw_32 kw_33 kw_34 kw_22 ydJx4a65c_size_8abf5 [2] [0, 1, 3] rfl rfl rfl rfl (by decide) (ci := 2) (q0 := 2) rfl rfl rfl rfl rfl (Nat.le_of_ble_eq_true rfl) dX8_powerOf_9 ⟨Nat.le_of_ble_eq_true rfl, Nat.le_of_ble_eq_true rfl⟩ ⟨Nat.le_of_ble_eq_true rfl, Nat.le_of_ble_eq_true rfl⟩ (fun _ _ _ _ _ _ hX _ _ _ _ _ _ => hX.elim) (fun v w1 H locs hQ hP hD hS => ?_)
  obtain ⟨rfl, rfl⟩ := hQ
  have hP : va_P g.1 vwCl [(s0, .inr (10, [.ref sA, .ref sL, .ref sP, .ref sS, .int ea, .int no, .int fu, .int fo, .int sa, .int po, .int ch, .int rb, .int on, .int li, .int sp, .int hu, .int mu])), (g0, .inr (5, [.int gp, .int gl, .int go, .int gr])), (gq, .inl ((g.2.2.1 4), 10, .inr (.inr (.inr (.inr (va_up gf 0 (some g0))))))), (sL, .inr (2, [.int gmc, .ref gq, .int 1]))] H := hP
  have hD : va_D A [(s0, .inr (10, [.ref sA, .ref sL, .ref sP, .ref sS, .int ea, .int no, .int fu, .int fo, .int sa, .int po, .int ch, .int rb, .int on, .int li, .int sp, .int hu, .int mu])), (g0, .inr (5, [.int gp, .int gl, .int go, .int gr])), (gq, .inl ((g.2.2.1 4), 10, .inr (.inr (.inr (.inr (va_up gf 0 (some g0))))))), (sL, .inr (2, [.int gmc, .ref gq, .int 1]))] := hD
  refine W.widen (k := 0) (n := 0) (by decide) (by decide) ?_
  refine W.eq (g2 := F0 m 12 ls [.int 1, .int 0]) rfl ?_
  refine lv_icmp_ge (tgt := 46) hx hb dX8_powerOf_12 (by decide) (fun c12_2 => absurd c12_2 (by decide)) (fun _ => ?_)
  refine lv_iload_n hx hb dX8_powerOf_15 rfl (lv_at hl 3 rfl) ?_
  refine lv_iconst (v := 1) hx hb dX8_powerOf_16 (by decide) ?_
  refine lv_iload_n hx hb dX8_powerOf_17 rfl (lv_at hl 0 rfl) ?_
  refine lv_ishl hx hb dX8_powerOf_18 ?_
  refine lv_topi (fun y_3 ey_3 => ?_)
  obtain rfl : y_3 = 1 := ey_3.trans (by decide)
  refine lv_iand hx hb dX8_powerOf_19 ?_
  have KJ_7 : ∀ (mv_6 : Int32) (hmv_6 : mv_6 = if (x &&& 1) = 0 then 0 else (0 + gp)) (H : Heap) (locs : List Loc), va_P g.1 vwCl [(s0, .inr (10, [.ref sA, .ref sL, .ref sP, .ref sS, .int ea, .int no, .int fu, .int fo, .int sa, .int po, .int ch, .int rb, .int on, .int li, .int sp, .int hu, .int mu])), (g0, .inr (5, [.int gp, .int gl, .int go, .int gr])), (gq, .inl ((g.2.2.1 4), 10, .inr (.inr (.inr (.inr (va_up gf 0 (some g0))))))), (sL, .inr (2, [.int gmc, .ref gq, .int 1]))] H → va_D A [(s0, .inr (10, [.ref sA, .ref sL, .ref sP, .ref sS, .int ea, .int no, .int fu, .int fo, .int sa, .int po, .int ch, .int rb, .int on, .int li, .int sp, .int hu, .int mu])), (g0, .inr (5, [.int gp, .int gl, .int go, .int gr])), (gq, .inl ((g.2.2.1 4), 10, .inr (.inr (.inr (.inr (va_up gf 0 (some g0))))))), (sL, .inr (2, [.int gmc, .ref gq, .int 1]))] → va_S A s.heap H locs → ∀ ls : Array Slot, lv_has ls 4 [(3, .int 0), (2, .int mv_6), (0, .ref s0), (1, .int x)] → W p l e (kR 3 64 0 0) s m args below meth c H locs 0 0 (vx_MQ below (kQ g (fun v w => (v = some (.int (r_X8_powerOf gp x)) ∧ w = [(s0, .inr (10, [.ref sA, .ref sL, .ref sP, .ref sS, .int ea, .int no, .int fu, .int fo, .int sa, .int po, .int ch, .int rb, .int on, .int li, .int sp, .int hu, .int mu])), (g0, .inr (5, [.int gp, .int gl, .int go, .int gr])), (sL, .inr (2, [.int gmc, .ref gq, .int 1])), (gq, .inl ((g.2.2.1 4), 10, .inr (.inr (.inr (.inr (va_up gf 0 (some g0)))))))])) A) (kX g (fun _ _ => False) A) args s 0 0 A) (F0 m 40 ls []) := by
    intro mv_6 hmv_6 H locs hP hD hS ls hl
    refine lv_iinc (v := 1) (lv' := [(3, .int 1), (2, .int mv_6), (0, .ref s0), (1, .int x)]) hx hb dX8_powerOf_40 hl (k := 0) rfl (by decide) (by decide) rfl (fun ls hl => ?_)
    refine lv_goto (tgt := 4) hx hb dX8_powerOf_43 (by decide) ?_
    refine lv_iload_n hx hb dX8_powerOf_4 rfl (lv_at hl 0 rfl) ?_
    refine lv_aload_n hx hb dX8_powerOf_5 rfl (lv_at hl 2 rfl) ?_
    refine va_get (D := g.1) (ci := 10) (v := .ref sL) (C := RX8) (T := TX8) (N := 17) hx hb G.ws inX8 hown G.K hP 0 rfl rfl 1 (by decide) (G.w kw_30) (fun _ h9 => h9) rfl dX8_powerOf_6 ?_
    refine kcallV (wc := [(sL, .inr (2, [.int gmc, .ref gq, .int 1]))]) (wr := [(s0, .inr (10, [.ref sA, .ref sL, .ref sP, .ref sS, .int ea, .int no, .int fu, .int fo, .int sa, .int po, .int ch, .int rb, .int on, .int li, .int sp, .int hu, .int mu])), (g0, .inr (5, [.int gp, .int gl, .int go, .int gr])), (gq, .inl ((g.2.2.1 4), 10, .inr (.inr (.inr (.inr (va_up gf 0 (some g0)))))))]) (As := []) (rest := [.int 1]) K G (m_Jx4a65c_size_8abf5 l hl0 g sL gq gmc 1 ) hP hD hS hA hl kw_31 kw_32 kw_33 kw_34 kw_22 ydJx4a65c_size_8abf5 [3] [0, 1, 2] rfl rfl rfl rfl (by decide) (ci := 2) (q0 := 3) rfl rfl rfl rfl rfl (Nat.le_of_ble_eq_true rfl) dX8_powerOf_9 ⟨Nat.le_of_ble_eq_true rfl, Nat.le_of_ble_eq_true rfl⟩ ⟨Nat.le_of_ble_eq_true rfl, Nat.le_of_ble_eq_true rfl⟩ (fun _ _ _ _ _ _ hX _ _ _ _ _ _ => hX.elim) (fun v w1 H locs hQ hP hD hS => ?_)
    obtain ⟨rfl, rfl⟩ := hQ
    have hP : va_P g.1 vwCl [(s0, .inr (10, [.ref sA, .ref sL, .ref sP, .ref sS, .int ea, .int no, .int fu, .int fo, .int sa, .int po, .int ch, .int rb, .int on, .int li, .int sp, .int hu, .int mu])), (g0, .inr (5, [.int gp, .int gl, .int go, .int gr])), (gq, .inl ((g.2.2.1 4), 10, .inr (.inr (.inr (.inr (va_up gf 0 (some g0))))))), (sL, .inr (2, [.int gmc, .ref gq, .int 1]))] H := hP
    have hD : va_D A [(s0, .inr (10, [.ref sA, .ref sL, .ref sP, .ref sS, .int ea, .int no, .int fu, .int fo, .int sa, .int po, .int ch, .int rb, .int on, .int li, .int sp, .int hu, .int mu])), (g0, .inr (5, [.int gp, .int gl, .int go, .int gr])), (gq, .inl ((g.2.2.1 4), 10, .inr (.inr (.inr (.inr (va_up gf 0 (some g0))))))), (sL, .inr (2, [.int gmc, .ref gq, .int 1]))] := hD
    refine W.widen (k := 0) (n := 0) (by decide) (by decide) ?_
    refine W.eq (g2 := F0 m 12 ls [.int 1, .int 1]) rfl ?_
    refine lv_icmp_ge (tgt := 46) hx hb dX8_powerOf_12 (by decide) (fun _ => ?_) (fun c12_9 => absurd c12_9 (by decide))
    refine lv_iload_n hx hb dX8_powerOf_46 rfl (lv_at hl 1 rfl) ?_
    exact kretI K hP hD hS [0, 1, 3, 2] [(s0, .inr (10, [.ref sA, .ref sL, .ref sP, .ref sS, .int ea, .int no, .int fu, .int fo, .int sa, .int po, .int ch, .int rb, .int on, .int li, .int sp, .int hu, .int mu])), (g0, .inr (5, [.int gp, .int gl, .int go, .int gr])), (sL, .inr (2, [.int gmc, .ref gq, .int 1])), (gq, .inl ((g.2.2.1 4), 10, .inr (.inr (.inr (.inr (va_up gf 0 (some g0)))))))] rfl rfl ⟨(by first | simp only [r_X8_powerOf, hmv_6] | rfl | simp [r_X8_powerOf, hmv_6]), (by first | simp only [r_X8_powerOf, hmv_6] | rfl | simp [r_X8_powerOf, hmv_6])⟩ (by decide) (by decide) dX8_powerOf_47
  refine lv_if_eq (tgt := 40) hx hb dX8_powerOf_20 (by decide) (fun c20_4 => ?_) (fun c20_4 => ?_)
  · exact KJ_7 0 (by first | exact (if_pos c20_4).symm | simp only [if_pos c20_4]) _ _ (ksubP hP [0, 1, 2, 3] rfl) (hD.sub [0, 1, 2, 3] rfl rfl) hS _ (lv_sub hl [0, 1, 2, 3] rfl)
  · refine lv_iload_n hx hb dX8_powerOf_23 rfl (lv_at hl 1 rfl) ?_
    refine lv_aload_n hx hb dX8_powerOf_24 rfl (lv_at hl 2 rfl) ?_
    refine va_get (D := g.1) (ci := 10) (v := .ref sL) (C := RX8) (T := TX8) (N := 17) hx hb G.ws inX8 hown G.K hP 0 rfl rfl 1 (by decide) (G.w kw_30) (fun _ h9 => h9) rfl dX8_powerOf_25 ?_
    refine lv_iload_n hx hb dX8_powerOf_28 rfl (lv_at hl 0 rfl) ?_
    refine kcallV (wc := [(sL, .inr (2, [.int gmc, .ref gq, .int 1])), (gq, .inl ((g.2.2.1 4), 10, .inr (.inr (.inr (.inr (va_up gf 0 (some g0)))))))]) (wr := [(s0, .inr (10, [.ref sA, .ref sL, .ref sP, .ref sS, .int ea, .int no, .int fu, .int fo, .int sa, .int po, .int ch, .int rb, .int on, .int li, .int sp, .int hu, .int mu])), (g0, .inr (5, [.int gp, .int gl, .int go, .int gr]))]) (As := [.int 0]) (rest := [.int 0]) K G (m_Jx4a65c_get_915e3 l hl0 g sL gq 10 g0 gmc 1 0 (va_up gf 0 (some g0)) (by decide) (by decide) rfl (vp_in_iff.mpr ⟨by decide, by decide⟩)) hP hD hS hA hl kw_35 kw_36 kw_37 kw_38 kw_22 ydJx4a65c_get_915e3 [3, 2] [0, 1] rfl rfl rfl rfl (by decide) (ci := 2) (q0 := 3) rfl rfl rfl rfl rfl (Nat.le_of_ble_eq_true rfl) dX8_powerOf_29 ⟨Nat.le_of_ble_eq_true rfl, Nat.le_of_ble_eq_true rfl⟩ ⟨Nat.le_of_ble_eq_true rfl, Nat.le_of_ble_eq_true rfl⟩ (fun _ _ _ _ _ _ hX _ _ _ _ _ _ => hX.elim) (fun v w1 H locs hQ hP hD hS => ?_)
    obtain ⟨rfl, rfl⟩ := hQ
    have hP : va_P g.1 vwCl [(s0, .inr (10, [.ref sA, .ref sL, .ref sP, .ref sS, .int ea, .int no, .int fu, .int fo, .int sa, .int po, .int ch, .int rb, .int on, .int li, .int sp, .int hu, .int mu])), (g0, .inr (5, [.int gp, .int gl, .int go, .int gr])), (sL, .inr (2, [.int gmc, .ref gq, .int 1])), (gq, .inl ((g.2.2.1 4), 10, .inr (.inr (.inr (.inr (va_up gf 0 (some g0)))))))] H := hP
    have hD : va_D A [(s0, .inr (10, [.ref sA, .ref sL, .ref sP, .ref sS, .int ea, .int no, .int fu, .int fo, .int sa, .int po, .int ch, .int rb, .int on, .int li, .int sp, .int hu, .int mu])), (g0, .inr (5, [.int gp, .int gl, .int go, .int gr])), (sL, .inr (2, [.int gmc, .ref gq, .int 1])), (gq, .inl ((g.2.2.1 4), 10, .inr (.inr (.inr (.inr (va_up gf 0 (some g0)))))))] := hD
    refine W.widen (k := 0) (n := 0) (by decide) (by decide) ?_
    refine W.eq (g2 := F0 m 32 ls [.ref g0, .int 0]) rfl ?_
    refine va_castE hx hb hown (G.w kw_39) (va_recv (q := (RX2, TX2, 4)) (ci := 5) (q0 := 1) G.K hP rfl rfl) dX8_powerOf_32 ?_
    refine va_get (D := g.1) (ci := 5) (v := .int gp) (C := RX2) (T := TX2) (N := 4) hx hb G.ws inX2 hown G.K hP 1 rfl rfl 0 (by decide) (G.w kw_46) (fun _ h9 => h9) rfl dX8_powerOf_35 ?_
    refine lv_iadd hx hb dX8_powerOf_38 ?_
    refine lv_istore_n (lv' := [(2, .int (0 + gp)), (3, .int 0), (0, .ref s0), (1, .int x)]) hx hb dX8_powerOf_39 rfl hl (by decide) rfl (fun ls hl => ?_)
    exact KJ_7 (0 + gp) (by first | exact (if_neg c20_4).symm | simp only [if_neg c20_4]) _ _ (ksubP hP [0, 1, 3, 2] rfl) (hD.sub [0, 1, 3, 2] rfl rfl) hS _ (lv_sub hl [1, 0, 2, 3] rfl)

def r_X8_canSend (po : Int32) (ch : Int32) (rb : Int32) (mu : Int32) (gp : Int32) : Int32 := (if ch = (-1) then 0 else (if po ≤ 0 then 0 else (if (r_X8_powerOf gp rb) ≤ po then 0 else (if mu = 0 then 1 else 0))))
theorem z_r_X8_canSend (po : Int32) (ch : Int32) (rb : Int32) (mu : Int32) (gp : Int32)  : r_X8_canSend po ch rb mu gp = 0 ∨ r_X8_canSend po ch rb mu gp = 1 := by
  unfold r_X8_canSend
  repeat' first | with_reducible refine kz_if ?_ ?_ | with_reducible exact Or.inl rfl | with_reducible exact Or.inr rfl | with_reducible assumption | exact z_r_X11_isNight _ | exact z_r_X11_isTape _ | exact z_r_X2_canRun _ _ _ _ _
set_option maxHeartbeats 4000000 in
set_option maxRecDepth 100000 in
theorem m_X8_canSend (l : Launch) (hl0 : l.stackTraces = false) (g : kG) (s0 : Nat) (sA : Nat) (sL : Nat) (sP : Nat) (sS : Nat) (ea : Int32) (no : Int32) (fu : Int32) (fo : Int32) (sa : Int32) (po : Int32) (ch : Int32) (rb : Int32) (on : Int32) (li : Int32) (sp : Int32) (hu : Int32) (mu : Int32) (g0 : Nat) (gp : Int32) (gl : Int32) (go : Int32) (gr : Int32) (gq : Nat) (gmc : Int32) (gf : Nat → Option Nat)  : kc l g yX8_canSend prog_10_method_4_code 1 (some .boolean) 4 87 0 0 [.ref s0] [(s0, .inr (10, [.ref sA, .ref sL, .ref sP, .ref sS, .int ea, .int no, .int fu, .int fo, .int sa, .int po, .int ch, .int rb, .int on, .int li, .int sp, .int hu, .int mu])), (g0, .inr (5, [.int gp, .int gl, .int go, .int gr])), (sL, .inr (2, [.int gmc, .ref gq, .int 1])), (gq, .inl ((g.2.2.1 4), 10, .inr (.inr (.inr (.inr (va_up gf 0 (some g0)))))))] (fun v w => (v = some (.int (r_X8_canSend po ch rb mu gp)) ∧ w = [(s0, .inr (10, [.ref sA, .ref sL, .ref sP, .ref sS, .int ea, .int no, .int fu, .int fo, .int sa, .int po, .int ch, .int rb, .int on, .int li, .int sp, .int hu, .int mu])), (g0, .inr (5, [.int gp, .int gl, .int go, .int gr])), (sL, .inr (2, [.int gmc, .ref gq, .int 1])), (gq, .inl ((g.2.2.1 4), 10, .inr (.inr (.inr (.inr (va_up gf 0 (some g0)))))))])) (fun _ _ => False) := by
  refine kbody (by decide) (Nat.le_of_ble_eq_true rfl) ?_
  intro p e s m args below meth c A H K ht G hP hD hA hS ls hl
  have K : KB p s m meth c RX8 "canSend" prog_10_method_4_code 1 (some .boolean) := K
  obtain ⟨hx, hb, hml, hown, hlocks, hr, hin⟩ := id K
  have hl : lv_has ls 1 [(0, .ref s0)] := hl
  refine lv_aload_n hx hb dX8_canSend_0 rfl (lv_at hl 0 rfl) ?_
  refine va_get (D := g.1) (ci := 10) (v := .int ch) (C := RX8) (T := TX8) (N := 17) hx hb G.ws inX8 hown G.K hP 0 rfl rfl 10 (by decide) (G.w kw_48) (fun _ h9 => h9) rfl dX8_canSend_1 ?_
  refine lv_iconst (v := (-1)) hx hb dX8_canSend_4 (by decide) ?_
  have KJ_13 : ∀ (mv_12 : Int32) (hmv_12 : mv_12 = if ch = (-1) then 0 else (if po ≤ 0 then 0 else (if (r_X8_powerOf gp rb) ≤ po then 0 else (if mu = 0 then 1 else 0)))) (H : Heap) (locs : List Loc), va_P g.1 vwCl [(s0, .inr (10, [.ref sA, .ref sL, .ref sP, .ref sS, .int ea, .int no, .int fu, .int fo, .int sa, .int po, .int ch, .int rb, .int on, .int li, .int sp, .int hu, .int mu])), (g0, .inr (5, [.int gp, .int gl, .int go, .int gr])), (sL, .inr (2, [.int gmc, .ref gq, .int 1])), (gq, .inl ((g.2.2.1 4), 10, .inr (.inr (.inr (.inr (va_up gf 0 (some g0)))))))] H → va_D A [(s0, .inr (10, [.ref sA, .ref sL, .ref sP, .ref sS, .int ea, .int no, .int fu, .int fo, .int sa, .int po, .int ch, .int rb, .int on, .int li, .int sp, .int hu, .int mu])), (g0, .inr (5, [.int gp, .int gl, .int go, .int gr])), (sL, .inr (2, [.int gmc, .ref gq, .int 1])), (gq, .inl ((g.2.2.1 4), 10, .inr (.inr (.inr (.inr (va_up gf 0 (some g0)))))))] → va_S A s.heap H locs → ∀ ls : Array Slot, lv_has ls 1 [(0, .ref s0)] → W p l e (kR 4 87 0 0) s m args below meth c H locs 0 0 (vx_MQ below (kQ g (fun v w => (v = some (.int (r_X8_canSend po ch rb mu gp)) ∧ w = [(s0, .inr (10, [.ref sA, .ref sL, .ref sP, .ref sS, .int ea, .int no, .int fu, .int fo, .int sa, .int po, .int ch, .int rb, .int on, .int li, .int sp, .int hu, .int mu])), (g0, .inr (5, [.int gp, .int gl, .int go, .int gr])), (sL, .inr (2, [.int gmc, .ref gq, .int 1])), (gq, .inl ((g.2.2.1 4), 10, .inr (.inr (.inr (.inr (va_up gf 0 (some g0)))))))])) A) (kX g (fun _ _ => False) A) args s 0 0 A) (F0 m 42 ls [.int mv_12]) := by
    intro mv_12 hmv_12 H locs hP hD hS ls hl
    exact kretZ K hP hD hS [0, 1, 2, 3] [(s0, .inr (10, [.ref sA, .ref sL, .ref sP, .ref sS, .int ea, .int no, .int fu, .int fo, .int sa, .int po, .int ch, .int rb, .int on, .int li, .int sp, .int hu, .int mu])), (g0, .inr (5, [.int gp, .int gl, .int go, .int gr])), (sL, .inr (2, [.int gmc, .ref gq, .int 1])), (gq, .inl ((g.2.2.1 4), 10, .inr (.inr (.inr (.inr (va_up gf 0 (some g0)))))))] rfl rfl ⟨(by first | simp only [r_X8_canSend, hmv_12] | rfl | simp [r_X8_canSend, hmv_12]), (by first | simp only [r_X8_canSend, hmv_12] | rfl | simp [r_X8_canSend, hmv_12])⟩ (by decide) (by decide) dX8_canSend_42 (kz_nar2 (by (try simp only [hmv_12]); repeat' first | with_reducible refine kz_if ?_ ?_ | with_reducible exact Or.inl rfl | with_reducible exact Or.inr rfl | with_reducible assumption | exact z_r_X11_isNight _ | exact z_r_X11_isTape _ | exact z_r_X2_canRun _ _ _ _ _ | exact z_r_X8_canSend _ _ _ _ _))
  refine lv_icmp_eq (tgt := 41) hx hb dX8_canSend_5 (by decide) (fun c5_1 => ?_) (fun c5_1 => ?_)
  · refine lv_iconst (v := 0) hx hb dX8_canSend_41 (by decide) ?_
    exact KJ_13 0 (by first | exact (if_pos c5_1).symm | simp only [if_pos c5_1]) _ _ (ksubP hP [0, 1, 2, 3] rfl) (hD.sub [0, 1, 2, 3] rfl rfl) hS _ (lv_sub hl [0] rfl)
  · refine lv_aload_n hx hb dX8_canSend_8 rfl (lv_at hl 0 rfl) ?_
    refine va_get (D := g.1) (ci := 10) (v := .int po) (C := RX8) (T := TX8) (N := 17) hx hb G.ws inX8 hown G.K hP 0 rfl rfl 9 (by decide) (G.w kw_49) (fun _ h9 => h9) rfl dX8_canSend_9 ?_
    have KJ_11 : ∀ (mv_10 : Int32) (hmv_10 : mv_10 = if po ≤ 0 then 0 else (if (r_X8_powerOf gp rb) ≤ po then 0 else (if mu = 0 then 1 else 0))) (H : Heap) (locs : List Loc), va_P g.1 vwCl [(s0, .inr (10, [.ref sA, .ref sL, .ref sP, .ref sS, .int ea, .int no, .int fu, .int fo, .int sa, .int po, .int ch, .int rb, .int on, .int li, .int sp, .int hu, .int mu])), (g0, .inr (5, [.int gp, .int gl, .int go, .int gr])), (sL, .inr (2, [.int gmc, .ref gq, .int 1])), (gq, .inl ((g.2.2.1 4), 10, .inr (.inr (.inr (.inr (va_up gf 0 (some g0)))))))] H → va_D A [(s0, .inr (10, [.ref sA, .ref sL, .ref sP, .ref sS, .int ea, .int no, .int fu, .int fo, .int sa, .int po, .int ch, .int rb, .int on, .int li, .int sp, .int hu, .int mu])), (g0, .inr (5, [.int gp, .int gl, .int go, .int gr])), (sL, .inr (2, [.int gmc, .ref gq, .int 1])), (gq, .inl ((g.2.2.1 4), 10, .inr (.inr (.inr (.inr (va_up gf 0 (some g0)))))))] → va_S A s.heap H locs → ∀ ls : Array Slot, lv_has ls 1 [(0, .ref s0)] → W p l e (kR 4 87 0 0) s m args below meth c H locs 0 0 (vx_MQ below (kQ g (fun v w => (v = some (.int (r_X8_canSend po ch rb mu gp)) ∧ w = [(s0, .inr (10, [.ref sA, .ref sL, .ref sP, .ref sS, .int ea, .int no, .int fu, .int fo, .int sa, .int po, .int ch, .int rb, .int on, .int li, .int sp, .int hu, .int mu])), (g0, .inr (5, [.int gp, .int gl, .int go, .int gr])), (sL, .inr (2, [.int gmc, .ref gq, .int 1])), (gq, .inl ((g.2.2.1 4), 10, .inr (.inr (.inr (.inr (va_up gf 0 (some g0)))))))])) A) (kX g (fun _ _ => False) A) args s 0 0 A) (F0 m 42 ls [.int mv_10]) := by
      intro mv_10 hmv_10 H locs hP hD hS ls hl
      exact KJ_13 mv_10 (by first | exact (if_neg c5_1).symm | simp only [hmv_10, if_neg c5_1]) _ _ (ksubP hP [0, 1, 2, 3] rfl) (hD.sub [0, 1, 2, 3] rfl rfl) hS _ (lv_sub hl [0] rfl)
    refine lv_if_le (tgt := 41) hx hb dX8_canSend_12 (by decide) (fun c12_2 => ?_) (fun c12_2 => ?_)
    · refine lv_iconst (v := 0) hx hb dX8_canSend_41 (by decide) ?_
      exact KJ_11 0 (by first | exact (if_pos c12_2).symm | simp only [if_pos c12_2]) _ _ (ksubP hP [0, 1, 2, 3] rfl) (hD.sub [0, 1, 2, 3] rfl rfl) hS _ (lv_sub hl [0] rfl)
    · refine lv_aload_n hx hb dX8_canSend_15 rfl (lv_at hl 0 rfl) ?_
      refine lv_aload_n hx hb dX8_canSend_16 rfl (lv_at hl 0 rfl) ?_
      refine va_get (D := g.1) (ci := 10) (v := .int rb) (C := RX8) (T := TX8) (N := 17) hx hb G.ws inX8 hown G.K hP 0 rfl rfl 11 (by decide) (G.w kw_29) (fun _ h9 => h9) rfl dX8_canSend_17 ?_
      refine kcallV (wc := [(s0, .inr (10, [.ref sA, .ref sL, .ref sP, .ref sS, .int ea, .int no, .int fu, .int fo, .int sa, .int po, .int ch, .int rb, .int on, .int li, .int sp, .int hu, .int mu])), (g0, .inr (5, [.int gp, .int gl, .int go, .int gr])), (sL, .inr (2, [.int gmc, .ref gq, .int 1])), (gq, .inl ((g.2.2.1 4), 10, .inr (.inr (.inr (.inr (va_up gf 0 (some g0)))))))]) (wr := []) (As := [.int rb]) (rest := []) K G (m_X8_powerOf l hl0 g s0 sA sL sP sS ea no fu fo sa po ch rb on li sp hu mu g0 gp gl go gr gq gmc gf rb ) hP hD hS hA hl kw_50 kw_51 kw_53 kw_54 kw_52 ydX8_powerOf [0, 1, 2, 3] [] rfl rfl rfl rfl (by decide) (ci := 10) (q0 := 0) rfl rfl rfl rfl rfl (Nat.le_of_ble_eq_true rfl) dX8_canSend_20 ⟨Nat.le_of_ble_eq_true rfl, Nat.le_of_ble_eq_true rfl⟩ ⟨Nat.le_of_ble_eq_true rfl, Nat.le_of_ble_eq_true rfl⟩ (fun _ _ _ _ _ _ hX _ _ _ _ _ _ => hX.elim) (fun v w1 H locs hQ hP hD hS => ?_)
      obtain ⟨rfl, rfl⟩ := hQ
      have hP : va_P g.1 vwCl [(s0, .inr (10, [.ref sA, .ref sL, .ref sP, .ref sS, .int ea, .int no, .int fu, .int fo, .int sa, .int po, .int ch, .int rb, .int on, .int li, .int sp, .int hu, .int mu])), (g0, .inr (5, [.int gp, .int gl, .int go, .int gr])), (sL, .inr (2, [.int gmc, .ref gq, .int 1])), (gq, .inl ((g.2.2.1 4), 10, .inr (.inr (.inr (.inr (va_up gf 0 (some g0)))))))] H := hP
      have hD : va_D A [(s0, .inr (10, [.ref sA, .ref sL, .ref sP, .ref sS, .int ea, .int no, .int fu, .int fo, .int sa, .int po, .int ch, .int rb, .int on, .int li, .int sp, .int hu, .int mu])), (g0, .inr (5, [.int gp, .int gl, .int go, .int gr])), (sL, .inr (2, [.int gmc, .ref gq, .int 1])), (gq, .inl ((g.2.2.1 4), 10, .inr (.inr (.inr (.inr (va_up gf 0 (some g0)))))))] := hD
      refine W.widen (k := 0) (n := 0) (by decide) (by decide) ?_
      refine W.eq (g2 := F0 m 23 ls [.int (r_X8_powerOf gp rb)]) rfl ?_
      refine lv_aload_n hx hb dX8_canSend_23 rfl (lv_at hl 0 rfl) ?_
      refine va_get (D := g.1) (ci := 10) (v := .int po) (C := RX8) (T := TX8) (N := 17) hx hb G.ws inX8 hown G.K hP 0 rfl rfl 9 (by decide) (G.w kw_49) (fun _ h9 => h9) rfl dX8_canSend_24 ?_
      have KJ_9 : ∀ (mv_8 : Int32) (hmv_8 : mv_8 = if (r_X8_powerOf gp rb) ≤ po then 0 else (if mu = 0 then 1 else 0)) (H : Heap) (locs : List Loc), va_P g.1 vwCl [(s0, .inr (10, [.ref sA, .ref sL, .ref sP, .ref sS, .int ea, .int no, .int fu, .int fo, .int sa, .int po, .int ch, .int rb, .int on, .int li, .int sp, .int hu, .int mu])), (g0, .inr (5, [.int gp, .int gl, .int go, .int gr])), (sL, .inr (2, [.int gmc, .ref gq, .int 1])), (gq, .inl ((g.2.2.1 4), 10, .inr (.inr (.inr (.inr (va_up gf 0 (some g0)))))))] H → va_D A [(s0, .inr (10, [.ref sA, .ref sL, .ref sP, .ref sS, .int ea, .int no, .int fu, .int fo, .int sa, .int po, .int ch, .int rb, .int on, .int li, .int sp, .int hu, .int mu])), (g0, .inr (5, [.int gp, .int gl, .int go, .int gr])), (sL, .inr (2, [.int gmc, .ref gq, .int 1])), (gq, .inl ((g.2.2.1 4), 10, .inr (.inr (.inr (.inr (va_up gf 0 (some g0)))))))] → va_S A s.heap H locs → ∀ ls : Array Slot, lv_has ls 1 [(0, .ref s0)] → W p l e (kR 4 87 0 0) s m args below meth c H locs 0 0 (vx_MQ below (kQ g (fun v w => (v = some (.int (r_X8_canSend po ch rb mu gp)) ∧ w = [(s0, .inr (10, [.ref sA, .ref sL, .ref sP, .ref sS, .int ea, .int no, .int fu, .int fo, .int sa, .int po, .int ch, .int rb, .int on, .int li, .int sp, .int hu, .int mu])), (g0, .inr (5, [.int gp, .int gl, .int go, .int gr])), (sL, .inr (2, [.int gmc, .ref gq, .int 1])), (gq, .inl ((g.2.2.1 4), 10, .inr (.inr (.inr (.inr (va_up gf 0 (some g0)))))))])) A) (kX g (fun _ _ => False) A) args s 0 0 A) (F0 m 42 ls [.int mv_8]) := by
        intro mv_8 hmv_8 H locs hP hD hS ls hl
        exact KJ_11 mv_8 (by first | exact (if_neg c12_2).symm | simp only [hmv_8, if_neg c12_2]) _ _ (ksubP hP [0, 1, 2, 3] rfl) (hD.sub [0, 1, 2, 3] rfl rfl) hS _ (lv_sub hl [0] rfl)
      refine lv_icmp_le (tgt := 41) hx hb dX8_canSend_27 (by decide) (fun c27_4 => ?_) (fun c27_4 => ?_)
      · refine lv_iconst (v := 0) hx hb dX8_canSend_41 (by decide) ?_
        exact KJ_9 0 (by first | exact (if_pos c27_4).symm | simp only [if_pos c27_4]) _ _ (ksubP hP [0, 1, 2, 3] rfl) (hD.sub [0, 1, 2, 3] rfl rfl) hS _ (lv_sub hl [0] rfl)
      · refine lv_aload_n hx hb dX8_canSend_30 rfl (lv_at hl 0 rfl) ?_
        refine va_get (D := g.1) (ci := 10) (v := .int mu) (C := RX8) (T := TX8) (N := 17) hx hb G.ws inX8 hown G.K hP 0 rfl rfl 16 (by decide) (G.w kw_55) (fun _ h9 => h9) rfl dX8_canSend_31 ?_
        have KJ_7 : ∀ (mv_6 : Int32) (hmv_6 : mv_6 = if mu = 0 then 1 else 0) (H : Heap) (locs : List Loc), va_P g.1 vwCl [(s0, .inr (10, [.ref sA, .ref sL, .ref sP, .ref sS, .int ea, .int no, .int fu, .int fo, .int sa, .int po, .int ch, .int rb, .int on, .int li, .int sp, .int hu, .int mu])), (g0, .inr (5, [.int gp, .int gl, .int go, .int gr])), (sL, .inr (2, [.int gmc, .ref gq, .int 1])), (gq, .inl ((g.2.2.1 4), 10, .inr (.inr (.inr (.inr (va_up gf 0 (some g0)))))))] H → va_D A [(s0, .inr (10, [.ref sA, .ref sL, .ref sP, .ref sS, .int ea, .int no, .int fu, .int fo, .int sa, .int po, .int ch, .int rb, .int on, .int li, .int sp, .int hu, .int mu])), (g0, .inr (5, [.int gp, .int gl, .int go, .int gr])), (sL, .inr (2, [.int gmc, .ref gq, .int 1])), (gq, .inl ((g.2.2.1 4), 10, .inr (.inr (.inr (.inr (va_up gf 0 (some g0)))))))] → va_S A s.heap H locs → ∀ ls : Array Slot, lv_has ls 1 [(0, .ref s0)] → W p l e (kR 4 87 0 0) s m args below meth c H locs 0 0 (vx_MQ below (kQ g (fun v w => (v = some (.int (r_X8_canSend po ch rb mu gp)) ∧ w = [(s0, .inr (10, [.ref sA, .ref sL, .ref sP, .ref sS, .int ea, .int no, .int fu, .int fo, .int sa, .int po, .int ch, .int rb, .int on, .int li, .int sp, .int hu, .int mu])), (g0, .inr (5, [.int gp, .int gl, .int go, .int gr])), (sL, .inr (2, [.int gmc, .ref gq, .int 1])), (gq, .inl ((g.2.2.1 4), 10, .inr (.inr (.inr (.inr (va_up gf 0 (some g0)))))))])) A) (kX g (fun _ _ => False) A) args s 0 0 A) (F0 m 42 ls [.int mv_6]) := by
          intro mv_6 hmv_6 H locs hP hD hS ls hl
          exact KJ_9 mv_6 (by first | exact (if_neg c27_4).symm | simp only [hmv_6, if_neg c27_4]) _ _ (ksubP hP [0, 1, 2, 3] rfl) (hD.sub [0, 1, 2, 3] rfl rfl) hS _ (lv_sub hl [0] rfl)
        refine lv_if_ne (tgt := 41) hx hb dX8_canSend_34 (by decide) (fun c34_5 => ?_) (fun c34_5 => ?_)
        · refine lv_iconst (v := 0) hx hb dX8_canSend_41 (by decide) ?_
          exact KJ_7 0 (by first | exact (if_neg c34_5).symm | simp only [if_neg c34_5]) _ _ (ksubP hP [0, 1, 2, 3] rfl) (hD.sub [0, 1, 2, 3] rfl rfl) hS _ (lv_sub hl [0] rfl)
        · refine lv_iconst (v := 1) hx hb dX8_canSend_37 (by decide) ?_
          refine lv_goto (tgt := 42) hx hb dX8_canSend_38 (by decide) ?_
          exact KJ_7 1 (by first | exact (if_pos c34_5).symm | simp only [if_pos c34_5]) _ _ (ksubP hP [0, 1, 2, 3] rfl) (hD.sub [0, 1, 2, 3] rfl rfl) hS _ (lv_sub hl [0] rfl)

def r_X8_output (sa : Int32) (po : Int32) : Int32 := (if 1 < ((po * (10 - sa)) / 10) then ((po * (10 - sa)) / 10) else 1)
set_option maxHeartbeats 4000000 in
set_option maxRecDepth 100000 in
theorem m_X8_output (l : Launch) (hl0 : l.stackTraces = false) (g : kG) (s0 : Nat) (sA : Nat) (sL : Nat) (sP : Nat) (sS : Nat) (ea : Int32) (no : Int32) (fu : Int32) (fo : Int32) (sa : Int32) (po : Int32) (ch : Int32) (rb : Int32) (on : Int32) (li : Int32) (sp : Int32) (hu : Int32) (mu : Int32)  : kc l g yX8_output prog_10_method_5_code 1 (some .int) 1 21 0 0 [.ref s0] [(s0, .inr (10, [.ref sA, .ref sL, .ref sP, .ref sS, .int ea, .int no, .int fu, .int fo, .int sa, .int po, .int ch, .int rb, .int on, .int li, .int sp, .int hu, .int mu]))] (fun v w => (v = some (.int (r_X8_output sa po)) ∧ w = [(s0, .inr (10, [.ref sA, .ref sL, .ref sP, .ref sS, .int ea, .int no, .int fu, .int fo, .int sa, .int po, .int ch, .int rb, .int on, .int li, .int sp, .int hu, .int mu]))])) (fun _ _ => False) := by
  refine kbody (by decide) (Nat.le_of_ble_eq_true rfl) ?_
  intro p e s m args below meth c A H K ht G hP hD hA hS ls hl
  have K : KB p s m meth c RX8 "output" prog_10_method_5_code 1 (some .int) := K
  obtain ⟨hx, hb, hml, hown, hlocks, hr, hin⟩ := id K
  have hl : lv_has ls 1 [(0, .ref s0)] := hl
  refine lv_iconst (v := 1) hx hb dX8_output_0 (by decide) ?_
  refine lv_aload_n hx hb dX8_output_1 rfl (lv_at hl 0 rfl) ?_
  refine va_get (D := g.1) (ci := 10) (v := .int po) (C := RX8) (T := TX8) (N := 17) hx hb G.ws inX8 hown G.K hP 0 rfl rfl 9 (by decide) (G.w kw_49) (fun _ h9 => h9) rfl dX8_output_2 ?_
  refine lv_bipush (v := 10) hx hb dX8_output_5 (by decide) ?_
  refine lv_aload_n hx hb dX8_output_7 rfl (lv_at hl 0 rfl) ?_
  refine va_get (D := g.1) (ci := 10) (v := .int sa) (C := RX8) (T := TX8) (N := 17) hx hb G.ws inX8 hown G.K hP 0 rfl rfl 8 (by decide) (G.w kw_56) (fun _ h9 => h9) rfl dX8_output_8 ?_
  refine lv_isub hx hb dX8_output_11 ?_
  refine lv_imul hx hb dX8_output_12 ?_
  refine lv_bipush (v := 10) hx hb dX8_output_13 (by decide) ?_
  refine lv_idiv hx hb dX8_output_15 (by decide) ?_
  refine va_mmax hx hb (by rw [hml]; exact hl.1.symm) hown (G.w kw_57) (G.w kw_5) (G.w kw_2) (G.w kw_6) (Nat.le_of_ble_eq_true rfl) (Nat.le_of_ble_eq_true rfl) (Nat.le_of_ble_eq_true rfl) (Nat.le_of_ble_eq_true rfl) dX8_output_16 ?_
  exact kretI K hP hD hS [0] [(s0, .inr (10, [.ref sA, .ref sL, .ref sP, .ref sS, .int ea, .int no, .int fu, .int fo, .int sa, .int po, .int ch, .int rb, .int on, .int li, .int sp, .int hu, .int mu]))] rfl rfl ⟨(by first | simp only [r_X8_output] | rfl | simp [r_X8_output]), (by first | simp only [r_X8_output] | rfl | simp [r_X8_output])⟩ (by decide) (by decide) dX8_output_19

def r_X8_feed_s0_7 (fo : Int32) (x : Int32) : Int32 := (if 0 < (fo - x) then (fo - x) else 0)
def r_X8_feed_s0_15 (fo : Int32) (hu : Int32) (x : Int32) : Int32 := (if x ≤ fo then 0 else (hu + 1))
def r_X8_feed_s0_16 (fo : Int32) (hu : Int32) (mu : Int32) (x : Int32) : Int32 := (if (if x ≤ fo then 0 else (hu + 1)) < 24 then mu else 1)
set_option maxHeartbeats 4000000 in
set_option maxRecDepth 100000 in
theorem m_X8_feed (l : Launch) (hl0 : l.stackTraces = false) (g : kG) (s0 : Nat) (sA : Nat) (sL : Nat) (sP : Nat) (sS : Nat) (ea : Int32) (no : Int32) (fu : Int32) (fo : Int32) (sa : Int32) (po : Int32) (ch : Int32) (rb : Int32) (on : Int32) (li : Int32) (sp : Int32) (hu : Int32) (mu : Int32) (x : Int32)  : kc l g yX8_feed prog_10_method_6_code 2 none 1 21 0 0 [.ref s0, .int x] [(s0, .inr (10, [.ref sA, .ref sL, .ref sP, .ref sS, .int ea, .int no, .int fu, .int fo, .int sa, .int po, .int ch, .int rb, .int on, .int li, .int sp, .int hu, .int mu]))] (fun v w => (v = none ∧ w = [(s0, .inr (10, [.ref sA, .ref sL, .ref sP, .ref sS, .int ea, .int no, .int fu, .int (r_X8_feed_s0_7 fo x), .int sa, .int po, .int ch, .int rb, .int on, .int li, .int sp, .int (r_X8_feed_s0_15 fo hu x), .int (r_X8_feed_s0_16 fo hu mu x)]))])) (fun _ _ => False) := by
  refine kbody (by decide) (Nat.le_of_ble_eq_true rfl) ?_
  intro p e s m args below meth c A H K ht G hP hD hA hS ls hl
  have K : KB p s m meth c RX8 "feed" prog_10_method_6_code 2 none := K
  obtain ⟨hx, hb, hml, hown, hlocks, hr, hin⟩ := id K
  have hl : lv_has ls 2 [(0, .ref s0), (1, .int x)] := hl
  refine lv_aload_n hx hb dX8_feed_0 rfl (lv_at hl 0 rfl) ?_
  refine lv_aload_n hx hb dX8_feed_1 rfl (lv_at hl 0 rfl) ?_
  refine va_get (D := g.1) (ci := 10) (v := .int fo) (C := RX8) (T := TX8) (N := 17) hx hb G.ws inX8 hown G.K hP 0 rfl rfl 7 (by decide) (G.w kw_58) (fun _ h9 => h9) rfl dX8_feed_2 ?_
  refine lv_iload_n hx hb dX8_feed_5 rfl (lv_at hl 1 rfl) ?_
  have KJ_3 : ∀ (mv_2 : Int32) (hmv_2 : mv_2 = if x ≤ fo then 0 else (hu + 1)) (H : Heap) (locs : List Loc), va_P g.1 vwCl [(s0, .inr (10, [.ref sA, .ref sL, .ref sP, .ref sS, .int ea, .int no, .int fu, .int fo, .int sa, .int po, .int ch, .int rb, .int on, .int li, .int sp, .int hu, .int mu]))] H → va_D A [(s0, .inr (10, [.ref sA, .ref sL, .ref sP, .ref sS, .int ea, .int no, .int fu, .int fo, .int sa, .int po, .int ch, .int rb, .int on, .int li, .int sp, .int hu, .int mu]))] → va_S A s.heap H locs → ∀ ls : Array Slot, lv_has ls 2 [(0, .ref s0), (1, .int x)] → W p l e (kR 1 21 0 0) s m args below meth c H locs 0 0 (vx_MQ below (kQ g (fun v w => (v = none ∧ w = [(s0, .inr (10, [.ref sA, .ref sL, .ref sP, .ref sS, .int ea, .int no, .int fu, .int (r_X8_feed_s0_7 fo x), .int sa, .int po, .int ch, .int rb, .int on, .int li, .int sp, .int (r_X8_feed_s0_15 fo hu x), .int (r_X8_feed_s0_16 fo hu mu x)]))])) A) (kX g (fun _ _ => False) A) args s 0 0 A) (F0 m 19 ls [.int mv_2, .ref s0]) := by
    intro mv_2 hmv_2 H locs hP hD hS ls hl
    refine va_put (D := g.1) (ci := 10) (v := .int mv_2) (ty := .int) (C := RX8) (T := TX8) (N := 17) hx hb G.ws inX8 tyX8 tyX8_ok nmX8 hown G.K hP hD hS 0 rfl rfl 15 (by decide) (G.w kw_59) (fun _ h9 => h9) (by decide +kernel) (by decide +kernel) rfl rfl (Nat.le_of_ble_eq_true rfl) dX8_feed_19 (fun H locs hP hD hS => ?_)
    have hP : va_P g.1 vwCl [(s0, .inr (10, [.ref sA, .ref sL, .ref sP, .ref sS, .int ea, .int no, .int fu, .int fo, .int sa, .int po, .int ch, .int rb, .int on, .int li, .int sp, .int mv_2, .int mu]))] H := hP
    have hD : va_D A [(s0, .inr (10, [.ref sA, .ref sL, .ref sP, .ref sS, .int ea, .int no, .int fu, .int fo, .int sa, .int po, .int ch, .int rb, .int on, .int li, .int sp, .int mv_2, .int mu]))] := hD
    refine lv_aload_n hx hb dX8_feed_22 rfl (lv_at hl 0 rfl) ?_
    refine lv_iconst (v := 0) hx hb dX8_feed_23 (by decide) ?_
    refine lv_aload_n hx hb dX8_feed_24 rfl (lv_at hl 0 rfl) ?_
    refine va_get (D := g.1) (ci := 10) (v := .int fo) (C := RX8) (T := TX8) (N := 17) hx hb G.ws inX8 hown G.K hP 0 rfl rfl 7 (by decide) (G.w kw_58) (fun _ h9 => h9) rfl dX8_feed_25 ?_
    refine lv_iload_n hx hb dX8_feed_28 rfl (lv_at hl 1 rfl) ?_
    refine lv_isub hx hb dX8_feed_29 ?_
    refine va_mmax hx hb (by rw [hml]; exact hl.1.symm) hown (G.w kw_57) (G.w kw_5) (G.w kw_2) (G.w kw_6) (Nat.le_of_ble_eq_true rfl) (Nat.le_of_ble_eq_true rfl) (Nat.le_of_ble_eq_true rfl) (Nat.le_of_ble_eq_true rfl) dX8_feed_30 ?_
    refine va_put (D := g.1) (ci := 10) (v := .int (if 0 < (fo - x) then (fo - x) else 0)) (ty := .int) (C := RX8) (T := TX8) (N := 17) hx hb G.ws inX8 tyX8 tyX8_ok nmX8 hown G.K hP hD hS 0 rfl rfl 7 (by decide) (G.w kw_58) (fun _ h9 => h9) (by decide +kernel) (by decide +kernel) rfl rfl (Nat.le_of_ble_eq_true rfl) dX8_feed_33 (fun H locs hP hD hS => ?_)
    have hP : va_P g.1 vwCl [(s0, .inr (10, [.ref sA, .ref sL, .ref sP, .ref sS, .int ea, .int no, .int fu, .int (if 0 < (fo - x) then (fo - x) else 0), .int sa, .int po, .int ch, .int rb, .int on, .int li, .int sp, .int mv_2, .int mu]))] H := hP
    have hD : va_D A [(s0, .inr (10, [.ref sA, .ref sL, .ref sP, .ref sS, .int ea, .int no, .int fu, .int (if 0 < (fo - x) then (fo - x) else 0), .int sa, .int po, .int ch, .int rb, .int on, .int li, .int sp, .int mv_2, .int mu]))] := hD
    refine lv_aload_n hx hb dX8_feed_36 rfl (lv_at hl 0 rfl) ?_
    refine va_get (D := g.1) (ci := 10) (v := .int mv_2) (C := RX8) (T := TX8) (N := 17) hx hb G.ws inX8 hown G.K hP 0 rfl rfl 15 (by decide) (G.w kw_59) (fun _ h9 => h9) rfl dX8_feed_37 ?_
    refine lv_bipush (v := 24) hx hb dX8_feed_40 (by decide) ?_
    have KJ_6 : ∀ (mv_5 : Int32) (hmv_5 : mv_5 = if mv_2 < 24 then mu else 1) (H : Heap) (locs : List Loc), va_P g.1 vwCl [(s0, .inr (10, [.ref sA, .ref sL, .ref sP, .ref sS, .int ea, .int no, .int fu, .int (if 0 < (fo - x) then (fo - x) else 0), .int sa, .int po, .int ch, .int rb, .int on, .int li, .int sp, .int mv_2, .int mv_5]))] H → va_D A [(s0, .inr (10, [.ref sA, .ref sL, .ref sP, .ref sS, .int ea, .int no, .int fu, .int (if 0 < (fo - x) then (fo - x) else 0), .int sa, .int po, .int ch, .int rb, .int on, .int li, .int sp, .int mv_2, .int mv_5]))] → va_S A s.heap H locs → ∀ ls : Array Slot, lv_has ls 2 [(0, .ref s0), (1, .int x)] → W p l e (kR 1 21 0 0) s m args below meth c H locs 0 0 (vx_MQ below (kQ g (fun v w => (v = none ∧ w = [(s0, .inr (10, [.ref sA, .ref sL, .ref sP, .ref sS, .int ea, .int no, .int fu, .int (r_X8_feed_s0_7 fo x), .int sa, .int po, .int ch, .int rb, .int on, .int li, .int sp, .int (r_X8_feed_s0_15 fo hu x), .int (r_X8_feed_s0_16 fo hu mu x)]))])) A) (kX g (fun _ _ => False) A) args s 0 0 A) (F0 m 50 ls []) := by
      intro mv_5 hmv_5 H locs hP hD hS ls hl
      exact kretV K hP hD hS [0] [(s0, .inr (10, [.ref sA, .ref sL, .ref sP, .ref sS, .int ea, .int no, .int fu, .int (if 0 < (fo - x) then (fo - x) else 0), .int sa, .int po, .int ch, .int rb, .int on, .int li, .int sp, .int mv_2, .int mv_5]))] rfl rfl ⟨(by first | simp only [r_X8_feed_s0_7, r_X8_feed_s0_15, r_X8_feed_s0_16, hmv_5, hmv_2] | rfl | simp [r_X8_feed_s0_7, r_X8_feed_s0_15, r_X8_feed_s0_16, hmv_5, hmv_2]), (by first | simp only [r_X8_feed_s0_7, r_X8_feed_s0_15, r_X8_feed_s0_16, hmv_5, hmv_2] | rfl | simp [r_X8_feed_s0_7, r_X8_feed_s0_15, r_X8_feed_s0_16, hmv_5, hmv_2])⟩ (by decide) (by decide) dX8_feed_50
    refine lv_icmp_lt (tgt := 50) hx hb dX8_feed_42 (by decide) (fun c42_4 => ?_) (fun c42_4 => ?_)
    · exact KJ_6 mu (by first | exact (if_pos c42_4).symm | simp only [if_pos c42_4]) _ _ (ksubP hP [0] rfl) (hD.sub [0] rfl rfl) hS _ (lv_sub hl [0, 1] rfl)
    · refine lv_aload_n hx hb dX8_feed_45 rfl (lv_at hl 0 rfl) ?_
      refine lv_iconst (v := 1) hx hb dX8_feed_46 (by decide) ?_
      refine va_put (D := g.1) (ci := 10) (v := .int 1) (ty := .boolean) (C := RX8) (T := TX8) (N := 17) hx hb G.ws inX8 tyX8 tyX8_ok nmX8 hown G.K hP hD hS 0 rfl rfl 16 (by decide) (G.w kw_55) (fun _ h9 => h9) (by decide +kernel) (by decide +kernel) rfl rfl (Nat.le_of_ble_eq_true rfl) dX8_feed_47 (fun H locs hP hD hS => ?_)
      have hP : va_P g.1 vwCl [(s0, .inr (10, [.ref sA, .ref sL, .ref sP, .ref sS, .int ea, .int no, .int fu, .int (if 0 < (fo - x) then (fo - x) else 0), .int sa, .int po, .int ch, .int rb, .int on, .int li, .int sp, .int mv_2, .int 1]))] H := hP
      have hD : va_D A [(s0, .inr (10, [.ref sA, .ref sL, .ref sP, .ref sS, .int ea, .int no, .int fu, .int (if 0 < (fo - x) then (fo - x) else 0), .int sa, .int po, .int ch, .int rb, .int on, .int li, .int sp, .int mv_2, .int 1]))] := hD
      exact KJ_6 1 (by first | exact (if_neg c42_4).symm | simp only [if_neg c42_4]) _ _ (ksubP hP [0] rfl) (hD.sub [0] rfl rfl) hS _ (lv_sub hl [0, 1] rfl)
  refine lv_icmp_ge (tgt := 18) hx hb dX8_feed_6 (by decide) (fun c6_1 => ?_) (fun c6_1 => ?_)
  · refine lv_iconst (v := 0) hx hb dX8_feed_18 (by decide) ?_
    exact KJ_3 0 (by first | exact (if_pos c6_1).symm | simp only [if_pos c6_1]) _ _ (ksubP hP [0] rfl) (hD.sub [0] rfl rfl) hS _ (lv_sub hl [0, 1] rfl)
  · refine lv_aload_n hx hb dX8_feed_9 rfl (lv_at hl 0 rfl) ?_
    refine va_get (D := g.1) (ci := 10) (v := .int hu) (C := RX8) (T := TX8) (N := 17) hx hb G.ws inX8 hown G.K hP 0 rfl rfl 15 (by decide) (G.w kw_59) (fun _ h9 => h9) rfl dX8_feed_10 ?_
    refine lv_iconst (v := 1) hx hb dX8_feed_13 (by decide) ?_
    refine lv_iadd hx hb dX8_feed_14 ?_
    refine lv_goto (tgt := 19) hx hb dX8_feed_15 (by decide) ?_
    exact KJ_3 (hu + 1) (by first | exact (if_neg c6_1).symm | simp only [if_neg c6_1]) _ _ (ksubP hP [0] rfl) (hD.sub [0] rfl rfl) hS _ (lv_sub hl [0, 1] rfl)

def r_X8_moveBy_s0_4 (ea : Int32) (x : Int32) : Int32 := (r_X11_within (ea + x))
def r_X8_moveBy_s0_5 (no : Int32) (y : Int32) : Int32 := (r_X11_within (no + y))
set_option maxHeartbeats 4000000 in
set_option maxRecDepth 100000 in
theorem m_X8_moveBy (l : Launch) (hl0 : l.stackTraces = false) (g : kG) (s0 : Nat) (sA : Nat) (sL : Nat) (sP : Nat) (sS : Nat) (ea : Int32) (no : Int32) (fu : Int32) (fo : Int32) (sa : Int32) (po : Int32) (ch : Int32) (rb : Int32) (on : Int32) (li : Int32) (sp : Int32) (hu : Int32) (mu : Int32) (x : Int32) (y : Int32)  : kc l g yX8_moveBy prog_10_method_7_code 3 none 2 41 0 0 [.ref s0, .int x, .int y] [(s0, .inr (10, [.ref sA, .ref sL, .ref sP, .ref sS, .int ea, .int no, .int fu, .int fo, .int sa, .int po, .int ch, .int rb, .int on, .int li, .int sp, .int hu, .int mu]))] (fun v w => (v = none ∧ w = [(s0, .inr (10, [.ref sA, .ref sL, .ref sP, .ref sS, .int (r_X8_moveBy_s0_4 ea x), .int (r_X8_moveBy_s0_5 no y), .int fu, .int fo, .int sa, .int po, .int ch, .int rb, .int on, .int li, .int sp, .int hu, .int mu]))])) (fun _ _ => False) := by
  refine kbody (by decide) (Nat.le_of_ble_eq_true rfl) ?_
  intro p e s m args below meth c A H K ht G hP hD hA hS ls hl
  have K : KB p s m meth c RX8 "moveBy" prog_10_method_7_code 3 none := K
  obtain ⟨hx, hb, hml, hown, hlocks, hr, hin⟩ := id K
  have hl : lv_has ls 3 [(0, .ref s0), (1, .int x), (2, .int y)] := hl
  refine lv_aload_n hx hb dX8_moveBy_0 rfl (lv_at hl 0 rfl) ?_
  refine lv_aload_n hx hb dX8_moveBy_1 rfl (lv_at hl 0 rfl) ?_
  refine va_get (D := g.1) (ci := 10) (v := .int ea) (C := RX8) (T := TX8) (N := 17) hx hb G.ws inX8 hown G.K hP 0 rfl rfl 4 (by decide) (G.w kw_60) (fun _ h9 => h9) rfl dX8_moveBy_2 ?_
  refine lv_iload_n hx hb dX8_moveBy_5 rfl (lv_at hl 1 rfl) ?_
  refine lv_iadd hx hb dX8_moveBy_6 ?_
  refine kcallSN (wc := []) (wr := [(s0, .inr (10, [.ref sA, .ref sL, .ref sP, .ref sS, .int ea, .int no, .int fu, .int fo, .int sa, .int po, .int ch, .int rb, .int on, .int li, .int sp, .int hu, .int mu]))]) (As := [.int (ea + x)]) (rest := [.ref s0]) K G (m_X11_within l hl0 g (ea + x) ) hP hD hS hA hl kw_61 kw_62 kw_64 kw_63 ydX11_within [] [0] rfl rfl rfl rfl (by decide) rfl rfl (Nat.le_of_ble_eq_true rfl) dX8_moveBy_7 ⟨Nat.le_of_ble_eq_true rfl, Nat.le_of_ble_eq_true rfl⟩ ⟨Nat.le_of_ble_eq_true rfl, Nat.le_of_ble_eq_true rfl⟩ (fun _ _ _ _ _ _ hX _ _ _ _ _ _ => hX.elim) (fun v w1 H locs hQ hP hD hS => ?_)
  obtain ⟨rfl, rfl⟩ := hQ
  have hP : va_P g.1 vwCl [(s0, .inr (10, [.ref sA, .ref sL, .ref sP, .ref sS, .int ea, .int no, .int fu, .int fo, .int sa, .int po, .int ch, .int rb, .int on, .int li, .int sp, .int hu, .int mu]))] H := hP
  have hD : va_D A [(s0, .inr (10, [.ref sA, .ref sL, .ref sP, .ref sS, .int ea, .int no, .int fu, .int fo, .int sa, .int po, .int ch, .int rb, .int on, .int li, .int sp, .int hu, .int mu]))] := hD
  refine W.widen (k := 0) (n := 0) (by decide) (by decide) ?_
  refine W.eq (g2 := F0 m 10 ls [.int (r_X11_within (ea + x)), .ref s0]) rfl ?_
  refine va_put (D := g.1) (ci := 10) (v := .int (r_X11_within (ea + x))) (ty := .int) (C := RX8) (T := TX8) (N := 17) hx hb G.ws inX8 tyX8 tyX8_ok nmX8 hown G.K hP hD hS 0 rfl rfl 4 (by decide) (G.w kw_60) (fun _ h9 => h9) (by decide +kernel) (by decide +kernel) rfl rfl (Nat.le_of_ble_eq_true rfl) dX8_moveBy_10 (fun H locs hP hD hS => ?_)
  have hP : va_P g.1 vwCl [(s0, .inr (10, [.ref sA, .ref sL, .ref sP, .ref sS, .int (r_X11_within (ea + x)), .int no, .int fu, .int fo, .int sa, .int po, .int ch, .int rb, .int on, .int li, .int sp, .int hu, .int mu]))] H := hP
  have hD : va_D A [(s0, .inr (10, [.ref sA, .ref sL, .ref sP, .ref sS, .int (r_X11_within (ea + x)), .int no, .int fu, .int fo, .int sa, .int po, .int ch, .int rb, .int on, .int li, .int sp, .int hu, .int mu]))] := hD
  refine lv_aload_n hx hb dX8_moveBy_13 rfl (lv_at hl 0 rfl) ?_
  refine lv_aload_n hx hb dX8_moveBy_14 rfl (lv_at hl 0 rfl) ?_
  refine va_get (D := g.1) (ci := 10) (v := .int no) (C := RX8) (T := TX8) (N := 17) hx hb G.ws inX8 hown G.K hP 0 rfl rfl 5 (by decide) (G.w kw_65) (fun _ h9 => h9) rfl dX8_moveBy_15 ?_
  refine lv_iload_n hx hb dX8_moveBy_18 rfl (lv_at hl 2 rfl) ?_
  refine lv_iadd hx hb dX8_moveBy_19 ?_
  refine kcallSN (wc := []) (wr := [(s0, .inr (10, [.ref sA, .ref sL, .ref sP, .ref sS, .int (r_X11_within (ea + x)), .int no, .int fu, .int fo, .int sa, .int po, .int ch, .int rb, .int on, .int li, .int sp, .int hu, .int mu]))]) (As := [.int (no + y)]) (rest := [.ref s0]) K G (m_X11_within l hl0 g (no + y) ) hP hD hS hA hl kw_61 kw_62 kw_64 kw_63 ydX11_within [] [0] rfl rfl rfl rfl (by decide) rfl rfl (Nat.le_of_ble_eq_true rfl) dX8_moveBy_20 ⟨Nat.le_of_ble_eq_true rfl, Nat.le_of_ble_eq_true rfl⟩ ⟨Nat.le_of_ble_eq_true rfl, Nat.le_of_ble_eq_true rfl⟩ (fun _ _ _ _ _ _ hX _ _ _ _ _ _ => hX.elim) (fun v w1 H locs hQ hP hD hS => ?_)
  obtain ⟨rfl, rfl⟩ := hQ
  have hP : va_P g.1 vwCl [(s0, .inr (10, [.ref sA, .ref sL, .ref sP, .ref sS, .int (r_X11_within (ea + x)), .int no, .int fu, .int fo, .int sa, .int po, .int ch, .int rb, .int on, .int li, .int sp, .int hu, .int mu]))] H := hP
  have hD : va_D A [(s0, .inr (10, [.ref sA, .ref sL, .ref sP, .ref sS, .int (r_X11_within (ea + x)), .int no, .int fu, .int fo, .int sa, .int po, .int ch, .int rb, .int on, .int li, .int sp, .int hu, .int mu]))] := hD
  refine W.widen (k := 0) (n := 0) (by decide) (by decide) ?_
  refine W.eq (g2 := F0 m 23 ls [.int (r_X11_within (no + y)), .ref s0]) rfl ?_
  refine va_put (D := g.1) (ci := 10) (v := .int (r_X11_within (no + y))) (ty := .int) (C := RX8) (T := TX8) (N := 17) hx hb G.ws inX8 tyX8 tyX8_ok nmX8 hown G.K hP hD hS 0 rfl rfl 5 (by decide) (G.w kw_65) (fun _ h9 => h9) (by decide +kernel) (by decide +kernel) rfl rfl (Nat.le_of_ble_eq_true rfl) dX8_moveBy_23 (fun H locs hP hD hS => ?_)
  have hP : va_P g.1 vwCl [(s0, .inr (10, [.ref sA, .ref sL, .ref sP, .ref sS, .int (r_X11_within (ea + x)), .int (r_X11_within (no + y)), .int fu, .int fo, .int sa, .int po, .int ch, .int rb, .int on, .int li, .int sp, .int hu, .int mu]))] H := hP
  have hD : va_D A [(s0, .inr (10, [.ref sA, .ref sL, .ref sP, .ref sS, .int (r_X11_within (ea + x)), .int (r_X11_within (no + y)), .int fu, .int fo, .int sa, .int po, .int ch, .int rb, .int on, .int li, .int sp, .int hu, .int mu]))] := hD
  exact kretV K hP hD hS [0] [(s0, .inr (10, [.ref sA, .ref sL, .ref sP, .ref sS, .int (r_X11_within (ea + x)), .int (r_X11_within (no + y)), .int fu, .int fo, .int sa, .int po, .int ch, .int rb, .int on, .int li, .int sp, .int hu, .int mu]))] rfl rfl ⟨(by first | simp only [r_X8_moveBy_s0_4, r_X8_moveBy_s0_5] | rfl | simp [r_X8_moveBy_s0_4, r_X8_moveBy_s0_5]), (by first | simp only [r_X8_moveBy_s0_4, r_X8_moveBy_s0_5] | rfl | simp [r_X8_moveBy_s0_4, r_X8_moveBy_s0_5])⟩ (by decide) (by decide) dX8_moveBy_26

theorem ksq10 (x : Int32) : ¬ x * x + 10 = 0 := by
  intro h
  have h1 : (x * x + 10).toBitVec.toNat % 8 = 0 := by rw [h]; decide
  rw [Int32.toBitVec_add, Int32.toBitVec_mul, BitVec.toNat_add, BitVec.toNat_mul] at h1
  have h2 : (10 : Int32).toBitVec.toNat = 10 := by decide
  rw [h2] at h1
  generalize x.toBitVec.toNat = a at h1
  have h3 : (a * a) % 8 = ((a % 8) * (a % 8)) % 8 := Nat.mul_mod a a 8
  have h4 : a % 8 < 8 := Nat.mod_lt _ (by decide)
  have h5 : ((a % 8) * (a % 8)) % 8 = 0 ∨ ((a % 8) * (a % 8)) % 8 = 1 ∨ ((a % 8) * (a % 8)) % 8 = 4 := by
    rcases (show a % 8 = 0 ∨ a % 8 = 1 ∨ a % 8 = 2 ∨ a % 8 = 3 ∨ a % 8 = 4 ∨ a % 8 = 5 ∨ a % 8 = 6 ∨ a % 8 = 7 by omega) with e | e | e | e | e | e | e | e <;> rw [e] <;> decide
  omega

