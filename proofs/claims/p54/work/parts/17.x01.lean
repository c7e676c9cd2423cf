set_option maxHeartbeats 4000000 in
set_option maxRecDepth 100000 in
theorem m_L_cell (l : Launch) (hl0 : l.stackTraces = false) (g : kG) (i : Int32) (hi : ¬ i < 0) : kc l g yL_cell method_2_code 3 (some .int) 0 0 0 0 [.ref (g.2.2.2.1 2), .int i] [] (fun v w => (∃ z : Int32, v = some (.int z) ∧ w = [])) (fun _ _ => False) := by
  refine kbody (by decide) (Nat.le_of_ble_eq_true rfl) ?_
  intro p e s m args below meth c A H K ht G hP hD hA hS ls hl
  have K : KB p s m meth c RL "cell" method_2_code 3 (some .int) := K
  obtain ⟨hx, hb, hml, hown, hlocks, hr, hin⟩ := id K
  have hl : lv_has ls 3 [(0, .ref (g.2.2.2.1 2)), (1, .int i)] := hl
  obtain ⟨L, xs, hL, hT⟩ := G.scr
  refine lv_ldc (v := 69069) hx hb hown (G.w kw_537) dL_cell_0 ?_
  refine lv_iload_n hx hb dL_cell_2 rfl (lv_at hl 1 rfl) ?_
  refine lv_aload_n hx hb dL_cell_3 rfl (lv_at hl 0 rfl) ?_
  refine va_tlen (v := Int32.ofNat L) hx hb hT hS rfl dL_cell_4 ?_
  have KJ_3 : ∀ (mv_2 : Int32) (hmv_2 : mv_2 = if (Int32.ofNat L) ≤ i then 0 else (xs (i).toNatClampNeg)) (H : Heap) (locs : List Loc), va_P g.1 vwCl [] H → va_D A [] → va_S A s.heap H locs → ∀ ls : Array Slot, lv_has ls 3 [(0, .ref (g.2.2.2.1 2)), (1, .int i)] → W p l e (kR 0 0 0 0) s m args below meth c H locs 0 0 (vx_MQ below (kQ g (fun v w => (∃ z : Int32, v = some (.int z) ∧ w = [])) A) (kX g (fun _ _ => False) A) args s 0 0 A) (F0 m 15 ls [.int mv_2, .int 69069]) := by
    intro mv_2 hmv_2 H locs hP hD hS ls hl
    refine lv_sipush (v := 1009) hx hb dL_cell_15 (by decide) ?_
    refine lv_iload_n hx hb dL_cell_18 rfl (lv_at hl 1 rfl) ?_
    refine lv_imul hx hb dL_cell_19 ?_
    refine lv_iadd hx hb dL_cell_20 ?_
    refine lv_imul hx hb dL_cell_21 ?_
    refine lv_sipush (v := 12345) hx hb dL_cell_22 (by decide) ?_
    refine lv_iadd hx hb dL_cell_25 ?_
    refine lv_istore_n (lv' := [(2, .int ((69069 * (mv_2 + (1009 * i))) + 12345)), (0, .ref (g.2.2.2.1 2)), (1, .int i)]) hx hb dL_cell_26 rfl hl (by decide) rfl (fun ls hl => ?_)
    refine lv_iload_n hx hb dL_cell_27 rfl (lv_at hl 0 rfl) ?_
    refine lv_iload_n hx hb dL_cell_28 rfl (lv_at hl 0 rfl) ?_
    refine lv_bipush (v := 13) hx hb dL_cell_29 (by decide) ?_
    refine lv_iushr hx hb dL_cell_31 rfl ?_
    refine lv_ixor hx hb dL_cell_32 ?_
    refine lv_ldc (v := 1103515245) hx hb hown (G.w kw_538) dL_cell_33 ?_
    refine lv_imul hx hb dL_cell_35 ?_
    refine lv_istore_n (lv' := [(2, .int ((((69069 * (mv_2 + (1009 * i))) + 12345) ^^^ (((69069 * (mv_2 + (1009 * i))) + 12345).toUInt32 >>> ((13 : Int32).toUInt32 &&& Int32.toUInt32 31)).toInt32) * 1103515245)), (0, .ref (g.2.2.2.1 2)), (1, .int i)]) hx hb dL_cell_36 rfl hl (by decide) rfl (fun ls hl => ?_)
    refine lv_iload_n hx hb dL_cell_37 rfl (lv_at hl 0 rfl) ?_
    refine lv_iload_n hx hb dL_cell_38 rfl (lv_at hl 0 rfl) ?_
    refine lv_bipush (v := 16) hx hb dL_cell_39 (by decide) ?_
    refine lv_iushr hx hb dL_cell_41 rfl ?_
    refine lv_ixor hx hb dL_cell_42 ?_
    exact kretI K hP hD hS [] [] rfl rfl (⟨(((((69069 * (mv_2 + (1009 * i))) + 12345) ^^^ (((69069 * (mv_2 + (1009 * i))) + 12345).toUInt32 >>> ((13 : Int32).toUInt32 &&& Int32.toUInt32 31)).toInt32) * 1103515245) ^^^ (((((69069 * (mv_2 + (1009 * i))) + 12345) ^^^ (((69069 * (mv_2 + (1009 * i))) + 12345).toUInt32 >>> ((13 : Int32).toUInt32 &&& Int32.toUInt32 31)).toInt32) * 1103515245).toUInt32 >>> ((16 : Int32).toUInt32 &&& Int32.toUInt32 31)).toInt32), rfl, rfl⟩) (by decide) (by decide) dL_cell_43
  refine lv_icmp_ge (tgt := 14) hx hb dL_cell_5 (by decide) (fun c5_1 => ?_) (fun c5_1 => ?_)
  · refine lv_iconst (v := 0) hx hb dL_cell_14 (by decide) ?_
    exact KJ_3 0 (by first | exact (if_pos c5_1).symm | simp only [if_pos c5_1]) _ _ (ksubP hP [] rfl) (hD.sub [] rfl rfl) hS _ (lv_sub hl [0, 1] rfl)
  · refine lv_aload_n hx hb dL_cell_8 rfl (lv_at hl 0 rfl) ?_
    refine lv_iload_n hx hb dL_cell_9 rfl (lv_at hl 1 rfl) ?_
    refine va_ti (v := .int (xs (i).toNatClampNeg)) hx hb hT hS (i := i) (kscr hL hi c5_1) rfl dL_cell_10 ?_
    refine lv_goto (tgt := 15) hx hb dL_cell_11 (by decide) ?_
    exact KJ_3 (xs (i).toNatClampNeg) (by first | exact (if_neg c5_1).symm | simp only [if_neg c5_1]) _ _ (ksubP hP [] rfl) (hD.sub [] rfl rfl) hS _ (lv_sub hl [0, 1] rfl)

set_option maxHeartbeats 4000000 in
set_option maxRecDepth 100000 in
theorem m_L_in (l : Launch) (hl0 : l.stackTraces = false) (g : kG) (i : Int32) (n : Int32) (hi : ¬ i < 0) (hn : 0 < n) : kc l g yL_in method_32_code 3 (some .int) 1 22 0 0 [.ref (g.2.2.2.1 2), .int i, .int n] [] (fun v w => (∃ z : Int32, v = some (.int z) ∧ w = [] ∧ ¬ z < 0 ∧ z < n)) (fun _ _ => False) := by
  refine kbody (by decide) (Nat.le_of_ble_eq_true rfl) ?_
  intro p e s m args below meth c A H K ht G hP hD hA hS ls hl
  have K : KB p s m meth c RL "in" method_32_code 3 (some .int) := K
  obtain ⟨hx, hb, hml, hown, hlocks, hr, hin⟩ := id K
  have hl : lv_has ls 3 [(0, .ref (g.2.2.2.1 2)), (1, .int i), (2, .int n)] := hl
  refine lv_aload_n hx hb dL_in_0 rfl (lv_at hl 0 rfl) ?_
  refine lv_iload_n hx hb dL_in_1 rfl (lv_at hl 1 rfl) ?_
  refine kcallS (wc := []) (wr := []) (As := [.ref (g.2.2.2.1 2), .int i]) (rest := []) K G (m_L_cell l hl0 g i hi) hP hD hS hA hl kw_539 kw_540 kw_542 kw_541 ydL_cell [] [] rfl rfl rfl rfl (by decide) rfl rfl (Nat.le_of_ble_eq_true rfl) dL_in_2 ⟨Nat.le_of_ble_eq_true rfl, Nat.le_of_ble_eq_true rfl⟩ ⟨Nat.le_of_ble_eq_true rfl, Nat.le_of_ble_eq_true rfl⟩ (fun _ _ _ _ _ _ hX _ _ _ _ _ _ => hX.elim) (fun v w1 H locs hQ hP hD hS => ?_)
  obtain ⟨z_2, rfl, rfl⟩ := hQ
  have hP : va_P g.1 vwCl [] H := hP
  have hD : va_D A [] := hD
  refine W.widen (k := 0) (n := 0) (by decide) (by decide) ?_
  refine W.eq (g2 := F0 m 5 ls [.int z_2]) rfl ?_
  refine lv_ldc (v := 2147483647) hx hb hown (G.w kw_543) dL_in_5 ?_
  refine lv_iand hx hb dL_in_7 ?_
  refine lv_iload_n hx hb dL_in_8 rfl (lv_at hl 2 rfl) ?_
  refine lv_irem hx hb dL_in_9 (fun h => absurd (h ▸ hn) (by decide)) ?_
  exact kretI K hP hD hS [] [] rfl rfl (⟨((z_2 &&& 2147483647) - (z_2 &&& 2147483647) / n * n), rfl, rfl, (by exact (krem (kand31 _) hn).1), (by exact (krem (kand31 _) hn).2)⟩) (by decide) (by decide) dL_in_10

